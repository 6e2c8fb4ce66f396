theorem dX8_bestWatch_0 : decode cX8_bestWatch 0 = .ok (.bipush (-6), 2) := by decide +kernel
theorem dX8_bestWatch_2 : decode cX8_bestWatch 2 = .ok (.istore_n 3, 1) := by decide +kernel
theorem dX8_bestWatch_3 : decode cX8_bestWatch 3 = .ok (.bipush 13, 2) := by decide +kernel
theorem dX8_bestWatch_5 : decode cX8_bestWatch 5 = .ok (.istore 4, 2) := by decide +kernel
theorem dX8_bestWatch_7 : decode cX8_bestWatch 7 = .ok (.iconst 0, 1) := by decide +kernel
theorem dX8_bestWatch_8 : decode cX8_bestWatch 8 = .ok (.istore 5, 2) := by decide +kernel
theorem dX8_bestWatch_10 : decode cX8_bestWatch 10 = .ok (.iload 5, 2) := by decide +kernel
theorem dX8_bestWatch_12 : decode cX8_bestWatch 12 = .ok (.bipush 9, 2) := by decide +kernel
theorem dX8_bestWatch_14 : decode cX8_bestWatch 14 = .ok (.if_icmp .gt 100, 3) := by decide +kernel
theorem dX8_bestWatch_17 : decode cX8_bestWatch 17 = .ok (.iconst 1, 1) := by decide +kernel
theorem dX8_bestWatch_18 : decode cX8_bestWatch 18 = .ok (.istore 6, 2) := by decide +kernel
theorem dX8_bestWatch_20 : decode cX8_bestWatch 20 = .ok (.iload 6, 2) := by decide +kernel
theorem dX8_bestWatch_22 : decode cX8_bestWatch 22 = .ok (.bipush 8, 2) := by decide +kernel
theorem dX8_bestWatch_24 : decode cX8_bestWatch 24 = .ok (.if_icmp .gt 84, 3) := by decide +kernel
theorem dX8_bestWatch_27 : decode cX8_bestWatch 27 = .ok (.iconst 1, 1) := by decide +kernel
theorem dX8_bestWatch_28 : decode cX8_bestWatch 28 = .ok (.istore 7, 2) := by decide +kernel
theorem dX8_bestWatch_30 : decode cX8_bestWatch 30 = .ok (.iload 7, 2) := by decide +kernel
theorem dX8_bestWatch_32 : decode cX8_bestWatch 32 = .ok (.bipush 9, 2) := by decide +kernel
theorem dX8_bestWatch_34 : decode cX8_bestWatch 34 = .ok (.if_icmp .gt 68, 3) := by decide +kernel
theorem dX8_bestWatch_37 : decode cX8_bestWatch 37 = .ok (.aload_n 0, 1) := by decide +kernel
theorem dX8_bestWatch_38 : decode cX8_bestWatch 38 = .ok (.iload 5, 2) := by decide +kernel
theorem dX8_bestWatch_40 : decode cX8_bestWatch 40 = .ok (.iload 6, 2) := by decide +kernel
theorem dX8_bestWatch_42 : decode cX8_bestWatch 42 = .ok (.iload 7, 2) := by decide +kernel
theorem dX8_bestWatch_44 : decode cX8_bestWatch 44 = .ok (.invokevirtual 249, 3) := by decide +kernel
theorem dX8_bestWatch_47 : decode cX8_bestWatch 47 = .ok (.istore 8, 2) := by decide +kernel
theorem dX8_bestWatch_49 : decode cX8_bestWatch 49 = .ok (.iload_n 1, 1) := by decide +kernel
theorem dX8_bestWatch_50 : decode cX8_bestWatch 50 = .ok (.iload 8, 2) := by decide +kernel
theorem dX8_bestWatch_52 : decode cX8_bestWatch 52 = .ok (.iand, 1) := by decide +kernel
theorem dX8_bestWatch_53 : decode cX8_bestWatch 53 = .ok (.invokestatic 223, 3) := by decide +kernel
theorem dX8_bestWatch_56 : decode cX8_bestWatch 56 = .ok (.iload_n 1, 1) := by decide +kernel
theorem dX8_bestWatch_57 : decode cX8_bestWatch 57 = .ok (.iload 8, 2) := by decide +kernel
theorem dX8_bestWatch_59 : decode cX8_bestWatch 59 = .ok (.iconst (-1), 1) := by decide +kernel
theorem dX8_bestWatch_60 : decode cX8_bestWatch 60 = .ok (.ixor, 1) := by decide +kernel
theorem dX8_bestWatch_61 : decode cX8_bestWatch 61 = .ok (.iand, 1) := by decide +kernel
theorem dX8_bestWatch_62 : decode cX8_bestWatch 62 = .ok (.invokestatic 223, 3) := by decide +kernel
theorem dX8_bestWatch_65 : decode cX8_bestWatch 65 = .ok (.invokestatic 257, 3) := by decide +kernel
theorem dX8_bestWatch_68 : decode cX8_bestWatch 68 = .ok (.istore 9, 2) := by decide +kernel
theorem dX8_bestWatch_70 : decode cX8_bestWatch 70 = .ok (.iload 9, 2) := by decide +kernel
theorem dX8_bestWatch_72 : decode cX8_bestWatch 72 = .ok (.iload 4, 2) := by decide +kernel
theorem dX8_bestWatch_74 : decode cX8_bestWatch 74 = .ok (.if_icmp .ge 22, 3) := by decide +kernel
theorem dX8_bestWatch_77 : decode cX8_bestWatch 77 = .ok (.iload 9, 2) := by decide +kernel
theorem dX8_bestWatch_79 : decode cX8_bestWatch 79 = .ok (.istore 4, 2) := by decide +kernel
theorem dX8_bestWatch_81 : decode cX8_bestWatch 81 = .ok (.bipush 100, 2) := by decide +kernel
theorem dX8_bestWatch_83 : decode cX8_bestWatch 83 = .ok (.iload 5, 2) := by decide +kernel
theorem dX8_bestWatch_85 : decode cX8_bestWatch 85 = .ok (.imul, 1) := by decide +kernel
theorem dX8_bestWatch_86 : decode cX8_bestWatch 86 = .ok (.bipush 10, 2) := by decide +kernel
theorem dX8_bestWatch_88 : decode cX8_bestWatch 88 = .ok (.iload 6, 2) := by decide +kernel
theorem dX8_bestWatch_90 : decode cX8_bestWatch 90 = .ok (.imul, 1) := by decide +kernel
theorem dX8_bestWatch_91 : decode cX8_bestWatch 91 = .ok (.iadd, 1) := by decide +kernel
theorem dX8_bestWatch_92 : decode cX8_bestWatch 92 = .ok (.iload 7, 2) := by decide +kernel
theorem dX8_bestWatch_94 : decode cX8_bestWatch 94 = .ok (.iadd, 1) := by decide +kernel
theorem dX8_bestWatch_95 : decode cX8_bestWatch 95 = .ok (.istore_n 3, 1) := by decide +kernel
theorem dX8_bestWatch_96 : decode cX8_bestWatch 96 = .ok (.iinc 7 1, 3) := by decide +kernel
theorem dX8_bestWatch_99 : decode cX8_bestWatch 99 = .ok (.goto (-69), 3) := by decide +kernel
theorem dX8_bestWatch_102 : decode cX8_bestWatch 102 = .ok (.iinc 6 1, 3) := by decide +kernel
theorem dX8_bestWatch_105 : decode cX8_bestWatch 105 = .ok (.goto (-85), 3) := by decide +kernel
theorem dX8_bestWatch_108 : decode cX8_bestWatch 108 = .ok (.iinc 5 1, 3) := by decide +kernel
theorem dX8_bestWatch_111 : decode cX8_bestWatch 111 = .ok (.goto (-101), 3) := by decide +kernel
theorem dX8_bestWatch_114 : decode cX8_bestWatch 114 = .ok (.iload_n 2, 1) := by decide +kernel
theorem dX8_bestWatch_115 : decode cX8_bestWatch 115 = .ok (.ifCond .ne 7, 3) := by decide +kernel
theorem dX8_bestWatch_118 : decode cX8_bestWatch 118 = .ok (.iload_n 3, 1) := by decide +kernel
theorem dX8_bestWatch_119 : decode cX8_bestWatch 119 = .ok (.goto 5, 3) := by decide +kernel
theorem dX8_bestWatch_122 : decode cX8_bestWatch 122 = .ok (.iload 4, 2) := by decide +kernel
theorem dX8_bestWatch_124 : decode cX8_bestWatch 124 = .ok (.ireturn, 1) := by decide +kernel
theorem dX8_isIn_0 : decode cX8_isIn 0 = .ok (.iload_n 0, 1) := by decide +kernel
theorem dX8_isIn_1 : decode cX8_isIn 1 = .ok (.iload_n 1, 1) := by decide +kernel
theorem dX8_isIn_2 : decode cX8_isIn 2 = .ok (.if_icmp .lt 12, 3) := by decide +kernel
theorem dX8_isIn_5 : decode cX8_isIn 5 = .ok (.iload_n 0, 1) := by decide +kernel
theorem dX8_isIn_6 : decode cX8_isIn 6 = .ok (.iload_n 2, 1) := by decide +kernel
theorem dX8_isIn_7 : decode cX8_isIn 7 = .ok (.if_icmp .gt 7, 3) := by decide +kernel
theorem dX8_isIn_10 : decode cX8_isIn 10 = .ok (.iconst 1, 1) := by decide +kernel
theorem dX8_isIn_11 : decode cX8_isIn 11 = .ok (.goto 4, 3) := by decide +kernel
theorem dX8_isIn_14 : decode cX8_isIn 14 = .ok (.iconst 0, 1) := by decide +kernel
theorem dX8_isIn_15 : decode cX8_isIn 15 = .ok (.ireturn, 1) := by decide +kernel
theorem dX8_power_0 : decode cX8_power 0 = .ok (.lconst 1, 1) := by decide +kernel
theorem dX8_power_1 : decode cX8_power 1 = .ok (.lstore_n 2, 1) := by decide +kernel
theorem dX8_power_2 : decode cX8_power 2 = .ok (.iconst 0, 1) := by decide +kernel
theorem dX8_power_3 : decode cX8_power 3 = .ok (.istore 4, 2) := by decide +kernel
theorem dX8_power_5 : decode cX8_power 5 = .ok (.iload 4, 2) := by decide +kernel
theorem dX8_power_7 : decode cX8_power 7 = .ok (.iload_n 1, 1) := by decide +kernel
theorem dX8_power_8 : decode cX8_power 8 = .ok (.if_icmp .ge 14, 3) := by decide +kernel
theorem dX8_power_11 : decode cX8_power 11 = .ok (.lload_n 2, 1) := by decide +kernel
theorem dX8_power_12 : decode cX8_power 12 = .ok (.iload_n 0, 1) := by decide +kernel
theorem dX8_power_13 : decode cX8_power 13 = .ok (.i2l, 1) := by decide +kernel
theorem dX8_power_14 : decode cX8_power 14 = .ok (.lmul, 1) := by decide +kernel
theorem dX8_power_15 : decode cX8_power 15 = .ok (.lstore_n 2, 1) := by decide +kernel
theorem dX8_power_16 : decode cX8_power 16 = .ok (.iinc 4 1, 3) := by decide +kernel
theorem dX8_power_19 : decode cX8_power 19 = .ok (.goto (-14), 3) := by decide +kernel
theorem dX8_power_22 : decode cX8_power 22 = .ok (.lload_n 2, 1) := by decide +kernel
theorem dX8_power_23 : decode cX8_power 23 = .ok (.lreturn, 1) := by decide +kernel
theorem dX8_waysOfAtMost_0 : decode cX8_waysOfAtMost 0 = .ok (.lconst 0, 1) := by decide +kernel
theorem dX8_waysOfAtMost_1 : decode cX8_waysOfAtMost 1 = .ok (.lstore_n 3, 1) := by decide +kernel
theorem dX8_waysOfAtMost_2 : decode cX8_waysOfAtMost 2 = .ok (.lconst 1, 1) := by decide +kernel
theorem dX8_waysOfAtMost_3 : decode cX8_waysOfAtMost 3 = .ok (.lstore 5, 2) := by decide +kernel
theorem dX8_waysOfAtMost_5 : decode cX8_waysOfAtMost 5 = .ok (.iconst 0, 1) := by decide +kernel
theorem dX8_waysOfAtMost_6 : decode cX8_waysOfAtMost 6 = .ok (.istore 7, 2) := by decide +kernel
theorem dX8_waysOfAtMost_8 : decode cX8_waysOfAtMost 8 = .ok (.iload 7, 2) := by decide +kernel
theorem dX8_waysOfAtMost_10 : decode cX8_waysOfAtMost 10 = .ok (.iload_n 1, 1) := by decide +kernel
theorem dX8_waysOfAtMost_11 : decode cX8_waysOfAtMost 11 = .ok (.if_icmp .gt 55, 3) := by decide +kernel
theorem dX8_waysOfAtMost_14 : decode cX8_waysOfAtMost 14 = .ok (.iload 7, 2) := by decide +kernel
theorem dX8_waysOfAtMost_16 : decode cX8_waysOfAtMost 16 = .ok (.iload_n 0, 1) := by decide +kernel
theorem dX8_waysOfAtMost_17 : decode cX8_waysOfAtMost 17 = .ok (.if_icmp .gt 49, 3) := by decide +kernel
theorem dX8_waysOfAtMost_20 : decode cX8_waysOfAtMost 20 = .ok (.lload_n 3, 1) := by decide +kernel
theorem dX8_waysOfAtMost_21 : decode cX8_waysOfAtMost 21 = .ok (.lload 5, 2) := by decide +kernel
theorem dX8_waysOfAtMost_23 : decode cX8_waysOfAtMost 23 = .ok (.iload_n 2, 1) := by decide +kernel
theorem dX8_waysOfAtMost_24 : decode cX8_waysOfAtMost 24 = .ok (.iload 7, 2) := by decide +kernel
theorem dX8_waysOfAtMost_26 : decode cX8_waysOfAtMost 26 = .ok (.invokestatic 172, 3) := by decide +kernel
theorem dX8_waysOfAtMost_29 : decode cX8_waysOfAtMost 29 = .ok (.lmul, 1) := by decide +kernel
theorem dX8_waysOfAtMost_30 : decode cX8_waysOfAtMost 30 = .ok (.bipush 10, 2) := by decide +kernel
theorem dX8_waysOfAtMost_32 : decode cX8_waysOfAtMost 32 = .ok (.iload_n 2, 1) := by decide +kernel
theorem dX8_waysOfAtMost_33 : decode cX8_waysOfAtMost 33 = .ok (.isub, 1) := by decide +kernel
theorem dX8_waysOfAtMost_34 : decode cX8_waysOfAtMost 34 = .ok (.iload_n 1, 1) := by decide +kernel
theorem dX8_waysOfAtMost_35 : decode cX8_waysOfAtMost 35 = .ok (.iload 7, 2) := by decide +kernel
theorem dX8_waysOfAtMost_37 : decode cX8_waysOfAtMost 37 = .ok (.isub, 1) := by decide +kernel
theorem dX8_waysOfAtMost_38 : decode cX8_waysOfAtMost 38 = .ok (.invokestatic 172, 3) := by decide +kernel
theorem dX8_waysOfAtMost_41 : decode cX8_waysOfAtMost 41 = .ok (.lmul, 1) := by decide +kernel
theorem dX8_waysOfAtMost_42 : decode cX8_waysOfAtMost 42 = .ok (.ladd, 1) := by decide +kernel
theorem dX8_waysOfAtMost_43 : decode cX8_waysOfAtMost 43 = .ok (.lstore_n 3, 1) := by decide +kernel
theorem dX8_waysOfAtMost_44 : decode cX8_waysOfAtMost 44 = .ok (.lload 5, 2) := by decide +kernel
theorem dX8_waysOfAtMost_46 : decode cX8_waysOfAtMost 46 = .ok (.iload_n 1, 1) := by decide +kernel
theorem dX8_waysOfAtMost_47 : decode cX8_waysOfAtMost 47 = .ok (.iload 7, 2) := by decide +kernel
theorem dX8_waysOfAtMost_49 : decode cX8_waysOfAtMost 49 = .ok (.isub, 1) := by decide +kernel
theorem dX8_waysOfAtMost_50 : decode cX8_waysOfAtMost 50 = .ok (.i2l, 1) := by decide +kernel
theorem dX8_waysOfAtMost_51 : decode cX8_waysOfAtMost 51 = .ok (.lmul, 1) := by decide +kernel
theorem dX8_waysOfAtMost_52 : decode cX8_waysOfAtMost 52 = .ok (.iload 7, 2) := by decide +kernel
theorem dX8_waysOfAtMost_54 : decode cX8_waysOfAtMost 54 = .ok (.iconst 1, 1) := by decide +kernel
theorem dX8_waysOfAtMost_55 : decode cX8_waysOfAtMost 55 = .ok (.iadd, 1) := by decide +kernel
theorem dX8_waysOfAtMost_56 : decode cX8_waysOfAtMost 56 = .ok (.i2l, 1) := by decide +kernel
theorem dX8_waysOfAtMost_57 : decode cX8_waysOfAtMost 57 = .ok (.ldiv, 1) := by decide +kernel
theorem dX8_waysOfAtMost_58 : decode cX8_waysOfAtMost 58 = .ok (.lstore 5, 2) := by decide +kernel
theorem dX8_waysOfAtMost_60 : decode cX8_waysOfAtMost 60 = .ok (.iinc 7 1, 3) := by decide +kernel
theorem dX8_waysOfAtMost_63 : decode cX8_waysOfAtMost 63 = .ok (.goto (-55), 3) := by decide +kernel
theorem dX8_waysOfAtMost_66 : decode cX8_waysOfAtMost 66 = .ok (.lload_n 3, 1) := by decide +kernel
theorem dX8_waysOfAtMost_67 : decode cX8_waysOfAtMost 67 = .ok (.lreturn, 1) := by decide +kernel
theorem dX8_fractionPart_0 : decode cX8_fractionPart 0 = .ok (.lload_n 0, 1) := by decide +kernel
theorem dX8_fractionPart_1 : decode cX8_fractionPart 1 = .ok (.lload_n 2, 1) := by decide +kernel
theorem dX8_fractionPart_2 : decode cX8_fractionPart 2 = .ok (.invokestatic 262, 3) := by decide +kernel
theorem dX8_fractionPart_5 : decode cX8_fractionPart 5 = .ok (.lstore 5, 2) := by decide +kernel
theorem dX8_fractionPart_7 : decode cX8_fractionPart 7 = .ok (.iload 4, 2) := by decide +kernel
theorem dX8_fractionPart_9 : decode cX8_fractionPart 9 = .ok (.ifCond .ne 10, 3) := by decide +kernel
theorem dX8_fractionPart_12 : decode cX8_fractionPart 12 = .ok (.lload_n 0, 1) := by decide +kernel
theorem dX8_fractionPart_13 : decode cX8_fractionPart 13 = .ok (.lload 5, 2) := by decide +kernel
theorem dX8_fractionPart_15 : decode cX8_fractionPart 15 = .ok (.ldiv, 1) := by decide +kernel
theorem dX8_fractionPart_16 : decode cX8_fractionPart 16 = .ok (.goto 7, 3) := by decide +kernel
theorem dX8_fractionPart_19 : decode cX8_fractionPart 19 = .ok (.lload_n 2, 1) := by decide +kernel
theorem dX8_fractionPart_20 : decode cX8_fractionPart 20 = .ok (.lload 5, 2) := by decide +kernel
theorem dX8_fractionPart_22 : decode cX8_fractionPart 22 = .ok (.ldiv, 1) := by decide +kernel
theorem dX8_fractionPart_23 : decode cX8_fractionPart 23 = .ok (.lreturn, 1) := by decide +kernel
theorem dX8_commonDivisor_0 : decode cX8_commonDivisor 0 = .ok (.iconst 0, 1) := by decide +kernel
theorem dX8_commonDivisor_1 : decode cX8_commonDivisor 1 = .ok (.istore 4, 2) := by decide +kernel
theorem dX8_commonDivisor_3 : decode cX8_commonDivisor 3 = .ok (.iload 4, 2) := by decide +kernel
theorem dX8_commonDivisor_5 : decode cX8_commonDivisor 5 = .ok (.bipush 100, 2) := by decide +kernel
theorem dX8_commonDivisor_7 : decode cX8_commonDivisor 7 = .ok (.if_icmp .ge 25, 3) := by decide +kernel
theorem dX8_commonDivisor_10 : decode cX8_commonDivisor 10 = .ok (.lload_n 2, 1) := by decide +kernel
theorem dX8_commonDivisor_11 : decode cX8_commonDivisor 11 = .ok (.lconst 0, 1) := by decide +kernel
theorem dX8_commonDivisor_12 : decode cX8_commonDivisor 12 = .ok (.lcmp, 1) := by decide +kernel
theorem dX8_commonDivisor_13 : decode cX8_commonDivisor 13 = .ok (.ifCond .eq 19, 3) := by decide +kernel
theorem dX8_commonDivisor_16 : decode cX8_commonDivisor 16 = .ok (.lload_n 0, 1) := by decide +kernel
theorem dX8_commonDivisor_17 : decode cX8_commonDivisor 17 = .ok (.lload_n 2, 1) := by decide +kernel
theorem dX8_commonDivisor_18 : decode cX8_commonDivisor 18 = .ok (.lrem, 1) := by decide +kernel
theorem dX8_commonDivisor_19 : decode cX8_commonDivisor 19 = .ok (.lstore 5, 2) := by decide +kernel
theorem dX8_commonDivisor_21 : decode cX8_commonDivisor 21 = .ok (.lload_n 2, 1) := by decide +kernel
theorem dX8_commonDivisor_22 : decode cX8_commonDivisor 22 = .ok (.lstore_n 0, 1) := by decide +kernel
theorem dX8_commonDivisor_23 : decode cX8_commonDivisor 23 = .ok (.lload 5, 2) := by decide +kernel
theorem dX8_commonDivisor_25 : decode cX8_commonDivisor 25 = .ok (.lstore_n 2, 1) := by decide +kernel
theorem dX8_commonDivisor_26 : decode cX8_commonDivisor 26 = .ok (.iinc 4 1, 3) := by decide +kernel
theorem dX8_commonDivisor_29 : decode cX8_commonDivisor 29 = .ok (.goto (-26), 3) := by decide +kernel
theorem dX8_commonDivisor_32 : decode cX8_commonDivisor 32 = .ok (.lconst 1, 1) := by decide +kernel
theorem dX8_commonDivisor_33 : decode cX8_commonDivisor 33 = .ok (.lload_n 0, 1) := by decide +kernel
theorem dX8_commonDivisor_34 : decode cX8_commonDivisor 34 = .ok (.invokestatic 266, 3) := by decide +kernel
theorem dX8_commonDivisor_37 : decode cX8_commonDivisor 37 = .ok (.lreturn, 1) := by decide +kernel
theorem dJ6_numberOfTrailingZeros_0f7a4_0 : decode cJ6_numberOfTrailingZeros_0f7a4 0 = .ok (.iload_n 0, 1) := by decide +kernel
theorem dJ6_numberOfTrailingZeros_0f7a4_1 : decode cJ6_numberOfTrailingZeros_0f7a4 1 = .ok (.iconst (-1), 1) := by decide +kernel
theorem dJ6_numberOfTrailingZeros_0f7a4_2 : decode cJ6_numberOfTrailingZeros_0f7a4 2 = .ok (.ixor, 1) := by decide +kernel
theorem dJ6_numberOfTrailingZeros_0f7a4_3 : decode cJ6_numberOfTrailingZeros_0f7a4 3 = .ok (.iload_n 0, 1) := by decide +kernel
theorem dJ6_numberOfTrailingZeros_0f7a4_4 : decode cJ6_numberOfTrailingZeros_0f7a4 4 = .ok (.iconst 1, 1) := by decide +kernel
theorem dJ6_numberOfTrailingZeros_0f7a4_5 : decode cJ6_numberOfTrailingZeros_0f7a4 5 = .ok (.isub, 1) := by decide +kernel
theorem dJ6_numberOfTrailingZeros_0f7a4_6 : decode cJ6_numberOfTrailingZeros_0f7a4 6 = .ok (.iand, 1) := by decide +kernel
theorem dJ6_numberOfTrailingZeros_0f7a4_7 : decode cJ6_numberOfTrailingZeros_0f7a4 7 = .ok (.istore_n 0, 1) := by decide +kernel
theorem dJ6_numberOfTrailingZeros_0f7a4_8 : decode cJ6_numberOfTrailingZeros_0f7a4 8 = .ok (.iload_n 0, 1) := by decide +kernel
theorem dJ6_numberOfTrailingZeros_0f7a4_9 : decode cJ6_numberOfTrailingZeros_0f7a4 9 = .ok (.ifCond .gt 8, 3) := by decide +kernel
theorem dJ6_numberOfTrailingZeros_0f7a4_12 : decode cJ6_numberOfTrailingZeros_0f7a4 12 = .ok (.iload_n 0, 1) := by decide +kernel
theorem dJ6_numberOfTrailingZeros_0f7a4_13 : decode cJ6_numberOfTrailingZeros_0f7a4 13 = .ok (.bipush 32, 2) := by decide +kernel
theorem dJ6_numberOfTrailingZeros_0f7a4_15 : decode cJ6_numberOfTrailingZeros_0f7a4 15 = .ok (.iand, 1) := by decide +kernel
theorem dJ6_numberOfTrailingZeros_0f7a4_16 : decode cJ6_numberOfTrailingZeros_0f7a4 16 = .ok (.ireturn, 1) := by decide +kernel
theorem dJ6_numberOfTrailingZeros_0f7a4_17 : decode cJ6_numberOfTrailingZeros_0f7a4 17 = .ok (.iconst 1, 1) := by decide +kernel
theorem dJ6_numberOfTrailingZeros_0f7a4_18 : decode cJ6_numberOfTrailingZeros_0f7a4 18 = .ok (.istore_n 1, 1) := by decide +kernel
theorem dJ6_numberOfTrailingZeros_0f7a4_19 : decode cJ6_numberOfTrailingZeros_0f7a4 19 = .ok (.iload_n 0, 1) := by decide +kernel
theorem dJ6_numberOfTrailingZeros_0f7a4_20 : decode cJ6_numberOfTrailingZeros_0f7a4 20 = .ok (.ldc_w 264, 3) := by decide +kernel
theorem dJ6_numberOfTrailingZeros_0f7a4_23 : decode cJ6_numberOfTrailingZeros_0f7a4 23 = .ok (.if_icmp .le 11, 3) := by decide +kernel
theorem dJ6_numberOfTrailingZeros_0f7a4_26 : decode cJ6_numberOfTrailingZeros_0f7a4 26 = .ok (.iinc 1 16, 3) := by decide +kernel
theorem dJ6_numberOfTrailingZeros_0f7a4_29 : decode cJ6_numberOfTrailingZeros_0f7a4 29 = .ok (.iload_n 0, 1) := by decide +kernel
theorem dJ6_numberOfTrailingZeros_0f7a4_30 : decode cJ6_numberOfTrailingZeros_0f7a4 30 = .ok (.bipush 16, 2) := by decide +kernel
theorem dJ6_numberOfTrailingZeros_0f7a4_32 : decode cJ6_numberOfTrailingZeros_0f7a4 32 = .ok (.iushr, 1) := by decide +kernel
theorem dJ6_numberOfTrailingZeros_0f7a4_33 : decode cJ6_numberOfTrailingZeros_0f7a4 33 = .ok (.istore_n 0, 1) := by decide +kernel
theorem dJ6_numberOfTrailingZeros_0f7a4_34 : decode cJ6_numberOfTrailingZeros_0f7a4 34 = .ok (.iload_n 0, 1) := by decide +kernel
theorem dJ6_numberOfTrailingZeros_0f7a4_35 : decode cJ6_numberOfTrailingZeros_0f7a4 35 = .ok (.sipush 256, 3) := by decide +kernel
theorem dJ6_numberOfTrailingZeros_0f7a4_38 : decode cJ6_numberOfTrailingZeros_0f7a4 38 = .ok (.if_icmp .le 11, 3) := by decide +kernel
theorem dJ6_numberOfTrailingZeros_0f7a4_41 : decode cJ6_numberOfTrailingZeros_0f7a4 41 = .ok (.iinc 1 8, 3) := by decide +kernel
theorem dJ6_numberOfTrailingZeros_0f7a4_44 : decode cJ6_numberOfTrailingZeros_0f7a4 44 = .ok (.iload_n 0, 1) := by decide +kernel
theorem dJ6_numberOfTrailingZeros_0f7a4_45 : decode cJ6_numberOfTrailingZeros_0f7a4 45 = .ok (.bipush 8, 2) := by decide +kernel
theorem dJ6_numberOfTrailingZeros_0f7a4_47 : decode cJ6_numberOfTrailingZeros_0f7a4 47 = .ok (.iushr, 1) := by decide +kernel
theorem dJ6_numberOfTrailingZeros_0f7a4_48 : decode cJ6_numberOfTrailingZeros_0f7a4 48 = .ok (.istore_n 0, 1) := by decide +kernel
theorem dJ6_numberOfTrailingZeros_0f7a4_49 : decode cJ6_numberOfTrailingZeros_0f7a4 49 = .ok (.iload_n 0, 1) := by decide +kernel
theorem dJ6_numberOfTrailingZeros_0f7a4_50 : decode cJ6_numberOfTrailingZeros_0f7a4 50 = .ok (.bipush 16, 2) := by decide +kernel
theorem dJ6_numberOfTrailingZeros_0f7a4_52 : decode cJ6_numberOfTrailingZeros_0f7a4 52 = .ok (.if_icmp .le 10, 3) := by decide +kernel
theorem dJ6_numberOfTrailingZeros_0f7a4_55 : decode cJ6_numberOfTrailingZeros_0f7a4 55 = .ok (.iinc 1 4, 3) := by decide +kernel
theorem dJ6_numberOfTrailingZeros_0f7a4_58 : decode cJ6_numberOfTrailingZeros_0f7a4 58 = .ok (.iload_n 0, 1) := by decide +kernel
theorem dJ6_numberOfTrailingZeros_0f7a4_59 : decode cJ6_numberOfTrailingZeros_0f7a4 59 = .ok (.iconst 4, 1) := by decide +kernel
theorem dJ6_numberOfTrailingZeros_0f7a4_60 : decode cJ6_numberOfTrailingZeros_0f7a4 60 = .ok (.iushr, 1) := by decide +kernel
theorem dJ6_numberOfTrailingZeros_0f7a4_61 : decode cJ6_numberOfTrailingZeros_0f7a4 61 = .ok (.istore_n 0, 1) := by decide +kernel
theorem dJ6_numberOfTrailingZeros_0f7a4_62 : decode cJ6_numberOfTrailingZeros_0f7a4 62 = .ok (.iload_n 0, 1) := by decide +kernel
theorem dJ6_numberOfTrailingZeros_0f7a4_63 : decode cJ6_numberOfTrailingZeros_0f7a4 63 = .ok (.iconst 4, 1) := by decide +kernel
theorem dJ6_numberOfTrailingZeros_0f7a4_64 : decode cJ6_numberOfTrailingZeros_0f7a4 64 = .ok (.if_icmp .le 10, 3) := by decide +kernel
theorem dJ6_numberOfTrailingZeros_0f7a4_67 : decode cJ6_numberOfTrailingZeros_0f7a4 67 = .ok (.iinc 1 2, 3) := by decide +kernel
theorem dJ6_numberOfTrailingZeros_0f7a4_70 : decode cJ6_numberOfTrailingZeros_0f7a4 70 = .ok (.iload_n 0, 1) := by decide +kernel
theorem dJ6_numberOfTrailingZeros_0f7a4_71 : decode cJ6_numberOfTrailingZeros_0f7a4 71 = .ok (.iconst 2, 1) := by decide +kernel
theorem dJ6_numberOfTrailingZeros_0f7a4_72 : decode cJ6_numberOfTrailingZeros_0f7a4 72 = .ok (.iushr, 1) := by decide +kernel
theorem dJ6_numberOfTrailingZeros_0f7a4_73 : decode cJ6_numberOfTrailingZeros_0f7a4 73 = .ok (.istore_n 0, 1) := by decide +kernel
theorem dJ6_numberOfTrailingZeros_0f7a4_74 : decode cJ6_numberOfTrailingZeros_0f7a4 74 = .ok (.iload_n 1, 1) := by decide +kernel
theorem dJ6_numberOfTrailingZeros_0f7a4_75 : decode cJ6_numberOfTrailingZeros_0f7a4 75 = .ok (.iload_n 0, 1) := by decide +kernel
theorem dJ6_numberOfTrailingZeros_0f7a4_76 : decode cJ6_numberOfTrailingZeros_0f7a4 76 = .ok (.iconst 1, 1) := by decide +kernel
theorem dJ6_numberOfTrailingZeros_0f7a4_77 : decode cJ6_numberOfTrailingZeros_0f7a4 77 = .ok (.iushr, 1) := by decide +kernel
theorem dJ6_numberOfTrailingZeros_0f7a4_78 : decode cJ6_numberOfTrailingZeros_0f7a4 78 = .ok (.iadd, 1) := by decide +kernel
theorem dJ6_numberOfTrailingZeros_0f7a4_79 : decode cJ6_numberOfTrailingZeros_0f7a4 79 = .ok (.ireturn, 1) := by decide +kernel
theorem dJ6_bitCount_0f7a4_0 : decode cJ6_bitCount_0f7a4 0 = .ok (.iload_n 0, 1) := by decide +kernel
theorem dJ6_bitCount_0f7a4_1 : decode cJ6_bitCount_0f7a4 1 = .ok (.iload_n 0, 1) := by decide +kernel
theorem dJ6_bitCount_0f7a4_2 : decode cJ6_bitCount_0f7a4 2 = .ok (.iconst 1, 1) := by decide +kernel
theorem dJ6_bitCount_0f7a4_3 : decode cJ6_bitCount_0f7a4 3 = .ok (.iushr, 1) := by decide +kernel
theorem dJ6_bitCount_0f7a4_4 : decode cJ6_bitCount_0f7a4 4 = .ok (.ldc_w 265, 3) := by decide +kernel
theorem dJ6_bitCount_0f7a4_7 : decode cJ6_bitCount_0f7a4 7 = .ok (.iand, 1) := by decide +kernel
theorem dJ6_bitCount_0f7a4_8 : decode cJ6_bitCount_0f7a4 8 = .ok (.isub, 1) := by decide +kernel
theorem dJ6_bitCount_0f7a4_9 : decode cJ6_bitCount_0f7a4 9 = .ok (.istore_n 0, 1) := by decide +kernel
theorem dJ6_bitCount_0f7a4_10 : decode cJ6_bitCount_0f7a4 10 = .ok (.iload_n 0, 1) := by decide +kernel
theorem dJ6_bitCount_0f7a4_11 : decode cJ6_bitCount_0f7a4 11 = .ok (.ldc_w 266, 3) := by decide +kernel
theorem dJ6_bitCount_0f7a4_14 : decode cJ6_bitCount_0f7a4 14 = .ok (.iand, 1) := by decide +kernel
theorem dJ6_bitCount_0f7a4_15 : decode cJ6_bitCount_0f7a4 15 = .ok (.iload_n 0, 1) := by decide +kernel
theorem dJ6_bitCount_0f7a4_16 : decode cJ6_bitCount_0f7a4 16 = .ok (.iconst 2, 1) := by decide +kernel
theorem dJ6_bitCount_0f7a4_17 : decode cJ6_bitCount_0f7a4 17 = .ok (.iushr, 1) := by decide +kernel
theorem dJ6_bitCount_0f7a4_18 : decode cJ6_bitCount_0f7a4 18 = .ok (.ldc_w 266, 3) := by decide +kernel
theorem dJ6_bitCount_0f7a4_21 : decode cJ6_bitCount_0f7a4 21 = .ok (.iand, 1) := by decide +kernel
theorem dJ6_bitCount_0f7a4_22 : decode cJ6_bitCount_0f7a4 22 = .ok (.iadd, 1) := by decide +kernel
theorem dJ6_bitCount_0f7a4_23 : decode cJ6_bitCount_0f7a4 23 = .ok (.istore_n 0, 1) := by decide +kernel
theorem dJ6_bitCount_0f7a4_24 : decode cJ6_bitCount_0f7a4 24 = .ok (.iload_n 0, 1) := by decide +kernel
theorem dJ6_bitCount_0f7a4_25 : decode cJ6_bitCount_0f7a4 25 = .ok (.iload_n 0, 1) := by decide +kernel
theorem dJ6_bitCount_0f7a4_26 : decode cJ6_bitCount_0f7a4 26 = .ok (.iconst 4, 1) := by decide +kernel
theorem dJ6_bitCount_0f7a4_27 : decode cJ6_bitCount_0f7a4 27 = .ok (.iushr, 1) := by decide +kernel
theorem dJ6_bitCount_0f7a4_28 : decode cJ6_bitCount_0f7a4 28 = .ok (.iadd, 1) := by decide +kernel
theorem dJ6_bitCount_0f7a4_29 : decode cJ6_bitCount_0f7a4 29 = .ok (.ldc_w 267, 3) := by decide +kernel
theorem dJ6_bitCount_0f7a4_32 : decode cJ6_bitCount_0f7a4 32 = .ok (.iand, 1) := by decide +kernel
theorem dJ6_bitCount_0f7a4_33 : decode cJ6_bitCount_0f7a4 33 = .ok (.istore_n 0, 1) := by decide +kernel
theorem dJ6_bitCount_0f7a4_34 : decode cJ6_bitCount_0f7a4 34 = .ok (.iload_n 0, 1) := by decide +kernel
theorem dJ6_bitCount_0f7a4_35 : decode cJ6_bitCount_0f7a4 35 = .ok (.iload_n 0, 1) := by decide +kernel
theorem dJ6_bitCount_0f7a4_36 : decode cJ6_bitCount_0f7a4 36 = .ok (.bipush 8, 2) := by decide +kernel
theorem dJ6_bitCount_0f7a4_38 : decode cJ6_bitCount_0f7a4 38 = .ok (.iushr, 1) := by decide +kernel
theorem dJ6_bitCount_0f7a4_39 : decode cJ6_bitCount_0f7a4 39 = .ok (.iadd, 1) := by decide +kernel
theorem dJ6_bitCount_0f7a4_40 : decode cJ6_bitCount_0f7a4 40 = .ok (.istore_n 0, 1) := by decide +kernel
theorem dJ6_bitCount_0f7a4_41 : decode cJ6_bitCount_0f7a4 41 = .ok (.iload_n 0, 1) := by decide +kernel
theorem dJ6_bitCount_0f7a4_42 : decode cJ6_bitCount_0f7a4 42 = .ok (.iload_n 0, 1) := by decide +kernel
theorem dJ6_bitCount_0f7a4_43 : decode cJ6_bitCount_0f7a4 43 = .ok (.bipush 16, 2) := by decide +kernel
theorem dJ6_bitCount_0f7a4_45 : decode cJ6_bitCount_0f7a4 45 = .ok (.iushr, 1) := by decide +kernel
theorem dJ6_bitCount_0f7a4_46 : decode cJ6_bitCount_0f7a4 46 = .ok (.iadd, 1) := by decide +kernel
theorem dJ6_bitCount_0f7a4_47 : decode cJ6_bitCount_0f7a4 47 = .ok (.istore_n 0, 1) := by decide +kernel
theorem dJ6_bitCount_0f7a4_48 : decode cJ6_bitCount_0f7a4 48 = .ok (.iload_n 0, 1) := by decide +kernel
theorem dJ6_bitCount_0f7a4_49 : decode cJ6_bitCount_0f7a4 49 = .ok (.bipush 63, 2) := by decide +kernel
theorem dJ6_bitCount_0f7a4_51 : decode cJ6_bitCount_0f7a4 51 = .ok (.iand, 1) := by decide +kernel
theorem dJ6_bitCount_0f7a4_52 : decode cJ6_bitCount_0f7a4 52 = .ok (.ireturn, 1) := by decide +kernel
theorem dJ9_abs_0f7a4_0 : decode cJ9_abs_0f7a4 0 = .ok (.iload_n 0, 1) := by decide +kernel
theorem dJ9_abs_0f7a4_1 : decode cJ9_abs_0f7a4 1 = .ok (.ifCond .ge 8, 3) := by decide +kernel
theorem dJ9_abs_0f7a4_4 : decode cJ9_abs_0f7a4 4 = .ok (.iload_n 0, 1) := by decide +kernel
theorem dJ9_abs_0f7a4_5 : decode cJ9_abs_0f7a4 5 = .ok (.ineg, 1) := by decide +kernel
theorem dJ9_abs_0f7a4_6 : decode cJ9_abs_0f7a4 6 = .ok (.goto 4, 3) := by decide +kernel
theorem dJ9_abs_0f7a4_9 : decode cJ9_abs_0f7a4 9 = .ok (.iload_n 0, 1) := by decide +kernel
theorem dJ9_abs_0f7a4_10 : decode cJ9_abs_0f7a4 10 = .ok (.ireturn, 1) := by decide +kernel
theorem dJ9_max_7cf53_0 : decode cJ9_max_7cf53 0 = .ok (.iload_n 0, 1) := by decide +kernel
theorem dJ9_max_7cf53_1 : decode cJ9_max_7cf53 1 = .ok (.iload_n 1, 1) := by decide +kernel
theorem dJ9_max_7cf53_2 : decode cJ9_max_7cf53 2 = .ok (.if_icmp .lt 7, 3) := by decide +kernel
theorem dJ9_max_7cf53_5 : decode cJ9_max_7cf53 5 = .ok (.iload_n 0, 1) := by decide +kernel
theorem dJ9_max_7cf53_6 : decode cJ9_max_7cf53 6 = .ok (.goto 4, 3) := by decide +kernel
theorem dJ9_max_7cf53_9 : decode cJ9_max_7cf53 9 = .ok (.iload_n 1, 1) := by decide +kernel
theorem dJ9_max_7cf53_10 : decode cJ9_max_7cf53 10 = .ok (.ireturn, 1) := by decide +kernel
theorem dJ9_max_f86c9_0 : decode cJ9_max_f86c9 0 = .ok (.lload_n 0, 1) := by decide +kernel
theorem dJ9_max_f86c9_1 : decode cJ9_max_f86c9 1 = .ok (.lload_n 2, 1) := by decide +kernel
theorem dJ9_max_f86c9_2 : decode cJ9_max_f86c9 2 = .ok (.lcmp, 1) := by decide +kernel
theorem dJ9_max_f86c9_3 : decode cJ9_max_f86c9 3 = .ok (.ifCond .lt 7, 3) := by decide +kernel
theorem dJ9_max_f86c9_6 : decode cJ9_max_f86c9 6 = .ok (.lload_n 0, 1) := by decide +kernel
theorem dJ9_max_f86c9_7 : decode cJ9_max_f86c9 7 = .ok (.goto 4, 3) := by decide +kernel
theorem dJ9_max_f86c9_10 : decode cJ9_max_f86c9 10 = .ok (.lload_n 2, 1) := by decide +kernel
theorem dJ9_max_f86c9_11 : decode cJ9_max_f86c9 11 = .ok (.lreturn, 1) := by decide +kernel
theorem dJ9_min_7cf53_0 : decode cJ9_min_7cf53 0 = .ok (.iload_n 0, 1) := by decide +kernel
theorem dJ9_min_7cf53_1 : decode cJ9_min_7cf53 1 = .ok (.iload_n 1, 1) := by decide +kernel
theorem dJ9_min_7cf53_2 : decode cJ9_min_7cf53 2 = .ok (.if_icmp .gt 7, 3) := by decide +kernel
theorem dJ9_min_7cf53_5 : decode cJ9_min_7cf53 5 = .ok (.iload_n 0, 1) := by decide +kernel
theorem dJ9_min_7cf53_6 : decode cJ9_min_7cf53 6 = .ok (.goto 4, 3) := by decide +kernel
theorem dJ9_min_7cf53_9 : decode cJ9_min_7cf53 9 = .ok (.iload_n 1, 1) := by decide +kernel
theorem dJ9_min_7cf53_10 : decode cJ9_min_7cf53 10 = .ok (.ireturn, 1) := by decide +kernel
