theorem dX6_forgetValues_0 : decode cX6_forgetValues 0 = .ok (.aload_n 0, 1) := by decide +kernel
theorem dX6_forgetValues_1 : decode cX6_forgetValues 1 = .ok (.iconst 0, 1) := by decide +kernel
theorem dX6_forgetValues_2 : decode cX6_forgetValues 2 = .ok (.putfield 18, 3) := by decide +kernel
theorem dX6_forgetValues_5 : decode cX6_forgetValues 5 = .ok (.return_, 1) := by decide +kernel
theorem dX6_learn_0 : decode cX6_learn 0 = .ok (.aload_n 0, 1) := by decide +kernel
theorem dX6_learn_1 : decode cX6_learn 1 = .ok (.getfield 18, 3) := by decide +kernel
theorem dX6_learn_4 : decode cX6_learn 4 = .ok (.ifCond .eq 4, 3) := by decide +kernel
theorem dX6_learn_7 : decode cX6_learn 7 = .ok (.return_, 1) := by decide +kernel
theorem dX6_learn_8 : decode cX6_learn 8 = .ok (.aload_n 1, 1) := by decide +kernel
theorem dX6_learn_9 : decode cX6_learn 9 = .ok (.invokevirtual 22, 3) := by decide +kernel
theorem dX6_learn_12 : decode cX6_learn 12 = .ok (.istore_n 2, 1) := by decide +kernel
theorem dX6_learn_13 : decode cX6_learn 13 = .ok (.aload_n 0, 1) := by decide +kernel
theorem dX6_learn_14 : decode cX6_learn 14 = .ok (.getfield 15, 3) := by decide +kernel
theorem dX6_learn_17 : decode cX6_learn 17 = .ok (.iconst 0, 1) := by decide +kernel
theorem dX6_learn_18 : decode cX6_learn 18 = .ok (.lconst 1, 1) := by decide +kernel
theorem dX6_learn_19 : decode cX6_learn 19 = .ok (.lastore, 1) := by decide +kernel
theorem dX6_learn_20 : decode cX6_learn 20 = .ok (.iconst 1, 1) := by decide +kernel
theorem dX6_learn_21 : decode cX6_learn 21 = .ok (.istore_n 3, 1) := by decide +kernel
theorem dX6_learn_22 : decode cX6_learn 22 = .ok (.iload_n 3, 1) := by decide +kernel
theorem dX6_learn_23 : decode cX6_learn 23 = .ok (.bipush 8, 2) := by decide +kernel
theorem dX6_learn_25 : decode cX6_learn 25 = .ok (.if_icmp .gt 65, 3) := by decide +kernel
theorem dX6_learn_28 : decode cX6_learn 28 = .ok (.aload_n 0, 1) := by decide +kernel
theorem dX6_learn_29 : decode cX6_learn 29 = .ok (.getfield 15, 3) := by decide +kernel
theorem dX6_learn_32 : decode cX6_learn 32 = .ok (.iload_n 3, 1) := by decide +kernel
theorem dX6_learn_33 : decode cX6_learn 33 = .ok (.aload_n 0, 1) := by decide +kernel
theorem dX6_learn_34 : decode cX6_learn 34 = .ok (.getfield 15, 3) := by decide +kernel
theorem dX6_learn_37 : decode cX6_learn 37 = .ok (.iload_n 3, 1) := by decide +kernel
theorem dX6_learn_38 : decode cX6_learn 38 = .ok (.iconst 1, 1) := by decide +kernel
theorem dX6_learn_39 : decode cX6_learn 39 = .ok (.isub, 1) := by decide +kernel
theorem dX6_learn_40 : decode cX6_learn 40 = .ok (.laload, 1) := by decide +kernel
theorem dX6_learn_41 : decode cX6_learn 41 = .ok (.iload_n 2, 1) := by decide +kernel
theorem dX6_learn_42 : decode cX6_learn 42 = .ok (.i2l, 1) := by decide +kernel
theorem dX6_learn_43 : decode cX6_learn 43 = .ok (.lmul, 1) := by decide +kernel
theorem dX6_learn_44 : decode cX6_learn 44 = .ok (.lastore, 1) := by decide +kernel
theorem dX6_learn_45 : decode cX6_learn 45 = .ok (.iconst 1, 1) := by decide +kernel
theorem dX6_learn_46 : decode cX6_learn 46 = .ok (.istore 4, 2) := by decide +kernel
theorem dX6_learn_48 : decode cX6_learn 48 = .ok (.iload 4, 2) := by decide +kernel
theorem dX6_learn_50 : decode cX6_learn 50 = .ok (.bipush 9, 2) := by decide +kernel
theorem dX6_learn_52 : decode cX6_learn 52 = .ok (.if_icmp .gt 32, 3) := by decide +kernel
theorem dX6_learn_55 : decode cX6_learn 55 = .ok (.aload_n 0, 1) := by decide +kernel
theorem dX6_learn_56 : decode cX6_learn 56 = .ok (.getfield 11, 3) := by decide +kernel
theorem dX6_learn_59 : decode cX6_learn 59 = .ok (.iload 4, 2) := by decide +kernel
theorem dX6_learn_61 : decode cX6_learn 61 = .ok (.bipush 9, 2) := by decide +kernel
theorem dX6_learn_63 : decode cX6_learn 63 = .ok (.imul, 1) := by decide +kernel
theorem dX6_learn_64 : decode cX6_learn 64 = .ok (.iload_n 3, 1) := by decide +kernel
theorem dX6_learn_65 : decode cX6_learn 65 = .ok (.iadd, 1) := by decide +kernel
theorem dX6_learn_66 : decode cX6_learn 66 = .ok (.aload_n 0, 1) := by decide +kernel
theorem dX6_learn_67 : decode cX6_learn 67 = .ok (.aload_n 1, 1) := by decide +kernel
theorem dX6_learn_68 : decode cX6_learn 68 = .ok (.getfield 28, 3) := by decide +kernel
theorem dX6_learn_71 : decode cX6_learn 71 = .ok (.iload 4, 2) := by decide +kernel
theorem dX6_learn_73 : decode cX6_learn 73 = .ok (.iload_n 3, 1) := by decide +kernel
theorem dX6_learn_74 : decode cX6_learn 74 = .ok (.invokevirtual 32, 3) := by decide +kernel
theorem dX6_learn_77 : decode cX6_learn 77 = .ok (.lastore, 1) := by decide +kernel
theorem dX6_learn_78 : decode cX6_learn 78 = .ok (.iinc 4 1, 3) := by decide +kernel
theorem dX6_learn_81 : decode cX6_learn 81 = .ok (.goto (-33), 3) := by decide +kernel
theorem dX6_learn_84 : decode cX6_learn 84 = .ok (.iinc 3 1, 3) := by decide +kernel
theorem dX6_learn_87 : decode cX6_learn 87 = .ok (.goto (-65), 3) := by decide +kernel
theorem dX6_learn_90 : decode cX6_learn 90 = .ok (.aload_n 0, 1) := by decide +kernel
theorem dX6_learn_91 : decode cX6_learn 91 = .ok (.iconst 1, 1) := by decide +kernel
theorem dX6_learn_92 : decode cX6_learn 92 = .ok (.putfield 18, 3) := by decide +kernel
theorem dX6_learn_95 : decode cX6_learn 95 = .ok (.return_, 1) := by decide +kernel
theorem dX6_meanOfBetter_0 : decode cX6_meanOfBetter 0 = .ok (.lconst 0, 1) := by decide +kernel
theorem dX6_meanOfBetter_1 : decode cX6_meanOfBetter 1 = .ok (.lstore 4, 2) := by decide +kernel
theorem dX6_meanOfBetter_3 : decode cX6_meanOfBetter 3 = .ok (.iconst 1, 1) := by decide +kernel
theorem dX6_meanOfBetter_4 : decode cX6_meanOfBetter 4 = .ok (.istore 6, 2) := by decide +kernel
theorem dX6_meanOfBetter_6 : decode cX6_meanOfBetter 6 = .ok (.iload 6, 2) := by decide +kernel
theorem dX6_meanOfBetter_8 : decode cX6_meanOfBetter 8 = .ok (.bipush 9, 2) := by decide +kernel
theorem dX6_meanOfBetter_10 : decode cX6_meanOfBetter 10 = .ok (.if_icmp .gt 39, 3) := by decide +kernel
theorem dX6_meanOfBetter_13 : decode cX6_meanOfBetter 13 = .ok (.lload 4, 2) := by decide +kernel
theorem dX6_meanOfBetter_15 : decode cX6_meanOfBetter 15 = .ok (.aload_n 1, 1) := by decide +kernel
theorem dX6_meanOfBetter_16 : decode cX6_meanOfBetter 16 = .ok (.iload 6, 2) := by decide +kernel
theorem dX6_meanOfBetter_18 : decode cX6_meanOfBetter 18 = .ok (.iaload, 1) := by decide +kernel
theorem dX6_meanOfBetter_19 : decode cX6_meanOfBetter 19 = .ok (.i2l, 1) := by decide +kernel
theorem dX6_meanOfBetter_20 : decode cX6_meanOfBetter 20 = .ok (.aload_n 0, 1) := by decide +kernel
theorem dX6_meanOfBetter_21 : decode cX6_meanOfBetter 21 = .ok (.iload_n 2, 1) := by decide +kernel
theorem dX6_meanOfBetter_22 : decode cX6_meanOfBetter 22 = .ok (.iload_n 3, 1) := by decide +kernel
theorem dX6_meanOfBetter_23 : decode cX6_meanOfBetter 23 = .ok (.iconst 1, 1) := by decide +kernel
theorem dX6_meanOfBetter_24 : decode cX6_meanOfBetter 24 = .ok (.isub, 1) := by decide +kernel
theorem dX6_meanOfBetter_25 : decode cX6_meanOfBetter 25 = .ok (.invokevirtual 36, 3) := by decide +kernel
theorem dX6_meanOfBetter_28 : decode cX6_meanOfBetter 28 = .ok (.aload_n 0, 1) := by decide +kernel
theorem dX6_meanOfBetter_29 : decode cX6_meanOfBetter 29 = .ok (.iload_n 2, 1) := by decide +kernel
theorem dX6_meanOfBetter_30 : decode cX6_meanOfBetter 30 = .ok (.iload_n 3, 1) := by decide +kernel
theorem dX6_meanOfBetter_31 : decode cX6_meanOfBetter 31 = .ok (.iload 6, 2) := by decide +kernel
theorem dX6_meanOfBetter_33 : decode cX6_meanOfBetter 33 = .ok (.invokevirtual 40, 3) := by decide +kernel
theorem dX6_meanOfBetter_36 : decode cX6_meanOfBetter 36 = .ok (.invokestatic 44, 3) := by decide +kernel
theorem dX6_meanOfBetter_39 : decode cX6_meanOfBetter 39 = .ok (.lmul, 1) := by decide +kernel
theorem dX6_meanOfBetter_40 : decode cX6_meanOfBetter 40 = .ok (.ladd, 1) := by decide +kernel
theorem dX6_meanOfBetter_41 : decode cX6_meanOfBetter 41 = .ok (.lstore 4, 2) := by decide +kernel
theorem dX6_meanOfBetter_43 : decode cX6_meanOfBetter 43 = .ok (.iinc 6 1, 3) := by decide +kernel
theorem dX6_meanOfBetter_46 : decode cX6_meanOfBetter 46 = .ok (.goto (-40), 3) := by decide +kernel
theorem dX6_meanOfBetter_49 : decode cX6_meanOfBetter 49 = .ok (.lload 4, 2) := by decide +kernel
theorem dX6_meanOfBetter_51 : decode cX6_meanOfBetter 51 = .ok (.lreturn, 1) := by decide +kernel
theorem dX6_valueOfSigning_0 : decode cX6_valueOfSigning 0 = .ok (.iload_n 3, 1) := by decide +kernel
theorem dX6_valueOfSigning_1 : decode cX6_valueOfSigning 1 = .ok (.i2l, 1) := by decide +kernel
theorem dX6_valueOfSigning_2 : decode cX6_valueOfSigning 2 = .ok (.aload_n 0, 1) := by decide +kernel
theorem dX6_valueOfSigning_3 : decode cX6_valueOfSigning 3 = .ok (.getfield 15, 3) := by decide +kernel
theorem dX6_valueOfSigning_6 : decode cX6_valueOfSigning 6 = .ok (.iload_n 2, 1) := by decide +kernel
theorem dX6_valueOfSigning_7 : decode cX6_valueOfSigning 7 = .ok (.iconst 1, 1) := by decide +kernel
theorem dX6_valueOfSigning_8 : decode cX6_valueOfSigning 8 = .ok (.isub, 1) := by decide +kernel
theorem dX6_valueOfSigning_9 : decode cX6_valueOfSigning 9 = .ok (.laload, 1) := by decide +kernel
theorem dX6_valueOfSigning_10 : decode cX6_valueOfSigning 10 = .ok (.lmul, 1) := by decide +kernel
theorem dX6_valueOfSigning_11 : decode cX6_valueOfSigning 11 = .ok (.aload_n 0, 1) := by decide +kernel
theorem dX6_valueOfSigning_12 : decode cX6_valueOfSigning 12 = .ok (.iload_n 1, 1) := by decide +kernel
theorem dX6_valueOfSigning_13 : decode cX6_valueOfSigning 13 = .ok (.iconst 1, 1) := by decide +kernel
theorem dX6_valueOfSigning_14 : decode cX6_valueOfSigning 14 = .ok (.isub, 1) := by decide +kernel
theorem dX6_valueOfSigning_15 : decode cX6_valueOfSigning 15 = .ok (.iload_n 2, 1) := by decide +kernel
theorem dX6_valueOfSigning_16 : decode cX6_valueOfSigning 16 = .ok (.iconst 1, 1) := by decide +kernel
theorem dX6_valueOfSigning_17 : decode cX6_valueOfSigning 17 = .ok (.isub, 1) := by decide +kernel
theorem dX6_valueOfSigning_18 : decode cX6_valueOfSigning 18 = .ok (.invokevirtual 36, 3) := by decide +kernel
theorem dX6_valueOfSigning_21 : decode cX6_valueOfSigning 21 = .ok (.ladd, 1) := by decide +kernel
theorem dX6_valueOfSigning_22 : decode cX6_valueOfSigning 22 = .ok (.lreturn, 1) := by decide +kernel
theorem dX6_value_0 : decode cX6_value 0 = .ok (.aload_n 0, 1) := by decide +kernel
theorem dX6_value_1 : decode cX6_value 1 = .ok (.getfield 11, 3) := by decide +kernel
theorem dX6_value_4 : decode cX6_value 4 = .ok (.iload_n 1, 1) := by decide +kernel
theorem dX6_value_5 : decode cX6_value 5 = .ok (.bipush 9, 2) := by decide +kernel
theorem dX6_value_7 : decode cX6_value 7 = .ok (.imul, 1) := by decide +kernel
theorem dX6_value_8 : decode cX6_value 8 = .ok (.iload_n 2, 1) := by decide +kernel
theorem dX6_value_9 : decode cX6_value 9 = .ok (.iadd, 1) := by decide +kernel
theorem dX6_value_10 : decode cX6_value 10 = .ok (.laload, 1) := by decide +kernel
theorem dX6_value_11 : decode cX6_value 11 = .ok (.lreturn, 1) := by decide +kernel
theorem dX6_scale_0 : decode cX6_scale 0 = .ok (.aload_n 0, 1) := by decide +kernel
theorem dX6_scale_1 : decode cX6_scale 1 = .ok (.getfield 15, 3) := by decide +kernel
theorem dX6_scale_4 : decode cX6_scale 4 = .ok (.iload_n 1, 1) := by decide +kernel
theorem dX6_scale_5 : decode cX6_scale 5 = .ok (.laload, 1) := by decide +kernel
theorem dX6_scale_6 : decode cX6_scale 6 = .ok (.lreturn, 1) := by decide +kernel
theorem dX6_isToSign_0 : decode cX6_isToSign 0 = .ok (.aload_n 0, 1) := by decide +kernel
theorem dX6_isToSign_1 : decode cX6_isToSign 1 = .ok (.iload_n 1, 1) := by decide +kernel
theorem dX6_isToSign_2 : decode cX6_isToSign 2 = .ok (.iload_n 2, 1) := by decide +kernel
theorem dX6_isToSign_3 : decode cX6_isToSign 3 = .ok (.iload_n 3, 1) := by decide +kernel
theorem dX6_isToSign_4 : decode cX6_isToSign 4 = .ok (.invokevirtual 40, 3) := by decide +kernel
theorem dX6_isToSign_7 : decode cX6_isToSign 7 = .ok (.aload_n 0, 1) := by decide +kernel
theorem dX6_isToSign_8 : decode cX6_isToSign 8 = .ok (.iload_n 1, 1) := by decide +kernel
theorem dX6_isToSign_9 : decode cX6_isToSign 9 = .ok (.iload_n 2, 1) := by decide +kernel
theorem dX6_isToSign_10 : decode cX6_isToSign 10 = .ok (.iconst 1, 1) := by decide +kernel
theorem dX6_isToSign_11 : decode cX6_isToSign 11 = .ok (.isub, 1) := by decide +kernel
theorem dX6_isToSign_12 : decode cX6_isToSign 12 = .ok (.invokevirtual 36, 3) := by decide +kernel
theorem dX6_isToSign_15 : decode cX6_isToSign 15 = .ok (.lcmp, 1) := by decide +kernel
theorem dX6_isToSign_16 : decode cX6_isToSign 16 = .ok (.ifCond .lt 7, 3) := by decide +kernel
theorem dX6_isToSign_19 : decode cX6_isToSign 19 = .ok (.iconst 1, 1) := by decide +kernel
theorem dX6_isToSign_20 : decode cX6_isToSign 20 = .ok (.goto 4, 3) := by decide +kernel
theorem dX6_isToSign_23 : decode cX6_isToSign 23 = .ok (.iconst 0, 1) := by decide +kernel
theorem dX6_isToSign_24 : decode cX6_isToSign 24 = .ok (.ireturn, 1) := by decide +kernel
theorem dX6_leastToSign_0 : decode cX6_leastToSign 0 = .ok (.iconst 1, 1) := by decide +kernel
theorem dX6_leastToSign_1 : decode cX6_leastToSign 1 = .ok (.istore_n 3, 1) := by decide +kernel
theorem dX6_leastToSign_2 : decode cX6_leastToSign 2 = .ok (.iload_n 3, 1) := by decide +kernel
theorem dX6_leastToSign_3 : decode cX6_leastToSign 3 = .ok (.bipush 9, 2) := by decide +kernel
theorem dX6_leastToSign_5 : decode cX6_leastToSign 5 = .ok (.if_icmp .ge 19, 3) := by decide +kernel
theorem dX6_leastToSign_8 : decode cX6_leastToSign 8 = .ok (.aload_n 0, 1) := by decide +kernel
theorem dX6_leastToSign_9 : decode cX6_leastToSign 9 = .ok (.iload_n 1, 1) := by decide +kernel
theorem dX6_leastToSign_10 : decode cX6_leastToSign 10 = .ok (.iload_n 2, 1) := by decide +kernel
theorem dX6_leastToSign_11 : decode cX6_leastToSign 11 = .ok (.iload_n 3, 1) := by decide +kernel
theorem dX6_leastToSign_12 : decode cX6_leastToSign 12 = .ok (.invokevirtual 50, 3) := by decide +kernel
theorem dX6_leastToSign_15 : decode cX6_leastToSign 15 = .ok (.ifCond .ne 9, 3) := by decide +kernel
theorem dX6_leastToSign_18 : decode cX6_leastToSign 18 = .ok (.iinc 3 1, 3) := by decide +kernel
theorem dX6_leastToSign_21 : decode cX6_leastToSign 21 = .ok (.goto (-19), 3) := by decide +kernel
theorem dX6_leastToSign_24 : decode cX6_leastToSign 24 = .ok (.iload_n 3, 1) := by decide +kernel
theorem dX6_leastToSign_25 : decode cX6_leastToSign 25 = .ok (.ireturn, 1) := by decide +kernel
theorem dX7_init_0 : decode cX7_init 0 = .ok (.aload_n 0, 1) := by decide +kernel
theorem dX7_init_1 : decode cX7_init 1 = .ok (.invokespecial 3, 3) := by decide +kernel
theorem dX7_init_4 : decode cX7_init 4 = .ok (.aload_n 0, 1) := by decide +kernel
theorem dX7_init_5 : decode cX7_init 5 = .ok (.new 9, 3) := by decide +kernel
theorem dX7_init_8 : decode cX7_init 8 = .ok (.dup, 1) := by decide +kernel
theorem dX7_init_9 : decode cX7_init 9 = .ok (.invokespecial 11, 3) := by decide +kernel
theorem dX7_init_12 : decode cX7_init 12 = .ok (.putfield 12, 3) := by decide +kernel
theorem dX7_init_15 : decode cX7_init 15 = .ok (.aload_n 0, 1) := by decide +kernel
theorem dX7_init_16 : decode cX7_init 16 = .ok (.bipush 10, 2) := by decide +kernel
theorem dX7_init_18 : decode cX7_init 18 = .ok (.newarray .int, 2) := by decide +kernel
theorem dX7_init_20 : decode cX7_init 20 = .ok (.putfield 18, 3) := by decide +kernel
theorem dX7_init_23 : decode cX7_init 23 = .ok (.aload_n 0, 1) := by decide +kernel
theorem dX7_init_24 : decode cX7_init 24 = .ok (.bipush 8, 2) := by decide +kernel
theorem dX7_init_26 : decode cX7_init 26 = .ok (.newarray .int, 2) := by decide +kernel
theorem dX7_init_28 : decode cX7_init 28 = .ok (.putfield 22, 3) := by decide +kernel
theorem dX7_init_31 : decode cX7_init 31 = .ok (.aload_n 0, 1) := by decide +kernel
theorem dX7_init_32 : decode cX7_init 32 = .ok (.bipush 8, 2) := by decide +kernel
theorem dX7_init_34 : decode cX7_init 34 = .ok (.newarray .boolean, 2) := by decide +kernel
theorem dX7_init_36 : decode cX7_init 36 = .ok (.putfield 25, 3) := by decide +kernel
theorem dX7_init_39 : decode cX7_init 39 = .ok (.iconst 1, 1) := by decide +kernel
theorem dX7_init_40 : decode cX7_init 40 = .ok (.istore_n 1, 1) := by decide +kernel
theorem dX7_init_41 : decode cX7_init 41 = .ok (.iload_n 1, 1) := by decide +kernel
theorem dX7_init_42 : decode cX7_init 42 = .ok (.bipush 9, 2) := by decide +kernel
theorem dX7_init_44 : decode cX7_init 44 = .ok (.if_icmp .gt 16, 3) := by decide +kernel
theorem dX7_init_47 : decode cX7_init 47 = .ok (.aload_n 0, 1) := by decide +kernel
theorem dX7_init_48 : decode cX7_init 48 = .ok (.getfield 18, 3) := by decide +kernel
theorem dX7_init_51 : decode cX7_init 51 = .ok (.iload_n 1, 1) := by decide +kernel
theorem dX7_init_52 : decode cX7_init 52 = .ok (.iconst 1, 1) := by decide +kernel
theorem dX7_init_53 : decode cX7_init 53 = .ok (.iastore, 1) := by decide +kernel
theorem dX7_init_54 : decode cX7_init 54 = .ok (.iinc 1 1, 3) := by decide +kernel
theorem dX7_init_57 : decode cX7_init 57 = .ok (.goto (-16), 3) := by decide +kernel
theorem dX7_init_60 : decode cX7_init 60 = .ok (.return_, 1) := by decide +kernel
theorem dX7_weightOfAll_0 : decode cX7_weightOfAll 0 = .ok (.iconst 0, 1) := by decide +kernel
theorem dX7_weightOfAll_1 : decode cX7_weightOfAll 1 = .ok (.istore_n 1, 1) := by decide +kernel
theorem dX7_weightOfAll_2 : decode cX7_weightOfAll 2 = .ok (.iconst 1, 1) := by decide +kernel
theorem dX7_weightOfAll_3 : decode cX7_weightOfAll 3 = .ok (.istore_n 2, 1) := by decide +kernel
theorem dX7_weightOfAll_4 : decode cX7_weightOfAll 4 = .ok (.iload_n 2, 1) := by decide +kernel
theorem dX7_weightOfAll_5 : decode cX7_weightOfAll 5 = .ok (.bipush 9, 2) := by decide +kernel
theorem dX7_weightOfAll_7 : decode cX7_weightOfAll 7 = .ok (.if_icmp .gt 18, 3) := by decide +kernel
theorem dX7_weightOfAll_10 : decode cX7_weightOfAll 10 = .ok (.iload_n 1, 1) := by decide +kernel
theorem dX7_weightOfAll_11 : decode cX7_weightOfAll 11 = .ok (.aload_n 0, 1) := by decide +kernel
theorem dX7_weightOfAll_12 : decode cX7_weightOfAll 12 = .ok (.getfield 18, 3) := by decide +kernel
theorem dX7_weightOfAll_15 : decode cX7_weightOfAll 15 = .ok (.iload_n 2, 1) := by decide +kernel
theorem dX7_weightOfAll_16 : decode cX7_weightOfAll 16 = .ok (.iaload, 1) := by decide +kernel
theorem dX7_weightOfAll_17 : decode cX7_weightOfAll 17 = .ok (.iadd, 1) := by decide +kernel
theorem dX7_weightOfAll_18 : decode cX7_weightOfAll 18 = .ok (.istore_n 1, 1) := by decide +kernel
theorem dX7_weightOfAll_19 : decode cX7_weightOfAll 19 = .ok (.iinc 2 1, 3) := by decide +kernel
theorem dX7_weightOfAll_22 : decode cX7_weightOfAll 22 = .ok (.goto (-18), 3) := by decide +kernel
theorem dX7_weightOfAll_25 : decode cX7_weightOfAll 25 = .ok (.iload_n 1, 1) := by decide +kernel
theorem dX7_weightOfAll_26 : decode cX7_weightOfAll 26 = .ok (.ireturn, 1) := by decide +kernel
theorem dX7_addSight_0 : decode cX7_addSight 0 = .ok (.aload_n 0, 1) := by decide +kernel
theorem dX7_addSight_1 : decode cX7_addSight 1 = .ok (.getfield 22, 3) := by decide +kernel
theorem dX7_addSight_4 : decode cX7_addSight 4 = .ok (.aload_n 0, 1) := by decide +kernel
theorem dX7_addSight_5 : decode cX7_addSight 5 = .ok (.getfield 29, 3) := by decide +kernel
theorem dX7_addSight_8 : decode cX7_addSight 8 = .ok (.bipush 100, 2) := by decide +kernel
theorem dX7_addSight_10 : decode cX7_addSight 10 = .ok (.iload_n 1, 1) := by decide +kernel
theorem dX7_addSight_11 : decode cX7_addSight 11 = .ok (.imul, 1) := by decide +kernel
theorem dX7_addSight_12 : decode cX7_addSight 12 = .ok (.bipush 10, 2) := by decide +kernel
theorem dX7_addSight_14 : decode cX7_addSight 14 = .ok (.iload_n 2, 1) := by decide +kernel
theorem dX7_addSight_15 : decode cX7_addSight 15 = .ok (.imul, 1) := by decide +kernel
theorem dX7_addSight_16 : decode cX7_addSight 16 = .ok (.iadd, 1) := by decide +kernel
theorem dX7_addSight_17 : decode cX7_addSight 17 = .ok (.iload_n 3, 1) := by decide +kernel
theorem dX7_addSight_18 : decode cX7_addSight 18 = .ok (.iadd, 1) := by decide +kernel
theorem dX7_addSight_19 : decode cX7_addSight 19 = .ok (.iastore, 1) := by decide +kernel
theorem dX7_addSight_20 : decode cX7_addSight 20 = .ok (.aload_n 0, 1) := by decide +kernel
theorem dX7_addSight_21 : decode cX7_addSight 21 = .ok (.getfield 25, 3) := by decide +kernel
theorem dX7_addSight_24 : decode cX7_addSight 24 = .ok (.aload_n 0, 1) := by decide +kernel
theorem dX7_addSight_25 : decode cX7_addSight 25 = .ok (.getfield 29, 3) := by decide +kernel
theorem dX7_addSight_28 : decode cX7_addSight 28 = .ok (.iload 4, 2) := by decide +kernel
theorem dX7_addSight_30 : decode cX7_addSight 30 = .ok (.bastore, 1) := by decide +kernel
theorem dX7_addSight_31 : decode cX7_addSight 31 = .ok (.aload_n 0, 1) := by decide +kernel
theorem dX7_addSight_32 : decode cX7_addSight 32 = .ok (.dup, 1) := by decide +kernel
theorem dX7_addSight_33 : decode cX7_addSight 33 = .ok (.getfield 29, 3) := by decide +kernel
theorem dX7_addSight_36 : decode cX7_addSight 36 = .ok (.iconst 1, 1) := by decide +kernel
theorem dX7_addSight_37 : decode cX7_addSight 37 = .ok (.iadd, 1) := by decide +kernel
theorem dX7_addSight_38 : decode cX7_addSight 38 = .ok (.putfield 29, 3) := by decide +kernel
theorem dX7_addSight_41 : decode cX7_addSight 41 = .ok (.return_, 1) := by decide +kernel
theorem dX7_copyFrom_0 : decode cX7_copyFrom 0 = .ok (.aload_n 0, 1) := by decide +kernel
theorem dX7_copyFrom_1 : decode cX7_copyFrom 1 = .ok (.getfield 12, 3) := by decide +kernel
theorem dX7_copyFrom_4 : decode cX7_copyFrom 4 = .ok (.aload_n 1, 1) := by decide +kernel
theorem dX7_copyFrom_5 : decode cX7_copyFrom 5 = .ok (.getfield 12, 3) := by decide +kernel
theorem dX7_copyFrom_8 : decode cX7_copyFrom 8 = .ok (.invokevirtual 33, 3) := by decide +kernel
theorem dX7_copyFrom_11 : decode cX7_copyFrom 11 = .ok (.aload_n 1, 1) := by decide +kernel
theorem dX7_copyFrom_12 : decode cX7_copyFrom 12 = .ok (.getfield 18, 3) := by decide +kernel
theorem dX7_copyFrom_15 : decode cX7_copyFrom 15 = .ok (.iconst 0, 1) := by decide +kernel
theorem dX7_copyFrom_16 : decode cX7_copyFrom 16 = .ok (.aload_n 0, 1) := by decide +kernel
theorem dX7_copyFrom_17 : decode cX7_copyFrom 17 = .ok (.getfield 18, 3) := by decide +kernel
theorem dX7_copyFrom_20 : decode cX7_copyFrom 20 = .ok (.iconst 0, 1) := by decide +kernel
theorem dX7_copyFrom_21 : decode cX7_copyFrom 21 = .ok (.bipush 10, 2) := by decide +kernel
theorem dX7_copyFrom_23 : decode cX7_copyFrom 23 = .ok (.invokestatic 37, 3) := by decide +kernel
theorem dX7_copyFrom_26 : decode cX7_copyFrom 26 = .ok (.aload_n 0, 1) := by decide +kernel
theorem dX7_copyFrom_27 : decode cX7_copyFrom 27 = .ok (.aload_n 1, 1) := by decide +kernel
theorem dX7_copyFrom_28 : decode cX7_copyFrom 28 = .ok (.getfield 29, 3) := by decide +kernel
theorem dX7_copyFrom_31 : decode cX7_copyFrom 31 = .ok (.putfield 29, 3) := by decide +kernel
theorem dX7_copyFrom_34 : decode cX7_copyFrom 34 = .ok (.iconst 0, 1) := by decide +kernel
theorem dX7_copyFrom_35 : decode cX7_copyFrom 35 = .ok (.istore_n 2, 1) := by decide +kernel
theorem dX7_copyFrom_36 : decode cX7_copyFrom 36 = .ok (.iload_n 2, 1) := by decide +kernel
theorem dX7_copyFrom_37 : decode cX7_copyFrom 37 = .ok (.bipush 8, 2) := by decide +kernel
theorem dX7_copyFrom_39 : decode cX7_copyFrom 39 = .ok (.if_icmp .ge 33, 3) := by decide +kernel
theorem dX7_copyFrom_42 : decode cX7_copyFrom 42 = .ok (.aload_n 0, 1) := by decide +kernel
theorem dX7_copyFrom_43 : decode cX7_copyFrom 43 = .ok (.getfield 22, 3) := by decide +kernel
theorem dX7_copyFrom_46 : decode cX7_copyFrom 46 = .ok (.iload_n 2, 1) := by decide +kernel
theorem dX7_copyFrom_47 : decode cX7_copyFrom 47 = .ok (.aload_n 1, 1) := by decide +kernel
theorem dX7_copyFrom_48 : decode cX7_copyFrom 48 = .ok (.getfield 22, 3) := by decide +kernel
theorem dX7_copyFrom_51 : decode cX7_copyFrom 51 = .ok (.iload_n 2, 1) := by decide +kernel
theorem dX7_copyFrom_52 : decode cX7_copyFrom 52 = .ok (.iaload, 1) := by decide +kernel
theorem dX7_copyFrom_53 : decode cX7_copyFrom 53 = .ok (.iastore, 1) := by decide +kernel
theorem dX7_copyFrom_54 : decode cX7_copyFrom 54 = .ok (.aload_n 0, 1) := by decide +kernel
theorem dX7_copyFrom_55 : decode cX7_copyFrom 55 = .ok (.getfield 25, 3) := by decide +kernel
theorem dX7_copyFrom_58 : decode cX7_copyFrom 58 = .ok (.iload_n 2, 1) := by decide +kernel
theorem dX7_copyFrom_59 : decode cX7_copyFrom 59 = .ok (.aload_n 1, 1) := by decide +kernel
theorem dX7_copyFrom_60 : decode cX7_copyFrom 60 = .ok (.getfield 25, 3) := by decide +kernel
theorem dX7_copyFrom_63 : decode cX7_copyFrom 63 = .ok (.iload_n 2, 1) := by decide +kernel
theorem dX7_copyFrom_64 : decode cX7_copyFrom 64 = .ok (.baload, 1) := by decide +kernel
theorem dX7_copyFrom_65 : decode cX7_copyFrom 65 = .ok (.bastore, 1) := by decide +kernel
theorem dX7_copyFrom_66 : decode cX7_copyFrom 66 = .ok (.iinc 2 1, 3) := by decide +kernel
theorem dX7_copyFrom_69 : decode cX7_copyFrom 69 = .ok (.goto (-33), 3) := by decide +kernel
theorem dX7_copyFrom_72 : decode cX7_copyFrom 72 = .ok (.return_, 1) := by decide +kernel
theorem dX8_init_0 : decode cX8_init 0 = .ok (.aload_n 0, 1) := by decide +kernel
theorem dX8_init_1 : decode cX8_init 1 = .ok (.invokespecial 1, 3) := by decide +kernel
theorem dX8_init_4 : decode cX8_init 4 = .ok (.aload_n 0, 1) := by decide +kernel
theorem dX8_init_5 : decode cX8_init 5 = .ok (.new 7, 3) := by decide +kernel
theorem dX8_init_8 : decode cX8_init 8 = .ok (.dup, 1) := by decide +kernel
theorem dX8_init_9 : decode cX8_init 9 = .ok (.invokespecial 9, 3) := by decide +kernel
theorem dX8_init_12 : decode cX8_init 12 = .ok (.putfield 10, 3) := by decide +kernel
theorem dX8_init_15 : decode cX8_init 15 = .ok (.aload_n 0, 1) := by decide +kernel
theorem dX8_init_16 : decode cX8_init 16 = .ok (.iconst 2, 1) := by decide +kernel
theorem dX8_init_17 : decode cX8_init 17 = .ok (.anewarray 7, 3) := by decide +kernel
theorem dX8_init_20 : decode cX8_init 20 = .ok (.putfield 16, 3) := by decide +kernel
theorem dX8_init_23 : decode cX8_init 23 = .ok (.iconst 0, 1) := by decide +kernel
theorem dX8_init_24 : decode cX8_init 24 = .ok (.istore_n 1, 1) := by decide +kernel
theorem dX8_init_25 : decode cX8_init 25 = .ok (.iload_n 1, 1) := by decide +kernel
theorem dX8_init_26 : decode cX8_init 26 = .ok (.iconst 2, 1) := by decide +kernel
theorem dX8_init_27 : decode cX8_init 27 = .ok (.if_icmp .ge 22, 3) := by decide +kernel
theorem dX8_init_30 : decode cX8_init 30 = .ok (.aload_n 0, 1) := by decide +kernel
theorem dX8_init_31 : decode cX8_init 31 = .ok (.getfield 16, 3) := by decide +kernel
theorem dX8_init_34 : decode cX8_init 34 = .ok (.iload_n 1, 1) := by decide +kernel
theorem dX8_init_35 : decode cX8_init 35 = .ok (.new 7, 3) := by decide +kernel
theorem dX8_init_38 : decode cX8_init 38 = .ok (.dup, 1) := by decide +kernel
theorem dX8_init_39 : decode cX8_init 39 = .ok (.invokespecial 9, 3) := by decide +kernel
theorem dX8_init_42 : decode cX8_init 42 = .ok (.aastore, 1) := by decide +kernel
theorem dX8_init_43 : decode cX8_init 43 = .ok (.iinc 1 1, 3) := by decide +kernel
theorem dX8_init_46 : decode cX8_init 46 = .ok (.goto (-21), 3) := by decide +kernel
theorem dX8_init_49 : decode cX8_init 49 = .ok (.aload_n 0, 1) := by decide +kernel
theorem dX8_init_50 : decode cX8_init 50 = .ok (.new 20, 3) := by decide +kernel
theorem dX8_init_53 : decode cX8_init 53 = .ok (.dup, 1) := by decide +kernel
theorem dX8_init_54 : decode cX8_init 54 = .ok (.invokespecial 22, 3) := by decide +kernel
theorem dX8_init_57 : decode cX8_init 57 = .ok (.putfield 23, 3) := by decide +kernel
theorem dX8_init_60 : decode cX8_init 60 = .ok (.aload_n 0, 1) := by decide +kernel
theorem dX8_init_61 : decode cX8_init 61 = .ok (.new 27, 3) := by decide +kernel
theorem dX8_init_64 : decode cX8_init 64 = .ok (.dup, 1) := by decide +kernel
theorem dX8_init_65 : decode cX8_init 65 = .ok (.invokespecial 29, 3) := by decide +kernel
theorem dX8_init_68 : decode cX8_init 68 = .ok (.putfield 30, 3) := by decide +kernel
theorem dX8_init_71 : decode cX8_init 71 = .ok (.aload_n 0, 1) := by decide +kernel
theorem dX8_init_72 : decode cX8_init 72 = .ok (.new 34, 3) := by decide +kernel
theorem dX8_init_75 : decode cX8_init 75 = .ok (.dup, 1) := by decide +kernel
theorem dX8_init_76 : decode cX8_init 76 = .ok (.invokespecial 36, 3) := by decide +kernel
theorem dX8_init_79 : decode cX8_init 79 = .ok (.putfield 37, 3) := by decide +kernel
theorem dX8_init_82 : decode cX8_init 82 = .ok (.aload_n 0, 1) := by decide +kernel
theorem dX8_init_83 : decode cX8_init 83 = .ok (.new 41, 3) := by decide +kernel
theorem dX8_init_86 : decode cX8_init 86 = .ok (.dup, 1) := by decide +kernel
theorem dX8_init_87 : decode cX8_init 87 = .ok (.invokespecial 43, 3) := by decide +kernel
theorem dX8_init_90 : decode cX8_init 90 = .ok (.putfield 44, 3) := by decide +kernel
theorem dX8_init_93 : decode cX8_init 93 = .ok (.aload_n 0, 1) := by decide +kernel
theorem dX8_init_94 : decode cX8_init 94 = .ok (.new 48, 3) := by decide +kernel
theorem dX8_init_97 : decode cX8_init 97 = .ok (.dup, 1) := by decide +kernel
theorem dX8_init_98 : decode cX8_init 98 = .ok (.invokespecial 50, 3) := by decide +kernel
theorem dX8_init_101 : decode cX8_init 101 = .ok (.putfield 51, 3) := by decide +kernel
theorem dX8_init_104 : decode cX8_init 104 = .ok (.return_, 1) := by decide +kernel
theorem dX8_person_0 : decode cX8_person 0 = .ok (.iload_n 1, 1) := by decide +kernel
theorem dX8_person_1 : decode cX8_person 1 = .ok (.iconst 0, 1) := by decide +kernel
theorem dX8_person_2 : decode cX8_person 2 = .ok (.iconst 5, 1) := by decide +kernel
theorem dX8_person_3 : decode cX8_person 3 = .ok (.invokestatic 55, 3) := by decide +kernel
theorem dX8_person_6 : decode cX8_person 6 = .ok (.ifCond .ne 5, 3) := by decide +kernel
theorem dX8_person_9 : decode cX8_person 9 = .ok (.iconst (-1), 1) := by decide +kernel
theorem dX8_person_10 : decode cX8_person 10 = .ok (.ireturn, 1) := by decide +kernel
theorem dX8_person_11 : decode cX8_person 11 = .ok (.iload_n 2, 1) := by decide +kernel
theorem dX8_person_12 : decode cX8_person 12 = .ok (.iconst 0, 1) := by decide +kernel
theorem dX8_person_13 : decode cX8_person 13 = .ok (.sipush 400, 3) := by decide +kernel
theorem dX8_person_16 : decode cX8_person 16 = .ok (.invokestatic 55, 3) := by decide +kernel
theorem dX8_person_19 : decode cX8_person 19 = .ok (.ifCond .eq 13, 3) := by decide +kernel
theorem dX8_person_22 : decode cX8_person 22 = .ok (.iload_n 3, 1) := by decide +kernel
theorem dX8_person_23 : decode cX8_person 23 = .ok (.iconst 0, 1) := by decide +kernel
theorem dX8_person_24 : decode cX8_person 24 = .ok (.bipush 9, 2) := by decide +kernel
theorem dX8_person_26 : decode cX8_person 26 = .ok (.invokestatic 55, 3) := by decide +kernel
theorem dX8_person_29 : decode cX8_person 29 = .ok (.ifCond .ne 6, 3) := by decide +kernel
theorem dX8_person_32 : decode cX8_person 32 = .ok (.bipush (-2), 2) := by decide +kernel
theorem dX8_person_34 : decode cX8_person 34 = .ok (.ireturn, 1) := by decide +kernel
theorem dX8_person_35 : decode cX8_person 35 = .ok (.aload_n 0, 1) := by decide +kernel
theorem dX8_person_36 : decode cX8_person 36 = .ok (.getfield 10, 3) := by decide +kernel
theorem dX8_person_39 : decode cX8_person 39 = .ok (.getfield 59, 3) := by decide +kernel
theorem dX8_person_42 : decode cX8_person 42 = .ok (.iload_n 1, 1) := by decide +kernel
theorem dX8_person_43 : decode cX8_person 43 = .ok (.iload_n 2, 1) := by decide +kernel
theorem dX8_person_44 : decode cX8_person 44 = .ok (.iload_n 3, 1) := by decide +kernel
theorem dX8_person_45 : decode cX8_person 45 = .ok (.invokevirtual 63, 3) := by decide +kernel
theorem dX8_person_48 : decode cX8_person 48 = .ok (.aload_n 0, 1) := by decide +kernel
theorem dX8_person_49 : decode cX8_person 49 = .ok (.getfield 10, 3) := by decide +kernel
theorem dX8_person_52 : decode cX8_person 52 = .ok (.getfield 59, 3) := by decide +kernel
theorem dX8_person_55 : decode cX8_person 55 = .ok (.invokevirtual 69, 3) := by decide +kernel
theorem dX8_person_58 : decode cX8_person 58 = .ok (.ireturn, 1) := by decide +kernel
theorem dX8_die_0 : decode cX8_die 0 = .ok (.aload_n 0, 1) := by decide +kernel
theorem dX8_die_1 : decode cX8_die 1 = .ok (.getfield 10, 3) := by decide +kernel
theorem dX8_die_4 : decode cX8_die 4 = .ok (.getfield 59, 3) := by decide +kernel
theorem dX8_die_7 : decode cX8_die 7 = .ok (.iload_n 1, 1) := by decide +kernel
theorem dX8_die_8 : decode cX8_die 8 = .ok (.invokevirtual 73, 3) := by decide +kernel
theorem dX8_die_11 : decode cX8_die 11 = .ok (.ifCond .ne 5, 3) := by decide +kernel
theorem dX8_die_14 : decode cX8_die 14 = .ok (.iconst (-1), 1) := by decide +kernel
theorem dX8_die_15 : decode cX8_die 15 = .ok (.ireturn, 1) := by decide +kernel
theorem dX8_die_16 : decode cX8_die 16 = .ok (.aload_n 0, 1) := by decide +kernel
theorem dX8_die_17 : decode cX8_die 17 = .ok (.getfield 10, 3) := by decide +kernel
theorem dX8_die_20 : decode cX8_die 20 = .ok (.getfield 59, 3) := by decide +kernel
theorem dX8_die_23 : decode cX8_die 23 = .ok (.iload_n 1, 1) := by decide +kernel
theorem dX8_die_24 : decode cX8_die 24 = .ok (.invokevirtual 77, 3) := by decide +kernel
theorem dX8_die_27 : decode cX8_die 27 = .ok (.aload_n 0, 1) := by decide +kernel
theorem dX8_die_28 : decode cX8_die 28 = .ok (.getfield 10, 3) := by decide +kernel
theorem dX8_die_31 : decode cX8_die 31 = .ok (.getfield 59, 3) := by decide +kernel
theorem dX8_die_34 : decode cX8_die 34 = .ok (.invokevirtual 69, 3) := by decide +kernel
theorem dX8_die_37 : decode cX8_die 37 = .ok (.ireturn, 1) := by decide +kernel
theorem dX8_weight_0 : decode cX8_weight 0 = .ok (.iload_n 1, 1) := by decide +kernel
theorem dX8_weight_1 : decode cX8_weight 1 = .ok (.iconst 1, 1) := by decide +kernel
theorem dX8_weight_2 : decode cX8_weight 2 = .ok (.bipush 9, 2) := by decide +kernel
theorem dX8_weight_4 : decode cX8_weight 4 = .ok (.invokestatic 55, 3) := by decide +kernel
theorem dX8_weight_7 : decode cX8_weight 7 = .ok (.ifCond .eq 13, 3) := by decide +kernel
theorem dX8_weight_10 : decode cX8_weight 10 = .ok (.iload_n 2, 1) := by decide +kernel
theorem dX8_weight_11 : decode cX8_weight 11 = .ok (.iconst 0, 1) := by decide +kernel
theorem dX8_weight_12 : decode cX8_weight 12 = .ok (.bipush 9, 2) := by decide +kernel
theorem dX8_weight_14 : decode cX8_weight 14 = .ok (.invokestatic 55, 3) := by decide +kernel
theorem dX8_weight_17 : decode cX8_weight 17 = .ok (.ifCond .ne 6, 3) := by decide +kernel
theorem dX8_weight_20 : decode cX8_weight 20 = .ok (.bipush (-2), 2) := by decide +kernel
theorem dX8_weight_22 : decode cX8_weight 22 = .ok (.ireturn, 1) := by decide +kernel
theorem dX8_weight_23 : decode cX8_weight 23 = .ok (.aload_n 0, 1) := by decide +kernel
theorem dX8_weight_24 : decode cX8_weight 24 = .ok (.getfield 10, 3) := by decide +kernel
theorem dX8_weight_27 : decode cX8_weight 27 = .ok (.getfield 81, 3) := by decide +kernel
theorem dX8_weight_30 : decode cX8_weight 30 = .ok (.iload_n 1, 1) := by decide +kernel
theorem dX8_weight_31 : decode cX8_weight 31 = .ok (.iaload, 1) := by decide +kernel
theorem dX8_weight_32 : decode cX8_weight 32 = .ok (.istore_n 3, 1) := by decide +kernel
theorem dX8_weight_33 : decode cX8_weight 33 = .ok (.iload_n 2, 1) := by decide +kernel
theorem dX8_weight_34 : decode cX8_weight 34 = .ok (.ifCond .ne 17, 3) := by decide +kernel
theorem dX8_weight_37 : decode cX8_weight 37 = .ok (.aload_n 0, 1) := by decide +kernel
theorem dX8_weight_38 : decode cX8_weight 38 = .ok (.getfield 10, 3) := by decide +kernel
theorem dX8_weight_41 : decode cX8_weight 41 = .ok (.invokevirtual 85, 3) := by decide +kernel
theorem dX8_weight_44 : decode cX8_weight 44 = .ok (.iload_n 3, 1) := by decide +kernel
theorem dX8_weight_45 : decode cX8_weight 45 = .ok (.if_icmp .ne 6, 3) := by decide +kernel
theorem dX8_weight_48 : decode cX8_weight 48 = .ok (.bipush (-3), 2) := by decide +kernel
theorem dX8_weight_50 : decode cX8_weight 50 = .ok (.ireturn, 1) := by decide +kernel
theorem dX8_weight_51 : decode cX8_weight 51 = .ok (.aload_n 0, 1) := by decide +kernel
theorem dX8_weight_52 : decode cX8_weight 52 = .ok (.getfield 10, 3) := by decide +kernel
theorem dX8_weight_55 : decode cX8_weight 55 = .ok (.getfield 81, 3) := by decide +kernel
theorem dX8_weight_58 : decode cX8_weight 58 = .ok (.iload_n 1, 1) := by decide +kernel
theorem dX8_weight_59 : decode cX8_weight 59 = .ok (.iload_n 2, 1) := by decide +kernel
theorem dX8_weight_60 : decode cX8_weight 60 = .ok (.iastore, 1) := by decide +kernel
theorem dX8_weight_61 : decode cX8_weight 61 = .ok (.aload_n 0, 1) := by decide +kernel
theorem dX8_weight_62 : decode cX8_weight 62 = .ok (.getfield 37, 3) := by decide +kernel
theorem dX8_weight_65 : decode cX8_weight 65 = .ok (.invokevirtual 88, 3) := by decide +kernel
theorem dX8_weight_68 : decode cX8_weight 68 = .ok (.iload_n 3, 1) := by decide +kernel
theorem dX8_weight_69 : decode cX8_weight 69 = .ok (.ireturn, 1) := by decide +kernel
theorem dX8_say_0 : decode cX8_say 0 = .ok (.iload_n 1, 1) := by decide +kernel
theorem dX8_say_1 : decode cX8_say 1 = .ok (.bipush 33, 2) := by decide +kernel
theorem dX8_say_3 : decode cX8_say 3 = .ok (.bipush 126, 2) := by decide +kernel
theorem dX8_say_5 : decode cX8_say 5 = .ok (.invokestatic 55, 3) := by decide +kernel
theorem dX8_say_8 : decode cX8_say 8 = .ok (.ifCond .ne 6, 3) := by decide +kernel
theorem dX8_say_11 : decode cX8_say 11 = .ok (.bipush (-2), 2) := by decide +kernel
theorem dX8_say_13 : decode cX8_say 13 = .ok (.ireturn, 1) := by decide +kernel
theorem dX8_say_14 : decode cX8_say 14 = .ok (.aload_n 0, 1) := by decide +kernel
theorem dX8_say_15 : decode cX8_say 15 = .ok (.getfield 23, 3) := by decide +kernel
theorem dX8_say_18 : decode cX8_say 18 = .ok (.getfield 91, 3) := by decide +kernel
theorem dX8_say_21 : decode cX8_say 21 = .ok (.bipush 60, 2) := by decide +kernel
theorem dX8_say_23 : decode cX8_say 23 = .ok (.if_icmp .lt 6, 3) := by decide +kernel
theorem dX8_say_26 : decode cX8_say 26 = .ok (.bipush (-4), 2) := by decide +kernel
theorem dX8_say_28 : decode cX8_say 28 = .ok (.ireturn, 1) := by decide +kernel
theorem dX8_say_29 : decode cX8_say 29 = .ok (.aload_n 0, 1) := by decide +kernel
theorem dX8_say_30 : decode cX8_say 30 = .ok (.getfield 23, 3) := by decide +kernel
theorem dX8_say_33 : decode cX8_say 33 = .ok (.iload_n 1, 1) := by decide +kernel
theorem dX8_say_34 : decode cX8_say 34 = .ok (.invokevirtual 94, 3) := by decide +kernel
theorem dX8_say_37 : decode cX8_say 37 = .ok (.aload_n 0, 1) := by decide +kernel
theorem dX8_say_38 : decode cX8_say 38 = .ok (.getfield 23, 3) := by decide +kernel
theorem dX8_say_41 : decode cX8_say 41 = .ok (.getfield 91, 3) := by decide +kernel
theorem dX8_say_44 : decode cX8_say 44 = .ok (.ireturn, 1) := by decide +kernel
theorem dX8_wipe_0 : decode cX8_wipe 0 = .ok (.aload_n 0, 1) := by decide +kernel
theorem dX8_wipe_1 : decode cX8_wipe 1 = .ok (.getfield 23, 3) := by decide +kernel
theorem dX8_wipe_4 : decode cX8_wipe 4 = .ok (.getfield 91, 3) := by decide +kernel
theorem dX8_wipe_7 : decode cX8_wipe 7 = .ok (.istore_n 1, 1) := by decide +kernel
theorem dX8_wipe_8 : decode cX8_wipe 8 = .ok (.aload_n 0, 1) := by decide +kernel
theorem dX8_wipe_9 : decode cX8_wipe 9 = .ok (.getfield 23, 3) := by decide +kernel
theorem dX8_wipe_12 : decode cX8_wipe 12 = .ok (.iconst 0, 1) := by decide +kernel
theorem dX8_wipe_13 : decode cX8_wipe 13 = .ok (.putfield 91, 3) := by decide +kernel
theorem dX8_wipe_16 : decode cX8_wipe 16 = .ok (.iload_n 1, 1) := by decide +kernel
theorem dX8_wipe_17 : decode cX8_wipe 17 = .ok (.ireturn, 1) := by decide +kernel
theorem dX8_fault_0 : decode cX8_fault 0 = .ok (.aload_n 0, 1) := by decide +kernel
theorem dX8_fault_1 : decode cX8_fault 1 = .ok (.getfield 23, 3) := by decide +kernel
theorem dX8_fault_4 : decode cX8_fault 4 = .ok (.invokevirtual 97, 3) := by decide +kernel
theorem dX8_fault_7 : decode cX8_fault 7 = .ok (.ireturn, 1) := by decide +kernel
theorem dX8_judge_0 : decode cX8_judge 0 = .ok (.iload_n 1, 1) := by decide +kernel
theorem dX8_judge_1 : decode cX8_judge 1 = .ok (.iconst 0, 1) := by decide +kernel
theorem dX8_judge_2 : decode cX8_judge 2 = .ok (.iconst 1, 1) := by decide +kernel
theorem dX8_judge_3 : decode cX8_judge 3 = .ok (.invokestatic 55, 3) := by decide +kernel
theorem dX8_judge_6 : decode cX8_judge 6 = .ok (.ifCond .ne 6, 3) := by decide +kernel
theorem dX8_judge_9 : decode cX8_judge 9 = .ok (.bipush (-2), 2) := by decide +kernel
theorem dX8_judge_11 : decode cX8_judge 11 = .ok (.ireturn, 1) := by decide +kernel
theorem dX8_judge_12 : decode cX8_judge 12 = .ok (.aload_n 0, 1) := by decide +kernel
theorem dX8_judge_13 : decode cX8_judge 13 = .ok (.getfield 23, 3) := by decide +kernel
theorem dX8_judge_16 : decode cX8_judge 16 = .ok (.invokevirtual 97, 3) := by decide +kernel
theorem dX8_judge_19 : decode cX8_judge 19 = .ok (.bipush (-6), 2) := by decide +kernel
theorem dX8_judge_21 : decode cX8_judge 21 = .ok (.if_icmp .eq 6, 3) := by decide +kernel
theorem dX8_judge_24 : decode cX8_judge 24 = .ok (.bipush (-5), 2) := by decide +kernel
theorem dX8_judge_26 : decode cX8_judge 26 = .ok (.ireturn, 1) := by decide +kernel
theorem dX8_judge_27 : decode cX8_judge 27 = .ok (.aload_n 0, 1) := by decide +kernel
theorem dX8_judge_28 : decode cX8_judge 28 = .ok (.getfield 30, 3) := by decide +kernel
theorem dX8_judge_31 : decode cX8_judge 31 = .ok (.aload_n 0, 1) := by decide +kernel
theorem dX8_judge_32 : decode cX8_judge 32 = .ok (.getfield 10, 3) := by decide +kernel
theorem dX8_judge_35 : decode cX8_judge 35 = .ok (.getfield 59, 3) := by decide +kernel
theorem dX8_judge_38 : decode cX8_judge 38 = .ok (.aload_n 0, 1) := by decide +kernel
theorem dX8_judge_39 : decode cX8_judge 39 = .ok (.getfield 23, 3) := by decide +kernel
theorem dX8_judge_42 : decode cX8_judge 42 = .ok (.invokevirtual 100, 3) := by decide +kernel
theorem dX8_judge_45 : decode cX8_judge 45 = .ok (.iload_n 1, 1) := by decide +kernel
theorem dX8_judge_46 : decode cX8_judge 46 = .ok (.ifCond .ne 13, 3) := by decide +kernel
theorem dX8_judge_49 : decode cX8_judge 49 = .ok (.aload_n 0, 1) := by decide +kernel
theorem dX8_judge_50 : decode cX8_judge 50 = .ok (.getfield 30, 3) := by decide +kernel
theorem dX8_judge_53 : decode cX8_judge 53 = .ok (.getfield 104, 3) := by decide +kernel
theorem dX8_judge_56 : decode cX8_judge 56 = .ok (.goto 10, 3) := by decide +kernel
theorem dX8_judge_59 : decode cX8_judge 59 = .ok (.aload_n 0, 1) := by decide +kernel
theorem dX8_judge_60 : decode cX8_judge 60 = .ok (.getfield 30, 3) := by decide +kernel
theorem dX8_judge_63 : decode cX8_judge 63 = .ok (.getfield 107, 3) := by decide +kernel
theorem dX8_judge_66 : decode cX8_judge 66 = .ok (.ireturn, 1) := by decide +kernel
theorem dX8_done_0 : decode cX8_done 0 = .ok (.aload_n 0, 1) := by decide +kernel
theorem dX8_done_1 : decode cX8_done 1 = .ok (.invokevirtual 110, 3) := by decide +kernel
theorem dX8_done_4 : decode cX8_done 4 = .ok (.ifCond .ne 6, 3) := by decide +kernel
theorem dX8_done_7 : decode cX8_done 7 = .ok (.bipush (-5), 2) := by decide +kernel
theorem dX8_done_9 : decode cX8_done 9 = .ok (.ireturn, 1) := by decide +kernel
theorem dX8_done_10 : decode cX8_done 10 = .ok (.aload_n 0, 1) := by decide +kernel
theorem dX8_done_11 : decode cX8_done 11 = .ok (.getfield 10, 3) := by decide +kernel
theorem dX8_done_14 : decode cX8_done 14 = .ok (.getfield 59, 3) := by decide +kernel
theorem dX8_done_17 : decode cX8_done 17 = .ok (.aload_n 0, 1) := by decide +kernel
theorem dX8_done_18 : decode cX8_done 18 = .ok (.getfield 30, 3) := by decide +kernel
theorem dX8_done_21 : decode cX8_done 21 = .ok (.getfield 114, 3) := by decide +kernel
theorem dX8_done_24 : decode cX8_done 24 = .ok (.invokevirtual 117, 3) := by decide +kernel
theorem dX8_done_27 : decode cX8_done 27 = .ok (.aload_n 0, 1) := by decide +kernel
theorem dX8_done_28 : decode cX8_done 28 = .ok (.getfield 23, 3) := by decide +kernel
theorem dX8_done_31 : decode cX8_done 31 = .ok (.iconst 0, 1) := by decide +kernel
theorem dX8_done_32 : decode cX8_done 32 = .ok (.putfield 91, 3) := by decide +kernel
theorem dX8_done_35 : decode cX8_done 35 = .ok (.aload_n 0, 1) := by decide +kernel
theorem dX8_done_36 : decode cX8_done 36 = .ok (.getfield 30, 3) := by decide +kernel
theorem dX8_done_39 : decode cX8_done 39 = .ok (.getfield 121, 3) := by decide +kernel
theorem dX8_done_42 : decode cX8_done 42 = .ok (.ireturn, 1) := by decide +kernel
theorem dX8_state_0 : decode cX8_state 0 = .ok (.aload_n 0, 1) := by decide +kernel
theorem dX8_state_1 : decode cX8_state 1 = .ok (.getfield 10, 3) := by decide +kernel
theorem dX8_state_4 : decode cX8_state 4 = .ok (.getfield 59, 3) := by decide +kernel
theorem dX8_state_7 : decode cX8_state 7 = .ok (.iload_n 1, 1) := by decide +kernel
theorem dX8_state_8 : decode cX8_state 8 = .ok (.invokevirtual 73, 3) := by decide +kernel
theorem dX8_state_11 : decode cX8_state 11 = .ok (.ifCond .ne 5, 3) := by decide +kernel
theorem dX8_state_14 : decode cX8_state 14 = .ok (.iconst (-1), 1) := by decide +kernel
theorem dX8_state_15 : decode cX8_state 15 = .ok (.ireturn, 1) := by decide +kernel
theorem dX8_state_16 : decode cX8_state 16 = .ok (.iload_n 2, 1) := by decide +kernel
theorem dX8_state_17 : decode cX8_state 17 = .ok (.iconst 0, 1) := by decide +kernel
theorem dX8_state_18 : decode cX8_state 18 = .ok (.iconst 2, 1) := by decide +kernel
theorem dX8_state_19 : decode cX8_state 19 = .ok (.invokestatic 55, 3) := by decide +kernel
theorem dX8_state_22 : decode cX8_state 22 = .ok (.ifCond .ne 6, 3) := by decide +kernel
theorem dX8_state_25 : decode cX8_state 25 = .ok (.bipush (-2), 2) := by decide +kernel
theorem dX8_state_27 : decode cX8_state 27 = .ok (.ireturn, 1) := by decide +kernel
theorem dX8_state_28 : decode cX8_state 28 = .ok (.aload_n 0, 1) := by decide +kernel
theorem dX8_state_29 : decode cX8_state 29 = .ok (.getfield 10, 3) := by decide +kernel
theorem dX8_state_32 : decode cX8_state 32 = .ok (.getfield 59, 3) := by decide +kernel
theorem dX8_state_35 : decode cX8_state 35 = .ok (.iload_n 1, 1) := by decide +kernel
theorem dX8_state_36 : decode cX8_state 36 = .ok (.iload_n 2, 1) := by decide +kernel
theorem dX8_state_37 : decode cX8_state 37 = .ok (.invokevirtual 124, 3) := by decide +kernel
theorem dX8_state_40 : decode cX8_state 40 = .ok (.ireturn, 1) := by decide +kernel
theorem dX8_behind_0 : decode cX8_behind 0 = .ok (.aload_n 0, 1) := by decide +kernel
theorem dX8_behind_1 : decode cX8_behind 1 = .ok (.getfield 10, 3) := by decide +kernel
theorem dX8_behind_4 : decode cX8_behind 4 = .ok (.getfield 59, 3) := by decide +kernel
theorem dX8_behind_7 : decode cX8_behind 7 = .ok (.iload_n 1, 1) := by decide +kernel
theorem dX8_behind_8 : decode cX8_behind 8 = .ok (.invokevirtual 73, 3) := by decide +kernel
theorem dX8_behind_11 : decode cX8_behind 11 = .ok (.ifCond .ne 5, 3) := by decide +kernel
theorem dX8_behind_14 : decode cX8_behind 14 = .ok (.iconst (-1), 1) := by decide +kernel
theorem dX8_behind_15 : decode cX8_behind 15 = .ok (.ireturn, 1) := by decide +kernel
theorem dX8_behind_16 : decode cX8_behind 16 = .ok (.iload_n 2, 1) := by decide +kernel
theorem dX8_behind_17 : decode cX8_behind 17 = .ok (.iconst 0, 1) := by decide +kernel
theorem dX8_behind_18 : decode cX8_behind 18 = .ok (.iconst 2, 1) := by decide +kernel
theorem dX8_behind_19 : decode cX8_behind 19 = .ok (.invokestatic 55, 3) := by decide +kernel
theorem dX8_behind_22 : decode cX8_behind 22 = .ok (.ifCond .ne 6, 3) := by decide +kernel
theorem dX8_behind_25 : decode cX8_behind 25 = .ok (.bipush (-2), 2) := by decide +kernel
theorem dX8_behind_27 : decode cX8_behind 27 = .ok (.ireturn, 1) := by decide +kernel
theorem dX8_behind_28 : decode cX8_behind 28 = .ok (.aload_n 0, 1) := by decide +kernel
theorem dX8_behind_29 : decode cX8_behind 29 = .ok (.invokevirtual 110, 3) := by decide +kernel
theorem dX8_behind_32 : decode cX8_behind 32 = .ok (.ifCond .ne 6, 3) := by decide +kernel
theorem dX8_behind_35 : decode cX8_behind 35 = .ok (.bipush (-5), 2) := by decide +kernel
theorem dX8_behind_37 : decode cX8_behind 37 = .ok (.ireturn, 1) := by decide +kernel
theorem dX8_behind_38 : decode cX8_behind 38 = .ok (.aload_n 0, 1) := by decide +kernel
theorem dX8_behind_39 : decode cX8_behind 39 = .ok (.getfield 30, 3) := by decide +kernel
theorem dX8_behind_42 : decode cX8_behind 42 = .ok (.getfield 114, 3) := by decide +kernel
theorem dX8_behind_45 : decode cX8_behind 45 = .ok (.iload_n 1, 1) := by decide +kernel
theorem dX8_behind_46 : decode cX8_behind 46 = .ok (.iload_n 2, 1) := by decide +kernel
theorem dX8_behind_47 : decode cX8_behind 47 = .ok (.invokevirtual 124, 3) := by decide +kernel
theorem dX8_behind_50 : decode cX8_behind 50 = .ok (.ireturn, 1) := by decide +kernel
theorem dX8_acts_0 : decode cX8_acts 0 = .ok (.iload_n 1, 1) := by decide +kernel
theorem dX8_acts_1 : decode cX8_acts 1 = .ok (.iconst 0, 1) := by decide +kernel
theorem dX8_acts_2 : decode cX8_acts 2 = .ok (.iconst 1, 1) := by decide +kernel
theorem dX8_acts_3 : decode cX8_acts 3 = .ok (.invokestatic 55, 3) := by decide +kernel
theorem dX8_acts_6 : decode cX8_acts 6 = .ok (.ifCond .ne 6, 3) := by decide +kernel
theorem dX8_acts_9 : decode cX8_acts 9 = .ok (.bipush (-2), 2) := by decide +kernel
theorem dX8_acts_11 : decode cX8_acts 11 = .ok (.ireturn, 1) := by decide +kernel
theorem dX8_acts_12 : decode cX8_acts 12 = .ok (.aload_n 0, 1) := by decide +kernel
theorem dX8_acts_13 : decode cX8_acts 13 = .ok (.invokevirtual 110, 3) := by decide +kernel
theorem dX8_acts_16 : decode cX8_acts 16 = .ok (.ifCond .ne 6, 3) := by decide +kernel
theorem dX8_acts_19 : decode cX8_acts 19 = .ok (.bipush (-5), 2) := by decide +kernel
theorem dX8_acts_21 : decode cX8_acts 21 = .ok (.ireturn, 1) := by decide +kernel
theorem dX8_acts_22 : decode cX8_acts 22 = .ok (.iload_n 1, 1) := by decide +kernel
theorem dX8_acts_23 : decode cX8_acts 23 = .ok (.ifCond .ne 13, 3) := by decide +kernel
theorem dX8_acts_26 : decode cX8_acts 26 = .ok (.aload_n 0, 1) := by decide +kernel
theorem dX8_acts_27 : decode cX8_acts 27 = .ok (.getfield 30, 3) := by decide +kernel
theorem dX8_acts_30 : decode cX8_acts 30 = .ok (.getfield 128, 3) := by decide +kernel
theorem dX8_acts_33 : decode cX8_acts 33 = .ok (.goto 10, 3) := by decide +kernel
theorem dX8_acts_36 : decode cX8_acts 36 = .ok (.aload_n 0, 1) := by decide +kernel
theorem dX8_acts_37 : decode cX8_acts 37 = .ok (.getfield 30, 3) := by decide +kernel
theorem dX8_acts_40 : decode cX8_acts 40 = .ok (.getfield 131, 3) := by decide +kernel
theorem dX8_acts_43 : decode cX8_acts 43 = .ok (.ireturn, 1) := by decide +kernel
theorem dX8_owes_0 : decode cX8_owes 0 = .ok (.aload_n 0, 1) := by decide +kernel
theorem dX8_owes_1 : decode cX8_owes 1 = .ok (.getfield 10, 3) := by decide +kernel
theorem dX8_owes_4 : decode cX8_owes 4 = .ok (.getfield 59, 3) := by decide +kernel
theorem dX8_owes_7 : decode cX8_owes 7 = .ok (.iload_n 1, 1) := by decide +kernel
theorem dX8_owes_8 : decode cX8_owes 8 = .ok (.invokevirtual 73, 3) := by decide +kernel
theorem dX8_owes_11 : decode cX8_owes 11 = .ok (.ifCond .eq 22, 3) := by decide +kernel
theorem dX8_owes_14 : decode cX8_owes 14 = .ok (.aload_n 0, 1) := by decide +kernel
theorem dX8_owes_15 : decode cX8_owes 15 = .ok (.getfield 10, 3) := by decide +kernel
theorem dX8_owes_18 : decode cX8_owes 18 = .ok (.getfield 59, 3) := by decide +kernel
theorem dX8_owes_21 : decode cX8_owes 21 = .ok (.iload_n 2, 1) := by decide +kernel
theorem dX8_owes_22 : decode cX8_owes 22 = .ok (.invokevirtual 73, 3) := by decide +kernel
theorem dX8_owes_25 : decode cX8_owes 25 = .ok (.ifCond .eq 8, 3) := by decide +kernel
theorem dX8_owes_28 : decode cX8_owes 28 = .ok (.iload_n 1, 1) := by decide +kernel
theorem dX8_owes_29 : decode cX8_owes 29 = .ok (.iload_n 2, 1) := by decide +kernel
theorem dX8_owes_30 : decode cX8_owes 30 = .ok (.if_icmp .ne 5, 3) := by decide +kernel
theorem dX8_owes_33 : decode cX8_owes 33 = .ok (.iconst (-1), 1) := by decide +kernel
theorem dX8_owes_34 : decode cX8_owes 34 = .ok (.ireturn, 1) := by decide +kernel
theorem dX8_owes_35 : decode cX8_owes 35 = .ok (.aload_n 0, 1) := by decide +kernel
theorem dX8_owes_36 : decode cX8_owes 36 = .ok (.getfield 10, 3) := by decide +kernel
theorem dX8_owes_39 : decode cX8_owes 39 = .ok (.getfield 59, 3) := by decide +kernel
theorem dX8_owes_42 : decode cX8_owes 42 = .ok (.iload_n 1, 1) := by decide +kernel
theorem dX8_owes_43 : decode cX8_owes 43 = .ok (.iload_n 2, 1) := by decide +kernel
theorem dX8_owes_44 : decode cX8_owes 44 = .ok (.invokevirtual 134, 3) := by decide +kernel
theorem dX8_owes_47 : decode cX8_owes 47 = .ok (.ireturn, 1) := by decide +kernel
theorem dX8_who_0 : decode cX8_who 0 = .ok (.iload_n 1, 1) := by decide +kernel
theorem dX8_who_1 : decode cX8_who 1 = .ok (.iconst 0, 1) := by decide +kernel
theorem dX8_who_2 : decode cX8_who 2 = .ok (.iconst 1, 1) := by decide +kernel
theorem dX8_who_3 : decode cX8_who 3 = .ok (.invokestatic 55, 3) := by decide +kernel
theorem dX8_who_6 : decode cX8_who 6 = .ok (.ifCond .ne 6, 3) := by decide +kernel
theorem dX8_who_9 : decode cX8_who 9 = .ok (.bipush (-2), 2) := by decide +kernel
theorem dX8_who_11 : decode cX8_who 11 = .ok (.ireturn, 1) := by decide +kernel
theorem dX8_who_12 : decode cX8_who 12 = .ok (.iload_n 1, 1) := by decide +kernel
theorem dX8_who_13 : decode cX8_who 13 = .ok (.ifCond .ne 16, 3) := by decide +kernel
theorem dX8_who_16 : decode cX8_who 16 = .ok (.aload_n 0, 1) := by decide +kernel
theorem dX8_who_17 : decode cX8_who 17 = .ok (.getfield 10, 3) := by decide +kernel
theorem dX8_who_20 : decode cX8_who 20 = .ok (.getfield 59, 3) := by decide +kernel
theorem dX8_who_23 : decode cX8_who 23 = .ok (.invokevirtual 137, 3) := by decide +kernel
theorem dX8_who_26 : decode cX8_who 26 = .ok (.goto 13, 3) := by decide +kernel
theorem dX8_who_29 : decode cX8_who 29 = .ok (.aload_n 0, 1) := by decide +kernel
theorem dX8_who_30 : decode cX8_who 30 = .ok (.getfield 10, 3) := by decide +kernel
theorem dX8_who_33 : decode cX8_who 33 = .ok (.getfield 59, 3) := by decide +kernel
theorem dX8_who_36 : decode cX8_who 36 = .ok (.invokevirtual 140, 3) := by decide +kernel
theorem dX8_who_39 : decode cX8_who 39 = .ok (.ireturn, 1) := by decide +kernel
theorem dX8_allCanBe_0 : decode cX8_allCanBe 0 = .ok (.aload_n 0, 1) := by decide +kernel
theorem dX8_allCanBe_1 : decode cX8_allCanBe 1 = .ok (.getfield 23, 3) := by decide +kernel
theorem dX8_allCanBe_4 : decode cX8_allCanBe 4 = .ok (.invokevirtual 97, 3) := by decide +kernel
theorem dX8_allCanBe_7 : decode cX8_allCanBe 7 = .ok (.bipush (-6), 2) := by decide +kernel
theorem dX8_allCanBe_9 : decode cX8_allCanBe 9 = .ok (.if_icmp .eq 5, 3) := by decide +kernel
theorem dX8_allCanBe_12 : decode cX8_allCanBe 12 = .ok (.iconst 0, 1) := by decide +kernel
theorem dX8_allCanBe_13 : decode cX8_allCanBe 13 = .ok (.ireturn, 1) := by decide +kernel
theorem dX8_allCanBe_14 : decode cX8_allCanBe 14 = .ok (.aload_n 0, 1) := by decide +kernel
theorem dX8_allCanBe_15 : decode cX8_allCanBe 15 = .ok (.getfield 30, 3) := by decide +kernel
theorem dX8_allCanBe_18 : decode cX8_allCanBe 18 = .ok (.aload_n 0, 1) := by decide +kernel
theorem dX8_allCanBe_19 : decode cX8_allCanBe 19 = .ok (.getfield 10, 3) := by decide +kernel
theorem dX8_allCanBe_22 : decode cX8_allCanBe 22 = .ok (.getfield 59, 3) := by decide +kernel
theorem dX8_allCanBe_25 : decode cX8_allCanBe 25 = .ok (.aload_n 0, 1) := by decide +kernel
theorem dX8_allCanBe_26 : decode cX8_allCanBe 26 = .ok (.getfield 23, 3) := by decide +kernel
theorem dX8_allCanBe_29 : decode cX8_allCanBe 29 = .ok (.invokevirtual 100, 3) := by decide +kernel
theorem dX8_allCanBe_32 : decode cX8_allCanBe 32 = .ok (.aload_n 0, 1) := by decide +kernel
theorem dX8_allCanBe_33 : decode cX8_allCanBe 33 = .ok (.getfield 30, 3) := by decide +kernel
theorem dX8_allCanBe_36 : decode cX8_allCanBe 36 = .ok (.getfield 104, 3) := by decide +kernel
theorem dX8_allCanBe_39 : decode cX8_allCanBe 39 = .ok (.bipush (-6), 2) := by decide +kernel
theorem dX8_allCanBe_41 : decode cX8_allCanBe 41 = .ok (.if_icmp .ne 7, 3) := by decide +kernel
theorem dX8_allCanBe_44 : decode cX8_allCanBe 44 = .ok (.iconst 1, 1) := by decide +kernel
theorem dX8_allCanBe_45 : decode cX8_allCanBe 45 = .ok (.goto 4, 3) := by decide +kernel
theorem dX8_allCanBe_48 : decode cX8_allCanBe 48 = .ok (.iconst 0, 1) := by decide +kernel
theorem dX8_allCanBe_49 : decode cX8_allCanBe 49 = .ok (.ireturn, 1) := by decide +kernel
theorem dX8_best_0 : decode cX8_best 0 = .ok (.iload_n 1, 1) := by decide +kernel
theorem dX8_best_1 : decode cX8_best 1 = .ok (.iload_n 2, 1) := by decide +kernel
theorem dX8_best_2 : decode cX8_best 2 = .ok (.invokestatic 143, 3) := by decide +kernel
theorem dX8_best_5 : decode cX8_best 5 = .ok (.ifCond .eq 12, 3) := by decide +kernel
theorem dX8_best_8 : decode cX8_best 8 = .ok (.iload_n 3, 1) := by decide +kernel
theorem dX8_best_9 : decode cX8_best 9 = .ok (.iconst 0, 1) := by decide +kernel
theorem dX8_best_10 : decode cX8_best 10 = .ok (.iconst 1, 1) := by decide +kernel
theorem dX8_best_11 : decode cX8_best 11 = .ok (.invokestatic 55, 3) := by decide +kernel
theorem dX8_best_14 : decode cX8_best 14 = .ok (.ifCond .ne 7, 3) := by decide +kernel
theorem dX8_best_17 : decode cX8_best 17 = .ok (.ldc2_w 147, 3) := by decide +kernel
theorem dX8_best_20 : decode cX8_best 20 = .ok (.lreturn, 1) := by decide +kernel
theorem dX8_best_21 : decode cX8_best 21 = .ok (.aload_n 0, 1) := by decide +kernel
theorem dX8_best_22 : decode cX8_best 22 = .ok (.getfield 37, 3) := by decide +kernel
theorem dX8_best_25 : decode cX8_best 25 = .ok (.aload_n 0, 1) := by decide +kernel
theorem dX8_best_26 : decode cX8_best 26 = .ok (.getfield 10, 3) := by decide +kernel
theorem dX8_best_29 : decode cX8_best 29 = .ok (.invokevirtual 149, 3) := by decide +kernel
theorem dX8_best_32 : decode cX8_best 32 = .ok (.aload_n 0, 1) := by decide +kernel
theorem dX8_best_33 : decode cX8_best 33 = .ok (.getfield 37, 3) := by decide +kernel
theorem dX8_best_36 : decode cX8_best 36 = .ok (.iload_n 1, 1) := by decide +kernel
theorem dX8_best_37 : decode cX8_best 37 = .ok (.iload_n 2, 1) := by decide +kernel
theorem dX8_best_38 : decode cX8_best 38 = .ok (.invokevirtual 153, 3) := by decide +kernel
theorem dX8_best_41 : decode cX8_best 41 = .ok (.aload_n 0, 1) := by decide +kernel
theorem dX8_best_42 : decode cX8_best 42 = .ok (.getfield 37, 3) := by decide +kernel
theorem dX8_best_45 : decode cX8_best 45 = .ok (.iload_n 2, 1) := by decide +kernel
theorem dX8_best_46 : decode cX8_best 46 = .ok (.invokevirtual 157, 3) := by decide +kernel
theorem dX8_best_49 : decode cX8_best 49 = .ok (.iload_n 3, 1) := by decide +kernel
theorem dX8_best_50 : decode cX8_best 50 = .ok (.invokestatic 161, 3) := by decide +kernel
theorem dX8_best_53 : decode cX8_best 53 = .ok (.lreturn, 1) := by decide +kernel
theorem dX8_least_0 : decode cX8_least 0 = .ok (.iload_n 1, 1) := by decide +kernel
theorem dX8_least_1 : decode cX8_least 1 = .ok (.iload_n 2, 1) := by decide +kernel
theorem dX8_least_2 : decode cX8_least 2 = .ok (.invokestatic 143, 3) := by decide +kernel
theorem dX8_least_5 : decode cX8_least 5 = .ok (.ifCond .ne 6, 3) := by decide +kernel
theorem dX8_least_8 : decode cX8_least 8 = .ok (.bipush (-2), 2) := by decide +kernel
theorem dX8_least_10 : decode cX8_least 10 = .ok (.ireturn, 1) := by decide +kernel
theorem dX8_least_11 : decode cX8_least 11 = .ok (.iload_n 1, 1) := by decide +kernel
theorem dX8_least_12 : decode cX8_least 12 = .ok (.ifCond .eq 7, 3) := by decide +kernel
theorem dX8_least_15 : decode cX8_least 15 = .ok (.iload_n 2, 1) := by decide +kernel
theorem dX8_least_16 : decode cX8_least 16 = .ok (.ifCond .ne 6, 3) := by decide +kernel
theorem dX8_least_19 : decode cX8_least 19 = .ok (.bipush (-6), 2) := by decide +kernel
theorem dX8_least_21 : decode cX8_least 21 = .ok (.ireturn, 1) := by decide +kernel
theorem dX8_least_22 : decode cX8_least 22 = .ok (.aload_n 0, 1) := by decide +kernel
theorem dX8_least_23 : decode cX8_least 23 = .ok (.getfield 37, 3) := by decide +kernel
theorem dX8_least_26 : decode cX8_least 26 = .ok (.aload_n 0, 1) := by decide +kernel
theorem dX8_least_27 : decode cX8_least 27 = .ok (.getfield 10, 3) := by decide +kernel
theorem dX8_least_30 : decode cX8_least 30 = .ok (.invokevirtual 149, 3) := by decide +kernel
theorem dX8_least_33 : decode cX8_least 33 = .ok (.aload_n 0, 1) := by decide +kernel
theorem dX8_least_34 : decode cX8_least 34 = .ok (.getfield 37, 3) := by decide +kernel
theorem dX8_least_37 : decode cX8_least 37 = .ok (.iload_n 1, 1) := by decide +kernel
theorem dX8_least_38 : decode cX8_least 38 = .ok (.iload_n 2, 1) := by decide +kernel
theorem dX8_least_39 : decode cX8_least 39 = .ok (.invokevirtual 165, 3) := by decide +kernel
theorem dX8_least_42 : decode cX8_least 42 = .ok (.ireturn, 1) := by decide +kernel
theorem dX8_price_0 : decode cX8_price 0 = .ok (.iload_n 1, 1) := by decide +kernel
theorem dX8_price_1 : decode cX8_price 1 = .ok (.iconst 0, 1) := by decide +kernel
theorem dX8_price_2 : decode cX8_price 2 = .ok (.bipush 8, 2) := by decide +kernel
theorem dX8_price_4 : decode cX8_price 4 = .ok (.invokestatic 55, 3) := by decide +kernel
theorem dX8_price_7 : decode cX8_price 7 = .ok (.ifCond .eq 20, 3) := by decide +kernel
theorem dX8_price_10 : decode cX8_price 10 = .ok (.iload_n 1, 1) := by decide +kernel
theorem dX8_price_11 : decode cX8_price 11 = .ok (.iload_n 2, 1) := by decide +kernel
theorem dX8_price_12 : decode cX8_price 12 = .ok (.invokestatic 143, 3) := by decide +kernel
theorem dX8_price_15 : decode cX8_price 15 = .ok (.ifCond .eq 12, 3) := by decide +kernel
theorem dX8_price_18 : decode cX8_price 18 = .ok (.iload_n 3, 1) := by decide +kernel
theorem dX8_price_19 : decode cX8_price 19 = .ok (.iconst 0, 1) := by decide +kernel
theorem dX8_price_20 : decode cX8_price 20 = .ok (.iconst 1, 1) := by decide +kernel
theorem dX8_price_21 : decode cX8_price 21 = .ok (.invokestatic 55, 3) := by decide +kernel
theorem dX8_price_24 : decode cX8_price 24 = .ok (.ifCond .ne 7, 3) := by decide +kernel
theorem dX8_price_27 : decode cX8_price 27 = .ok (.ldc2_w 147, 3) := by decide +kernel
theorem dX8_price_30 : decode cX8_price 30 = .ok (.lreturn, 1) := by decide +kernel
theorem dX8_price_31 : decode cX8_price 31 = .ok (.aload_n 0, 1) := by decide +kernel
theorem dX8_price_32 : decode cX8_price 32 = .ok (.getfield 37, 3) := by decide +kernel
theorem dX8_price_35 : decode cX8_price 35 = .ok (.aload_n 0, 1) := by decide +kernel
theorem dX8_price_36 : decode cX8_price 36 = .ok (.getfield 10, 3) := by decide +kernel
theorem dX8_price_39 : decode cX8_price 39 = .ok (.invokevirtual 149, 3) := by decide +kernel
theorem dX8_price_42 : decode cX8_price 42 = .ok (.aload_n 0, 1) := by decide +kernel
theorem dX8_price_43 : decode cX8_price 43 = .ok (.getfield 37, 3) := by decide +kernel
theorem dX8_price_46 : decode cX8_price 46 = .ok (.iload_n 1, 1) := by decide +kernel
theorem dX8_price_47 : decode cX8_price 47 = .ok (.iconst 1, 1) := by decide +kernel
theorem dX8_price_48 : decode cX8_price 48 = .ok (.iadd, 1) := by decide +kernel
theorem dX8_price_49 : decode cX8_price 49 = .ok (.iload_n 2, 1) := by decide +kernel
theorem dX8_price_50 : decode cX8_price 50 = .ok (.invokevirtual 153, 3) := by decide +kernel
theorem dX8_price_53 : decode cX8_price 53 = .ok (.aload_n 0, 1) := by decide +kernel
theorem dX8_price_54 : decode cX8_price 54 = .ok (.getfield 37, 3) := by decide +kernel
theorem dX8_price_57 : decode cX8_price 57 = .ok (.iload_n 1, 1) := by decide +kernel
theorem dX8_price_58 : decode cX8_price 58 = .ok (.iload_n 2, 1) := by decide +kernel
theorem dX8_price_59 : decode cX8_price 59 = .ok (.invokevirtual 153, 3) := by decide +kernel
theorem dX8_price_62 : decode cX8_price 62 = .ok (.lsub, 1) := by decide +kernel
theorem dX8_price_63 : decode cX8_price 63 = .ok (.aload_n 0, 1) := by decide +kernel
theorem dX8_price_64 : decode cX8_price 64 = .ok (.getfield 37, 3) := by decide +kernel
theorem dX8_price_67 : decode cX8_price 67 = .ok (.iload_n 2, 1) := by decide +kernel
theorem dX8_price_68 : decode cX8_price 68 = .ok (.invokevirtual 157, 3) := by decide +kernel
theorem dX8_price_71 : decode cX8_price 71 = .ok (.iload_n 3, 1) := by decide +kernel
theorem dX8_price_72 : decode cX8_price 72 = .ok (.invokestatic 161, 3) := by decide +kernel
theorem dX8_price_75 : decode cX8_price 75 = .ok (.lreturn, 1) := by decide +kernel
theorem dX8_last_0 : decode cX8_last 0 = .ok (.iload_n 1, 1) := by decide +kernel
theorem dX8_last_1 : decode cX8_last 1 = .ok (.iconst 0, 1) := by decide +kernel
theorem dX8_last_2 : decode cX8_last 2 = .ok (.sipush 400, 3) := by decide +kernel
theorem dX8_last_5 : decode cX8_last 5 = .ok (.invokestatic 55, 3) := by decide +kernel
theorem dX8_last_8 : decode cX8_last 8 = .ok (.ifCond .eq 33, 3) := by decide +kernel
theorem dX8_last_11 : decode cX8_last 11 = .ok (.iload_n 2, 1) := by decide +kernel
theorem dX8_last_12 : decode cX8_last 12 = .ok (.iconst 0, 1) := by decide +kernel
theorem dX8_last_13 : decode cX8_last 13 = .ok (.bipush 9, 2) := by decide +kernel
theorem dX8_last_15 : decode cX8_last 15 = .ok (.invokestatic 55, 3) := by decide +kernel
theorem dX8_last_18 : decode cX8_last 18 = .ok (.ifCond .eq 23, 3) := by decide +kernel
theorem dX8_last_21 : decode cX8_last 21 = .ok (.iload_n 3, 1) := by decide +kernel
theorem dX8_last_22 : decode cX8_last 22 = .ok (.iconst 0, 1) := by decide +kernel
theorem dX8_last_23 : decode cX8_last 23 = .ok (.bipush 10, 2) := by decide +kernel
theorem dX8_last_25 : decode cX8_last 25 = .ok (.invokestatic 55, 3) := by decide +kernel
theorem dX8_last_28 : decode cX8_last 28 = .ok (.ifCond .eq 13, 3) := by decide +kernel
theorem dX8_last_31 : decode cX8_last 31 = .ok (.iload 4, 2) := by decide +kernel
theorem dX8_last_33 : decode cX8_last 33 = .ok (.iconst 0, 1) := by decide +kernel
theorem dX8_last_34 : decode cX8_last 34 = .ok (.iconst 1, 1) := by decide +kernel
theorem dX8_last_35 : decode cX8_last 35 = .ok (.invokestatic 55, 3) := by decide +kernel
theorem dX8_last_38 : decode cX8_last 38 = .ok (.ifCond .ne 7, 3) := by decide +kernel
theorem dX8_last_41 : decode cX8_last 41 = .ok (.ldc2_w 147, 3) := by decide +kernel
theorem dX8_last_44 : decode cX8_last 44 = .ok (.lreturn, 1) := by decide +kernel
theorem dX8_last_45 : decode cX8_last 45 = .ok (.iload_n 1, 1) := by decide +kernel
theorem dX8_last_46 : decode cX8_last 46 = .ok (.iload_n 2, 1) := by decide +kernel
theorem dX8_last_47 : decode cX8_last 47 = .ok (.iload_n 3, 1) := by decide +kernel
theorem dX8_last_48 : decode cX8_last 48 = .ok (.invokestatic 168, 3) := by decide +kernel
theorem dX8_last_51 : decode cX8_last 51 = .ok (.bipush 10, 2) := by decide +kernel
theorem dX8_last_53 : decode cX8_last 53 = .ok (.iload_n 2, 1) := by decide +kernel
theorem dX8_last_54 : decode cX8_last 54 = .ok (.invokestatic 172, 3) := by decide +kernel
theorem dX8_last_57 : decode cX8_last 57 = .ok (.iload 4, 2) := by decide +kernel
theorem dX8_last_59 : decode cX8_last 59 = .ok (.invokestatic 161, 3) := by decide +kernel
theorem dX8_last_62 : decode cX8_last 62 = .ok (.lreturn, 1) := by decide +kernel
theorem dX8_netted_0 : decode cX8_netted 0 = .ok (.aload_n 0, 1) := by decide +kernel
theorem dX8_netted_1 : decode cX8_netted 1 = .ok (.getfield 10, 3) := by decide +kernel
theorem dX8_netted_4 : decode cX8_netted 4 = .ok (.getfield 59, 3) := by decide +kernel
theorem dX8_netted_7 : decode cX8_netted 7 = .ok (.iload_n 1, 1) := by decide +kernel
theorem dX8_netted_8 : decode cX8_netted 8 = .ok (.invokevirtual 73, 3) := by decide +kernel
theorem dX8_netted_11 : decode cX8_netted 11 = .ok (.ifCond .ne 5, 3) := by decide +kernel
theorem dX8_netted_14 : decode cX8_netted 14 = .ok (.iconst (-1), 1) := by decide +kernel
theorem dX8_netted_15 : decode cX8_netted 15 = .ok (.ireturn, 1) := by decide +kernel
theorem dX8_netted_16 : decode cX8_netted 16 = .ok (.aload_n 0, 1) := by decide +kernel
theorem dX8_netted_17 : decode cX8_netted 17 = .ok (.getfield 10, 3) := by decide +kernel
theorem dX8_netted_20 : decode cX8_netted 20 = .ok (.getfield 59, 3) := by decide +kernel
theorem dX8_netted_23 : decode cX8_netted 23 = .ok (.iload_n 1, 1) := by decide +kernel
theorem dX8_netted_24 : decode cX8_netted 24 = .ok (.invokevirtual 175, 3) := by decide +kernel
theorem dX8_netted_27 : decode cX8_netted 27 = .ok (.sipush 1000, 3) := by decide +kernel
theorem dX8_netted_30 : decode cX8_netted 30 = .ok (.iadd, 1) := by decide +kernel
theorem dX8_netted_31 : decode cX8_netted 31 = .ok (.ireturn, 1) := by decide +kernel
theorem dX8_hands_0 : decode cX8_hands 0 = .ok (.aload_n 0, 1) := by decide +kernel
theorem dX8_hands_1 : decode cX8_hands 1 = .ok (.getfield 51, 3) := by decide +kernel
theorem dX8_hands_4 : decode cX8_hands 4 = .ok (.aload_n 0, 1) := by decide +kernel
theorem dX8_hands_5 : decode cX8_hands 5 = .ok (.getfield 10, 3) := by decide +kernel
theorem dX8_hands_8 : decode cX8_hands 8 = .ok (.getfield 59, 3) := by decide +kernel
theorem dX8_hands_11 : decode cX8_hands 11 = .ok (.invokevirtual 179, 3) := by decide +kernel
theorem dX8_hands_14 : decode cX8_hands 14 = .ok (.ireturn, 1) := by decide +kernel
theorem dX8_isPlan_0 : decode cX8_isPlan 0 = .ok (.iload_n 0, 1) := by decide +kernel
theorem dX8_isPlan_1 : decode cX8_isPlan 1 = .ok (.iconst 0, 1) := by decide +kernel
theorem dX8_isPlan_2 : decode cX8_isPlan 2 = .ok (.bipush 9, 2) := by decide +kernel
theorem dX8_isPlan_4 : decode cX8_isPlan 4 = .ok (.invokestatic 55, 3) := by decide +kernel
theorem dX8_isPlan_7 : decode cX8_isPlan 7 = .ok (.ifCond .eq 17, 3) := by decide +kernel
theorem dX8_isPlan_10 : decode cX8_isPlan 10 = .ok (.iload_n 1, 1) := by decide +kernel
theorem dX8_isPlan_11 : decode cX8_isPlan 11 = .ok (.iconst 0, 1) := by decide +kernel
theorem dX8_isPlan_12 : decode cX8_isPlan 12 = .ok (.bipush 8, 2) := by decide +kernel
theorem dX8_isPlan_14 : decode cX8_isPlan 14 = .ok (.invokestatic 55, 3) := by decide +kernel
theorem dX8_isPlan_17 : decode cX8_isPlan 17 = .ok (.ifCond .eq 7, 3) := by decide +kernel
theorem dX8_isPlan_20 : decode cX8_isPlan 20 = .ok (.iconst 1, 1) := by decide +kernel
theorem dX8_isPlan_21 : decode cX8_isPlan 21 = .ok (.goto 4, 3) := by decide +kernel
theorem dX8_isPlan_24 : decode cX8_isPlan 24 = .ok (.iconst 0, 1) := by decide +kernel
theorem dX8_isPlan_25 : decode cX8_isPlan 25 = .ok (.ireturn, 1) := by decide +kernel
theorem dX8_match_0 : decode cX8_match 0 = .ok (.aload_n 0, 1) := by decide +kernel
theorem dX8_match_1 : decode cX8_match 1 = .ok (.iload_n 1, 1) := by decide +kernel
theorem dX8_match_2 : decode cX8_match 2 = .ok (.invokevirtual 183, 3) := by decide +kernel
theorem dX8_match_5 : decode cX8_match 5 = .ok (.ifCond .eq 12, 3) := by decide +kernel
theorem dX8_match_8 : decode cX8_match 8 = .ok (.iload_n 2, 1) := by decide +kernel
theorem dX8_match_9 : decode cX8_match 9 = .ok (.iconst 0, 1) := by decide +kernel
theorem dX8_match_10 : decode cX8_match 10 = .ok (.iconst 1, 1) := by decide +kernel
theorem dX8_match_11 : decode cX8_match 11 = .ok (.invokestatic 55, 3) := by decide +kernel
theorem dX8_match_14 : decode cX8_match 14 = .ok (.ifCond .ne 6, 3) := by decide +kernel
theorem dX8_match_17 : decode cX8_match 17 = .ok (.bipush (-2), 2) := by decide +kernel
theorem dX8_match_19 : decode cX8_match 19 = .ok (.ireturn, 1) := by decide +kernel
theorem dX8_match_20 : decode cX8_match 20 = .ok (.aload_n 0, 1) := by decide +kernel
theorem dX8_match_21 : decode cX8_match 21 = .ok (.getfield 44, 3) := by decide +kernel
theorem dX8_match_24 : decode cX8_match 24 = .ok (.aload_n 0, 1) := by decide +kernel
theorem dX8_match_25 : decode cX8_match 25 = .ok (.getfield 10, 3) := by decide +kernel
theorem dX8_match_28 : decode cX8_match 28 = .ok (.getfield 59, 3) := by decide +kernel
theorem dX8_match_31 : decode cX8_match 31 = .ok (.iload_n 1, 1) := by decide +kernel
theorem dX8_match_32 : decode cX8_match 32 = .ok (.invokevirtual 186, 3) := by decide +kernel
theorem dX8_match_35 : decode cX8_match 35 = .ok (.iload_n 2, 1) := by decide +kernel
theorem dX8_match_36 : decode cX8_match 36 = .ok (.ifCond .ne 15, 3) := by decide +kernel
theorem dX8_match_39 : decode cX8_match 39 = .ok (.aload_n 0, 1) := by decide +kernel
theorem dX8_match_40 : decode cX8_match 40 = .ok (.getfield 44, 3) := by decide +kernel
theorem dX8_match_43 : decode cX8_match 43 = .ok (.getfield 190, 3) := by decide +kernel
theorem dX8_match_46 : decode cX8_match 46 = .ok (.iconst 0, 1) := by decide +kernel
theorem dX8_match_47 : decode cX8_match 47 = .ok (.iaload, 1) := by decide +kernel
theorem dX8_match_48 : decode cX8_match 48 = .ok (.goto 12, 3) := by decide +kernel
theorem dX8_match_51 : decode cX8_match 51 = .ok (.aload_n 0, 1) := by decide +kernel
theorem dX8_match_52 : decode cX8_match 52 = .ok (.getfield 44, 3) := by decide +kernel
theorem dX8_match_55 : decode cX8_match 55 = .ok (.getfield 193, 3) := by decide +kernel
theorem dX8_match_58 : decode cX8_match 58 = .ok (.iconst 0, 1) := by decide +kernel
theorem dX8_match_59 : decode cX8_match 59 = .ok (.iaload, 1) := by decide +kernel
theorem dX8_match_60 : decode cX8_match 60 = .ok (.ireturn, 1) := by decide +kernel
theorem dX8_wrote_0 : decode cX8_wrote 0 = .ok (.aload_n 0, 1) := by decide +kernel
theorem dX8_wrote_1 : decode cX8_wrote 1 = .ok (.iload_n 1, 1) := by decide +kernel
theorem dX8_wrote_2 : decode cX8_wrote 2 = .ok (.invokevirtual 183, 3) := by decide +kernel
theorem dX8_wrote_5 : decode cX8_wrote 5 = .ok (.ifCond .eq 23, 3) := by decide +kernel
theorem dX8_wrote_8 : decode cX8_wrote 8 = .ok (.iload_n 2, 1) := by decide +kernel
theorem dX8_wrote_9 : decode cX8_wrote 9 = .ok (.iconst 0, 1) := by decide +kernel
theorem dX8_wrote_10 : decode cX8_wrote 10 = .ok (.aload_n 0, 1) := by decide +kernel
theorem dX8_wrote_11 : decode cX8_wrote 11 = .ok (.getfield 10, 3) := by decide +kernel
theorem dX8_wrote_14 : decode cX8_wrote 14 = .ok (.getfield 59, 3) := by decide +kernel
theorem dX8_wrote_17 : decode cX8_wrote 17 = .ok (.invokevirtual 69, 3) := by decide +kernel
theorem dX8_wrote_20 : decode cX8_wrote 20 = .ok (.iconst 1, 1) := by decide +kernel
theorem dX8_wrote_21 : decode cX8_wrote 21 = .ok (.isub, 1) := by decide +kernel
theorem dX8_wrote_22 : decode cX8_wrote 22 = .ok (.invokestatic 55, 3) := by decide +kernel
theorem dX8_wrote_25 : decode cX8_wrote 25 = .ok (.ifCond .ne 6, 3) := by decide +kernel
theorem dX8_wrote_28 : decode cX8_wrote 28 = .ok (.bipush (-2), 2) := by decide +kernel
theorem dX8_wrote_30 : decode cX8_wrote 30 = .ok (.ireturn, 1) := by decide +kernel
theorem dX8_wrote_31 : decode cX8_wrote 31 = .ok (.aload_n 0, 1) := by decide +kernel
theorem dX8_wrote_32 : decode cX8_wrote 32 = .ok (.getfield 44, 3) := by decide +kernel
theorem dX8_wrote_35 : decode cX8_wrote 35 = .ok (.aload_n 0, 1) := by decide +kernel
theorem dX8_wrote_36 : decode cX8_wrote 36 = .ok (.getfield 10, 3) := by decide +kernel
theorem dX8_wrote_39 : decode cX8_wrote 39 = .ok (.getfield 59, 3) := by decide +kernel
theorem dX8_wrote_42 : decode cX8_wrote 42 = .ok (.iload_n 1, 1) := by decide +kernel
theorem dX8_wrote_43 : decode cX8_wrote 43 = .ok (.invokevirtual 186, 3) := by decide +kernel
theorem dX8_wrote_46 : decode cX8_wrote 46 = .ok (.aload_n 0, 1) := by decide +kernel
theorem dX8_wrote_47 : decode cX8_wrote 47 = .ok (.getfield 44, 3) := by decide +kernel
theorem dX8_wrote_50 : decode cX8_wrote 50 = .ok (.aload_n 0, 1) := by decide +kernel
theorem dX8_wrote_51 : decode cX8_wrote 51 = .ok (.getfield 10, 3) := by decide +kernel
theorem dX8_wrote_54 : decode cX8_wrote 54 = .ok (.getfield 59, 3) := by decide +kernel
theorem dX8_wrote_57 : decode cX8_wrote 57 = .ok (.iload_n 2, 1) := by decide +kernel
theorem dX8_wrote_58 : decode cX8_wrote 58 = .ok (.invokevirtual 196, 3) := by decide +kernel
theorem dX8_wrote_61 : decode cX8_wrote 61 = .ok (.ireturn, 1) := by decide +kernel
theorem dX8_compare_0 : decode cX8_compare 0 = .ok (.iload_n 1, 1) := by decide +kernel
theorem dX8_compare_1 : decode cX8_compare 1 = .ok (.iconst 1, 1) := by decide +kernel
theorem dX8_compare_2 : decode cX8_compare 2 = .ok (.bipush 99, 2) := by decide +kernel
theorem dX8_compare_4 : decode cX8_compare 4 = .ok (.invokestatic 55, 3) := by decide +kernel
theorem dX8_compare_7 : decode cX8_compare 7 = .ok (.ifCond .ne 6, 3) := by decide +kernel
theorem dX8_compare_10 : decode cX8_compare 10 = .ok (.bipush (-2), 2) := by decide +kernel
theorem dX8_compare_12 : decode cX8_compare 12 = .ok (.ireturn, 1) := by decide +kernel
theorem dX8_compare_13 : decode cX8_compare 13 = .ok (.iconst 0, 1) := by decide +kernel
theorem dX8_compare_14 : decode cX8_compare 14 = .ok (.istore_n 2, 1) := by decide +kernel
theorem dX8_compare_15 : decode cX8_compare 15 = .ok (.iconst 1, 1) := by decide +kernel
theorem dX8_compare_16 : decode cX8_compare 16 = .ok (.istore_n 3, 1) := by decide +kernel
theorem dX8_compare_17 : decode cX8_compare 17 = .ok (.iload_n 3, 1) := by decide +kernel
theorem dX8_compare_18 : decode cX8_compare 18 = .ok (.iload_n 1, 1) := by decide +kernel
theorem dX8_compare_19 : decode cX8_compare 19 = .ok (.iconst 1, 1) := by decide +kernel
theorem dX8_compare_20 : decode cX8_compare 20 = .ok (.iadd, 1) := by decide +kernel
theorem dX8_compare_21 : decode cX8_compare 21 = .ok (.if_icmp .ge 13, 3) := by decide +kernel
theorem dX8_compare_24 : decode cX8_compare 24 = .ok (.iinc 2 1, 3) := by decide +kernel
theorem dX8_compare_27 : decode cX8_compare 27 = .ok (.iload_n 3, 1) := by decide +kernel
theorem dX8_compare_28 : decode cX8_compare 28 = .ok (.iconst 2, 1) := by decide +kernel
theorem dX8_compare_29 : decode cX8_compare 29 = .ok (.imul, 1) := by decide +kernel
theorem dX8_compare_30 : decode cX8_compare 30 = .ok (.istore_n 3, 1) := by decide +kernel
theorem dX8_compare_31 : decode cX8_compare 31 = .ok (.goto (-14), 3) := by decide +kernel
theorem dX8_compare_34 : decode cX8_compare 34 = .ok (.iload_n 2, 1) := by decide +kernel
theorem dX8_compare_35 : decode cX8_compare 35 = .ok (.ireturn, 1) := by decide +kernel
theorem dX8_blots_0 : decode cX8_blots 0 = .ok (.iload_n 1, 1) := by decide +kernel
theorem dX8_blots_1 : decode cX8_blots 1 = .ok (.iconst 0, 1) := by decide +kernel
theorem dX8_blots_2 : decode cX8_blots 2 = .ok (.bipush 9, 2) := by decide +kernel
theorem dX8_blots_4 : decode cX8_blots 4 = .ok (.invokestatic 55, 3) := by decide +kernel
theorem dX8_blots_7 : decode cX8_blots 7 = .ok (.ifCond .eq 32, 3) := by decide +kernel
theorem dX8_blots_10 : decode cX8_blots 10 = .ok (.iload_n 2, 1) := by decide +kernel
theorem dX8_blots_11 : decode cX8_blots 11 = .ok (.iconst 0, 1) := by decide +kernel
theorem dX8_blots_12 : decode cX8_blots 12 = .ok (.iload_n 1, 1) := by decide +kernel
theorem dX8_blots_13 : decode cX8_blots 13 = .ok (.invokestatic 55, 3) := by decide +kernel
theorem dX8_blots_16 : decode cX8_blots 16 = .ok (.ifCond .eq 23, 3) := by decide +kernel
theorem dX8_blots_19 : decode cX8_blots 19 = .ok (.iload_n 3, 1) := by decide +kernel
theorem dX8_blots_20 : decode cX8_blots 20 = .ok (.iconst 0, 1) := by decide +kernel
theorem dX8_blots_21 : decode cX8_blots 21 = .ok (.bipush 10, 2) := by decide +kernel
theorem dX8_blots_23 : decode cX8_blots 23 = .ok (.invokestatic 55, 3) := by decide +kernel
theorem dX8_blots_26 : decode cX8_blots 26 = .ok (.ifCond .eq 13, 3) := by decide +kernel
theorem dX8_blots_29 : decode cX8_blots 29 = .ok (.iload 4, 2) := by decide +kernel
theorem dX8_blots_31 : decode cX8_blots 31 = .ok (.iconst 0, 1) := by decide +kernel
theorem dX8_blots_32 : decode cX8_blots 32 = .ok (.iconst 1, 1) := by decide +kernel
theorem dX8_blots_33 : decode cX8_blots 33 = .ok (.invokestatic 55, 3) := by decide +kernel
theorem dX8_blots_36 : decode cX8_blots 36 = .ok (.ifCond .ne 7, 3) := by decide +kernel
theorem dX8_blots_39 : decode cX8_blots 39 = .ok (.ldc2_w 147, 3) := by decide +kernel
theorem dX8_blots_42 : decode cX8_blots 42 = .ok (.lreturn, 1) := by decide +kernel
theorem dX8_blots_43 : decode cX8_blots 43 = .ok (.iload_n 1, 1) := by decide +kernel
theorem dX8_blots_44 : decode cX8_blots 44 = .ok (.iload_n 2, 1) := by decide +kernel
theorem dX8_blots_45 : decode cX8_blots 45 = .ok (.isub, 1) := by decide +kernel
theorem dX8_blots_46 : decode cX8_blots 46 = .ok (.iload_n 1, 1) := by decide +kernel
theorem dX8_blots_47 : decode cX8_blots 47 = .ok (.iload_n 3, 1) := by decide +kernel
theorem dX8_blots_48 : decode cX8_blots 48 = .ok (.invokestatic 168, 3) := by decide +kernel
theorem dX8_blots_51 : decode cX8_blots 51 = .ok (.bipush 10, 2) := by decide +kernel
theorem dX8_blots_53 : decode cX8_blots 53 = .ok (.iload_n 1, 1) := by decide +kernel
theorem dX8_blots_54 : decode cX8_blots 54 = .ok (.invokestatic 172, 3) := by decide +kernel
theorem dX8_blots_57 : decode cX8_blots 57 = .ok (.iload 4, 2) := by decide +kernel
theorem dX8_blots_59 : decode cX8_blots 59 = .ok (.invokestatic 161, 3) := by decide +kernel
theorem dX8_blots_62 : decode cX8_blots 62 = .ok (.lreturn, 1) := by decide +kernel
theorem dX8_seen_0 : decode cX8_seen 0 = .ok (.iload_n 1, 1) := by decide +kernel
theorem dX8_seen_1 : decode cX8_seen 1 = .ok (.iconst 0, 1) := by decide +kernel
theorem dX8_seen_2 : decode cX8_seen 2 = .ok (.bipush 9, 2) := by decide +kernel
theorem dX8_seen_4 : decode cX8_seen 4 = .ok (.invokestatic 55, 3) := by decide +kernel
theorem dX8_seen_7 : decode cX8_seen 7 = .ok (.ifCond .eq 23, 3) := by decide +kernel
theorem dX8_seen_10 : decode cX8_seen 10 = .ok (.iload_n 2, 1) := by decide +kernel
theorem dX8_seen_11 : decode cX8_seen 11 = .ok (.iconst 1, 1) := by decide +kernel
theorem dX8_seen_12 : decode cX8_seen 12 = .ok (.bipush 8, 2) := by decide +kernel
theorem dX8_seen_14 : decode cX8_seen 14 = .ok (.invokestatic 55, 3) := by decide +kernel
theorem dX8_seen_17 : decode cX8_seen 17 = .ok (.ifCond .eq 13, 3) := by decide +kernel
theorem dX8_seen_20 : decode cX8_seen 20 = .ok (.iload_n 3, 1) := by decide +kernel
theorem dX8_seen_21 : decode cX8_seen 21 = .ok (.iconst 1, 1) := by decide +kernel
theorem dX8_seen_22 : decode cX8_seen 22 = .ok (.bipush 9, 2) := by decide +kernel
theorem dX8_seen_24 : decode cX8_seen 24 = .ok (.invokestatic 55, 3) := by decide +kernel
theorem dX8_seen_27 : decode cX8_seen 27 = .ok (.ifCond .ne 6, 3) := by decide +kernel
theorem dX8_seen_30 : decode cX8_seen 30 = .ok (.bipush (-2), 2) := by decide +kernel
theorem dX8_seen_32 : decode cX8_seen 32 = .ok (.ireturn, 1) := by decide +kernel
theorem dX8_seen_33 : decode cX8_seen 33 = .ok (.aload_n 0, 1) := by decide +kernel
theorem dX8_seen_34 : decode cX8_seen 34 = .ok (.getfield 10, 3) := by decide +kernel
theorem dX8_seen_37 : decode cX8_seen 37 = .ok (.getfield 200, 3) := by decide +kernel
theorem dX8_seen_40 : decode cX8_seen 40 = .ok (.bipush 8, 2) := by decide +kernel
theorem dX8_seen_42 : decode cX8_seen 42 = .ok (.if_icmp .lt 6, 3) := by decide +kernel
theorem dX8_seen_45 : decode cX8_seen 45 = .ok (.bipush (-4), 2) := by decide +kernel
theorem dX8_seen_47 : decode cX8_seen 47 = .ok (.ireturn, 1) := by decide +kernel
theorem dX8_seen_48 : decode cX8_seen 48 = .ok (.aload_n 0, 1) := by decide +kernel
theorem dX8_seen_49 : decode cX8_seen 49 = .ok (.getfield 10, 3) := by decide +kernel
theorem dX8_seen_52 : decode cX8_seen 52 = .ok (.iload_n 1, 1) := by decide +kernel
theorem dX8_seen_53 : decode cX8_seen 53 = .ok (.iload_n 2, 1) := by decide +kernel
theorem dX8_seen_54 : decode cX8_seen 54 = .ok (.iload_n 3, 1) := by decide +kernel
theorem dX8_seen_55 : decode cX8_seen 55 = .ok (.iload 4, 2) := by decide +kernel
theorem dX8_seen_57 : decode cX8_seen 57 = .ok (.invokevirtual 203, 3) := by decide +kernel
theorem dX8_seen_60 : decode cX8_seen 60 = .ok (.aload_n 0, 1) := by decide +kernel
theorem dX8_seen_61 : decode cX8_seen 61 = .ok (.getfield 10, 3) := by decide +kernel
theorem dX8_seen_64 : decode cX8_seen 64 = .ok (.getfield 200, 3) := by decide +kernel
theorem dX8_seen_67 : decode cX8_seen 67 = .ok (.ireturn, 1) := by decide +kernel
theorem dX8_forget_0 : decode cX8_forget 0 = .ok (.aload_n 0, 1) := by decide +kernel
theorem dX8_forget_1 : decode cX8_forget 1 = .ok (.getfield 10, 3) := by decide +kernel
theorem dX8_forget_4 : decode cX8_forget 4 = .ok (.getfield 200, 3) := by decide +kernel
theorem dX8_forget_7 : decode cX8_forget 7 = .ok (.istore_n 1, 1) := by decide +kernel
theorem dX8_forget_8 : decode cX8_forget 8 = .ok (.aload_n 0, 1) := by decide +kernel
theorem dX8_forget_9 : decode cX8_forget 9 = .ok (.getfield 10, 3) := by decide +kernel
theorem dX8_forget_12 : decode cX8_forget 12 = .ok (.iconst 0, 1) := by decide +kernel
theorem dX8_forget_13 : decode cX8_forget 13 = .ok (.putfield 200, 3) := by decide +kernel
theorem dX8_forget_16 : decode cX8_forget 16 = .ok (.iload_n 1, 1) := by decide +kernel
theorem dX8_forget_17 : decode cX8_forget 17 = .ok (.ireturn, 1) := by decide +kernel
theorem dX8_signs_0 : decode cX8_signs 0 = .ok (.aload_n 0, 1) := by decide +kernel
theorem dX8_signs_1 : decode cX8_signs 1 = .ok (.getfield 37, 3) := by decide +kernel
theorem dX8_signs_4 : decode cX8_signs 4 = .ok (.aload_n 0, 1) := by decide +kernel
theorem dX8_signs_5 : decode cX8_signs 5 = .ok (.getfield 10, 3) := by decide +kernel
theorem dX8_signs_8 : decode cX8_signs 8 = .ok (.invokevirtual 149, 3) := by decide +kernel
theorem dX8_signs_11 : decode cX8_signs 11 = .ok (.aload_n 0, 1) := by decide +kernel
theorem dX8_signs_12 : decode cX8_signs 12 = .ok (.invokevirtual 207, 3) := by decide +kernel
theorem dX8_signs_15 : decode cX8_signs 15 = .ok (.ireturn, 1) := by decide +kernel
theorem dX8_watch_0 : decode cX8_watch 0 = .ok (.iload_n 1, 1) := by decide +kernel
theorem dX8_watch_1 : decode cX8_watch 1 = .ok (.iconst 0, 1) := by decide +kernel
theorem dX8_watch_2 : decode cX8_watch 2 = .ok (.iconst 1, 1) := by decide +kernel
theorem dX8_watch_3 : decode cX8_watch 3 = .ok (.invokestatic 55, 3) := by decide +kernel
theorem dX8_watch_6 : decode cX8_watch 6 = .ok (.ifCond .ne 6, 3) := by decide +kernel
theorem dX8_watch_9 : decode cX8_watch 9 = .ok (.bipush (-2), 2) := by decide +kernel
theorem dX8_watch_11 : decode cX8_watch 11 = .ok (.ireturn, 1) := by decide +kernel
theorem dX8_watch_12 : decode cX8_watch 12 = .ok (.aload_n 0, 1) := by decide +kernel
theorem dX8_watch_13 : decode cX8_watch 13 = .ok (.getfield 37, 3) := by decide +kernel
theorem dX8_watch_16 : decode cX8_watch 16 = .ok (.aload_n 0, 1) := by decide +kernel
theorem dX8_watch_17 : decode cX8_watch 17 = .ok (.getfield 10, 3) := by decide +kernel
theorem dX8_watch_20 : decode cX8_watch 20 = .ok (.invokevirtual 149, 3) := by decide +kernel
theorem dX8_watch_23 : decode cX8_watch 23 = .ok (.aload_n 0, 1) := by decide +kernel
theorem dX8_watch_24 : decode cX8_watch 24 = .ok (.invokevirtual 207, 3) := by decide +kernel
theorem dX8_watch_27 : decode cX8_watch 27 = .ok (.istore_n 2, 1) := by decide +kernel
theorem dX8_watch_28 : decode cX8_watch 28 = .ok (.iload_n 2, 1) := by decide +kernel
theorem dX8_watch_29 : decode cX8_watch 29 = .ok (.ifCond .ne 6, 3) := by decide +kernel
theorem dX8_watch_32 : decode cX8_watch 32 = .ok (.bipush (-6), 2) := by decide +kernel
theorem dX8_watch_34 : decode cX8_watch 34 = .ok (.ireturn, 1) := by decide +kernel
theorem dX8_watch_35 : decode cX8_watch 35 = .ok (.aload_n 0, 1) := by decide +kernel
theorem dX8_watch_36 : decode cX8_watch 36 = .ok (.iload_n 2, 1) := by decide +kernel
theorem dX8_watch_37 : decode cX8_watch 37 = .ok (.iload_n 1, 1) := by decide +kernel
theorem dX8_watch_38 : decode cX8_watch 38 = .ok (.invokevirtual 210, 3) := by decide +kernel
theorem dX8_watch_41 : decode cX8_watch 41 = .ok (.ireturn, 1) := by decide +kernel
theorem dX8_book_0 : decode cX8_book 0 = .ok (.iload_n 1, 1) := by decide +kernel
theorem dX8_book_1 : decode cX8_book 1 = .ok (.iconst 0, 1) := by decide +kernel
theorem dX8_book_2 : decode cX8_book 2 = .ok (.sipush 9999, 3) := by decide +kernel
theorem dX8_book_5 : decode cX8_book 5 = .ok (.invokestatic 55, 3) := by decide +kernel
theorem dX8_book_8 : decode cX8_book 8 = .ok (.ifCond .eq 22, 3) := by decide +kernel
theorem dX8_book_11 : decode cX8_book 11 = .ok (.iload_n 2, 1) := by decide +kernel
theorem dX8_book_12 : decode cX8_book 12 = .ok (.iconst 1, 1) := by decide +kernel
theorem dX8_book_13 : decode cX8_book 13 = .ok (.bipush 99, 2) := by decide +kernel
theorem dX8_book_15 : decode cX8_book 15 = .ok (.invokestatic 55, 3) := by decide +kernel
theorem dX8_book_18 : decode cX8_book 18 = .ok (.ifCond .eq 12, 3) := by decide +kernel
theorem dX8_book_21 : decode cX8_book 21 = .ok (.iload_n 3, 1) := by decide +kernel
theorem dX8_book_22 : decode cX8_book 22 = .ok (.iconst 0, 1) := by decide +kernel
theorem dX8_book_23 : decode cX8_book 23 = .ok (.iconst 2, 1) := by decide +kernel
theorem dX8_book_24 : decode cX8_book 24 = .ok (.invokestatic 55, 3) := by decide +kernel
theorem dX8_book_27 : decode cX8_book 27 = .ok (.ifCond .ne 6, 3) := by decide +kernel
theorem dX8_book_30 : decode cX8_book 30 = .ok (.bipush (-2), 2) := by decide +kernel
theorem dX8_book_32 : decode cX8_book 32 = .ok (.ireturn, 1) := by decide +kernel
theorem dX8_book_33 : decode cX8_book 33 = .ok (.aload_n 0, 1) := by decide +kernel
theorem dX8_book_34 : decode cX8_book 34 = .ok (.getfield 30, 3) := by decide +kernel
theorem dX8_book_37 : decode cX8_book 37 = .ok (.aload_n 0, 1) := by decide +kernel
theorem dX8_book_38 : decode cX8_book 38 = .ok (.getfield 10, 3) := by decide +kernel
theorem dX8_book_41 : decode cX8_book 41 = .ok (.getfield 59, 3) := by decide +kernel
theorem dX8_book_44 : decode cX8_book 44 = .ok (.iload_n 1, 1) := by decide +kernel
theorem dX8_book_45 : decode cX8_book 45 = .ok (.iload_n 2, 1) := by decide +kernel
theorem dX8_book_46 : decode cX8_book 46 = .ok (.invokevirtual 213, 3) := by decide +kernel
theorem dX8_book_49 : decode cX8_book 49 = .ok (.istore 4, 2) := by decide +kernel
theorem dX8_book_51 : decode cX8_book 51 = .ok (.iload_n 3, 1) := by decide +kernel
theorem dX8_book_52 : decode cX8_book 52 = .ok (.ifCond .ne 14, 3) := by decide +kernel
theorem dX8_book_55 : decode cX8_book 55 = .ok (.aload_n 0, 1) := by decide +kernel
theorem dX8_book_56 : decode cX8_book 56 = .ok (.getfield 30, 3) := by decide +kernel
theorem dX8_book_59 : decode cX8_book 59 = .ok (.getfield 114, 3) := by decide +kernel
theorem dX8_book_62 : decode cX8_book 62 = .ok (.invokevirtual 217, 3) := by decide +kernel
theorem dX8_book_65 : decode cX8_book 65 = .ok (.ireturn, 1) := by decide +kernel
theorem dX8_book_66 : decode cX8_book 66 = .ok (.iload_n 3, 1) := by decide +kernel
theorem dX8_book_67 : decode cX8_book 67 = .ok (.iconst 1, 1) := by decide +kernel
theorem dX8_book_68 : decode cX8_book 68 = .ok (.if_icmp .ne 8, 3) := by decide +kernel
theorem dX8_book_71 : decode cX8_book 71 = .ok (.iload 4, 2) := by decide +kernel
theorem dX8_book_73 : decode cX8_book 73 = .ok (.goto 16, 3) := by decide +kernel
theorem dX8_book_76 : decode cX8_book 76 = .ok (.aload_n 0, 1) := by decide +kernel
theorem dX8_book_77 : decode cX8_book 77 = .ok (.getfield 30, 3) := by decide +kernel
theorem dX8_book_80 : decode cX8_book 80 = .ok (.getfield 114, 3) := by decide +kernel
theorem dX8_book_83 : decode cX8_book 83 = .ok (.invokevirtual 220, 3) := by decide +kernel
theorem dX8_book_86 : decode cX8_book 86 = .ok (.invokestatic 223, 3) := by decide +kernel
theorem dX8_book_89 : decode cX8_book 89 = .ok (.ireturn, 1) := by decide +kernel
theorem dX8_image_0 : decode cX8_image 0 = .ok (.iload_n 1, 1) := by decide +kernel
theorem dX8_image_1 : decode cX8_image 1 = .ok (.iconst 0, 1) := by decide +kernel
theorem dX8_image_2 : decode cX8_image 2 = .ok (.iconst 1, 1) := by decide +kernel
theorem dX8_image_3 : decode cX8_image 3 = .ok (.invokestatic 55, 3) := by decide +kernel
theorem dX8_image_6 : decode cX8_image 6 = .ok (.ifCond .ne 6, 3) := by decide +kernel
theorem dX8_image_9 : decode cX8_image 9 = .ok (.bipush (-2), 2) := by decide +kernel
theorem dX8_image_11 : decode cX8_image 11 = .ok (.ireturn, 1) := by decide +kernel
theorem dX8_image_12 : decode cX8_image 12 = .ok (.aload_n 0, 1) := by decide +kernel
theorem dX8_image_13 : decode cX8_image 13 = .ok (.getfield 16, 3) := by decide +kernel
theorem dX8_image_16 : decode cX8_image 16 = .ok (.iload_n 1, 1) := by decide +kernel
theorem dX8_image_17 : decode cX8_image 17 = .ok (.aaload, 1) := by decide +kernel
theorem dX8_image_18 : decode cX8_image 18 = .ok (.aload_n 0, 1) := by decide +kernel
theorem dX8_image_19 : decode cX8_image 19 = .ok (.getfield 10, 3) := by decide +kernel
theorem dX8_image_22 : decode cX8_image 22 = .ok (.invokevirtual 228, 3) := by decide +kernel
theorem dX8_image_25 : decode cX8_image 25 = .ok (.aload_n 0, 1) := by decide +kernel
theorem dX8_image_26 : decode cX8_image 26 = .ok (.getfield 16, 3) := by decide +kernel
theorem dX8_image_29 : decode cX8_image 29 = .ok (.iload_n 1, 1) := by decide +kernel
theorem dX8_image_30 : decode cX8_image 30 = .ok (.aaload, 1) := by decide +kernel
theorem dX8_image_31 : decode cX8_image 31 = .ok (.iconst 1, 1) := by decide +kernel
theorem dX8_image_32 : decode cX8_image 32 = .ok (.putfield 230, 3) := by decide +kernel
theorem dX8_image_35 : decode cX8_image 35 = .ok (.iconst 1, 1) := by decide +kernel
theorem dX8_image_36 : decode cX8_image 36 = .ok (.ireturn, 1) := by decide +kernel
theorem dX8_restore_0 : decode cX8_restore 0 = .ok (.iload_n 1, 1) := by decide +kernel
theorem dX8_restore_1 : decode cX8_restore 1 = .ok (.iconst 0, 1) := by decide +kernel
theorem dX8_restore_2 : decode cX8_restore 2 = .ok (.iconst 1, 1) := by decide +kernel
theorem dX8_restore_3 : decode cX8_restore 3 = .ok (.invokestatic 55, 3) := by decide +kernel
theorem dX8_restore_6 : decode cX8_restore 6 = .ok (.ifCond .ne 6, 3) := by decide +kernel
theorem dX8_restore_9 : decode cX8_restore 9 = .ok (.bipush (-2), 2) := by decide +kernel
theorem dX8_restore_11 : decode cX8_restore 11 = .ok (.ireturn, 1) := by decide +kernel
theorem dX8_restore_12 : decode cX8_restore 12 = .ok (.aload_n 0, 1) := by decide +kernel
theorem dX8_restore_13 : decode cX8_restore 13 = .ok (.getfield 16, 3) := by decide +kernel
theorem dX8_restore_16 : decode cX8_restore 16 = .ok (.iload_n 1, 1) := by decide +kernel
theorem dX8_restore_17 : decode cX8_restore 17 = .ok (.aaload, 1) := by decide +kernel
theorem dX8_restore_18 : decode cX8_restore 18 = .ok (.getfield 230, 3) := by decide +kernel
theorem dX8_restore_21 : decode cX8_restore 21 = .ok (.ifCond .ne 6, 3) := by decide +kernel
theorem dX8_restore_24 : decode cX8_restore 24 = .ok (.bipush (-3), 2) := by decide +kernel
theorem dX8_restore_26 : decode cX8_restore 26 = .ok (.ireturn, 1) := by decide +kernel
theorem dX8_restore_27 : decode cX8_restore 27 = .ok (.aload_n 0, 1) := by decide +kernel
theorem dX8_restore_28 : decode cX8_restore 28 = .ok (.getfield 10, 3) := by decide +kernel
theorem dX8_restore_31 : decode cX8_restore 31 = .ok (.aload_n 0, 1) := by decide +kernel
theorem dX8_restore_32 : decode cX8_restore 32 = .ok (.getfield 16, 3) := by decide +kernel
theorem dX8_restore_35 : decode cX8_restore 35 = .ok (.iload_n 1, 1) := by decide +kernel
theorem dX8_restore_36 : decode cX8_restore 36 = .ok (.aaload, 1) := by decide +kernel
theorem dX8_restore_37 : decode cX8_restore 37 = .ok (.invokevirtual 228, 3) := by decide +kernel
theorem dX8_restore_40 : decode cX8_restore 40 = .ok (.aload_n 0, 1) := by decide +kernel
theorem dX8_restore_41 : decode cX8_restore 41 = .ok (.getfield 37, 3) := by decide +kernel
theorem dX8_restore_44 : decode cX8_restore 44 = .ok (.invokevirtual 88, 3) := by decide +kernel
theorem dX8_restore_47 : decode cX8_restore 47 = .ok (.iconst 1, 1) := by decide +kernel
theorem dX8_restore_48 : decode cX8_restore 48 = .ok (.ireturn, 1) := by decide +kernel
theorem dX8_told_0 : decode cX8_told 0 = .ok (.iload_n 1, 1) := by decide +kernel
theorem dX8_told_1 : decode cX8_told 1 = .ok (.ifCond .ne 11, 3) := by decide +kernel
theorem dX8_told_4 : decode cX8_told 4 = .ok (.aload_n 0, 1) := by decide +kernel
theorem dX8_told_5 : decode cX8_told 5 = .ok (.getfield 23, 3) := by decide +kernel
theorem dX8_told_8 : decode cX8_told 8 = .ok (.getfield 91, 3) := by decide +kernel
theorem dX8_told_11 : decode cX8_told 11 = .ok (.ireturn, 1) := by decide +kernel
theorem dX8_told_12 : decode cX8_told 12 = .ok (.iload_n 1, 1) := by decide +kernel
theorem dX8_told_13 : decode cX8_told 13 = .ok (.iconst 1, 1) := by decide +kernel
theorem dX8_told_14 : decode cX8_told 14 = .ok (.if_icmp .ne 14, 3) := by decide +kernel
theorem dX8_told_17 : decode cX8_told 17 = .ok (.aload_n 0, 1) := by decide +kernel
theorem dX8_told_18 : decode cX8_told 18 = .ok (.getfield 10, 3) := by decide +kernel
theorem dX8_told_21 : decode cX8_told 21 = .ok (.getfield 59, 3) := by decide +kernel
theorem dX8_told_24 : decode cX8_told 24 = .ok (.getfield 234, 3) := by decide +kernel
theorem dX8_told_27 : decode cX8_told 27 = .ok (.ireturn, 1) := by decide +kernel
theorem dX8_told_28 : decode cX8_told 28 = .ok (.iload_n 1, 1) := by decide +kernel
theorem dX8_told_29 : decode cX8_told 29 = .ok (.iconst 2, 1) := by decide +kernel
theorem dX8_told_30 : decode cX8_told 30 = .ok (.if_icmp .ne 14, 3) := by decide +kernel
theorem dX8_told_33 : decode cX8_told 33 = .ok (.aload_n 0, 1) := by decide +kernel
theorem dX8_told_34 : decode cX8_told 34 = .ok (.getfield 10, 3) := by decide +kernel
theorem dX8_told_37 : decode cX8_told 37 = .ok (.getfield 59, 3) := by decide +kernel
theorem dX8_told_40 : decode cX8_told 40 = .ok (.getfield 237, 3) := by decide +kernel
theorem dX8_told_43 : decode cX8_told 43 = .ok (.ireturn, 1) := by decide +kernel
theorem dX8_told_44 : decode cX8_told 44 = .ok (.iload_n 1, 1) := by decide +kernel
theorem dX8_told_45 : decode cX8_told 45 = .ok (.iconst 3, 1) := by decide +kernel
theorem dX8_told_46 : decode cX8_told 46 = .ok (.if_icmp .ne 11, 3) := by decide +kernel
theorem dX8_told_49 : decode cX8_told 49 = .ok (.aload_n 0, 1) := by decide +kernel
theorem dX8_told_50 : decode cX8_told 50 = .ok (.getfield 10, 3) := by decide +kernel
theorem dX8_told_53 : decode cX8_told 53 = .ok (.getfield 200, 3) := by decide +kernel
theorem dX8_told_56 : decode cX8_told 56 = .ok (.ireturn, 1) := by decide +kernel
theorem dX8_told_57 : decode cX8_told 57 = .ok (.iload_n 1, 1) := by decide +kernel
theorem dX8_told_58 : decode cX8_told 58 = .ok (.bipush 11, 2) := by decide +kernel
theorem dX8_told_60 : decode cX8_told 60 = .ok (.bipush 19, 2) := by decide +kernel
theorem dX8_told_62 : decode cX8_told 62 = .ok (.invokestatic 55, 3) := by decide +kernel
theorem dX8_told_65 : decode cX8_told 65 = .ok (.ifCond .eq 16, 3) := by decide +kernel
theorem dX8_told_68 : decode cX8_told 68 = .ok (.aload_n 0, 1) := by decide +kernel
theorem dX8_told_69 : decode cX8_told 69 = .ok (.getfield 10, 3) := by decide +kernel
theorem dX8_told_72 : decode cX8_told 72 = .ok (.getfield 81, 3) := by decide +kernel
theorem dX8_told_75 : decode cX8_told 75 = .ok (.iload_n 1, 1) := by decide +kernel
theorem dX8_told_76 : decode cX8_told 76 = .ok (.bipush 10, 2) := by decide +kernel
theorem dX8_told_78 : decode cX8_told 78 = .ok (.isub, 1) := by decide +kernel
theorem dX8_told_79 : decode cX8_told 79 = .ok (.iaload, 1) := by decide +kernel
theorem dX8_told_80 : decode cX8_told 80 = .ok (.ireturn, 1) := by decide +kernel
theorem dX8_told_81 : decode cX8_told 81 = .ok (.iload_n 1, 1) := by decide +kernel
theorem dX8_told_82 : decode cX8_told 82 = .ok (.bipush 20, 2) := by decide +kernel
theorem dX8_told_84 : decode cX8_told 84 = .ok (.bipush 25, 2) := by decide +kernel
theorem dX8_told_86 : decode cX8_told 86 = .ok (.invokestatic 55, 3) := by decide +kernel
theorem dX8_told_89 : decode cX8_told 89 = .ok (.ifCond .eq 36, 3) := by decide +kernel
theorem dX8_told_92 : decode cX8_told 92 = .ok (.aload_n 0, 1) := by decide +kernel
theorem dX8_told_93 : decode cX8_told 93 = .ok (.getfield 10, 3) := by decide +kernel
theorem dX8_told_96 : decode cX8_told 96 = .ok (.getfield 59, 3) := by decide +kernel
theorem dX8_told_99 : decode cX8_told 99 = .ok (.iload_n 1, 1) := by decide +kernel
theorem dX8_told_100 : decode cX8_told 100 = .ok (.bipush 20, 2) := by decide +kernel
theorem dX8_told_102 : decode cX8_told 102 = .ok (.isub, 1) := by decide +kernel
theorem dX8_told_103 : decode cX8_told 103 = .ok (.invokevirtual 73, 3) := by decide +kernel
theorem dX8_told_106 : decode cX8_told 106 = .ok (.ifCond .eq 19, 3) := by decide +kernel
theorem dX8_told_109 : decode cX8_told 109 = .ok (.aload_n 0, 1) := by decide +kernel
theorem dX8_told_110 : decode cX8_told 110 = .ok (.getfield 10, 3) := by decide +kernel
theorem dX8_told_113 : decode cX8_told 113 = .ok (.getfield 59, 3) := by decide +kernel
theorem dX8_told_116 : decode cX8_told 116 = .ok (.getfield 240, 3) := by decide +kernel
theorem dX8_told_119 : decode cX8_told 119 = .ok (.iload_n 1, 1) := by decide +kernel
theorem dX8_told_120 : decode cX8_told 120 = .ok (.bipush 20, 2) := by decide +kernel
theorem dX8_told_122 : decode cX8_told 122 = .ok (.isub, 1) := by decide +kernel
theorem dX8_told_123 : decode cX8_told 123 = .ok (.iaload, 1) := by decide +kernel
theorem dX8_told_124 : decode cX8_told 124 = .ok (.ireturn, 1) := by decide +kernel
theorem dX8_told_125 : decode cX8_told 125 = .ok (.bipush (-2), 2) := by decide +kernel
theorem dX8_told_127 : decode cX8_told 127 = .ok (.ireturn, 1) := by decide +kernel
theorem dX8_areTails_0 : decode cX8_areTails 0 = .ok (.iload_n 1, 1) := by decide +kernel
theorem dX8_areTails_1 : decode cX8_areTails 1 = .ok (.ifCond .lt 28, 3) := by decide +kernel
theorem dX8_areTails_4 : decode cX8_areTails 4 = .ok (.iload_n 1, 1) := by decide +kernel
theorem dX8_areTails_5 : decode cX8_areTails 5 = .ok (.i2l, 1) := by decide +kernel
theorem dX8_areTails_6 : decode cX8_areTails 6 = .ok (.bipush 10, 2) := by decide +kernel
theorem dX8_areTails_8 : decode cX8_areTails 8 = .ok (.aload_n 0, 1) := by decide +kernel
theorem dX8_areTails_9 : decode cX8_areTails 9 = .ok (.getfield 10, 3) := by decide +kernel
theorem dX8_areTails_12 : decode cX8_areTails 12 = .ok (.getfield 59, 3) := by decide +kernel
theorem dX8_areTails_15 : decode cX8_areTails 15 = .ok (.invokevirtual 69, 3) := by decide +kernel
theorem dX8_areTails_18 : decode cX8_areTails 18 = .ok (.invokestatic 172, 3) := by decide +kernel
theorem dX8_areTails_21 : decode cX8_areTails 21 = .ok (.lcmp, 1) := by decide +kernel
theorem dX8_areTails_22 : decode cX8_areTails 22 = .ok (.ifCond .ge 7, 3) := by decide +kernel
theorem dX8_areTails_25 : decode cX8_areTails 25 = .ok (.iconst 1, 1) := by decide +kernel
theorem dX8_areTails_26 : decode cX8_areTails 26 = .ok (.goto 4, 3) := by decide +kernel
theorem dX8_areTails_29 : decode cX8_areTails 29 = .ok (.iconst 0, 1) := by decide +kernel
theorem dX8_areTails_30 : decode cX8_areTails 30 = .ok (.ireturn, 1) := by decide +kernel
theorem dX8_signingHabits_0 : decode cX8_signingHabits 0 = .ok (.iload_n 1, 1) := by decide +kernel
theorem dX8_signingHabits_1 : decode cX8_signingHabits 1 = .ok (.ifCond .ne 5, 3) := by decide +kernel
theorem dX8_signingHabits_4 : decode cX8_signingHabits 4 = .ok (.iconst 0, 1) := by decide +kernel
theorem dX8_signingHabits_5 : decode cX8_signingHabits 5 = .ok (.ireturn, 1) := by decide +kernel
theorem dX8_signingHabits_6 : decode cX8_signingHabits 6 = .ok (.iconst 1, 1) := by decide +kernel
theorem dX8_signingHabits_7 : decode cX8_signingHabits 7 = .ok (.iload_n 3, 1) := by decide +kernel
theorem dX8_signingHabits_8 : decode cX8_signingHabits 8 = .ok (.iconst 1, 1) := by decide +kernel
theorem dX8_signingHabits_9 : decode cX8_signingHabits 9 = .ok (.iadd, 1) := by decide +kernel
theorem dX8_signingHabits_10 : decode cX8_signingHabits 10 = .ok (.ishl, 1) := by decide +kernel
theorem dX8_signingHabits_11 : decode cX8_signingHabits 11 = .ok (.iconst 1, 1) := by decide +kernel
theorem dX8_signingHabits_12 : decode cX8_signingHabits 12 = .ok (.isub, 1) := by decide +kernel
theorem dX8_signingHabits_13 : decode cX8_signingHabits 13 = .ok (.istore 4, 2) := by decide +kernel
theorem dX8_signingHabits_15 : decode cX8_signingHabits 15 = .ok (.aload_n 0, 1) := by decide +kernel
theorem dX8_signingHabits_16 : decode cX8_signingHabits 16 = .ok (.getfield 37, 3) := by decide +kernel
theorem dX8_signingHabits_19 : decode cX8_signingHabits 19 = .ok (.iload_n 1, 1) := by decide +kernel
theorem dX8_signingHabits_20 : decode cX8_signingHabits 20 = .ok (.iload_n 2, 1) := by decide +kernel
theorem dX8_signingHabits_21 : decode cX8_signingHabits 21 = .ok (.iload_n 3, 1) := by decide +kernel
theorem dX8_signingHabits_22 : decode cX8_signingHabits 22 = .ok (.invokevirtual 243, 3) := by decide +kernel
theorem dX8_signingHabits_25 : decode cX8_signingHabits 25 = .ok (.ifCond .eq 11, 3) := by decide +kernel
theorem dX8_signingHabits_28 : decode cX8_signingHabits 28 = .ok (.iload 4, 2) := by decide +kernel
theorem dX8_signingHabits_30 : decode cX8_signingHabits 30 = .ok (.sipush 1024, 3) := by decide +kernel
theorem dX8_signingHabits_33 : decode cX8_signingHabits 33 = .ok (.ior, 1) := by decide +kernel
theorem dX8_signingHabits_34 : decode cX8_signingHabits 34 = .ok (.istore 4, 2) := by decide +kernel
theorem dX8_signingHabits_36 : decode cX8_signingHabits 36 = .ok (.iload_n 1, 1) := by decide +kernel
theorem dX8_signingHabits_37 : decode cX8_signingHabits 37 = .ok (.iload_n 2, 1) := by decide +kernel
theorem dX8_signingHabits_38 : decode cX8_signingHabits 38 = .ok (.if_icmp .ge 8, 3) := by decide +kernel
theorem dX8_signingHabits_41 : decode cX8_signingHabits 41 = .ok (.iload_n 3, 1) := by decide +kernel
theorem dX8_signingHabits_42 : decode cX8_signingHabits 42 = .ok (.iconst 5, 1) := by decide +kernel
theorem dX8_signingHabits_43 : decode cX8_signingHabits 43 = .ok (.if_icmp .lt 11, 3) := by decide +kernel
theorem dX8_signingHabits_46 : decode cX8_signingHabits 46 = .ok (.iload 4, 2) := by decide +kernel
theorem dX8_signingHabits_48 : decode cX8_signingHabits 48 = .ok (.sipush 2048, 3) := by decide +kernel
theorem dX8_signingHabits_51 : decode cX8_signingHabits 51 = .ok (.ior, 1) := by decide +kernel
theorem dX8_signingHabits_52 : decode cX8_signingHabits 52 = .ok (.istore 4, 2) := by decide +kernel
theorem dX8_signingHabits_54 : decode cX8_signingHabits 54 = .ok (.iload 4, 2) := by decide +kernel
theorem dX8_signingHabits_56 : decode cX8_signingHabits 56 = .ok (.ireturn, 1) := by decide +kernel
theorem dX8_fittingHabits_0 : decode cX8_fittingHabits 0 = .ok (.sipush 4095, 3) := by decide +kernel
theorem dX8_fittingHabits_3 : decode cX8_fittingHabits 3 = .ok (.istore_n 1, 1) := by decide +kernel
theorem dX8_fittingHabits_4 : decode cX8_fittingHabits 4 = .ok (.iconst 0, 1) := by decide +kernel
theorem dX8_fittingHabits_5 : decode cX8_fittingHabits 5 = .ok (.istore_n 2, 1) := by decide +kernel
theorem dX8_fittingHabits_6 : decode cX8_fittingHabits 6 = .ok (.iload_n 2, 1) := by decide +kernel
theorem dX8_fittingHabits_7 : decode cX8_fittingHabits 7 = .ok (.aload_n 0, 1) := by decide +kernel
theorem dX8_fittingHabits_8 : decode cX8_fittingHabits 8 = .ok (.getfield 10, 3) := by decide +kernel
theorem dX8_fittingHabits_11 : decode cX8_fittingHabits 11 = .ok (.getfield 200, 3) := by decide +kernel
theorem dX8_fittingHabits_14 : decode cX8_fittingHabits 14 = .ok (.if_icmp .ge 64, 3) := by decide +kernel
theorem dX8_fittingHabits_17 : decode cX8_fittingHabits 17 = .ok (.aload_n 0, 1) := by decide +kernel
theorem dX8_fittingHabits_18 : decode cX8_fittingHabits 18 = .ok (.getfield 10, 3) := by decide +kernel
theorem dX8_fittingHabits_21 : decode cX8_fittingHabits 21 = .ok (.getfield 246, 3) := by decide +kernel
theorem dX8_fittingHabits_24 : decode cX8_fittingHabits 24 = .ok (.iload_n 2, 1) := by decide +kernel
theorem dX8_fittingHabits_25 : decode cX8_fittingHabits 25 = .ok (.iaload, 1) := by decide +kernel
theorem dX8_fittingHabits_26 : decode cX8_fittingHabits 26 = .ok (.istore_n 3, 1) := by decide +kernel
theorem dX8_fittingHabits_27 : decode cX8_fittingHabits 27 = .ok (.aload_n 0, 1) := by decide +kernel
theorem dX8_fittingHabits_28 : decode cX8_fittingHabits 28 = .ok (.iload_n 3, 1) := by decide +kernel
theorem dX8_fittingHabits_29 : decode cX8_fittingHabits 29 = .ok (.bipush 100, 2) := by decide +kernel
theorem dX8_fittingHabits_31 : decode cX8_fittingHabits 31 = .ok (.idiv, 1) := by decide +kernel
theorem dX8_fittingHabits_32 : decode cX8_fittingHabits 32 = .ok (.iload_n 3, 1) := by decide +kernel
theorem dX8_fittingHabits_33 : decode cX8_fittingHabits 33 = .ok (.bipush 10, 2) := by decide +kernel
theorem dX8_fittingHabits_35 : decode cX8_fittingHabits 35 = .ok (.idiv, 1) := by decide +kernel
theorem dX8_fittingHabits_36 : decode cX8_fittingHabits 36 = .ok (.bipush 10, 2) := by decide +kernel
theorem dX8_fittingHabits_38 : decode cX8_fittingHabits 38 = .ok (.irem, 1) := by decide +kernel
theorem dX8_fittingHabits_39 : decode cX8_fittingHabits 39 = .ok (.iload_n 3, 1) := by decide +kernel
theorem dX8_fittingHabits_40 : decode cX8_fittingHabits 40 = .ok (.bipush 10, 2) := by decide +kernel
theorem dX8_fittingHabits_42 : decode cX8_fittingHabits 42 = .ok (.irem, 1) := by decide +kernel
theorem dX8_fittingHabits_43 : decode cX8_fittingHabits 43 = .ok (.invokevirtual 249, 3) := by decide +kernel
theorem dX8_fittingHabits_46 : decode cX8_fittingHabits 46 = .ok (.istore 4, 2) := by decide +kernel
theorem dX8_fittingHabits_48 : decode cX8_fittingHabits 48 = .ok (.iload_n 1, 1) := by decide +kernel
theorem dX8_fittingHabits_49 : decode cX8_fittingHabits 49 = .ok (.aload_n 0, 1) := by decide +kernel
theorem dX8_fittingHabits_50 : decode cX8_fittingHabits 50 = .ok (.getfield 10, 3) := by decide +kernel
theorem dX8_fittingHabits_53 : decode cX8_fittingHabits 53 = .ok (.getfield 253, 3) := by decide +kernel
theorem dX8_fittingHabits_56 : decode cX8_fittingHabits 56 = .ok (.iload_n 2, 1) := by decide +kernel
theorem dX8_fittingHabits_57 : decode cX8_fittingHabits 57 = .ok (.baload, 1) := by decide +kernel
theorem dX8_fittingHabits_58 : decode cX8_fittingHabits 58 = .ok (.ifCond .eq 8, 3) := by decide +kernel
theorem dX8_fittingHabits_61 : decode cX8_fittingHabits 61 = .ok (.iload 4, 2) := by decide +kernel
theorem dX8_fittingHabits_63 : decode cX8_fittingHabits 63 = .ok (.goto 7, 3) := by decide +kernel
theorem dX8_fittingHabits_66 : decode cX8_fittingHabits 66 = .ok (.iload 4, 2) := by decide +kernel
theorem dX8_fittingHabits_68 : decode cX8_fittingHabits 68 = .ok (.iconst (-1), 1) := by decide +kernel
theorem dX8_fittingHabits_69 : decode cX8_fittingHabits 69 = .ok (.ixor, 1) := by decide +kernel
theorem dX8_fittingHabits_70 : decode cX8_fittingHabits 70 = .ok (.iand, 1) := by decide +kernel
theorem dX8_fittingHabits_71 : decode cX8_fittingHabits 71 = .ok (.istore_n 1, 1) := by decide +kernel
theorem dX8_fittingHabits_72 : decode cX8_fittingHabits 72 = .ok (.iinc 2 1, 3) := by decide +kernel
theorem dX8_fittingHabits_75 : decode cX8_fittingHabits 75 = .ok (.goto (-69), 3) := by decide +kernel
theorem dX8_fittingHabits_78 : decode cX8_fittingHabits 78 = .ok (.iload_n 1, 1) := by decide +kernel
theorem dX8_fittingHabits_79 : decode cX8_fittingHabits 79 = .ok (.ireturn, 1) := by decide +kernel
