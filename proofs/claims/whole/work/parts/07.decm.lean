theorem dX9_leastOf_0 : decode cX9_leastOf 0 = .ok (.iload_n 1, 1) := by decide +kernel
theorem dX9_leastOf_1 : decode cX9_leastOf 1 = .ok (.ifCond .eq 7, 3) := by decide +kernel
theorem dX9_leastOf_4 : decode cX9_leastOf 4 = .ok (.iload_n 2, 1) := by decide +kernel
theorem dX9_leastOf_5 : decode cX9_leastOf 5 = .ok (.ifCond .ne 6, 3) := by decide +kernel
theorem dX9_leastOf_8 : decode cX9_leastOf 8 = .ok (.bipush (-6), 2) := by decide +kernel
theorem dX9_leastOf_10 : decode cX9_leastOf 10 = .ok (.ireturn, 1) := by decide +kernel
theorem dX9_leastOf_11 : decode cX9_leastOf 11 = .ok (.aload_n 0, 1) := by decide +kernel
theorem dX9_leastOf_12 : decode cX9_leastOf 12 = .ok (.invokevirtual 135, 3) := by decide +kernel
theorem dX9_leastOf_15 : decode cX9_leastOf 15 = .ok (.i2l, 1) := by decide +kernel
theorem dX9_leastOf_16 : decode cX9_leastOf 16 = .ok (.iload_n 2, 1) := by decide +kernel
theorem dX9_leastOf_17 : decode cX9_leastOf 17 = .ok (.iconst 1, 1) := by decide +kernel
theorem dX9_leastOf_18 : decode cX9_leastOf 18 = .ok (.isub, 1) := by decide +kernel
theorem dX9_leastOf_19 : decode cX9_leastOf 19 = .ok (.invokestatic 140, 3) := by decide +kernel
theorem dX9_leastOf_22 : decode cX9_leastOf 22 = .ok (.lstore_n 3, 1) := by decide +kernel
theorem dX9_leastOf_23 : decode cX9_leastOf 23 = .ok (.iconst 1, 1) := by decide +kernel
theorem dX9_leastOf_24 : decode cX9_leastOf 24 = .ok (.istore 5, 2) := by decide +kernel
theorem dX9_leastOf_26 : decode cX9_leastOf 26 = .ok (.iload 5, 2) := by decide +kernel
theorem dX9_leastOf_28 : decode cX9_leastOf 28 = .ok (.bipush 10, 2) := by decide +kernel
theorem dX9_leastOf_30 : decode cX9_leastOf 30 = .ok (.if_icmp .ge 50, 3) := by decide +kernel
theorem dX9_leastOf_33 : decode cX9_leastOf 33 = .ok (.iload 5, 2) := by decide +kernel
theorem dX9_leastOf_35 : decode cX9_leastOf 35 = .ok (.i2l, 1) := by decide +kernel
theorem dX9_leastOf_36 : decode cX9_leastOf 36 = .ok (.lload_n 3, 1) := by decide +kernel
theorem dX9_leastOf_37 : decode cX9_leastOf 37 = .ok (.lmul, 1) := by decide +kernel
theorem dX9_leastOf_38 : decode cX9_leastOf 38 = .ok (.aload_n 0, 1) := by decide +kernel
theorem dX9_leastOf_39 : decode cX9_leastOf 39 = .ok (.getfield 28, 3) := by decide +kernel
theorem dX9_leastOf_42 : decode cX9_leastOf 42 = .ok (.bipush 11, 2) := by decide +kernel
theorem dX9_leastOf_44 : decode cX9_leastOf 44 = .ok (.iload_n 1, 1) := by decide +kernel
theorem dX9_leastOf_45 : decode cX9_leastOf 45 = .ok (.iconst 1, 1) := by decide +kernel
theorem dX9_leastOf_46 : decode cX9_leastOf 46 = .ok (.isub, 1) := by decide +kernel
theorem dX9_leastOf_47 : decode cX9_leastOf 47 = .ok (.imul, 1) := by decide +kernel
theorem dX9_leastOf_48 : decode cX9_leastOf 48 = .ok (.iload_n 2, 1) := by decide +kernel
theorem dX9_leastOf_49 : decode cX9_leastOf 49 = .ok (.iadd, 1) := by decide +kernel
theorem dX9_leastOf_50 : decode cX9_leastOf 50 = .ok (.iconst 1, 1) := by decide +kernel
theorem dX9_leastOf_51 : decode cX9_leastOf 51 = .ok (.isub, 1) := by decide +kernel
theorem dX9_leastOf_52 : decode cX9_leastOf 52 = .ok (.laload, 1) := by decide +kernel
theorem dX9_leastOf_53 : decode cX9_leastOf 53 = .ok (.ladd, 1) := by decide +kernel
theorem dX9_leastOf_54 : decode cX9_leastOf 54 = .ok (.aload_n 0, 1) := by decide +kernel
theorem dX9_leastOf_55 : decode cX9_leastOf 55 = .ok (.getfield 28, 3) := by decide +kernel
theorem dX9_leastOf_58 : decode cX9_leastOf 58 = .ok (.bipush 11, 2) := by decide +kernel
theorem dX9_leastOf_60 : decode cX9_leastOf 60 = .ok (.iload_n 1, 1) := by decide +kernel
theorem dX9_leastOf_61 : decode cX9_leastOf 61 = .ok (.imul, 1) := by decide +kernel
theorem dX9_leastOf_62 : decode cX9_leastOf 62 = .ok (.iload_n 2, 1) := by decide +kernel
theorem dX9_leastOf_63 : decode cX9_leastOf 63 = .ok (.iadd, 1) := by decide +kernel
theorem dX9_leastOf_64 : decode cX9_leastOf 64 = .ok (.iconst 1, 1) := by decide +kernel
theorem dX9_leastOf_65 : decode cX9_leastOf 65 = .ok (.isub, 1) := by decide +kernel
theorem dX9_leastOf_66 : decode cX9_leastOf 66 = .ok (.laload, 1) := by decide +kernel
theorem dX9_leastOf_67 : decode cX9_leastOf 67 = .ok (.lcmp, 1) := by decide +kernel
theorem dX9_leastOf_68 : decode cX9_leastOf 68 = .ok (.ifCond .lt 6, 3) := by decide +kernel
theorem dX9_leastOf_71 : decode cX9_leastOf 71 = .ok (.iload 5, 2) := by decide +kernel
theorem dX9_leastOf_73 : decode cX9_leastOf 73 = .ok (.ireturn, 1) := by decide +kernel
theorem dX9_leastOf_74 : decode cX9_leastOf 74 = .ok (.iinc 5 1, 3) := by decide +kernel
theorem dX9_leastOf_77 : decode cX9_leastOf 77 = .ok (.goto (-51), 3) := by decide +kernel
theorem dX9_leastOf_80 : decode cX9_leastOf 80 = .ok (.bipush (-6), 2) := by decide +kernel
theorem dX9_leastOf_82 : decode cX9_leastOf 82 = .ok (.ireturn, 1) := by decide +kernel
theorem dX9_least_0 : decode cX9_least 0 = .ok (.iload_n 1, 1) := by decide +kernel
theorem dX9_least_1 : decode cX9_least 1 = .ok (.iconst 0, 1) := by decide +kernel
theorem dX9_least_2 : decode cX9_least 2 = .ok (.bipush 9, 2) := by decide +kernel
theorem dX9_least_4 : decode cX9_least 4 = .ok (.invokestatic 48, 3) := by decide +kernel
theorem dX9_least_7 : decode cX9_least 7 = .ok (.ifCond .eq 13, 3) := by decide +kernel
theorem dX9_least_10 : decode cX9_least 10 = .ok (.iload_n 2, 1) := by decide +kernel
theorem dX9_least_11 : decode cX9_least 11 = .ok (.iconst 0, 1) := by decide +kernel
theorem dX9_least_12 : decode cX9_least 12 = .ok (.bipush 8, 2) := by decide +kernel
theorem dX9_least_14 : decode cX9_least 14 = .ok (.invokestatic 48, 3) := by decide +kernel
theorem dX9_least_17 : decode cX9_least 17 = .ok (.ifCond .ne 6, 3) := by decide +kernel
theorem dX9_least_20 : decode cX9_least 20 = .ok (.bipush (-2), 2) := by decide +kernel
theorem dX9_least_22 : decode cX9_least 22 = .ok (.ireturn, 1) := by decide +kernel
theorem dX9_least_23 : decode cX9_least 23 = .ok (.aload_n 0, 1) := by decide +kernel
theorem dX9_least_24 : decode cX9_least 24 = .ok (.invokevirtual 146, 3) := by decide +kernel
theorem dX9_least_27 : decode cX9_least 27 = .ok (.aload_n 0, 1) := by decide +kernel
theorem dX9_least_28 : decode cX9_least 28 = .ok (.iload_n 1, 1) := by decide +kernel
theorem dX9_least_29 : decode cX9_least 29 = .ok (.iload_n 2, 1) := by decide +kernel
theorem dX9_least_30 : decode cX9_least 30 = .ok (.invokevirtual 153, 3) := by decide +kernel
theorem dX9_least_33 : decode cX9_least 33 = .ok (.ireturn, 1) := by decide +kernel
theorem dX9_price_0 : decode cX9_price 0 = .ok (.iload_n 1, 1) := by decide +kernel
theorem dX9_price_1 : decode cX9_price 1 = .ok (.iconst 0, 1) := by decide +kernel
theorem dX9_price_2 : decode cX9_price 2 = .ok (.bipush 8, 2) := by decide +kernel
theorem dX9_price_4 : decode cX9_price 4 = .ok (.invokestatic 48, 3) := by decide +kernel
theorem dX9_price_7 : decode cX9_price 7 = .ok (.ifCond .eq 22, 3) := by decide +kernel
theorem dX9_price_10 : decode cX9_price 10 = .ok (.iload_n 2, 1) := by decide +kernel
theorem dX9_price_11 : decode cX9_price 11 = .ok (.iconst 0, 1) := by decide +kernel
theorem dX9_price_12 : decode cX9_price 12 = .ok (.bipush 8, 2) := by decide +kernel
theorem dX9_price_14 : decode cX9_price 14 = .ok (.invokestatic 48, 3) := by decide +kernel
theorem dX9_price_17 : decode cX9_price 17 = .ok (.ifCond .eq 12, 3) := by decide +kernel
theorem dX9_price_20 : decode cX9_price 20 = .ok (.iload_n 3, 1) := by decide +kernel
theorem dX9_price_21 : decode cX9_price 21 = .ok (.iconst 0, 1) := by decide +kernel
theorem dX9_price_22 : decode cX9_price 22 = .ok (.iconst 1, 1) := by decide +kernel
theorem dX9_price_23 : decode cX9_price 23 = .ok (.invokestatic 48, 3) := by decide +kernel
theorem dX9_price_26 : decode cX9_price 26 = .ok (.ifCond .ne 7, 3) := by decide +kernel
theorem dX9_price_29 : decode cX9_price 29 = .ok (.ldc2_w 144, 3) := by decide +kernel
theorem dX9_price_32 : decode cX9_price 32 = .ok (.lreturn, 1) := by decide +kernel
theorem dX9_price_33 : decode cX9_price 33 = .ok (.aload_n 0, 1) := by decide +kernel
theorem dX9_price_34 : decode cX9_price 34 = .ok (.invokevirtual 146, 3) := by decide +kernel
theorem dX9_price_37 : decode cX9_price 37 = .ok (.aload_n 0, 1) := by decide +kernel
theorem dX9_price_38 : decode cX9_price 38 = .ok (.getfield 28, 3) := by decide +kernel
theorem dX9_price_41 : decode cX9_price 41 = .ok (.bipush 11, 2) := by decide +kernel
theorem dX9_price_43 : decode cX9_price 43 = .ok (.iload_n 1, 1) := by decide +kernel
theorem dX9_price_44 : decode cX9_price 44 = .ok (.iconst 1, 1) := by decide +kernel
theorem dX9_price_45 : decode cX9_price 45 = .ok (.iadd, 1) := by decide +kernel
theorem dX9_price_46 : decode cX9_price 46 = .ok (.imul, 1) := by decide +kernel
theorem dX9_price_47 : decode cX9_price 47 = .ok (.iload_n 2, 1) := by decide +kernel
theorem dX9_price_48 : decode cX9_price 48 = .ok (.iadd, 1) := by decide +kernel
theorem dX9_price_49 : decode cX9_price 49 = .ok (.laload, 1) := by decide +kernel
theorem dX9_price_50 : decode cX9_price 50 = .ok (.aload_n 0, 1) := by decide +kernel
theorem dX9_price_51 : decode cX9_price 51 = .ok (.getfield 28, 3) := by decide +kernel
theorem dX9_price_54 : decode cX9_price 54 = .ok (.bipush 11, 2) := by decide +kernel
theorem dX9_price_56 : decode cX9_price 56 = .ok (.iload_n 1, 1) := by decide +kernel
theorem dX9_price_57 : decode cX9_price 57 = .ok (.imul, 1) := by decide +kernel
theorem dX9_price_58 : decode cX9_price 58 = .ok (.iload_n 2, 1) := by decide +kernel
theorem dX9_price_59 : decode cX9_price 59 = .ok (.iadd, 1) := by decide +kernel
theorem dX9_price_60 : decode cX9_price 60 = .ok (.laload, 1) := by decide +kernel
theorem dX9_price_61 : decode cX9_price 61 = .ok (.lsub, 1) := by decide +kernel
theorem dX9_price_62 : decode cX9_price 62 = .ok (.aload_n 0, 1) := by decide +kernel
theorem dX9_price_63 : decode cX9_price 63 = .ok (.invokevirtual 135, 3) := by decide +kernel
theorem dX9_price_66 : decode cX9_price 66 = .ok (.i2l, 1) := by decide +kernel
theorem dX9_price_67 : decode cX9_price 67 = .ok (.iload_n 2, 1) := by decide +kernel
theorem dX9_price_68 : decode cX9_price 68 = .ok (.invokestatic 140, 3) := by decide +kernel
theorem dX9_price_71 : decode cX9_price 71 = .ok (.iload_n 3, 1) := by decide +kernel
theorem dX9_price_72 : decode cX9_price 72 = .ok (.invokestatic 149, 3) := by decide +kernel
theorem dX9_price_75 : decode cX9_price 75 = .ok (.lreturn, 1) := by decide +kernel
theorem dX9_choices_0 : decode cX9_choices 0 = .ok (.lconst 1, 1) := by decide +kernel
theorem dX9_choices_1 : decode cX9_choices 1 = .ok (.lstore_n 2, 1) := by decide +kernel
theorem dX9_choices_2 : decode cX9_choices 2 = .ok (.iconst 1, 1) := by decide +kernel
theorem dX9_choices_3 : decode cX9_choices 3 = .ok (.istore 4, 2) := by decide +kernel
theorem dX9_choices_5 : decode cX9_choices 5 = .ok (.iload 4, 2) := by decide +kernel
theorem dX9_choices_7 : decode cX9_choices 7 = .ok (.iload_n 1, 1) := by decide +kernel
theorem dX9_choices_8 : decode cX9_choices 8 = .ok (.if_icmp .gt 23, 3) := by decide +kernel
theorem dX9_choices_11 : decode cX9_choices 11 = .ok (.lload_n 2, 1) := by decide +kernel
theorem dX9_choices_12 : decode cX9_choices 12 = .ok (.iload_n 0, 1) := by decide +kernel
theorem dX9_choices_13 : decode cX9_choices 13 = .ok (.iload_n 1, 1) := by decide +kernel
theorem dX9_choices_14 : decode cX9_choices 14 = .ok (.isub, 1) := by decide +kernel
theorem dX9_choices_15 : decode cX9_choices 15 = .ok (.iload 4, 2) := by decide +kernel
theorem dX9_choices_17 : decode cX9_choices 17 = .ok (.iadd, 1) := by decide +kernel
theorem dX9_choices_18 : decode cX9_choices 18 = .ok (.i2l, 1) := by decide +kernel
theorem dX9_choices_19 : decode cX9_choices 19 = .ok (.lmul, 1) := by decide +kernel
theorem dX9_choices_20 : decode cX9_choices 20 = .ok (.iload 4, 2) := by decide +kernel
theorem dX9_choices_22 : decode cX9_choices 22 = .ok (.i2l, 1) := by decide +kernel
theorem dX9_choices_23 : decode cX9_choices 23 = .ok (.ldiv, 1) := by decide +kernel
theorem dX9_choices_24 : decode cX9_choices 24 = .ok (.lstore_n 2, 1) := by decide +kernel
theorem dX9_choices_25 : decode cX9_choices 25 = .ok (.iinc 4 1, 3) := by decide +kernel
theorem dX9_choices_28 : decode cX9_choices 28 = .ok (.goto (-23), 3) := by decide +kernel
theorem dX9_choices_31 : decode cX9_choices 31 = .ok (.lload_n 2, 1) := by decide +kernel
theorem dX9_choices_32 : decode cX9_choices 32 = .ok (.lreturn, 1) := by decide +kernel
theorem dX9_atMost_0 : decode cX9_atMost 0 = .ok (.lconst 0, 1) := by decide +kernel
theorem dX9_atMost_1 : decode cX9_atMost 1 = .ok (.lstore_n 3, 1) := by decide +kernel
theorem dX9_atMost_2 : decode cX9_atMost 2 = .ok (.iconst 0, 1) := by decide +kernel
theorem dX9_atMost_3 : decode cX9_atMost 3 = .ok (.istore 5, 2) := by decide +kernel
theorem dX9_atMost_5 : decode cX9_atMost 5 = .ok (.iload 5, 2) := by decide +kernel
theorem dX9_atMost_7 : decode cX9_atMost 7 = .ok (.iload_n 0, 1) := by decide +kernel
theorem dX9_atMost_8 : decode cX9_atMost 8 = .ok (.if_icmp .gt 46, 3) := by decide +kernel
theorem dX9_atMost_11 : decode cX9_atMost 11 = .ok (.iload 5, 2) := by decide +kernel
theorem dX9_atMost_13 : decode cX9_atMost 13 = .ok (.iload_n 1, 1) := by decide +kernel
theorem dX9_atMost_14 : decode cX9_atMost 14 = .ok (.if_icmp .gt 40, 3) := by decide +kernel
theorem dX9_atMost_17 : decode cX9_atMost 17 = .ok (.lload_n 3, 1) := by decide +kernel
theorem dX9_atMost_18 : decode cX9_atMost 18 = .ok (.iload_n 0, 1) := by decide +kernel
theorem dX9_atMost_19 : decode cX9_atMost 19 = .ok (.iload 5, 2) := by decide +kernel
theorem dX9_atMost_21 : decode cX9_atMost 21 = .ok (.invokestatic 156, 3) := by decide +kernel
theorem dX9_atMost_24 : decode cX9_atMost 24 = .ok (.iload_n 2, 1) := by decide +kernel
theorem dX9_atMost_25 : decode cX9_atMost 25 = .ok (.i2l, 1) := by decide +kernel
theorem dX9_atMost_26 : decode cX9_atMost 26 = .ok (.iload 5, 2) := by decide +kernel
theorem dX9_atMost_28 : decode cX9_atMost 28 = .ok (.invokestatic 140, 3) := by decide +kernel
theorem dX9_atMost_31 : decode cX9_atMost 31 = .ok (.lmul, 1) := by decide +kernel
theorem dX9_atMost_32 : decode cX9_atMost 32 = .ok (.ldc2_w 160, 3) := by decide +kernel
theorem dX9_atMost_35 : decode cX9_atMost 35 = .ok (.iload_n 2, 1) := by decide +kernel
theorem dX9_atMost_36 : decode cX9_atMost 36 = .ok (.i2l, 1) := by decide +kernel
theorem dX9_atMost_37 : decode cX9_atMost 37 = .ok (.lsub, 1) := by decide +kernel
theorem dX9_atMost_38 : decode cX9_atMost 38 = .ok (.iload_n 0, 1) := by decide +kernel
theorem dX9_atMost_39 : decode cX9_atMost 39 = .ok (.iload 5, 2) := by decide +kernel
theorem dX9_atMost_41 : decode cX9_atMost 41 = .ok (.isub, 1) := by decide +kernel
theorem dX9_atMost_42 : decode cX9_atMost 42 = .ok (.invokestatic 140, 3) := by decide +kernel
theorem dX9_atMost_45 : decode cX9_atMost 45 = .ok (.lmul, 1) := by decide +kernel
theorem dX9_atMost_46 : decode cX9_atMost 46 = .ok (.ladd, 1) := by decide +kernel
theorem dX9_atMost_47 : decode cX9_atMost 47 = .ok (.lstore_n 3, 1) := by decide +kernel
theorem dX9_atMost_48 : decode cX9_atMost 48 = .ok (.iinc 5 1, 3) := by decide +kernel
theorem dX9_atMost_51 : decode cX9_atMost 51 = .ok (.goto (-46), 3) := by decide +kernel
theorem dX9_atMost_54 : decode cX9_atMost 54 = .ok (.lload_n 3, 1) := by decide +kernel
theorem dX9_atMost_55 : decode cX9_atMost 55 = .ok (.lreturn, 1) := by decide +kernel
theorem dX9_last_0 : decode cX9_last 0 = .ok (.iload_n 1, 1) := by decide +kernel
theorem dX9_last_1 : decode cX9_last 1 = .ok (.iconst 0, 1) := by decide +kernel
theorem dX9_last_2 : decode cX9_last 2 = .ok (.sipush 400, 3) := by decide +kernel
theorem dX9_last_5 : decode cX9_last 5 = .ok (.invokestatic 48, 3) := by decide +kernel
theorem dX9_last_8 : decode cX9_last 8 = .ok (.ifCond .eq 33, 3) := by decide +kernel
theorem dX9_last_11 : decode cX9_last 11 = .ok (.iload_n 2, 1) := by decide +kernel
theorem dX9_last_12 : decode cX9_last 12 = .ok (.iconst 0, 1) := by decide +kernel
theorem dX9_last_13 : decode cX9_last 13 = .ok (.bipush 9, 2) := by decide +kernel
theorem dX9_last_15 : decode cX9_last 15 = .ok (.invokestatic 48, 3) := by decide +kernel
theorem dX9_last_18 : decode cX9_last 18 = .ok (.ifCond .eq 23, 3) := by decide +kernel
theorem dX9_last_21 : decode cX9_last 21 = .ok (.iload_n 3, 1) := by decide +kernel
theorem dX9_last_22 : decode cX9_last 22 = .ok (.iconst 0, 1) := by decide +kernel
theorem dX9_last_23 : decode cX9_last 23 = .ok (.bipush 10, 2) := by decide +kernel
theorem dX9_last_25 : decode cX9_last 25 = .ok (.invokestatic 48, 3) := by decide +kernel
theorem dX9_last_28 : decode cX9_last 28 = .ok (.ifCond .eq 13, 3) := by decide +kernel
theorem dX9_last_31 : decode cX9_last 31 = .ok (.iload 4, 2) := by decide +kernel
theorem dX9_last_33 : decode cX9_last 33 = .ok (.iconst 0, 1) := by decide +kernel
theorem dX9_last_34 : decode cX9_last 34 = .ok (.iconst 1, 1) := by decide +kernel
theorem dX9_last_35 : decode cX9_last 35 = .ok (.invokestatic 48, 3) := by decide +kernel
theorem dX9_last_38 : decode cX9_last 38 = .ok (.ifCond .ne 7, 3) := by decide +kernel
theorem dX9_last_41 : decode cX9_last 41 = .ok (.ldc2_w 144, 3) := by decide +kernel
theorem dX9_last_44 : decode cX9_last 44 = .ok (.lreturn, 1) := by decide +kernel
theorem dX9_last_45 : decode cX9_last 45 = .ok (.iload_n 2, 1) := by decide +kernel
theorem dX9_last_46 : decode cX9_last 46 = .ok (.iload_n 1, 1) := by decide +kernel
theorem dX9_last_47 : decode cX9_last 47 = .ok (.iload_n 3, 1) := by decide +kernel
theorem dX9_last_48 : decode cX9_last 48 = .ok (.invokestatic 162, 3) := by decide +kernel
theorem dX9_last_51 : decode cX9_last 51 = .ok (.ldc2_w 160, 3) := by decide +kernel
theorem dX9_last_54 : decode cX9_last 54 = .ok (.iload_n 2, 1) := by decide +kernel
theorem dX9_last_55 : decode cX9_last 55 = .ok (.invokestatic 140, 3) := by decide +kernel
theorem dX9_last_58 : decode cX9_last 58 = .ok (.iload 4, 2) := by decide +kernel
theorem dX9_last_60 : decode cX9_last 60 = .ok (.invokestatic 149, 3) := by decide +kernel
theorem dX9_last_63 : decode cX9_last 63 = .ok (.lreturn, 1) := by decide +kernel
theorem dX9_netOf_0 : decode cX9_netOf 0 = .ok (.iconst 0, 1) := by decide +kernel
theorem dX9_netOf_1 : decode cX9_netOf 1 = .ok (.istore_n 2, 1) := by decide +kernel
theorem dX9_netOf_2 : decode cX9_netOf 2 = .ok (.iconst 0, 1) := by decide +kernel
theorem dX9_netOf_3 : decode cX9_netOf 3 = .ok (.istore_n 3, 1) := by decide +kernel
theorem dX9_netOf_4 : decode cX9_netOf 4 = .ok (.iload_n 3, 1) := by decide +kernel
theorem dX9_netOf_5 : decode cX9_netOf 5 = .ok (.bipush 6, 2) := by decide +kernel
theorem dX9_netOf_7 : decode cX9_netOf 7 = .ok (.if_icmp .ge 41, 3) := by decide +kernel
theorem dX9_netOf_10 : decode cX9_netOf 10 = .ok (.iload_n 2, 1) := by decide +kernel
theorem dX9_netOf_11 : decode cX9_netOf 11 = .ok (.aload_n 0, 1) := by decide +kernel
theorem dX9_netOf_12 : decode cX9_netOf 12 = .ok (.getfield 7, 3) := by decide +kernel
theorem dX9_netOf_15 : decode cX9_netOf 15 = .ok (.bipush 20, 2) := by decide +kernel
theorem dX9_netOf_17 : decode cX9_netOf 17 = .ok (.bipush 6, 2) := by decide +kernel
theorem dX9_netOf_19 : decode cX9_netOf 19 = .ok (.iload_n 3, 1) := by decide +kernel
theorem dX9_netOf_20 : decode cX9_netOf 20 = .ok (.imul, 1) := by decide +kernel
theorem dX9_netOf_21 : decode cX9_netOf 21 = .ok (.iadd, 1) := by decide +kernel
theorem dX9_netOf_22 : decode cX9_netOf 22 = .ok (.iload_n 1, 1) := by decide +kernel
theorem dX9_netOf_23 : decode cX9_netOf 23 = .ok (.iadd, 1) := by decide +kernel
theorem dX9_netOf_24 : decode cX9_netOf 24 = .ok (.iaload, 1) := by decide +kernel
theorem dX9_netOf_25 : decode cX9_netOf 25 = .ok (.aload_n 0, 1) := by decide +kernel
theorem dX9_netOf_26 : decode cX9_netOf 26 = .ok (.getfield 7, 3) := by decide +kernel
theorem dX9_netOf_29 : decode cX9_netOf 29 = .ok (.bipush 20, 2) := by decide +kernel
theorem dX9_netOf_31 : decode cX9_netOf 31 = .ok (.bipush 6, 2) := by decide +kernel
theorem dX9_netOf_33 : decode cX9_netOf 33 = .ok (.iload_n 1, 1) := by decide +kernel
theorem dX9_netOf_34 : decode cX9_netOf 34 = .ok (.imul, 1) := by decide +kernel
theorem dX9_netOf_35 : decode cX9_netOf 35 = .ok (.iadd, 1) := by decide +kernel
theorem dX9_netOf_36 : decode cX9_netOf 36 = .ok (.iload_n 3, 1) := by decide +kernel
theorem dX9_netOf_37 : decode cX9_netOf 37 = .ok (.iadd, 1) := by decide +kernel
theorem dX9_netOf_38 : decode cX9_netOf 38 = .ok (.iaload, 1) := by decide +kernel
theorem dX9_netOf_39 : decode cX9_netOf 39 = .ok (.isub, 1) := by decide +kernel
theorem dX9_netOf_40 : decode cX9_netOf 40 = .ok (.iadd, 1) := by decide +kernel
theorem dX9_netOf_41 : decode cX9_netOf 41 = .ok (.istore_n 2, 1) := by decide +kernel
theorem dX9_netOf_42 : decode cX9_netOf 42 = .ok (.iinc 3 1, 3) := by decide +kernel
theorem dX9_netOf_45 : decode cX9_netOf 45 = .ok (.goto (-41), 3) := by decide +kernel
theorem dX9_netOf_48 : decode cX9_netOf 48 = .ok (.iload_n 2, 1) := by decide +kernel
theorem dX9_netOf_49 : decode cX9_netOf 49 = .ok (.ireturn, 1) := by decide +kernel
theorem dX9_netted_0 : decode cX9_netted 0 = .ok (.aload_n 0, 1) := by decide +kernel
theorem dX9_netted_1 : decode cX9_netted 1 = .ok (.iload_n 1, 1) := by decide +kernel
theorem dX9_netted_2 : decode cX9_netted 2 = .ok (.invokevirtual 64, 3) := by decide +kernel
theorem dX9_netted_5 : decode cX9_netted 5 = .ok (.ifCond .eq 15, 3) := by decide +kernel
theorem dX9_netted_8 : decode cX9_netted 8 = .ok (.aload_n 0, 1) := by decide +kernel
theorem dX9_netted_9 : decode cX9_netted 9 = .ok (.iload_n 1, 1) := by decide +kernel
theorem dX9_netted_10 : decode cX9_netted 10 = .ok (.invokevirtual 166, 3) := by decide +kernel
theorem dX9_netted_13 : decode cX9_netted 13 = .ok (.sipush 1000, 3) := by decide +kernel
theorem dX9_netted_16 : decode cX9_netted 16 = .ok (.iadd, 1) := by decide +kernel
theorem dX9_netted_17 : decode cX9_netted 17 = .ok (.goto 4, 3) := by decide +kernel
theorem dX9_netted_20 : decode cX9_netted 20 = .ok (.iconst (-1), 1) := by decide +kernel
theorem dX9_netted_21 : decode cX9_netted 21 = .ok (.ireturn, 1) := by decide +kernel
theorem dX9_hands_0 : decode cX9_hands 0 = .ok (.iconst 0, 1) := by decide +kernel
theorem dX9_hands_1 : decode cX9_hands 1 = .ok (.istore_n 1, 1) := by decide +kernel
theorem dX9_hands_2 : decode cX9_hands 2 = .ok (.iconst 0, 1) := by decide +kernel
theorem dX9_hands_3 : decode cX9_hands 3 = .ok (.istore_n 2, 1) := by decide +kernel
theorem dX9_hands_4 : decode cX9_hands 4 = .ok (.iload_n 2, 1) := by decide +kernel
theorem dX9_hands_5 : decode cX9_hands 5 = .ok (.bipush 6, 2) := by decide +kernel
theorem dX9_hands_7 : decode cX9_hands 7 = .ok (.if_icmp .ge 27, 3) := by decide +kernel
theorem dX9_hands_10 : decode cX9_hands 10 = .ok (.iload_n 1, 1) := by decide +kernel
theorem dX9_hands_11 : decode cX9_hands 11 = .ok (.aload_n 0, 1) := by decide +kernel
theorem dX9_hands_12 : decode cX9_hands 12 = .ok (.iload_n 2, 1) := by decide +kernel
theorem dX9_hands_13 : decode cX9_hands 13 = .ok (.invokevirtual 166, 3) := by decide +kernel
theorem dX9_hands_16 : decode cX9_hands 16 = .ok (.ifCond .eq 9, 3) := by decide +kernel
theorem dX9_hands_19 : decode cX9_hands 19 = .ok (.iconst 1, 1) := by decide +kernel
theorem dX9_hands_20 : decode cX9_hands 20 = .ok (.iload_n 2, 1) := by decide +kernel
theorem dX9_hands_21 : decode cX9_hands 21 = .ok (.ishl, 1) := by decide +kernel
theorem dX9_hands_22 : decode cX9_hands 22 = .ok (.goto 4, 3) := by decide +kernel
theorem dX9_hands_25 : decode cX9_hands 25 = .ok (.iconst 0, 1) := by decide +kernel
theorem dX9_hands_26 : decode cX9_hands 26 = .ok (.ior, 1) := by decide +kernel
theorem dX9_hands_27 : decode cX9_hands 27 = .ok (.istore_n 1, 1) := by decide +kernel
theorem dX9_hands_28 : decode cX9_hands 28 = .ok (.iinc 2 1, 3) := by decide +kernel
theorem dX9_hands_31 : decode cX9_hands 31 = .ok (.goto (-27), 3) := by decide +kernel
theorem dX9_hands_34 : decode cX9_hands 34 = .ok (.aload_n 0, 1) := by decide +kernel
theorem dX9_hands_35 : decode cX9_hands 35 = .ok (.getfield 32, 3) := by decide +kernel
theorem dX9_hands_38 : decode cX9_hands 38 = .ok (.iconst 0, 1) := by decide +kernel
theorem dX9_hands_39 : decode cX9_hands 39 = .ok (.iconst 0, 1) := by decide +kernel
theorem dX9_hands_40 : decode cX9_hands 40 = .ok (.iastore, 1) := by decide +kernel
theorem dX9_hands_41 : decode cX9_hands 41 = .ok (.iconst 1, 1) := by decide +kernel
theorem dX9_hands_42 : decode cX9_hands 42 = .ok (.istore_n 2, 1) := by decide +kernel
theorem dX9_hands_43 : decode cX9_hands 43 = .ok (.iload_n 2, 1) := by decide +kernel
theorem dX9_hands_44 : decode cX9_hands 44 = .ok (.bipush 64, 2) := by decide +kernel
theorem dX9_hands_46 : decode cX9_hands 46 = .ok (.if_icmp .ge 117, 3) := by decide +kernel
theorem dX9_hands_49 : decode cX9_hands 49 = .ok (.iconst 0, 1) := by decide +kernel
theorem dX9_hands_50 : decode cX9_hands 50 = .ok (.istore_n 3, 1) := by decide +kernel
theorem dX9_hands_51 : decode cX9_hands 51 = .ok (.iconst 0, 1) := by decide +kernel
theorem dX9_hands_52 : decode cX9_hands 52 = .ok (.istore 4, 2) := by decide +kernel
theorem dX9_hands_54 : decode cX9_hands 54 = .ok (.iconst 0, 1) := by decide +kernel
theorem dX9_hands_55 : decode cX9_hands 55 = .ok (.istore 5, 2) := by decide +kernel
theorem dX9_hands_57 : decode cX9_hands 57 = .ok (.iload 5, 2) := by decide +kernel
theorem dX9_hands_59 : decode cX9_hands 59 = .ok (.bipush 6, 2) := by decide +kernel
theorem dX9_hands_61 : decode cX9_hands 61 = .ok (.if_icmp .ge 65, 3) := by decide +kernel
theorem dX9_hands_64 : decode cX9_hands 64 = .ok (.iload_n 2, 1) := by decide +kernel
theorem dX9_hands_65 : decode cX9_hands 65 = .ok (.iload 5, 2) := by decide +kernel
theorem dX9_hands_67 : decode cX9_hands 67 = .ok (.invokestatic 56, 3) := by decide +kernel
theorem dX9_hands_70 : decode cX9_hands 70 = .ok (.ifCond .eq 50, 3) := by decide +kernel
theorem dX9_hands_73 : decode cX9_hands 73 = .ok (.iload_n 3, 1) := by decide +kernel
theorem dX9_hands_74 : decode cX9_hands 74 = .ok (.aload_n 0, 1) := by decide +kernel
theorem dX9_hands_75 : decode cX9_hands 75 = .ok (.iload 5, 2) := by decide +kernel
theorem dX9_hands_77 : decode cX9_hands 77 = .ok (.invokevirtual 166, 3) := by decide +kernel
theorem dX9_hands_80 : decode cX9_hands 80 = .ok (.iadd, 1) := by decide +kernel
theorem dX9_hands_81 : decode cX9_hands 81 = .ok (.istore_n 3, 1) := by decide +kernel
theorem dX9_hands_82 : decode cX9_hands 82 = .ok (.aload_n 0, 1) := by decide +kernel
theorem dX9_hands_83 : decode cX9_hands 83 = .ok (.getfield 32, 3) := by decide +kernel
theorem dX9_hands_86 : decode cX9_hands 86 = .ok (.iload_n 2, 1) := by decide +kernel
theorem dX9_hands_87 : decode cX9_hands 87 = .ok (.iconst 1, 1) := by decide +kernel
theorem dX9_hands_88 : decode cX9_hands 88 = .ok (.iload 5, 2) := by decide +kernel
theorem dX9_hands_90 : decode cX9_hands 90 = .ok (.ishl, 1) := by decide +kernel
theorem dX9_hands_91 : decode cX9_hands 91 = .ok (.iconst (-1), 1) := by decide +kernel
theorem dX9_hands_92 : decode cX9_hands 92 = .ok (.ixor, 1) := by decide +kernel
theorem dX9_hands_93 : decode cX9_hands 93 = .ok (.iand, 1) := by decide +kernel
theorem dX9_hands_94 : decode cX9_hands 94 = .ok (.iaload, 1) := by decide +kernel
theorem dX9_hands_95 : decode cX9_hands 95 = .ok (.iload 4, 2) := by decide +kernel
theorem dX9_hands_97 : decode cX9_hands 97 = .ok (.if_icmp .le 19, 3) := by decide +kernel
theorem dX9_hands_100 : decode cX9_hands 100 = .ok (.aload_n 0, 1) := by decide +kernel
theorem dX9_hands_101 : decode cX9_hands 101 = .ok (.getfield 32, 3) := by decide +kernel
theorem dX9_hands_104 : decode cX9_hands 104 = .ok (.iload_n 2, 1) := by decide +kernel
theorem dX9_hands_105 : decode cX9_hands 105 = .ok (.iconst 1, 1) := by decide +kernel
theorem dX9_hands_106 : decode cX9_hands 106 = .ok (.iload 5, 2) := by decide +kernel
theorem dX9_hands_108 : decode cX9_hands 108 = .ok (.ishl, 1) := by decide +kernel
theorem dX9_hands_109 : decode cX9_hands 109 = .ok (.iconst (-1), 1) := by decide +kernel
theorem dX9_hands_110 : decode cX9_hands 110 = .ok (.ixor, 1) := by decide +kernel
theorem dX9_hands_111 : decode cX9_hands 111 = .ok (.iand, 1) := by decide +kernel
theorem dX9_hands_112 : decode cX9_hands 112 = .ok (.iaload, 1) := by decide +kernel
theorem dX9_hands_113 : decode cX9_hands 113 = .ok (.goto 5, 3) := by decide +kernel
theorem dX9_hands_116 : decode cX9_hands 116 = .ok (.iload 4, 2) := by decide +kernel
theorem dX9_hands_118 : decode cX9_hands 118 = .ok (.istore 4, 2) := by decide +kernel
theorem dX9_hands_120 : decode cX9_hands 120 = .ok (.iinc 5 1, 3) := by decide +kernel
theorem dX9_hands_123 : decode cX9_hands 123 = .ok (.goto (-66), 3) := by decide +kernel
theorem dX9_hands_126 : decode cX9_hands 126 = .ok (.aload_n 0, 1) := by decide +kernel
theorem dX9_hands_127 : decode cX9_hands 127 = .ok (.getfield 32, 3) := by decide +kernel
theorem dX9_hands_130 : decode cX9_hands 130 = .ok (.iload_n 2, 1) := by decide +kernel
theorem dX9_hands_131 : decode cX9_hands 131 = .ok (.iload_n 2, 1) := by decide +kernel
theorem dX9_hands_132 : decode cX9_hands 132 = .ok (.iload_n 1, 1) := by decide +kernel
theorem dX9_hands_133 : decode cX9_hands 133 = .ok (.iconst (-1), 1) := by decide +kernel
theorem dX9_hands_134 : decode cX9_hands 134 = .ok (.ixor, 1) := by decide +kernel
theorem dX9_hands_135 : decode cX9_hands 135 = .ok (.iand, 1) := by decide +kernel
theorem dX9_hands_136 : decode cX9_hands 136 = .ok (.ifCond .eq 7, 3) := by decide +kernel
theorem dX9_hands_139 : decode cX9_hands 139 = .ok (.iconst 0, 1) := by decide +kernel
theorem dX9_hands_140 : decode cX9_hands 140 = .ok (.goto 16, 3) := by decide +kernel
theorem dX9_hands_143 : decode cX9_hands 143 = .ok (.iload_n 3, 1) := by decide +kernel
theorem dX9_hands_144 : decode cX9_hands 144 = .ok (.ifCond .ne 10, 3) := by decide +kernel
theorem dX9_hands_147 : decode cX9_hands 147 = .ok (.iload 4, 2) := by decide +kernel
theorem dX9_hands_149 : decode cX9_hands 149 = .ok (.iconst 1, 1) := by decide +kernel
theorem dX9_hands_150 : decode cX9_hands 150 = .ok (.iadd, 1) := by decide +kernel
theorem dX9_hands_151 : decode cX9_hands 151 = .ok (.goto 5, 3) := by decide +kernel
theorem dX9_hands_154 : decode cX9_hands 154 = .ok (.iload 4, 2) := by decide +kernel
theorem dX9_hands_156 : decode cX9_hands 156 = .ok (.iastore, 1) := by decide +kernel
theorem dX9_hands_157 : decode cX9_hands 157 = .ok (.iinc 2 1, 3) := by decide +kernel
theorem dX9_hands_160 : decode cX9_hands 160 = .ok (.goto (-117), 3) := by decide +kernel
theorem dX9_hands_163 : decode cX9_hands 163 = .ok (.iload_n 1, 1) := by decide +kernel
theorem dX9_hands_164 : decode cX9_hands 164 = .ok (.invokestatic 60, 3) := by decide +kernel
theorem dX9_hands_167 : decode cX9_hands 167 = .ok (.aload_n 0, 1) := by decide +kernel
theorem dX9_hands_168 : decode cX9_hands 168 = .ok (.getfield 32, 3) := by decide +kernel
theorem dX9_hands_171 : decode cX9_hands 171 = .ok (.iload_n 1, 1) := by decide +kernel
theorem dX9_hands_172 : decode cX9_hands 172 = .ok (.iaload, 1) := by decide +kernel
theorem dX9_hands_173 : decode cX9_hands 173 = .ok (.isub, 1) := by decide +kernel
theorem dX9_hands_174 : decode cX9_hands 174 = .ok (.ireturn, 1) := by decide +kernel
theorem dX9_layActs_0 : decode cX9_layActs 0 = .ok (.iload_n 1, 1) := by decide +kernel
theorem dX9_layActs_1 : decode cX9_layActs 1 = .ok (.istore_n 2, 1) := by decide +kernel
theorem dX9_layActs_2 : decode cX9_layActs 2 = .ok (.aload_n 0, 1) := by decide +kernel
theorem dX9_layActs_3 : decode cX9_layActs 3 = .ok (.getfield 52, 3) := by decide +kernel
theorem dX9_layActs_6 : decode cX9_layActs 6 = .ok (.invokestatic 60, 3) := by decide +kernel
theorem dX9_layActs_9 : decode cX9_layActs 9 = .ok (.iconst 1, 1) := by decide +kernel
theorem dX9_layActs_10 : decode cX9_layActs 10 = .ok (.isub, 1) := by decide +kernel
theorem dX9_layActs_11 : decode cX9_layActs 11 = .ok (.istore_n 3, 1) := by decide +kernel
theorem dX9_layActs_12 : decode cX9_layActs 12 = .ok (.iload_n 3, 1) := by decide +kernel
theorem dX9_layActs_13 : decode cX9_layActs 13 = .ok (.ifCond .lt 24, 3) := by decide +kernel
theorem dX9_layActs_16 : decode cX9_layActs 16 = .ok (.aload_n 0, 1) := by decide +kernel
theorem dX9_layActs_17 : decode cX9_layActs 17 = .ok (.getfield 35, 3) := by decide +kernel
theorem dX9_layActs_20 : decode cX9_layActs 20 = .ok (.iload_n 3, 1) := by decide +kernel
theorem dX9_layActs_21 : decode cX9_layActs 21 = .ok (.iload_n 2, 1) := by decide +kernel
theorem dX9_layActs_22 : decode cX9_layActs 22 = .ok (.bipush 10, 2) := by decide +kernel
theorem dX9_layActs_24 : decode cX9_layActs 24 = .ok (.irem, 1) := by decide +kernel
theorem dX9_layActs_25 : decode cX9_layActs 25 = .ok (.iastore, 1) := by decide +kernel
theorem dX9_layActs_26 : decode cX9_layActs 26 = .ok (.iload_n 2, 1) := by decide +kernel
theorem dX9_layActs_27 : decode cX9_layActs 27 = .ok (.bipush 10, 2) := by decide +kernel
theorem dX9_layActs_29 : decode cX9_layActs 29 = .ok (.idiv, 1) := by decide +kernel
theorem dX9_layActs_30 : decode cX9_layActs 30 = .ok (.istore_n 2, 1) := by decide +kernel
theorem dX9_layActs_31 : decode cX9_layActs 31 = .ok (.iinc 3 (-1), 3) := by decide +kernel
theorem dX9_layActs_34 : decode cX9_layActs 34 = .ok (.goto (-22), 3) := by decide +kernel
theorem dX9_layActs_37 : decode cX9_layActs 37 = .ok (.iload_n 1, 1) := by decide +kernel
theorem dX9_layActs_38 : decode cX9_layActs 38 = .ok (.ifCond .lt 11, 3) := by decide +kernel
theorem dX9_layActs_41 : decode cX9_layActs 41 = .ok (.iload_n 2, 1) := by decide +kernel
theorem dX9_layActs_42 : decode cX9_layActs 42 = .ok (.ifCond .ne 7, 3) := by decide +kernel
theorem dX9_layActs_45 : decode cX9_layActs 45 = .ok (.iconst 1, 1) := by decide +kernel
theorem dX9_layActs_46 : decode cX9_layActs 46 = .ok (.goto 4, 3) := by decide +kernel
theorem dX9_layActs_49 : decode cX9_layActs 49 = .ok (.iconst 0, 1) := by decide +kernel
theorem dX9_layActs_50 : decode cX9_layActs 50 = .ok (.ireturn, 1) := by decide +kernel
theorem dX9_layMatch_0 : decode cX9_layMatch 0 = .ok (.aload_n 0, 1) := by decide +kernel
theorem dX9_layMatch_1 : decode cX9_layMatch 1 = .ok (.getfield 52, 3) := by decide +kernel
theorem dX9_layMatch_4 : decode cX9_layMatch 4 = .ok (.invokestatic 60, 3) := by decide +kernel
theorem dX9_layMatch_7 : decode cX9_layMatch 7 = .ok (.istore_n 1, 1) := by decide +kernel
theorem dX9_layMatch_8 : decode cX9_layMatch 8 = .ok (.aload_n 0, 1) := by decide +kernel
theorem dX9_layMatch_9 : decode cX9_layMatch 9 = .ok (.ldc 169, 2) := by decide +kernel
theorem dX9_layMatch_11 : decode cX9_layMatch 11 = .ok (.putfield 170, 3) := by decide +kernel
theorem dX9_layMatch_14 : decode cX9_layMatch 14 = .ok (.aload_n 0, 1) := by decide +kernel
theorem dX9_layMatch_15 : decode cX9_layMatch 15 = .ok (.iconst 0, 1) := by decide +kernel
theorem dX9_layMatch_16 : decode cX9_layMatch 16 = .ok (.putfield 173, 3) := by decide +kernel
theorem dX9_layMatch_19 : decode cX9_layMatch 19 = .ok (.iconst 0, 1) := by decide +kernel
theorem dX9_layMatch_20 : decode cX9_layMatch 20 = .ok (.istore_n 2, 1) := by decide +kernel
theorem dX9_layMatch_21 : decode cX9_layMatch 21 = .ok (.iload_n 2, 1) := by decide +kernel
theorem dX9_layMatch_22 : decode cX9_layMatch 22 = .ok (.ldc 176, 2) := by decide +kernel
theorem dX9_layMatch_24 : decode cX9_layMatch 24 = .ok (.if_icmp .ge 253, 3) := by decide +kernel
theorem dX9_layMatch_27 : decode cX9_layMatch 27 = .ok (.iload_n 2, 1) := by decide +kernel
theorem dX9_layMatch_28 : decode cX9_layMatch 28 = .ok (.istore_n 3, 1) := by decide +kernel
theorem dX9_layMatch_29 : decode cX9_layMatch 29 = .ok (.iconst 0, 1) := by decide +kernel
theorem dX9_layMatch_30 : decode cX9_layMatch 30 = .ok (.istore 4, 2) := by decide +kernel
theorem dX9_layMatch_32 : decode cX9_layMatch 32 = .ok (.iconst 0, 1) := by decide +kernel
theorem dX9_layMatch_33 : decode cX9_layMatch 33 = .ok (.istore 5, 2) := by decide +kernel
theorem dX9_layMatch_35 : decode cX9_layMatch 35 = .ok (.iconst 1, 1) := by decide +kernel
theorem dX9_layMatch_36 : decode cX9_layMatch 36 = .ok (.istore 6, 2) := by decide +kernel
theorem dX9_layMatch_38 : decode cX9_layMatch 38 = .ok (.iconst 5, 1) := by decide +kernel
theorem dX9_layMatch_39 : decode cX9_layMatch 39 = .ok (.istore 7, 2) := by decide +kernel
theorem dX9_layMatch_41 : decode cX9_layMatch 41 = .ok (.iload 7, 2) := by decide +kernel
theorem dX9_layMatch_43 : decode cX9_layMatch 43 = .ok (.ifCond .lt 139, 3) := by decide +kernel
theorem dX9_layMatch_46 : decode cX9_layMatch 46 = .ok (.iload 6, 2) := by decide +kernel
theorem dX9_layMatch_48 : decode cX9_layMatch 48 = .ok (.ifCond .eq 134, 3) := by decide +kernel
theorem dX9_layMatch_51 : decode cX9_layMatch 51 = .ok (.iload_n 3, 1) := by decide +kernel
theorem dX9_layMatch_52 : decode cX9_layMatch 52 = .ok (.bipush 6, 2) := by decide +kernel
theorem dX9_layMatch_54 : decode cX9_layMatch 54 = .ok (.irem, 1) := by decide +kernel
theorem dX9_layMatch_55 : decode cX9_layMatch 55 = .ok (.istore 8, 2) := by decide +kernel
theorem dX9_layMatch_57 : decode cX9_layMatch 57 = .ok (.iload_n 3, 1) := by decide +kernel
theorem dX9_layMatch_58 : decode cX9_layMatch 58 = .ok (.bipush 6, 2) := by decide +kernel
theorem dX9_layMatch_60 : decode cX9_layMatch 60 = .ok (.idiv, 1) := by decide +kernel
theorem dX9_layMatch_61 : decode cX9_layMatch 61 = .ok (.istore_n 3, 1) := by decide +kernel
theorem dX9_layMatch_62 : decode cX9_layMatch 62 = .ok (.iload 7, 2) := by decide +kernel
theorem dX9_layMatch_64 : decode cX9_layMatch 64 = .ok (.iload_n 1, 1) := by decide +kernel
theorem dX9_layMatch_65 : decode cX9_layMatch 65 = .ok (.if_icmp .ge 99, 3) := by decide +kernel
theorem dX9_layMatch_68 : decode cX9_layMatch 68 = .ok (.aload_n 0, 1) := by decide +kernel
theorem dX9_layMatch_69 : decode cX9_layMatch 69 = .ok (.getfield 52, 3) := by decide +kernel
theorem dX9_layMatch_72 : decode cX9_layMatch 72 = .ok (.iload 8, 2) := by decide +kernel
theorem dX9_layMatch_74 : decode cX9_layMatch 74 = .ok (.invokestatic 56, 3) := by decide +kernel
theorem dX9_layMatch_77 : decode cX9_layMatch 77 = .ok (.ifCond .eq 17, 3) := by decide +kernel
theorem dX9_layMatch_80 : decode cX9_layMatch 80 = .ok (.iload 4, 2) := by decide +kernel
theorem dX9_layMatch_82 : decode cX9_layMatch 82 = .ok (.iload 8, 2) := by decide +kernel
theorem dX9_layMatch_84 : decode cX9_layMatch 84 = .ok (.invokestatic 56, 3) := by decide +kernel
theorem dX9_layMatch_87 : decode cX9_layMatch 87 = .ok (.ifCond .ne 7, 3) := by decide +kernel
theorem dX9_layMatch_90 : decode cX9_layMatch 90 = .ok (.iconst 1, 1) := by decide +kernel
theorem dX9_layMatch_91 : decode cX9_layMatch 91 = .ok (.goto 4, 3) := by decide +kernel
theorem dX9_layMatch_94 : decode cX9_layMatch 94 = .ok (.iconst 0, 1) := by decide +kernel
theorem dX9_layMatch_95 : decode cX9_layMatch 95 = .ok (.istore 6, 2) := by decide +kernel
theorem dX9_layMatch_97 : decode cX9_layMatch 97 = .ok (.iload 4, 2) := by decide +kernel
theorem dX9_layMatch_99 : decode cX9_layMatch 99 = .ok (.iconst 1, 1) := by decide +kernel
theorem dX9_layMatch_100 : decode cX9_layMatch 100 = .ok (.iload 8, 2) := by decide +kernel
theorem dX9_layMatch_102 : decode cX9_layMatch 102 = .ok (.ishl, 1) := by decide +kernel
theorem dX9_layMatch_103 : decode cX9_layMatch 103 = .ok (.ior, 1) := by decide +kernel
theorem dX9_layMatch_104 : decode cX9_layMatch 104 = .ok (.istore 4, 2) := by decide +kernel
theorem dX9_layMatch_106 : decode cX9_layMatch 106 = .ok (.iload 5, 2) := by decide +kernel
theorem dX9_layMatch_108 : decode cX9_layMatch 108 = .ok (.aload_n 0, 1) := by decide +kernel
theorem dX9_layMatch_109 : decode cX9_layMatch 109 = .ok (.getfield 35, 3) := by decide +kernel
theorem dX9_layMatch_112 : decode cX9_layMatch 112 = .ok (.iload 7, 2) := by decide +kernel
theorem dX9_layMatch_114 : decode cX9_layMatch 114 = .ok (.iaload, 1) := by decide +kernel
theorem dX9_layMatch_115 : decode cX9_layMatch 115 = .ok (.aload_n 0, 1) := by decide +kernel
theorem dX9_layMatch_116 : decode cX9_layMatch 116 = .ok (.getfield 16, 3) := by decide +kernel
theorem dX9_layMatch_119 : decode cX9_layMatch 119 = .ok (.iload 8, 2) := by decide +kernel
theorem dX9_layMatch_121 : decode cX9_layMatch 121 = .ok (.iaload, 1) := by decide +kernel
theorem dX9_layMatch_122 : decode cX9_layMatch 122 = .ok (.if_icmp .le 21, 3) := by decide +kernel
theorem dX9_layMatch_125 : decode cX9_layMatch 125 = .ok (.aload_n 0, 1) := by decide +kernel
theorem dX9_layMatch_126 : decode cX9_layMatch 126 = .ok (.getfield 35, 3) := by decide +kernel
theorem dX9_layMatch_129 : decode cX9_layMatch 129 = .ok (.iload 7, 2) := by decide +kernel
theorem dX9_layMatch_131 : decode cX9_layMatch 131 = .ok (.iaload, 1) := by decide +kernel
theorem dX9_layMatch_132 : decode cX9_layMatch 132 = .ok (.aload_n 0, 1) := by decide +kernel
theorem dX9_layMatch_133 : decode cX9_layMatch 133 = .ok (.getfield 16, 3) := by decide +kernel
theorem dX9_layMatch_136 : decode cX9_layMatch 136 = .ok (.iload 8, 2) := by decide +kernel
theorem dX9_layMatch_138 : decode cX9_layMatch 138 = .ok (.iaload, 1) := by decide +kernel
theorem dX9_layMatch_139 : decode cX9_layMatch 139 = .ok (.isub, 1) := by decide +kernel
theorem dX9_layMatch_140 : decode cX9_layMatch 140 = .ok (.goto 18, 3) := by decide +kernel
theorem dX9_layMatch_143 : decode cX9_layMatch 143 = .ok (.aload_n 0, 1) := by decide +kernel
theorem dX9_layMatch_144 : decode cX9_layMatch 144 = .ok (.getfield 16, 3) := by decide +kernel
theorem dX9_layMatch_147 : decode cX9_layMatch 147 = .ok (.iload 8, 2) := by decide +kernel
theorem dX9_layMatch_149 : decode cX9_layMatch 149 = .ok (.iaload, 1) := by decide +kernel
theorem dX9_layMatch_150 : decode cX9_layMatch 150 = .ok (.aload_n 0, 1) := by decide +kernel
theorem dX9_layMatch_151 : decode cX9_layMatch 151 = .ok (.getfield 35, 3) := by decide +kernel
theorem dX9_layMatch_154 : decode cX9_layMatch 154 = .ok (.iload 7, 2) := by decide +kernel
theorem dX9_layMatch_156 : decode cX9_layMatch 156 = .ok (.iaload, 1) := by decide +kernel
theorem dX9_layMatch_157 : decode cX9_layMatch 157 = .ok (.isub, 1) := by decide +kernel
theorem dX9_layMatch_158 : decode cX9_layMatch 158 = .ok (.iadd, 1) := by decide +kernel
theorem dX9_layMatch_159 : decode cX9_layMatch 159 = .ok (.istore 5, 2) := by decide +kernel
theorem dX9_layMatch_161 : decode cX9_layMatch 161 = .ok (.goto 15, 3) := by decide +kernel
theorem dX9_layMatch_164 : decode cX9_layMatch 164 = .ok (.iload 8, 2) := by decide +kernel
theorem dX9_layMatch_166 : decode cX9_layMatch 166 = .ok (.ifCond .ne 7, 3) := by decide +kernel
theorem dX9_layMatch_169 : decode cX9_layMatch 169 = .ok (.iconst 1, 1) := by decide +kernel
theorem dX9_layMatch_170 : decode cX9_layMatch 170 = .ok (.goto 4, 3) := by decide +kernel
theorem dX9_layMatch_173 : decode cX9_layMatch 173 = .ok (.iconst 0, 1) := by decide +kernel
theorem dX9_layMatch_174 : decode cX9_layMatch 174 = .ok (.istore 6, 2) := by decide +kernel
theorem dX9_layMatch_176 : decode cX9_layMatch 176 = .ok (.iinc 7 (-1), 3) := by decide +kernel
theorem dX9_layMatch_179 : decode cX9_layMatch 179 = .ok (.goto (-138), 3) := by decide +kernel
theorem dX9_layMatch_182 : decode cX9_layMatch 182 = .ok (.iload 6, 2) := by decide +kernel
theorem dX9_layMatch_184 : decode cX9_layMatch 184 = .ok (.ifCond .eq 59, 3) := by decide +kernel
theorem dX9_layMatch_187 : decode cX9_layMatch 187 = .ok (.iload 5, 2) := by decide +kernel
theorem dX9_layMatch_189 : decode cX9_layMatch 189 = .ok (.aload_n 0, 1) := by decide +kernel
theorem dX9_layMatch_190 : decode cX9_layMatch 190 = .ok (.getfield 170, 3) := by decide +kernel
theorem dX9_layMatch_193 : decode cX9_layMatch 193 = .ok (.if_icmp .ge 50, 3) := by decide +kernel
theorem dX9_layMatch_196 : decode cX9_layMatch 196 = .ok (.aload_n 0, 1) := by decide +kernel
theorem dX9_layMatch_197 : decode cX9_layMatch 197 = .ok (.iload 5, 2) := by decide +kernel
theorem dX9_layMatch_199 : decode cX9_layMatch 199 = .ok (.putfield 170, 3) := by decide +kernel
theorem dX9_layMatch_202 : decode cX9_layMatch 202 = .ok (.aload_n 0, 1) := by decide +kernel
theorem dX9_layMatch_203 : decode cX9_layMatch 203 = .ok (.iconst 0, 1) := by decide +kernel
theorem dX9_layMatch_204 : decode cX9_layMatch 204 = .ok (.putfield 173, 3) := by decide +kernel
theorem dX9_layMatch_207 : decode cX9_layMatch 207 = .ok (.iload_n 2, 1) := by decide +kernel
theorem dX9_layMatch_208 : decode cX9_layMatch 208 = .ok (.istore 7, 2) := by decide +kernel
theorem dX9_layMatch_210 : decode cX9_layMatch 210 = .ok (.iconst 5, 1) := by decide +kernel
theorem dX9_layMatch_211 : decode cX9_layMatch 211 = .ok (.istore 8, 2) := by decide +kernel
theorem dX9_layMatch_213 : decode cX9_layMatch 213 = .ok (.iload 8, 2) := by decide +kernel
theorem dX9_layMatch_215 : decode cX9_layMatch 215 = .ok (.ifCond .lt 28, 3) := by decide +kernel
theorem dX9_layMatch_218 : decode cX9_layMatch 218 = .ok (.aload_n 0, 1) := by decide +kernel
theorem dX9_layMatch_219 : decode cX9_layMatch 219 = .ok (.getfield 38, 3) := by decide +kernel
theorem dX9_layMatch_222 : decode cX9_layMatch 222 = .ok (.iload 8, 2) := by decide +kernel
theorem dX9_layMatch_224 : decode cX9_layMatch 224 = .ok (.iload 7, 2) := by decide +kernel
theorem dX9_layMatch_226 : decode cX9_layMatch 226 = .ok (.bipush 6, 2) := by decide +kernel
theorem dX9_layMatch_228 : decode cX9_layMatch 228 = .ok (.irem, 1) := by decide +kernel
theorem dX9_layMatch_229 : decode cX9_layMatch 229 = .ok (.iastore, 1) := by decide +kernel
theorem dX9_layMatch_230 : decode cX9_layMatch 230 = .ok (.iload 7, 2) := by decide +kernel
theorem dX9_layMatch_232 : decode cX9_layMatch 232 = .ok (.bipush 6, 2) := by decide +kernel
theorem dX9_layMatch_234 : decode cX9_layMatch 234 = .ok (.idiv, 1) := by decide +kernel
theorem dX9_layMatch_235 : decode cX9_layMatch 235 = .ok (.istore 7, 2) := by decide +kernel
theorem dX9_layMatch_237 : decode cX9_layMatch 237 = .ok (.iinc 8 (-1), 3) := by decide +kernel
theorem dX9_layMatch_240 : decode cX9_layMatch 240 = .ok (.goto (-27), 3) := by decide +kernel
theorem dX9_layMatch_243 : decode cX9_layMatch 243 = .ok (.aload_n 0, 1) := by decide +kernel
theorem dX9_layMatch_244 : decode cX9_layMatch 244 = .ok (.dup, 1) := by decide +kernel
theorem dX9_layMatch_245 : decode cX9_layMatch 245 = .ok (.getfield 173, 3) := by decide +kernel
theorem dX9_layMatch_248 : decode cX9_layMatch 248 = .ok (.iload 6, 2) := by decide +kernel
theorem dX9_layMatch_250 : decode cX9_layMatch 250 = .ok (.ifCond .eq 16, 3) := by decide +kernel
theorem dX9_layMatch_253 : decode cX9_layMatch 253 = .ok (.iload 5, 2) := by decide +kernel
theorem dX9_layMatch_255 : decode cX9_layMatch 255 = .ok (.aload_n 0, 1) := by decide +kernel
theorem dX9_layMatch_256 : decode cX9_layMatch 256 = .ok (.getfield 170, 3) := by decide +kernel
theorem dX9_layMatch_259 : decode cX9_layMatch 259 = .ok (.if_icmp .ne 7, 3) := by decide +kernel
theorem dX9_layMatch_262 : decode cX9_layMatch 262 = .ok (.iconst 1, 1) := by decide +kernel
theorem dX9_layMatch_263 : decode cX9_layMatch 263 = .ok (.goto 4, 3) := by decide +kernel
theorem dX9_layMatch_266 : decode cX9_layMatch 266 = .ok (.iconst 0, 1) := by decide +kernel
theorem dX9_layMatch_267 : decode cX9_layMatch 267 = .ok (.iadd, 1) := by decide +kernel
theorem dX9_layMatch_268 : decode cX9_layMatch 268 = .ok (.putfield 173, 3) := by decide +kernel
theorem dX9_layMatch_271 : decode cX9_layMatch 271 = .ok (.iinc 2 1, 3) := by decide +kernel
theorem dX9_layMatch_274 : decode cX9_layMatch 274 = .ok (.goto (-253), 3) := by decide +kernel
theorem dX9_layMatch_277 : decode cX9_layMatch 277 = .ok (.return_, 1) := by decide +kernel
theorem dX9_match_0 : decode cX9_match 0 = .ok (.aload_n 0, 1) := by decide +kernel
theorem dX9_match_1 : decode cX9_match 1 = .ok (.iload_n 1, 1) := by decide +kernel
theorem dX9_match_2 : decode cX9_match 2 = .ok (.invokevirtual 177, 3) := by decide +kernel
theorem dX9_match_5 : decode cX9_match 5 = .ok (.ifCond .eq 12, 3) := by decide +kernel
theorem dX9_match_8 : decode cX9_match 8 = .ok (.iload_n 2, 1) := by decide +kernel
theorem dX9_match_9 : decode cX9_match 9 = .ok (.iconst 0, 1) := by decide +kernel
theorem dX9_match_10 : decode cX9_match 10 = .ok (.iconst 1, 1) := by decide +kernel
theorem dX9_match_11 : decode cX9_match 11 = .ok (.invokestatic 48, 3) := by decide +kernel
theorem dX9_match_14 : decode cX9_match 14 = .ok (.ifCond .ne 6, 3) := by decide +kernel
theorem dX9_match_17 : decode cX9_match 17 = .ok (.bipush (-2), 2) := by decide +kernel
theorem dX9_match_19 : decode cX9_match 19 = .ok (.ireturn, 1) := by decide +kernel
theorem dX9_match_20 : decode cX9_match 20 = .ok (.aload_n 0, 1) := by decide +kernel
theorem dX9_match_21 : decode cX9_match 21 = .ok (.invokevirtual 180, 3) := by decide +kernel
theorem dX9_match_24 : decode cX9_match 24 = .ok (.iload_n 2, 1) := by decide +kernel
theorem dX9_match_25 : decode cX9_match 25 = .ok (.ifCond .ne 10, 3) := by decide +kernel
theorem dX9_match_28 : decode cX9_match 28 = .ok (.aload_n 0, 1) := by decide +kernel
theorem dX9_match_29 : decode cX9_match 29 = .ok (.getfield 170, 3) := by decide +kernel
theorem dX9_match_32 : decode cX9_match 32 = .ok (.goto 7, 3) := by decide +kernel
theorem dX9_match_35 : decode cX9_match 35 = .ok (.aload_n 0, 1) := by decide +kernel
theorem dX9_match_36 : decode cX9_match 36 = .ok (.getfield 173, 3) := by decide +kernel
theorem dX9_match_39 : decode cX9_match 39 = .ok (.ireturn, 1) := by decide +kernel
theorem dX9_wrote_0 : decode cX9_wrote 0 = .ok (.aload_n 0, 1) := by decide +kernel
theorem dX9_wrote_1 : decode cX9_wrote 1 = .ok (.iload_n 1, 1) := by decide +kernel
theorem dX9_wrote_2 : decode cX9_wrote 2 = .ok (.invokevirtual 177, 3) := by decide +kernel
theorem dX9_wrote_5 : decode cX9_wrote 5 = .ok (.ifCond .eq 20, 3) := by decide +kernel
theorem dX9_wrote_8 : decode cX9_wrote 8 = .ok (.iload_n 2, 1) := by decide +kernel
theorem dX9_wrote_9 : decode cX9_wrote 9 = .ok (.iconst 0, 1) := by decide +kernel
theorem dX9_wrote_10 : decode cX9_wrote 10 = .ok (.aload_n 0, 1) := by decide +kernel
theorem dX9_wrote_11 : decode cX9_wrote 11 = .ok (.getfield 52, 3) := by decide +kernel
theorem dX9_wrote_14 : decode cX9_wrote 14 = .ok (.invokestatic 60, 3) := by decide +kernel
theorem dX9_wrote_17 : decode cX9_wrote 17 = .ok (.iconst 1, 1) := by decide +kernel
theorem dX9_wrote_18 : decode cX9_wrote 18 = .ok (.isub, 1) := by decide +kernel
theorem dX9_wrote_19 : decode cX9_wrote 19 = .ok (.invokestatic 48, 3) := by decide +kernel
theorem dX9_wrote_22 : decode cX9_wrote 22 = .ok (.ifCond .ne 6, 3) := by decide +kernel
theorem dX9_wrote_25 : decode cX9_wrote 25 = .ok (.bipush (-2), 2) := by decide +kernel
theorem dX9_wrote_27 : decode cX9_wrote 27 = .ok (.ireturn, 1) := by decide +kernel
theorem dX9_wrote_28 : decode cX9_wrote 28 = .ok (.aload_n 0, 1) := by decide +kernel
theorem dX9_wrote_29 : decode cX9_wrote 29 = .ok (.invokevirtual 180, 3) := by decide +kernel
theorem dX9_wrote_32 : decode cX9_wrote 32 = .ok (.aload_n 0, 1) := by decide +kernel
theorem dX9_wrote_33 : decode cX9_wrote 33 = .ok (.getfield 38, 3) := by decide +kernel
theorem dX9_wrote_36 : decode cX9_wrote 36 = .ok (.iload_n 2, 1) := by decide +kernel
theorem dX9_wrote_37 : decode cX9_wrote 37 = .ok (.iaload, 1) := by decide +kernel
theorem dX9_wrote_38 : decode cX9_wrote 38 = .ok (.ireturn, 1) := by decide +kernel
theorem dX9_compare_0 : decode cX9_compare 0 = .ok (.iload_n 1, 1) := by decide +kernel
theorem dX9_compare_1 : decode cX9_compare 1 = .ok (.iconst 1, 1) := by decide +kernel
theorem dX9_compare_2 : decode cX9_compare 2 = .ok (.bipush 99, 2) := by decide +kernel
theorem dX9_compare_4 : decode cX9_compare 4 = .ok (.invokestatic 48, 3) := by decide +kernel
theorem dX9_compare_7 : decode cX9_compare 7 = .ok (.ifCond .ne 6, 3) := by decide +kernel
theorem dX9_compare_10 : decode cX9_compare 10 = .ok (.bipush (-2), 2) := by decide +kernel
theorem dX9_compare_12 : decode cX9_compare 12 = .ok (.ireturn, 1) := by decide +kernel
theorem dX9_compare_13 : decode cX9_compare 13 = .ok (.iconst 0, 1) := by decide +kernel
theorem dX9_compare_14 : decode cX9_compare 14 = .ok (.istore_n 2, 1) := by decide +kernel
theorem dX9_compare_15 : decode cX9_compare 15 = .ok (.iconst 1, 1) := by decide +kernel
theorem dX9_compare_16 : decode cX9_compare 16 = .ok (.istore_n 3, 1) := by decide +kernel
theorem dX9_compare_17 : decode cX9_compare 17 = .ok (.iload_n 3, 1) := by decide +kernel
theorem dX9_compare_18 : decode cX9_compare 18 = .ok (.iload_n 1, 1) := by decide +kernel
theorem dX9_compare_19 : decode cX9_compare 19 = .ok (.iconst 1, 1) := by decide +kernel
theorem dX9_compare_20 : decode cX9_compare 20 = .ok (.iadd, 1) := by decide +kernel
theorem dX9_compare_21 : decode cX9_compare 21 = .ok (.if_icmp .ge 13, 3) := by decide +kernel
theorem dX9_compare_24 : decode cX9_compare 24 = .ok (.iload_n 3, 1) := by decide +kernel
theorem dX9_compare_25 : decode cX9_compare 25 = .ok (.iconst 2, 1) := by decide +kernel
theorem dX9_compare_26 : decode cX9_compare 26 = .ok (.imul, 1) := by decide +kernel
theorem dX9_compare_27 : decode cX9_compare 27 = .ok (.istore_n 3, 1) := by decide +kernel
theorem dX9_compare_28 : decode cX9_compare 28 = .ok (.iinc 2 1, 3) := by decide +kernel
theorem dX9_compare_31 : decode cX9_compare 31 = .ok (.goto (-14), 3) := by decide +kernel
theorem dX9_compare_34 : decode cX9_compare 34 = .ok (.iload_n 2, 1) := by decide +kernel
theorem dX9_compare_35 : decode cX9_compare 35 = .ok (.ireturn, 1) := by decide +kernel
theorem dX9_blots_0 : decode cX9_blots 0 = .ok (.iload_n 1, 1) := by decide +kernel
theorem dX9_blots_1 : decode cX9_blots 1 = .ok (.iconst 0, 1) := by decide +kernel
theorem dX9_blots_2 : decode cX9_blots 2 = .ok (.bipush 9, 2) := by decide +kernel
theorem dX9_blots_4 : decode cX9_blots 4 = .ok (.invokestatic 48, 3) := by decide +kernel
theorem dX9_blots_7 : decode cX9_blots 7 = .ok (.ifCond .eq 32, 3) := by decide +kernel
theorem dX9_blots_10 : decode cX9_blots 10 = .ok (.iload_n 2, 1) := by decide +kernel
theorem dX9_blots_11 : decode cX9_blots 11 = .ok (.iconst 0, 1) := by decide +kernel
theorem dX9_blots_12 : decode cX9_blots 12 = .ok (.iload_n 1, 1) := by decide +kernel
theorem dX9_blots_13 : decode cX9_blots 13 = .ok (.invokestatic 48, 3) := by decide +kernel
theorem dX9_blots_16 : decode cX9_blots 16 = .ok (.ifCond .eq 23, 3) := by decide +kernel
theorem dX9_blots_19 : decode cX9_blots 19 = .ok (.iload_n 3, 1) := by decide +kernel
theorem dX9_blots_20 : decode cX9_blots 20 = .ok (.iconst 0, 1) := by decide +kernel
theorem dX9_blots_21 : decode cX9_blots 21 = .ok (.bipush 10, 2) := by decide +kernel
theorem dX9_blots_23 : decode cX9_blots 23 = .ok (.invokestatic 48, 3) := by decide +kernel
theorem dX9_blots_26 : decode cX9_blots 26 = .ok (.ifCond .eq 13, 3) := by decide +kernel
theorem dX9_blots_29 : decode cX9_blots 29 = .ok (.iload 4, 2) := by decide +kernel
theorem dX9_blots_31 : decode cX9_blots 31 = .ok (.iconst 0, 1) := by decide +kernel
theorem dX9_blots_32 : decode cX9_blots 32 = .ok (.iconst 1, 1) := by decide +kernel
theorem dX9_blots_33 : decode cX9_blots 33 = .ok (.invokestatic 48, 3) := by decide +kernel
theorem dX9_blots_36 : decode cX9_blots 36 = .ok (.ifCond .ne 7, 3) := by decide +kernel
theorem dX9_blots_39 : decode cX9_blots 39 = .ok (.ldc2_w 144, 3) := by decide +kernel
theorem dX9_blots_42 : decode cX9_blots 42 = .ok (.lreturn, 1) := by decide +kernel
theorem dX9_blots_43 : decode cX9_blots 43 = .ok (.iload_n 1, 1) := by decide +kernel
theorem dX9_blots_44 : decode cX9_blots 44 = .ok (.iload_n 1, 1) := by decide +kernel
theorem dX9_blots_45 : decode cX9_blots 45 = .ok (.iload_n 2, 1) := by decide +kernel
theorem dX9_blots_46 : decode cX9_blots 46 = .ok (.isub, 1) := by decide +kernel
theorem dX9_blots_47 : decode cX9_blots 47 = .ok (.iload_n 3, 1) := by decide +kernel
theorem dX9_blots_48 : decode cX9_blots 48 = .ok (.invokestatic 162, 3) := by decide +kernel
theorem dX9_blots_51 : decode cX9_blots 51 = .ok (.ldc2_w 160, 3) := by decide +kernel
theorem dX9_blots_54 : decode cX9_blots 54 = .ok (.iload_n 1, 1) := by decide +kernel
theorem dX9_blots_55 : decode cX9_blots 55 = .ok (.invokestatic 140, 3) := by decide +kernel
theorem dX9_blots_58 : decode cX9_blots 58 = .ok (.iload 4, 2) := by decide +kernel
theorem dX9_blots_60 : decode cX9_blots 60 = .ok (.invokestatic 149, 3) := by decide +kernel
theorem dX9_blots_63 : decode cX9_blots 63 = .ok (.lreturn, 1) := by decide +kernel
theorem dX9_seen_0 : decode cX9_seen 0 = .ok (.iload_n 1, 1) := by decide +kernel
theorem dX9_seen_1 : decode cX9_seen 1 = .ok (.iconst 0, 1) := by decide +kernel
theorem dX9_seen_2 : decode cX9_seen 2 = .ok (.bipush 9, 2) := by decide +kernel
theorem dX9_seen_4 : decode cX9_seen 4 = .ok (.invokestatic 48, 3) := by decide +kernel
theorem dX9_seen_7 : decode cX9_seen 7 = .ok (.ifCond .eq 23, 3) := by decide +kernel
theorem dX9_seen_10 : decode cX9_seen 10 = .ok (.iload_n 2, 1) := by decide +kernel
theorem dX9_seen_11 : decode cX9_seen 11 = .ok (.iconst 1, 1) := by decide +kernel
theorem dX9_seen_12 : decode cX9_seen 12 = .ok (.bipush 8, 2) := by decide +kernel
theorem dX9_seen_14 : decode cX9_seen 14 = .ok (.invokestatic 48, 3) := by decide +kernel
theorem dX9_seen_17 : decode cX9_seen 17 = .ok (.ifCond .eq 13, 3) := by decide +kernel
theorem dX9_seen_20 : decode cX9_seen 20 = .ok (.iload_n 3, 1) := by decide +kernel
theorem dX9_seen_21 : decode cX9_seen 21 = .ok (.iconst 1, 1) := by decide +kernel
theorem dX9_seen_22 : decode cX9_seen 22 = .ok (.bipush 9, 2) := by decide +kernel
theorem dX9_seen_24 : decode cX9_seen 24 = .ok (.invokestatic 48, 3) := by decide +kernel
theorem dX9_seen_27 : decode cX9_seen 27 = .ok (.ifCond .ne 6, 3) := by decide +kernel
theorem dX9_seen_30 : decode cX9_seen 30 = .ok (.bipush (-2), 2) := by decide +kernel
theorem dX9_seen_32 : decode cX9_seen 32 = .ok (.ireturn, 1) := by decide +kernel
theorem dX9_seen_33 : decode cX9_seen 33 = .ok (.aload_n 0, 1) := by decide +kernel
theorem dX9_seen_34 : decode cX9_seen 34 = .ok (.getfield 183, 3) := by decide +kernel
theorem dX9_seen_37 : decode cX9_seen 37 = .ok (.bipush 8, 2) := by decide +kernel
theorem dX9_seen_39 : decode cX9_seen 39 = .ok (.if_icmp .ne 6, 3) := by decide +kernel
theorem dX9_seen_42 : decode cX9_seen 42 = .ok (.bipush (-4), 2) := by decide +kernel
theorem dX9_seen_44 : decode cX9_seen 44 = .ok (.ireturn, 1) := by decide +kernel
theorem dX9_seen_45 : decode cX9_seen 45 = .ok (.aload_n 0, 1) := by decide +kernel
theorem dX9_seen_46 : decode cX9_seen 46 = .ok (.getfield 22, 3) := by decide +kernel
theorem dX9_seen_49 : decode cX9_seen 49 = .ok (.iconst 4, 1) := by decide +kernel
theorem dX9_seen_50 : decode cX9_seen 50 = .ok (.aload_n 0, 1) := by decide +kernel
theorem dX9_seen_51 : decode cX9_seen 51 = .ok (.getfield 183, 3) := by decide +kernel
theorem dX9_seen_54 : decode cX9_seen 54 = .ok (.imul, 1) := by decide +kernel
theorem dX9_seen_55 : decode cX9_seen 55 = .ok (.iload_n 1, 1) := by decide +kernel
theorem dX9_seen_56 : decode cX9_seen 56 = .ok (.iastore, 1) := by decide +kernel
theorem dX9_seen_57 : decode cX9_seen 57 = .ok (.aload_n 0, 1) := by decide +kernel
theorem dX9_seen_58 : decode cX9_seen 58 = .ok (.getfield 22, 3) := by decide +kernel
theorem dX9_seen_61 : decode cX9_seen 61 = .ok (.iconst 4, 1) := by decide +kernel
theorem dX9_seen_62 : decode cX9_seen 62 = .ok (.aload_n 0, 1) := by decide +kernel
theorem dX9_seen_63 : decode cX9_seen 63 = .ok (.getfield 183, 3) := by decide +kernel
theorem dX9_seen_66 : decode cX9_seen 66 = .ok (.imul, 1) := by decide +kernel
theorem dX9_seen_67 : decode cX9_seen 67 = .ok (.iconst 1, 1) := by decide +kernel
theorem dX9_seen_68 : decode cX9_seen 68 = .ok (.iadd, 1) := by decide +kernel
theorem dX9_seen_69 : decode cX9_seen 69 = .ok (.iload_n 2, 1) := by decide +kernel
theorem dX9_seen_70 : decode cX9_seen 70 = .ok (.iastore, 1) := by decide +kernel
theorem dX9_seen_71 : decode cX9_seen 71 = .ok (.aload_n 0, 1) := by decide +kernel
theorem dX9_seen_72 : decode cX9_seen 72 = .ok (.getfield 22, 3) := by decide +kernel
theorem dX9_seen_75 : decode cX9_seen 75 = .ok (.iconst 4, 1) := by decide +kernel
theorem dX9_seen_76 : decode cX9_seen 76 = .ok (.aload_n 0, 1) := by decide +kernel
theorem dX9_seen_77 : decode cX9_seen 77 = .ok (.getfield 183, 3) := by decide +kernel
theorem dX9_seen_80 : decode cX9_seen 80 = .ok (.imul, 1) := by decide +kernel
theorem dX9_seen_81 : decode cX9_seen 81 = .ok (.iconst 2, 1) := by decide +kernel
theorem dX9_seen_82 : decode cX9_seen 82 = .ok (.iadd, 1) := by decide +kernel
theorem dX9_seen_83 : decode cX9_seen 83 = .ok (.iload_n 3, 1) := by decide +kernel
theorem dX9_seen_84 : decode cX9_seen 84 = .ok (.iastore, 1) := by decide +kernel
theorem dX9_seen_85 : decode cX9_seen 85 = .ok (.aload_n 0, 1) := by decide +kernel
theorem dX9_seen_86 : decode cX9_seen 86 = .ok (.getfield 22, 3) := by decide +kernel
theorem dX9_seen_89 : decode cX9_seen 89 = .ok (.iconst 4, 1) := by decide +kernel
theorem dX9_seen_90 : decode cX9_seen 90 = .ok (.aload_n 0, 1) := by decide +kernel
theorem dX9_seen_91 : decode cX9_seen 91 = .ok (.getfield 183, 3) := by decide +kernel
theorem dX9_seen_94 : decode cX9_seen 94 = .ok (.imul, 1) := by decide +kernel
theorem dX9_seen_95 : decode cX9_seen 95 = .ok (.iconst 3, 1) := by decide +kernel
theorem dX9_seen_96 : decode cX9_seen 96 = .ok (.iadd, 1) := by decide +kernel
theorem dX9_seen_97 : decode cX9_seen 97 = .ok (.iload 4, 2) := by decide +kernel
theorem dX9_seen_99 : decode cX9_seen 99 = .ok (.ifCond .eq 7, 3) := by decide +kernel
theorem dX9_seen_102 : decode cX9_seen 102 = .ok (.iconst 1, 1) := by decide +kernel
theorem dX9_seen_103 : decode cX9_seen 103 = .ok (.goto 4, 3) := by decide +kernel
theorem dX9_seen_106 : decode cX9_seen 106 = .ok (.iconst 0, 1) := by decide +kernel
theorem dX9_seen_107 : decode cX9_seen 107 = .ok (.iastore, 1) := by decide +kernel
theorem dX9_seen_108 : decode cX9_seen 108 = .ok (.aload_n 0, 1) := by decide +kernel
theorem dX9_seen_109 : decode cX9_seen 109 = .ok (.dup, 1) := by decide +kernel
theorem dX9_seen_110 : decode cX9_seen 110 = .ok (.getfield 183, 3) := by decide +kernel
theorem dX9_seen_113 : decode cX9_seen 113 = .ok (.iconst 1, 1) := by decide +kernel
theorem dX9_seen_114 : decode cX9_seen 114 = .ok (.iadd, 1) := by decide +kernel
theorem dX9_seen_115 : decode cX9_seen 115 = .ok (.putfield 183, 3) := by decide +kernel
theorem dX9_seen_118 : decode cX9_seen 118 = .ok (.aload_n 0, 1) := by decide +kernel
theorem dX9_seen_119 : decode cX9_seen 119 = .ok (.getfield 183, 3) := by decide +kernel
theorem dX9_seen_122 : decode cX9_seen 122 = .ok (.ireturn, 1) := by decide +kernel
theorem dX9_forget_0 : decode cX9_forget 0 = .ok (.aload_n 0, 1) := by decide +kernel
theorem dX9_forget_1 : decode cX9_forget 1 = .ok (.getfield 183, 3) := by decide +kernel
theorem dX9_forget_4 : decode cX9_forget 4 = .ok (.istore_n 1, 1) := by decide +kernel
theorem dX9_forget_5 : decode cX9_forget 5 = .ok (.aload_n 0, 1) := by decide +kernel
theorem dX9_forget_6 : decode cX9_forget 6 = .ok (.iconst 0, 1) := by decide +kernel
theorem dX9_forget_7 : decode cX9_forget 7 = .ok (.putfield 183, 3) := by decide +kernel
theorem dX9_forget_10 : decode cX9_forget 10 = .ok (.iload_n 1, 1) := by decide +kernel
theorem dX9_forget_11 : decode cX9_forget 11 = .ok (.ireturn, 1) := by decide +kernel
theorem dX9_doesSign_0 : decode cX9_doesSign 0 = .ok (.iload_n 2, 1) := by decide +kernel
theorem dX9_doesSign_1 : decode cX9_doesSign 1 = .ok (.ifCond .ne 5, 3) := by decide +kernel
theorem dX9_doesSign_4 : decode cX9_doesSign 4 = .ok (.iconst 0, 1) := by decide +kernel
theorem dX9_doesSign_5 : decode cX9_doesSign 5 = .ok (.ireturn, 1) := by decide +kernel
theorem dX9_doesSign_6 : decode cX9_doesSign 6 = .ok (.iload_n 1, 1) := by decide +kernel
theorem dX9_doesSign_7 : decode cX9_doesSign 7 = .ok (.bipush 10, 2) := by decide +kernel
theorem dX9_doesSign_9 : decode cX9_doesSign 9 = .ok (.if_icmp .ge 17, 3) := by decide +kernel
theorem dX9_doesSign_12 : decode cX9_doesSign 12 = .ok (.iload 4, 2) := by decide +kernel
theorem dX9_doesSign_14 : decode cX9_doesSign 14 = .ok (.iload_n 1, 1) := by decide +kernel
theorem dX9_doesSign_15 : decode cX9_doesSign 15 = .ok (.if_icmp .lt 7, 3) := by decide +kernel
theorem dX9_doesSign_18 : decode cX9_doesSign 18 = .ok (.iconst 1, 1) := by decide +kernel
theorem dX9_doesSign_19 : decode cX9_doesSign 19 = .ok (.goto 48, 3) := by decide +kernel
theorem dX9_doesSign_22 : decode cX9_doesSign 22 = .ok (.iconst 0, 1) := by decide +kernel
theorem dX9_doesSign_23 : decode cX9_doesSign 23 = .ok (.goto 44, 3) := by decide +kernel
theorem dX9_doesSign_26 : decode cX9_doesSign 26 = .ok (.iload_n 1, 1) := by decide +kernel
theorem dX9_doesSign_27 : decode cX9_doesSign 27 = .ok (.bipush 10, 2) := by decide +kernel
theorem dX9_doesSign_29 : decode cX9_doesSign 29 = .ok (.if_icmp .ne 22, 3) := by decide +kernel
theorem dX9_doesSign_32 : decode cX9_doesSign 32 = .ok (.iload 4, 2) := by decide +kernel
theorem dX9_doesSign_34 : decode cX9_doesSign 34 = .ok (.aload_n 0, 1) := by decide +kernel
theorem dX9_doesSign_35 : decode cX9_doesSign 35 = .ok (.iload_n 2, 1) := by decide +kernel
theorem dX9_doesSign_36 : decode cX9_doesSign 36 = .ok (.iload_n 3, 1) := by decide +kernel
theorem dX9_doesSign_37 : decode cX9_doesSign 37 = .ok (.invokevirtual 153, 3) := by decide +kernel
theorem dX9_doesSign_40 : decode cX9_doesSign 40 = .ok (.if_icmp .lt 7, 3) := by decide +kernel
theorem dX9_doesSign_43 : decode cX9_doesSign 43 = .ok (.iconst 1, 1) := by decide +kernel
theorem dX9_doesSign_44 : decode cX9_doesSign 44 = .ok (.goto 23, 3) := by decide +kernel
theorem dX9_doesSign_47 : decode cX9_doesSign 47 = .ok (.iconst 0, 1) := by decide +kernel
theorem dX9_doesSign_48 : decode cX9_doesSign 48 = .ok (.goto 19, 3) := by decide +kernel
theorem dX9_doesSign_51 : decode cX9_doesSign 51 = .ok (.iload_n 2, 1) := by decide +kernel
theorem dX9_doesSign_52 : decode cX9_doesSign 52 = .ok (.iload_n 3, 1) := by decide +kernel
theorem dX9_doesSign_53 : decode cX9_doesSign 53 = .ok (.if_icmp .ge 9, 3) := by decide +kernel
theorem dX9_doesSign_56 : decode cX9_doesSign 56 = .ok (.iload 4, 2) := by decide +kernel
theorem dX9_doesSign_58 : decode cX9_doesSign 58 = .ok (.iconst 5, 1) := by decide +kernel
theorem dX9_doesSign_59 : decode cX9_doesSign 59 = .ok (.if_icmp .lt 7, 3) := by decide +kernel
theorem dX9_doesSign_62 : decode cX9_doesSign 62 = .ok (.iconst 1, 1) := by decide +kernel
theorem dX9_doesSign_63 : decode cX9_doesSign 63 = .ok (.goto 4, 3) := by decide +kernel
theorem dX9_doesSign_66 : decode cX9_doesSign 66 = .ok (.iconst 0, 1) := by decide +kernel
theorem dX9_doesSign_67 : decode cX9_doesSign 67 = .ok (.ireturn, 1) := by decide +kernel
theorem dX9_habits_0 : decode cX9_habits 0 = .ok (.aload_n 0, 1) := by decide +kernel
theorem dX9_habits_1 : decode cX9_habits 1 = .ok (.invokevirtual 146, 3) := by decide +kernel
theorem dX9_habits_4 : decode cX9_habits 4 = .ok (.iconst 0, 1) := by decide +kernel
theorem dX9_habits_5 : decode cX9_habits 5 = .ok (.istore_n 1, 1) := by decide +kernel
theorem dX9_habits_6 : decode cX9_habits 6 = .ok (.iconst 0, 1) := by decide +kernel
theorem dX9_habits_7 : decode cX9_habits 7 = .ok (.istore_n 2, 1) := by decide +kernel
theorem dX9_habits_8 : decode cX9_habits 8 = .ok (.iload_n 2, 1) := by decide +kernel
theorem dX9_habits_9 : decode cX9_habits 9 = .ok (.bipush 12, 2) := by decide +kernel
theorem dX9_habits_11 : decode cX9_habits 11 = .ok (.if_icmp .ge 112, 3) := by decide +kernel
theorem dX9_habits_14 : decode cX9_habits 14 = .ok (.iconst 1, 1) := by decide +kernel
theorem dX9_habits_15 : decode cX9_habits 15 = .ok (.istore_n 3, 1) := by decide +kernel
theorem dX9_habits_16 : decode cX9_habits 16 = .ok (.iconst 0, 1) := by decide +kernel
theorem dX9_habits_17 : decode cX9_habits 17 = .ok (.istore 4, 2) := by decide +kernel
theorem dX9_habits_19 : decode cX9_habits 19 = .ok (.iload 4, 2) := by decide +kernel
theorem dX9_habits_21 : decode cX9_habits 21 = .ok (.aload_n 0, 1) := by decide +kernel
theorem dX9_habits_22 : decode cX9_habits 22 = .ok (.getfield 183, 3) := by decide +kernel
theorem dX9_habits_25 : decode cX9_habits 25 = .ok (.if_icmp .ge 78, 3) := by decide +kernel
theorem dX9_habits_28 : decode cX9_habits 28 = .ok (.iload_n 3, 1) := by decide +kernel
theorem dX9_habits_29 : decode cX9_habits 29 = .ok (.ifCond .eq 66, 3) := by decide +kernel
theorem dX9_habits_32 : decode cX9_habits 32 = .ok (.aload_n 0, 1) := by decide +kernel
theorem dX9_habits_33 : decode cX9_habits 33 = .ok (.iload_n 2, 1) := by decide +kernel
theorem dX9_habits_34 : decode cX9_habits 34 = .ok (.aload_n 0, 1) := by decide +kernel
theorem dX9_habits_35 : decode cX9_habits 35 = .ok (.getfield 22, 3) := by decide +kernel
theorem dX9_habits_38 : decode cX9_habits 38 = .ok (.iconst 4, 1) := by decide +kernel
theorem dX9_habits_39 : decode cX9_habits 39 = .ok (.iload 4, 2) := by decide +kernel
theorem dX9_habits_41 : decode cX9_habits 41 = .ok (.imul, 1) := by decide +kernel
theorem dX9_habits_42 : decode cX9_habits 42 = .ok (.iaload, 1) := by decide +kernel
theorem dX9_habits_43 : decode cX9_habits 43 = .ok (.aload_n 0, 1) := by decide +kernel
theorem dX9_habits_44 : decode cX9_habits 44 = .ok (.getfield 22, 3) := by decide +kernel
theorem dX9_habits_47 : decode cX9_habits 47 = .ok (.iconst 4, 1) := by decide +kernel
theorem dX9_habits_48 : decode cX9_habits 48 = .ok (.iload 4, 2) := by decide +kernel
theorem dX9_habits_50 : decode cX9_habits 50 = .ok (.imul, 1) := by decide +kernel
theorem dX9_habits_51 : decode cX9_habits 51 = .ok (.iconst 1, 1) := by decide +kernel
theorem dX9_habits_52 : decode cX9_habits 52 = .ok (.iadd, 1) := by decide +kernel
theorem dX9_habits_53 : decode cX9_habits 53 = .ok (.iaload, 1) := by decide +kernel
theorem dX9_habits_54 : decode cX9_habits 54 = .ok (.aload_n 0, 1) := by decide +kernel
theorem dX9_habits_55 : decode cX9_habits 55 = .ok (.getfield 22, 3) := by decide +kernel
theorem dX9_habits_58 : decode cX9_habits 58 = .ok (.iconst 4, 1) := by decide +kernel
theorem dX9_habits_59 : decode cX9_habits 59 = .ok (.iload 4, 2) := by decide +kernel
theorem dX9_habits_61 : decode cX9_habits 61 = .ok (.imul, 1) := by decide +kernel
theorem dX9_habits_62 : decode cX9_habits 62 = .ok (.iconst 2, 1) := by decide +kernel
theorem dX9_habits_63 : decode cX9_habits 63 = .ok (.iadd, 1) := by decide +kernel
theorem dX9_habits_64 : decode cX9_habits 64 = .ok (.iaload, 1) := by decide +kernel
theorem dX9_habits_65 : decode cX9_habits 65 = .ok (.invokevirtual 186, 3) := by decide +kernel
theorem dX9_habits_68 : decode cX9_habits 68 = .ok (.aload_n 0, 1) := by decide +kernel
theorem dX9_habits_69 : decode cX9_habits 69 = .ok (.getfield 22, 3) := by decide +kernel
theorem dX9_habits_72 : decode cX9_habits 72 = .ok (.iconst 4, 1) := by decide +kernel
theorem dX9_habits_73 : decode cX9_habits 73 = .ok (.iload 4, 2) := by decide +kernel
theorem dX9_habits_75 : decode cX9_habits 75 = .ok (.imul, 1) := by decide +kernel
theorem dX9_habits_76 : decode cX9_habits 76 = .ok (.iconst 3, 1) := by decide +kernel
theorem dX9_habits_77 : decode cX9_habits 77 = .ok (.iadd, 1) := by decide +kernel
theorem dX9_habits_78 : decode cX9_habits 78 = .ok (.iaload, 1) := by decide +kernel
theorem dX9_habits_79 : decode cX9_habits 79 = .ok (.iconst 1, 1) := by decide +kernel
theorem dX9_habits_80 : decode cX9_habits 80 = .ok (.if_icmp .ne 7, 3) := by decide +kernel
theorem dX9_habits_83 : decode cX9_habits 83 = .ok (.iconst 1, 1) := by decide +kernel
theorem dX9_habits_84 : decode cX9_habits 84 = .ok (.goto 4, 3) := by decide +kernel
theorem dX9_habits_87 : decode cX9_habits 87 = .ok (.iconst 0, 1) := by decide +kernel
theorem dX9_habits_88 : decode cX9_habits 88 = .ok (.if_icmp .ne 7, 3) := by decide +kernel
theorem dX9_habits_91 : decode cX9_habits 91 = .ok (.iconst 1, 1) := by decide +kernel
theorem dX9_habits_92 : decode cX9_habits 92 = .ok (.goto 4, 3) := by decide +kernel
theorem dX9_habits_95 : decode cX9_habits 95 = .ok (.iconst 0, 1) := by decide +kernel
theorem dX9_habits_96 : decode cX9_habits 96 = .ok (.istore_n 3, 1) := by decide +kernel
theorem dX9_habits_97 : decode cX9_habits 97 = .ok (.iinc 4 1, 3) := by decide +kernel
theorem dX9_habits_100 : decode cX9_habits 100 = .ok (.goto (-81), 3) := by decide +kernel
theorem dX9_habits_103 : decode cX9_habits 103 = .ok (.iload_n 1, 1) := by decide +kernel
theorem dX9_habits_104 : decode cX9_habits 104 = .ok (.iload_n 3, 1) := by decide +kernel
theorem dX9_habits_105 : decode cX9_habits 105 = .ok (.ifCond .eq 9, 3) := by decide +kernel
theorem dX9_habits_108 : decode cX9_habits 108 = .ok (.iconst 1, 1) := by decide +kernel
theorem dX9_habits_109 : decode cX9_habits 109 = .ok (.iload_n 2, 1) := by decide +kernel
theorem dX9_habits_110 : decode cX9_habits 110 = .ok (.ishl, 1) := by decide +kernel
theorem dX9_habits_111 : decode cX9_habits 111 = .ok (.goto 4, 3) := by decide +kernel
theorem dX9_habits_114 : decode cX9_habits 114 = .ok (.iconst 0, 1) := by decide +kernel
theorem dX9_habits_115 : decode cX9_habits 115 = .ok (.ior, 1) := by decide +kernel
theorem dX9_habits_116 : decode cX9_habits 116 = .ok (.istore_n 1, 1) := by decide +kernel
theorem dX9_habits_117 : decode cX9_habits 117 = .ok (.iinc 2 1, 3) := by decide +kernel
theorem dX9_habits_120 : decode cX9_habits 120 = .ok (.goto (-112), 3) := by decide +kernel
theorem dX9_habits_123 : decode cX9_habits 123 = .ok (.iload_n 1, 1) := by decide +kernel
theorem dX9_habits_124 : decode cX9_habits 124 = .ok (.ireturn, 1) := by decide +kernel
theorem dX9_signs_0 : decode cX9_signs 0 = .ok (.aload_n 0, 1) := by decide +kernel
theorem dX9_signs_1 : decode cX9_signs 1 = .ok (.invokevirtual 190, 3) := by decide +kernel
theorem dX9_signs_4 : decode cX9_signs 4 = .ok (.ireturn, 1) := by decide +kernel
theorem dX9_watch_0 : decode cX9_watch 0 = .ok (.iload_n 1, 1) := by decide +kernel
theorem dX9_watch_1 : decode cX9_watch 1 = .ok (.iconst 0, 1) := by decide +kernel
theorem dX9_watch_2 : decode cX9_watch 2 = .ok (.iconst 1, 1) := by decide +kernel
theorem dX9_watch_3 : decode cX9_watch 3 = .ok (.invokestatic 48, 3) := by decide +kernel
theorem dX9_watch_6 : decode cX9_watch 6 = .ok (.ifCond .ne 6, 3) := by decide +kernel
theorem dX9_watch_9 : decode cX9_watch 9 = .ok (.bipush (-2), 2) := by decide +kernel
theorem dX9_watch_11 : decode cX9_watch 11 = .ok (.ireturn, 1) := by decide +kernel
theorem dX9_watch_12 : decode cX9_watch 12 = .ok (.aload_n 0, 1) := by decide +kernel
theorem dX9_watch_13 : decode cX9_watch 13 = .ok (.invokevirtual 190, 3) := by decide +kernel
theorem dX9_watch_16 : decode cX9_watch 16 = .ok (.istore_n 2, 1) := by decide +kernel
theorem dX9_watch_17 : decode cX9_watch 17 = .ok (.bipush (-6), 2) := by decide +kernel
theorem dX9_watch_19 : decode cX9_watch 19 = .ok (.istore_n 3, 1) := by decide +kernel
theorem dX9_watch_20 : decode cX9_watch 20 = .ok (.ldc 169, 2) := by decide +kernel
theorem dX9_watch_22 : decode cX9_watch 22 = .ok (.istore 4, 2) := by decide +kernel
theorem dX9_watch_24 : decode cX9_watch 24 = .ok (.iconst 0, 1) := by decide +kernel
theorem dX9_watch_25 : decode cX9_watch 25 = .ok (.istore 5, 2) := by decide +kernel
theorem dX9_watch_27 : decode cX9_watch 27 = .ok (.iload 5, 2) := by decide +kernel
theorem dX9_watch_29 : decode cX9_watch 29 = .ok (.sipush 1000, 3) := by decide +kernel
theorem dX9_watch_32 : decode cX9_watch 32 = .ok (.if_icmp .ge 158, 3) := by decide +kernel
theorem dX9_watch_35 : decode cX9_watch 35 = .ok (.iload_n 2, 1) := by decide +kernel
theorem dX9_watch_36 : decode cX9_watch 36 = .ok (.ifCond .eq 154, 3) := by decide +kernel
theorem dX9_watch_39 : decode cX9_watch 39 = .ok (.iload 5, 2) := by decide +kernel
theorem dX9_watch_41 : decode cX9_watch 41 = .ok (.bipush 10, 2) := by decide +kernel
theorem dX9_watch_43 : decode cX9_watch 43 = .ok (.idiv, 1) := by decide +kernel
theorem dX9_watch_44 : decode cX9_watch 44 = .ok (.bipush 10, 2) := by decide +kernel
theorem dX9_watch_46 : decode cX9_watch 46 = .ok (.irem, 1) := by decide +kernel
theorem dX9_watch_47 : decode cX9_watch 47 = .ok (.istore 6, 2) := by decide +kernel
theorem dX9_watch_49 : decode cX9_watch 49 = .ok (.iload 5, 2) := by decide +kernel
theorem dX9_watch_51 : decode cX9_watch 51 = .ok (.bipush 10, 2) := by decide +kernel
theorem dX9_watch_53 : decode cX9_watch 53 = .ok (.irem, 1) := by decide +kernel
theorem dX9_watch_54 : decode cX9_watch 54 = .ok (.istore 7, 2) := by decide +kernel
theorem dX9_watch_56 : decode cX9_watch 56 = .ok (.iload 6, 2) := by decide +kernel
theorem dX9_watch_58 : decode cX9_watch 58 = .ok (.iconst 1, 1) := by decide +kernel
theorem dX9_watch_59 : decode cX9_watch 59 = .ok (.bipush 8, 2) := by decide +kernel
theorem dX9_watch_61 : decode cX9_watch 61 = .ok (.invokestatic 48, 3) := by decide +kernel
theorem dX9_watch_64 : decode cX9_watch 64 = .ok (.ifCond .eq 120, 3) := by decide +kernel
theorem dX9_watch_67 : decode cX9_watch 67 = .ok (.iload 7, 2) := by decide +kernel
theorem dX9_watch_69 : decode cX9_watch 69 = .ok (.ifCond .le 115, 3) := by decide +kernel
theorem dX9_watch_72 : decode cX9_watch 72 = .ok (.iconst 0, 1) := by decide +kernel
theorem dX9_watch_73 : decode cX9_watch 73 = .ok (.istore 8, 2) := by decide +kernel
theorem dX9_watch_75 : decode cX9_watch 75 = .ok (.iconst 0, 1) := by decide +kernel
theorem dX9_watch_76 : decode cX9_watch 76 = .ok (.istore 9, 2) := by decide +kernel
theorem dX9_watch_78 : decode cX9_watch 78 = .ok (.iload 9, 2) := by decide +kernel
theorem dX9_watch_80 : decode cX9_watch 80 = .ok (.bipush 12, 2) := by decide +kernel
theorem dX9_watch_82 : decode cX9_watch 82 = .ok (.if_icmp .ge 46, 3) := by decide +kernel
theorem dX9_watch_85 : decode cX9_watch 85 = .ok (.iload 8, 2) := by decide +kernel
theorem dX9_watch_87 : decode cX9_watch 87 = .ok (.iload_n 2, 1) := by decide +kernel
theorem dX9_watch_88 : decode cX9_watch 88 = .ok (.iload 9, 2) := by decide +kernel
theorem dX9_watch_90 : decode cX9_watch 90 = .ok (.invokestatic 56, 3) := by decide +kernel
theorem dX9_watch_93 : decode cX9_watch 93 = .ok (.ifCond .eq 25, 3) := by decide +kernel
theorem dX9_watch_96 : decode cX9_watch 96 = .ok (.aload_n 0, 1) := by decide +kernel
theorem dX9_watch_97 : decode cX9_watch 97 = .ok (.iload 9, 2) := by decide +kernel
theorem dX9_watch_99 : decode cX9_watch 99 = .ok (.iload 5, 2) := by decide +kernel
theorem dX9_watch_101 : decode cX9_watch 101 = .ok (.bipush 100, 2) := by decide +kernel
theorem dX9_watch_103 : decode cX9_watch 103 = .ok (.idiv, 1) := by decide +kernel
theorem dX9_watch_104 : decode cX9_watch 104 = .ok (.iload 6, 2) := by decide +kernel
theorem dX9_watch_106 : decode cX9_watch 106 = .ok (.iload 7, 2) := by decide +kernel
theorem dX9_watch_108 : decode cX9_watch 108 = .ok (.invokevirtual 186, 3) := by decide +kernel
theorem dX9_watch_111 : decode cX9_watch 111 = .ok (.ifCond .eq 7, 3) := by decide +kernel
theorem dX9_watch_114 : decode cX9_watch 114 = .ok (.iconst 1, 1) := by decide +kernel
theorem dX9_watch_115 : decode cX9_watch 115 = .ok (.goto 4, 3) := by decide +kernel
theorem dX9_watch_118 : decode cX9_watch 118 = .ok (.iconst 0, 1) := by decide +kernel
theorem dX9_watch_119 : decode cX9_watch 119 = .ok (.iadd, 1) := by decide +kernel
theorem dX9_watch_120 : decode cX9_watch 120 = .ok (.istore 8, 2) := by decide +kernel
theorem dX9_watch_122 : decode cX9_watch 122 = .ok (.iinc 9 1, 3) := by decide +kernel
theorem dX9_watch_125 : decode cX9_watch 125 = .ok (.goto (-47), 3) := by decide +kernel
theorem dX9_watch_128 : decode cX9_watch 128 = .ok (.iload 8, 2) := by decide +kernel
theorem dX9_watch_130 : decode cX9_watch 130 = .ok (.iload_n 2, 1) := by decide +kernel
theorem dX9_watch_131 : decode cX9_watch 131 = .ok (.invokestatic 60, 3) := by decide +kernel
theorem dX9_watch_134 : decode cX9_watch 134 = .ok (.iload 8, 2) := by decide +kernel
theorem dX9_watch_136 : decode cX9_watch 136 = .ok (.isub, 1) := by decide +kernel
theorem dX9_watch_137 : decode cX9_watch 137 = .ok (.if_icmp .le 8, 3) := by decide +kernel
theorem dX9_watch_140 : decode cX9_watch 140 = .ok (.iload 8, 2) := by decide +kernel
theorem dX9_watch_142 : decode cX9_watch 142 = .ok (.goto 10, 3) := by decide +kernel
theorem dX9_watch_145 : decode cX9_watch 145 = .ok (.iload_n 2, 1) := by decide +kernel
theorem dX9_watch_146 : decode cX9_watch 146 = .ok (.invokestatic 60, 3) := by decide +kernel
theorem dX9_watch_149 : decode cX9_watch 149 = .ok (.iload 8, 2) := by decide +kernel
theorem dX9_watch_151 : decode cX9_watch 151 = .ok (.isub, 1) := by decide +kernel
theorem dX9_watch_152 : decode cX9_watch 152 = .ok (.istore 9, 2) := by decide +kernel
theorem dX9_watch_154 : decode cX9_watch 154 = .ok (.iload 9, 2) := by decide +kernel
theorem dX9_watch_156 : decode cX9_watch 156 = .ok (.iload 4, 2) := by decide +kernel
theorem dX9_watch_158 : decode cX9_watch 158 = .ok (.if_icmp .ge 8, 3) := by decide +kernel
theorem dX9_watch_161 : decode cX9_watch 161 = .ok (.iload 5, 2) := by decide +kernel
theorem dX9_watch_163 : decode cX9_watch 163 = .ok (.goto 4, 3) := by decide +kernel
theorem dX9_watch_166 : decode cX9_watch 166 = .ok (.iload_n 3, 1) := by decide +kernel
theorem dX9_watch_167 : decode cX9_watch 167 = .ok (.istore_n 3, 1) := by decide +kernel
theorem dX9_watch_168 : decode cX9_watch 168 = .ok (.iload 9, 2) := by decide +kernel
theorem dX9_watch_170 : decode cX9_watch 170 = .ok (.iload 4, 2) := by decide +kernel
theorem dX9_watch_172 : decode cX9_watch 172 = .ok (.if_icmp .ge 8, 3) := by decide +kernel
theorem dX9_watch_175 : decode cX9_watch 175 = .ok (.iload 9, 2) := by decide +kernel
theorem dX9_watch_177 : decode cX9_watch 177 = .ok (.goto 5, 3) := by decide +kernel
theorem dX9_watch_180 : decode cX9_watch 180 = .ok (.iload 4, 2) := by decide +kernel
theorem dX9_watch_182 : decode cX9_watch 182 = .ok (.istore 4, 2) := by decide +kernel
theorem dX9_watch_184 : decode cX9_watch 184 = .ok (.iinc 5 1, 3) := by decide +kernel
theorem dX9_watch_187 : decode cX9_watch 187 = .ok (.goto (-160), 3) := by decide +kernel
theorem dX9_watch_190 : decode cX9_watch 190 = .ok (.iload_n 3, 1) := by decide +kernel
theorem dX9_watch_191 : decode cX9_watch 191 = .ok (.ifCond .lt 7, 3) := by decide +kernel
theorem dX9_watch_194 : decode cX9_watch 194 = .ok (.iload_n 1, 1) := by decide +kernel
theorem dX9_watch_195 : decode cX9_watch 195 = .ok (.ifCond .ne 7, 3) := by decide +kernel
theorem dX9_watch_198 : decode cX9_watch 198 = .ok (.iload_n 3, 1) := by decide +kernel
theorem dX9_watch_199 : decode cX9_watch 199 = .ok (.goto 5, 3) := by decide +kernel
theorem dX9_watch_202 : decode cX9_watch 202 = .ok (.iload 4, 2) := by decide +kernel
theorem dX9_watch_204 : decode cX9_watch 204 = .ok (.ireturn, 1) := by decide +kernel
theorem dX9_book_0 : decode cX9_book 0 = .ok (.iload_n 1, 1) := by decide +kernel
theorem dX9_book_1 : decode cX9_book 1 = .ok (.iconst 0, 1) := by decide +kernel
theorem dX9_book_2 : decode cX9_book 2 = .ok (.sipush 9999, 3) := by decide +kernel
theorem dX9_book_5 : decode cX9_book 5 = .ok (.invokestatic 48, 3) := by decide +kernel
theorem dX9_book_8 : decode cX9_book 8 = .ok (.ifCond .eq 22, 3) := by decide +kernel
theorem dX9_book_11 : decode cX9_book 11 = .ok (.iload_n 2, 1) := by decide +kernel
theorem dX9_book_12 : decode cX9_book 12 = .ok (.iconst 1, 1) := by decide +kernel
theorem dX9_book_13 : decode cX9_book 13 = .ok (.bipush 99, 2) := by decide +kernel
theorem dX9_book_15 : decode cX9_book 15 = .ok (.invokestatic 48, 3) := by decide +kernel
theorem dX9_book_18 : decode cX9_book 18 = .ok (.ifCond .eq 12, 3) := by decide +kernel
theorem dX9_book_21 : decode cX9_book 21 = .ok (.iload_n 3, 1) := by decide +kernel
theorem dX9_book_22 : decode cX9_book 22 = .ok (.iconst 0, 1) := by decide +kernel
theorem dX9_book_23 : decode cX9_book 23 = .ok (.iconst 2, 1) := by decide +kernel
theorem dX9_book_24 : decode cX9_book 24 = .ok (.invokestatic 48, 3) := by decide +kernel
theorem dX9_book_27 : decode cX9_book 27 = .ok (.ifCond .ne 6, 3) := by decide +kernel
theorem dX9_book_30 : decode cX9_book 30 = .ok (.bipush (-2), 2) := by decide +kernel
theorem dX9_book_32 : decode cX9_book 32 = .ok (.ireturn, 1) := by decide +kernel
theorem dX9_book_33 : decode cX9_book 33 = .ok (.aload_n 0, 1) := by decide +kernel
theorem dX9_book_34 : decode cX9_book 34 = .ok (.invokevirtual 97, 3) := by decide +kernel
theorem dX9_book_37 : decode cX9_book 37 = .ok (.iload_n 1, 1) := by decide +kernel
theorem dX9_book_38 : decode cX9_book 38 = .ok (.istore 4, 2) := by decide +kernel
theorem dX9_book_40 : decode cX9_book 40 = .ok (.iconst 0, 1) := by decide +kernel
theorem dX9_book_41 : decode cX9_book 41 = .ok (.istore 5, 2) := by decide +kernel
theorem dX9_book_43 : decode cX9_book 43 = .ok (.iload 5, 2) := by decide +kernel
theorem dX9_book_45 : decode cX9_book 45 = .ok (.iload_n 2, 1) := by decide +kernel
theorem dX9_book_46 : decode cX9_book 46 = .ok (.if_icmp .ge 66, 3) := by decide +kernel
theorem dX9_book_49 : decode cX9_book 49 = .ok (.bipush 75, 2) := by decide +kernel
theorem dX9_book_51 : decode cX9_book 51 = .ok (.iload 4, 2) := by decide +kernel
theorem dX9_book_53 : decode cX9_book 53 = .ok (.imul, 1) := by decide +kernel
theorem dX9_book_54 : decode cX9_book 54 = .ok (.bipush 74, 2) := by decide +kernel
theorem dX9_book_56 : decode cX9_book 56 = .ok (.iadd, 1) := by decide +kernel
theorem dX9_book_57 : decode cX9_book 57 = .ok (.ldc 193, 2) := by decide +kernel
theorem dX9_book_59 : decode cX9_book 59 = .ok (.irem, 1) := by decide +kernel
theorem dX9_book_60 : decode cX9_book 60 = .ok (.istore 4, 2) := by decide +kernel
theorem dX9_book_62 : decode cX9_book 62 = .ok (.iload 4, 2) := by decide +kernel
theorem dX9_book_64 : decode cX9_book 64 = .ok (.bipush 6, 2) := by decide +kernel
theorem dX9_book_66 : decode cX9_book 66 = .ok (.irem, 1) := by decide +kernel
theorem dX9_book_67 : decode cX9_book 67 = .ok (.istore 6, 2) := by decide +kernel
theorem dX9_book_69 : decode cX9_book 69 = .ok (.iconst 1, 1) := by decide +kernel
theorem dX9_book_70 : decode cX9_book 70 = .ok (.iload 4, 2) := by decide +kernel
theorem dX9_book_72 : decode cX9_book 72 = .ok (.bipush 6, 2) := by decide +kernel
theorem dX9_book_74 : decode cX9_book 74 = .ok (.idiv, 1) := by decide +kernel
theorem dX9_book_75 : decode cX9_book 75 = .ok (.bipush 9, 2) := by decide +kernel
theorem dX9_book_77 : decode cX9_book 77 = .ok (.irem, 1) := by decide +kernel
theorem dX9_book_78 : decode cX9_book 78 = .ok (.iadd, 1) := by decide +kernel
theorem dX9_book_79 : decode cX9_book 79 = .ok (.istore 7, 2) := by decide +kernel
theorem dX9_book_81 : decode cX9_book 81 = .ok (.aload_n 0, 1) := by decide +kernel
theorem dX9_book_82 : decode cX9_book 82 = .ok (.iload 6, 2) := by decide +kernel
theorem dX9_book_84 : decode cX9_book 84 = .ok (.iload 7, 2) := by decide +kernel
theorem dX9_book_86 : decode cX9_book 86 = .ok (.invokevirtual 115, 3) := by decide +kernel
theorem dX9_book_89 : decode cX9_book 89 = .ok (.ifCond .eq 12, 3) := by decide +kernel
theorem dX9_book_92 : decode cX9_book 92 = .ok (.aload_n 0, 1) := by decide +kernel
theorem dX9_book_93 : decode cX9_book 93 = .ok (.iload 6, 2) := by decide +kernel
theorem dX9_book_95 : decode cX9_book 95 = .ok (.iload 7, 2) := by decide +kernel
theorem dX9_book_97 : decode cX9_book 97 = .ok (.invokevirtual 119, 3) := by decide +kernel
theorem dX9_book_100 : decode cX9_book 100 = .ok (.pop, 1) := by decide +kernel
theorem dX9_book_101 : decode cX9_book 101 = .ok (.aload_n 0, 1) := by decide +kernel
theorem dX9_book_102 : decode cX9_book 102 = .ok (.invokevirtual 109, 3) := by decide +kernel
theorem dX9_book_105 : decode cX9_book 105 = .ok (.pop, 1) := by decide +kernel
theorem dX9_book_106 : decode cX9_book 106 = .ok (.iinc 5 1, 3) := by decide +kernel
theorem dX9_book_109 : decode cX9_book 109 = .ok (.goto (-66), 3) := by decide +kernel
theorem dX9_book_112 : decode cX9_book 112 = .ok (.iconst 0, 1) := by decide +kernel
theorem dX9_book_113 : decode cX9_book 113 = .ok (.istore 5, 2) := by decide +kernel
theorem dX9_book_115 : decode cX9_book 115 = .ok (.iconst 0, 1) := by decide +kernel
theorem dX9_book_116 : decode cX9_book 116 = .ok (.istore 6, 2) := by decide +kernel
theorem dX9_book_118 : decode cX9_book 118 = .ok (.iconst 0, 1) := by decide +kernel
theorem dX9_book_119 : decode cX9_book 119 = .ok (.istore 7, 2) := by decide +kernel
theorem dX9_book_121 : decode cX9_book 121 = .ok (.iload 7, 2) := by decide +kernel
theorem dX9_book_123 : decode cX9_book 123 = .ok (.bipush 6, 2) := by decide +kernel
theorem dX9_book_125 : decode cX9_book 125 = .ok (.if_icmp .ge 72, 3) := by decide +kernel
theorem dX9_book_128 : decode cX9_book 128 = .ok (.iload 5, 2) := by decide +kernel
theorem dX9_book_130 : decode cX9_book 130 = .ok (.aload_n 0, 1) := by decide +kernel
theorem dX9_book_131 : decode cX9_book 131 = .ok (.getfield 52, 3) := by decide +kernel
theorem dX9_book_134 : decode cX9_book 134 = .ok (.iload 7, 2) := by decide +kernel
theorem dX9_book_136 : decode cX9_book 136 = .ok (.invokestatic 56, 3) := by decide +kernel
theorem dX9_book_139 : decode cX9_book 139 = .ok (.ifCond .eq 16, 3) := by decide +kernel
theorem dX9_book_142 : decode cX9_book 142 = .ok (.aload_n 0, 1) := by decide +kernel
theorem dX9_book_143 : decode cX9_book 143 = .ok (.getfield 13, 3) := by decide +kernel
theorem dX9_book_146 : decode cX9_book 146 = .ok (.bipush 6, 2) := by decide +kernel
theorem dX9_book_148 : decode cX9_book 148 = .ok (.iload 7, 2) := by decide +kernel
theorem dX9_book_150 : decode cX9_book 150 = .ok (.iadd, 1) := by decide +kernel
theorem dX9_book_151 : decode cX9_book 151 = .ok (.iaload, 1) := by decide +kernel
theorem dX9_book_152 : decode cX9_book 152 = .ok (.goto 4, 3) := by decide +kernel
theorem dX9_book_155 : decode cX9_book 155 = .ok (.iconst 0, 1) := by decide +kernel
theorem dX9_book_156 : decode cX9_book 156 = .ok (.iadd, 1) := by decide +kernel
theorem dX9_book_157 : decode cX9_book 157 = .ok (.istore 5, 2) := by decide +kernel
theorem dX9_book_159 : decode cX9_book 159 = .ok (.iload 6, 2) := by decide +kernel
theorem dX9_book_161 : decode cX9_book 161 = .ok (.aload_n 0, 1) := by decide +kernel
theorem dX9_book_162 : decode cX9_book 162 = .ok (.getfield 52, 3) := by decide +kernel
theorem dX9_book_165 : decode cX9_book 165 = .ok (.iload 7, 2) := by decide +kernel
theorem dX9_book_167 : decode cX9_book 167 = .ok (.invokestatic 56, 3) := by decide +kernel
theorem dX9_book_170 : decode cX9_book 170 = .ok (.ifCond .eq 17, 3) := by decide +kernel
theorem dX9_book_173 : decode cX9_book 173 = .ok (.aload_n 0, 1) := by decide +kernel
theorem dX9_book_174 : decode cX9_book 174 = .ok (.getfield 13, 3) := by decide +kernel
theorem dX9_book_177 : decode cX9_book 177 = .ok (.iload 7, 2) := by decide +kernel
theorem dX9_book_179 : decode cX9_book 179 = .ok (.iaload, 1) := by decide +kernel
theorem dX9_book_180 : decode cX9_book 180 = .ok (.ifCond .ne 7, 3) := by decide +kernel
theorem dX9_book_183 : decode cX9_book 183 = .ok (.iconst 1, 1) := by decide +kernel
theorem dX9_book_184 : decode cX9_book 184 = .ok (.goto 4, 3) := by decide +kernel
theorem dX9_book_187 : decode cX9_book 187 = .ok (.iconst 0, 1) := by decide +kernel
theorem dX9_book_188 : decode cX9_book 188 = .ok (.iadd, 1) := by decide +kernel
theorem dX9_book_189 : decode cX9_book 189 = .ok (.istore 6, 2) := by decide +kernel
theorem dX9_book_191 : decode cX9_book 191 = .ok (.iinc 7 1, 3) := by decide +kernel
theorem dX9_book_194 : decode cX9_book 194 = .ok (.goto (-73), 3) := by decide +kernel
theorem dX9_book_197 : decode cX9_book 197 = .ok (.iload_n 3, 1) := by decide +kernel
theorem dX9_book_198 : decode cX9_book 198 = .ok (.ifCond .ne 8, 3) := by decide +kernel
theorem dX9_book_201 : decode cX9_book 201 = .ok (.iload 5, 2) := by decide +kernel
theorem dX9_book_203 : decode cX9_book 203 = .ok (.goto 17, 3) := by decide +kernel
theorem dX9_book_206 : decode cX9_book 206 = .ok (.iload_n 3, 1) := by decide +kernel
theorem dX9_book_207 : decode cX9_book 207 = .ok (.iconst 1, 1) := by decide +kernel
theorem dX9_book_208 : decode cX9_book 208 = .ok (.if_icmp .ne 10, 3) := by decide +kernel
theorem dX9_book_211 : decode cX9_book 211 = .ok (.aload_n 0, 1) := by decide +kernel
theorem dX9_book_212 : decode cX9_book 212 = .ok (.getfield 87, 3) := by decide +kernel
theorem dX9_book_215 : decode cX9_book 215 = .ok (.goto 5, 3) := by decide +kernel
theorem dX9_book_218 : decode cX9_book 218 = .ok (.iload 6, 2) := by decide +kernel
theorem dX9_book_220 : decode cX9_book 220 = .ok (.ireturn, 1) := by decide +kernel
theorem dX9_image_0 : decode cX9_image 0 = .ok (.iload_n 1, 1) := by decide +kernel
theorem dX9_image_1 : decode cX9_image 1 = .ok (.iconst 0, 1) := by decide +kernel
theorem dX9_image_2 : decode cX9_image 2 = .ok (.iconst 1, 1) := by decide +kernel
theorem dX9_image_3 : decode cX9_image 3 = .ok (.invokestatic 48, 3) := by decide +kernel
theorem dX9_image_6 : decode cX9_image 6 = .ok (.ifCond .ne 6, 3) := by decide +kernel
theorem dX9_image_9 : decode cX9_image 9 = .ok (.bipush (-2), 2) := by decide +kernel
theorem dX9_image_11 : decode cX9_image 11 = .ok (.ireturn, 1) := by decide +kernel
theorem dX9_image_12 : decode cX9_image 12 = .ok (.sipush 130, 3) := by decide +kernel
theorem dX9_image_15 : decode cX9_image 15 = .ok (.iload_n 1, 1) := by decide +kernel
theorem dX9_image_16 : decode cX9_image 16 = .ok (.imul, 1) := by decide +kernel
theorem dX9_image_17 : decode cX9_image 17 = .ok (.istore_n 2, 1) := by decide +kernel
theorem dX9_image_18 : decode cX9_image 18 = .ok (.iconst 0, 1) := by decide +kernel
theorem dX9_image_19 : decode cX9_image 19 = .ok (.istore_n 3, 1) := by decide +kernel
theorem dX9_image_20 : decode cX9_image 20 = .ok (.iload_n 3, 1) := by decide +kernel
theorem dX9_image_21 : decode cX9_image 21 = .ok (.bipush 61, 2) := by decide +kernel
theorem dX9_image_23 : decode cX9_image 23 = .ok (.if_icmp .ge 23, 3) := by decide +kernel
theorem dX9_image_26 : decode cX9_image 26 = .ok (.aload_n 0, 1) := by decide +kernel
theorem dX9_image_27 : decode cX9_image 27 = .ok (.getfield 41, 3) := by decide +kernel
theorem dX9_image_30 : decode cX9_image 30 = .ok (.iload_n 2, 1) := by decide +kernel
theorem dX9_image_31 : decode cX9_image 31 = .ok (.iload_n 3, 1) := by decide +kernel
theorem dX9_image_32 : decode cX9_image 32 = .ok (.iadd, 1) := by decide +kernel
theorem dX9_image_33 : decode cX9_image 33 = .ok (.aload_n 0, 1) := by decide +kernel
theorem dX9_image_34 : decode cX9_image 34 = .ok (.getfield 7, 3) := by decide +kernel
theorem dX9_image_37 : decode cX9_image 37 = .ok (.iload_n 3, 1) := by decide +kernel
theorem dX9_image_38 : decode cX9_image 38 = .ok (.iaload, 1) := by decide +kernel
theorem dX9_image_39 : decode cX9_image 39 = .ok (.iastore, 1) := by decide +kernel
theorem dX9_image_40 : decode cX9_image 40 = .ok (.iinc 3 1, 3) := by decide +kernel
theorem dX9_image_43 : decode cX9_image 43 = .ok (.goto (-23), 3) := by decide +kernel
theorem dX9_image_46 : decode cX9_image 46 = .ok (.iconst 0, 1) := by decide +kernel
theorem dX9_image_47 : decode cX9_image 47 = .ok (.istore_n 3, 1) := by decide +kernel
theorem dX9_image_48 : decode cX9_image 48 = .ok (.iload_n 3, 1) := by decide +kernel
theorem dX9_image_49 : decode cX9_image 49 = .ok (.bipush 6, 2) := by decide +kernel
theorem dX9_image_51 : decode cX9_image 51 = .ok (.if_icmp .ge 26, 3) := by decide +kernel
theorem dX9_image_54 : decode cX9_image 54 = .ok (.aload_n 0, 1) := by decide +kernel
theorem dX9_image_55 : decode cX9_image 55 = .ok (.getfield 41, 3) := by decide +kernel
theorem dX9_image_58 : decode cX9_image 58 = .ok (.iload_n 2, 1) := by decide +kernel
theorem dX9_image_59 : decode cX9_image 59 = .ok (.bipush 61, 2) := by decide +kernel
theorem dX9_image_61 : decode cX9_image 61 = .ok (.iadd, 1) := by decide +kernel
theorem dX9_image_62 : decode cX9_image 62 = .ok (.iload_n 3, 1) := by decide +kernel
theorem dX9_image_63 : decode cX9_image 63 = .ok (.iadd, 1) := by decide +kernel
theorem dX9_image_64 : decode cX9_image 64 = .ok (.aload_n 0, 1) := by decide +kernel
theorem dX9_image_65 : decode cX9_image 65 = .ok (.getfield 16, 3) := by decide +kernel
theorem dX9_image_68 : decode cX9_image 68 = .ok (.iload_n 3, 1) := by decide +kernel
theorem dX9_image_69 : decode cX9_image 69 = .ok (.iaload, 1) := by decide +kernel
theorem dX9_image_70 : decode cX9_image 70 = .ok (.iastore, 1) := by decide +kernel
theorem dX9_image_71 : decode cX9_image 71 = .ok (.iinc 3 1, 3) := by decide +kernel
theorem dX9_image_74 : decode cX9_image 74 = .ok (.goto (-26), 3) := by decide +kernel
theorem dX9_image_77 : decode cX9_image 77 = .ok (.iconst 0, 1) := by decide +kernel
theorem dX9_image_78 : decode cX9_image 78 = .ok (.istore_n 3, 1) := by decide +kernel
theorem dX9_image_79 : decode cX9_image 79 = .ok (.iload_n 3, 1) := by decide +kernel
theorem dX9_image_80 : decode cX9_image 80 = .ok (.bipush 10, 2) := by decide +kernel
theorem dX9_image_82 : decode cX9_image 82 = .ok (.if_icmp .ge 26, 3) := by decide +kernel
theorem dX9_image_85 : decode cX9_image 85 = .ok (.aload_n 0, 1) := by decide +kernel
theorem dX9_image_86 : decode cX9_image 86 = .ok (.getfield 41, 3) := by decide +kernel
theorem dX9_image_89 : decode cX9_image 89 = .ok (.iload_n 2, 1) := by decide +kernel
theorem dX9_image_90 : decode cX9_image 90 = .ok (.bipush 70, 2) := by decide +kernel
theorem dX9_image_92 : decode cX9_image 92 = .ok (.iadd, 1) := by decide +kernel
theorem dX9_image_93 : decode cX9_image 93 = .ok (.iload_n 3, 1) := by decide +kernel
theorem dX9_image_94 : decode cX9_image 94 = .ok (.iadd, 1) := by decide +kernel
theorem dX9_image_95 : decode cX9_image 95 = .ok (.aload_n 0, 1) := by decide +kernel
theorem dX9_image_96 : decode cX9_image 96 = .ok (.getfield 19, 3) := by decide +kernel
theorem dX9_image_99 : decode cX9_image 99 = .ok (.iload_n 3, 1) := by decide +kernel
theorem dX9_image_100 : decode cX9_image 100 = .ok (.iaload, 1) := by decide +kernel
theorem dX9_image_101 : decode cX9_image 101 = .ok (.iastore, 1) := by decide +kernel
theorem dX9_image_102 : decode cX9_image 102 = .ok (.iinc 3 1, 3) := by decide +kernel
theorem dX9_image_105 : decode cX9_image 105 = .ok (.goto (-26), 3) := by decide +kernel
theorem dX9_image_108 : decode cX9_image 108 = .ok (.iconst 0, 1) := by decide +kernel
theorem dX9_image_109 : decode cX9_image 109 = .ok (.istore_n 3, 1) := by decide +kernel
theorem dX9_image_110 : decode cX9_image 110 = .ok (.iload_n 3, 1) := by decide +kernel
theorem dX9_image_111 : decode cX9_image 111 = .ok (.bipush 32, 2) := by decide +kernel
theorem dX9_image_113 : decode cX9_image 113 = .ok (.if_icmp .ge 26, 3) := by decide +kernel
theorem dX9_image_116 : decode cX9_image 116 = .ok (.aload_n 0, 1) := by decide +kernel
theorem dX9_image_117 : decode cX9_image 117 = .ok (.getfield 41, 3) := by decide +kernel
theorem dX9_image_120 : decode cX9_image 120 = .ok (.iload_n 2, 1) := by decide +kernel
theorem dX9_image_121 : decode cX9_image 121 = .ok (.bipush 80, 2) := by decide +kernel
theorem dX9_image_123 : decode cX9_image 123 = .ok (.iadd, 1) := by decide +kernel
theorem dX9_image_124 : decode cX9_image 124 = .ok (.iload_n 3, 1) := by decide +kernel
theorem dX9_image_125 : decode cX9_image 125 = .ok (.iadd, 1) := by decide +kernel
theorem dX9_image_126 : decode cX9_image 126 = .ok (.aload_n 0, 1) := by decide +kernel
theorem dX9_image_127 : decode cX9_image 127 = .ok (.getfield 22, 3) := by decide +kernel
theorem dX9_image_130 : decode cX9_image 130 = .ok (.iload_n 3, 1) := by decide +kernel
theorem dX9_image_131 : decode cX9_image 131 = .ok (.iaload, 1) := by decide +kernel
theorem dX9_image_132 : decode cX9_image 132 = .ok (.iastore, 1) := by decide +kernel
theorem dX9_image_133 : decode cX9_image 133 = .ok (.iinc 3 1, 3) := by decide +kernel
theorem dX9_image_136 : decode cX9_image 136 = .ok (.goto (-26), 3) := by decide +kernel
theorem dX9_image_139 : decode cX9_image 139 = .ok (.aload_n 0, 1) := by decide +kernel
theorem dX9_image_140 : decode cX9_image 140 = .ok (.getfield 41, 3) := by decide +kernel
theorem dX9_image_143 : decode cX9_image 143 = .ok (.iload_n 2, 1) := by decide +kernel
theorem dX9_image_144 : decode cX9_image 144 = .ok (.bipush 120, 2) := by decide +kernel
theorem dX9_image_146 : decode cX9_image 146 = .ok (.iadd, 1) := by decide +kernel
theorem dX9_image_147 : decode cX9_image 147 = .ok (.aload_n 0, 1) := by decide +kernel
theorem dX9_image_148 : decode cX9_image 148 = .ok (.getfield 52, 3) := by decide +kernel
theorem dX9_image_151 : decode cX9_image 151 = .ok (.iastore, 1) := by decide +kernel
theorem dX9_image_152 : decode cX9_image 152 = .ok (.aload_n 0, 1) := by decide +kernel
theorem dX9_image_153 : decode cX9_image 153 = .ok (.getfield 41, 3) := by decide +kernel
theorem dX9_image_156 : decode cX9_image 156 = .ok (.iload_n 2, 1) := by decide +kernel
theorem dX9_image_157 : decode cX9_image 157 = .ok (.bipush 121, 2) := by decide +kernel
theorem dX9_image_159 : decode cX9_image 159 = .ok (.iadd, 1) := by decide +kernel
theorem dX9_image_160 : decode cX9_image 160 = .ok (.aload_n 0, 1) := by decide +kernel
theorem dX9_image_161 : decode cX9_image 161 = .ok (.getfield 183, 3) := by decide +kernel
theorem dX9_image_164 : decode cX9_image 164 = .ok (.iastore, 1) := by decide +kernel
theorem dX9_image_165 : decode cX9_image 165 = .ok (.aload_n 0, 1) := by decide +kernel
theorem dX9_image_166 : decode cX9_image 166 = .ok (.getfield 44, 3) := by decide +kernel
theorem dX9_image_169 : decode cX9_image 169 = .ok (.iload_n 1, 1) := by decide +kernel
theorem dX9_image_170 : decode cX9_image 170 = .ok (.iconst 1, 1) := by decide +kernel
theorem dX9_image_171 : decode cX9_image 171 = .ok (.bastore, 1) := by decide +kernel
theorem dX9_image_172 : decode cX9_image 172 = .ok (.iconst 1, 1) := by decide +kernel
theorem dX9_image_173 : decode cX9_image 173 = .ok (.ireturn, 1) := by decide +kernel
theorem dX9_restore_0 : decode cX9_restore 0 = .ok (.iload_n 1, 1) := by decide +kernel
theorem dX9_restore_1 : decode cX9_restore 1 = .ok (.iconst 0, 1) := by decide +kernel
theorem dX9_restore_2 : decode cX9_restore 2 = .ok (.iconst 1, 1) := by decide +kernel
theorem dX9_restore_3 : decode cX9_restore 3 = .ok (.invokestatic 48, 3) := by decide +kernel
theorem dX9_restore_6 : decode cX9_restore 6 = .ok (.ifCond .ne 6, 3) := by decide +kernel
theorem dX9_restore_9 : decode cX9_restore 9 = .ok (.bipush (-2), 2) := by decide +kernel
theorem dX9_restore_11 : decode cX9_restore 11 = .ok (.ireturn, 1) := by decide +kernel
theorem dX9_restore_12 : decode cX9_restore 12 = .ok (.aload_n 0, 1) := by decide +kernel
theorem dX9_restore_13 : decode cX9_restore 13 = .ok (.getfield 44, 3) := by decide +kernel
theorem dX9_restore_16 : decode cX9_restore 16 = .ok (.iload_n 1, 1) := by decide +kernel
theorem dX9_restore_17 : decode cX9_restore 17 = .ok (.baload, 1) := by decide +kernel
theorem dX9_restore_18 : decode cX9_restore 18 = .ok (.ifCond .ne 6, 3) := by decide +kernel
theorem dX9_restore_21 : decode cX9_restore 21 = .ok (.bipush (-3), 2) := by decide +kernel
theorem dX9_restore_23 : decode cX9_restore 23 = .ok (.ireturn, 1) := by decide +kernel
theorem dX9_restore_24 : decode cX9_restore 24 = .ok (.sipush 130, 3) := by decide +kernel
theorem dX9_restore_27 : decode cX9_restore 27 = .ok (.iload_n 1, 1) := by decide +kernel
theorem dX9_restore_28 : decode cX9_restore 28 = .ok (.imul, 1) := by decide +kernel
theorem dX9_restore_29 : decode cX9_restore 29 = .ok (.istore_n 2, 1) := by decide +kernel
theorem dX9_restore_30 : decode cX9_restore 30 = .ok (.iconst 0, 1) := by decide +kernel
theorem dX9_restore_31 : decode cX9_restore 31 = .ok (.istore_n 3, 1) := by decide +kernel
theorem dX9_restore_32 : decode cX9_restore 32 = .ok (.iload_n 3, 1) := by decide +kernel
theorem dX9_restore_33 : decode cX9_restore 33 = .ok (.bipush 61, 2) := by decide +kernel
theorem dX9_restore_35 : decode cX9_restore 35 = .ok (.if_icmp .ge 23, 3) := by decide +kernel
theorem dX9_restore_38 : decode cX9_restore 38 = .ok (.aload_n 0, 1) := by decide +kernel
theorem dX9_restore_39 : decode cX9_restore 39 = .ok (.getfield 7, 3) := by decide +kernel
theorem dX9_restore_42 : decode cX9_restore 42 = .ok (.iload_n 3, 1) := by decide +kernel
theorem dX9_restore_43 : decode cX9_restore 43 = .ok (.aload_n 0, 1) := by decide +kernel
theorem dX9_restore_44 : decode cX9_restore 44 = .ok (.getfield 41, 3) := by decide +kernel
theorem dX9_restore_47 : decode cX9_restore 47 = .ok (.iload_n 2, 1) := by decide +kernel
theorem dX9_restore_48 : decode cX9_restore 48 = .ok (.iload_n 3, 1) := by decide +kernel
theorem dX9_restore_49 : decode cX9_restore 49 = .ok (.iadd, 1) := by decide +kernel
theorem dX9_restore_50 : decode cX9_restore 50 = .ok (.iaload, 1) := by decide +kernel
theorem dX9_restore_51 : decode cX9_restore 51 = .ok (.iastore, 1) := by decide +kernel
theorem dX9_restore_52 : decode cX9_restore 52 = .ok (.iinc 3 1, 3) := by decide +kernel
theorem dX9_restore_55 : decode cX9_restore 55 = .ok (.goto (-23), 3) := by decide +kernel
theorem dX9_restore_58 : decode cX9_restore 58 = .ok (.iconst 0, 1) := by decide +kernel
theorem dX9_restore_59 : decode cX9_restore 59 = .ok (.istore_n 3, 1) := by decide +kernel
theorem dX9_restore_60 : decode cX9_restore 60 = .ok (.iload_n 3, 1) := by decide +kernel
theorem dX9_restore_61 : decode cX9_restore 61 = .ok (.bipush 6, 2) := by decide +kernel
theorem dX9_restore_63 : decode cX9_restore 63 = .ok (.if_icmp .ge 26, 3) := by decide +kernel
theorem dX9_restore_66 : decode cX9_restore 66 = .ok (.aload_n 0, 1) := by decide +kernel
theorem dX9_restore_67 : decode cX9_restore 67 = .ok (.getfield 16, 3) := by decide +kernel
theorem dX9_restore_70 : decode cX9_restore 70 = .ok (.iload_n 3, 1) := by decide +kernel
theorem dX9_restore_71 : decode cX9_restore 71 = .ok (.aload_n 0, 1) := by decide +kernel
theorem dX9_restore_72 : decode cX9_restore 72 = .ok (.getfield 41, 3) := by decide +kernel
theorem dX9_restore_75 : decode cX9_restore 75 = .ok (.iload_n 2, 1) := by decide +kernel
theorem dX9_restore_76 : decode cX9_restore 76 = .ok (.bipush 61, 2) := by decide +kernel
theorem dX9_restore_78 : decode cX9_restore 78 = .ok (.iadd, 1) := by decide +kernel
theorem dX9_restore_79 : decode cX9_restore 79 = .ok (.iload_n 3, 1) := by decide +kernel
theorem dX9_restore_80 : decode cX9_restore 80 = .ok (.iadd, 1) := by decide +kernel
theorem dX9_restore_81 : decode cX9_restore 81 = .ok (.iaload, 1) := by decide +kernel
theorem dX9_restore_82 : decode cX9_restore 82 = .ok (.iastore, 1) := by decide +kernel
theorem dX9_restore_83 : decode cX9_restore 83 = .ok (.iinc 3 1, 3) := by decide +kernel
theorem dX9_restore_86 : decode cX9_restore 86 = .ok (.goto (-26), 3) := by decide +kernel
theorem dX9_restore_89 : decode cX9_restore 89 = .ok (.iconst 0, 1) := by decide +kernel
theorem dX9_restore_90 : decode cX9_restore 90 = .ok (.istore_n 3, 1) := by decide +kernel
theorem dX9_restore_91 : decode cX9_restore 91 = .ok (.iload_n 3, 1) := by decide +kernel
theorem dX9_restore_92 : decode cX9_restore 92 = .ok (.bipush 10, 2) := by decide +kernel
theorem dX9_restore_94 : decode cX9_restore 94 = .ok (.if_icmp .ge 26, 3) := by decide +kernel
theorem dX9_restore_97 : decode cX9_restore 97 = .ok (.aload_n 0, 1) := by decide +kernel
theorem dX9_restore_98 : decode cX9_restore 98 = .ok (.getfield 19, 3) := by decide +kernel
theorem dX9_restore_101 : decode cX9_restore 101 = .ok (.iload_n 3, 1) := by decide +kernel
theorem dX9_restore_102 : decode cX9_restore 102 = .ok (.aload_n 0, 1) := by decide +kernel
theorem dX9_restore_103 : decode cX9_restore 103 = .ok (.getfield 41, 3) := by decide +kernel
theorem dX9_restore_106 : decode cX9_restore 106 = .ok (.iload_n 2, 1) := by decide +kernel
theorem dX9_restore_107 : decode cX9_restore 107 = .ok (.bipush 70, 2) := by decide +kernel
theorem dX9_restore_109 : decode cX9_restore 109 = .ok (.iadd, 1) := by decide +kernel
theorem dX9_restore_110 : decode cX9_restore 110 = .ok (.iload_n 3, 1) := by decide +kernel
theorem dX9_restore_111 : decode cX9_restore 111 = .ok (.iadd, 1) := by decide +kernel
theorem dX9_restore_112 : decode cX9_restore 112 = .ok (.iaload, 1) := by decide +kernel
theorem dX9_restore_113 : decode cX9_restore 113 = .ok (.iastore, 1) := by decide +kernel
theorem dX9_restore_114 : decode cX9_restore 114 = .ok (.iinc 3 1, 3) := by decide +kernel
theorem dX9_restore_117 : decode cX9_restore 117 = .ok (.goto (-26), 3) := by decide +kernel
theorem dX9_restore_120 : decode cX9_restore 120 = .ok (.iconst 0, 1) := by decide +kernel
theorem dX9_restore_121 : decode cX9_restore 121 = .ok (.istore_n 3, 1) := by decide +kernel
theorem dX9_restore_122 : decode cX9_restore 122 = .ok (.iload_n 3, 1) := by decide +kernel
theorem dX9_restore_123 : decode cX9_restore 123 = .ok (.bipush 32, 2) := by decide +kernel
theorem dX9_restore_125 : decode cX9_restore 125 = .ok (.if_icmp .ge 26, 3) := by decide +kernel
theorem dX9_restore_128 : decode cX9_restore 128 = .ok (.aload_n 0, 1) := by decide +kernel
theorem dX9_restore_129 : decode cX9_restore 129 = .ok (.getfield 22, 3) := by decide +kernel
theorem dX9_restore_132 : decode cX9_restore 132 = .ok (.iload_n 3, 1) := by decide +kernel
theorem dX9_restore_133 : decode cX9_restore 133 = .ok (.aload_n 0, 1) := by decide +kernel
theorem dX9_restore_134 : decode cX9_restore 134 = .ok (.getfield 41, 3) := by decide +kernel
theorem dX9_restore_137 : decode cX9_restore 137 = .ok (.iload_n 2, 1) := by decide +kernel
theorem dX9_restore_138 : decode cX9_restore 138 = .ok (.bipush 80, 2) := by decide +kernel
theorem dX9_restore_140 : decode cX9_restore 140 = .ok (.iadd, 1) := by decide +kernel
theorem dX9_restore_141 : decode cX9_restore 141 = .ok (.iload_n 3, 1) := by decide +kernel
theorem dX9_restore_142 : decode cX9_restore 142 = .ok (.iadd, 1) := by decide +kernel
theorem dX9_restore_143 : decode cX9_restore 143 = .ok (.iaload, 1) := by decide +kernel
theorem dX9_restore_144 : decode cX9_restore 144 = .ok (.iastore, 1) := by decide +kernel
theorem dX9_restore_145 : decode cX9_restore 145 = .ok (.iinc 3 1, 3) := by decide +kernel
theorem dX9_restore_148 : decode cX9_restore 148 = .ok (.goto (-26), 3) := by decide +kernel
theorem dX9_restore_151 : decode cX9_restore 151 = .ok (.aload_n 0, 1) := by decide +kernel
theorem dX9_restore_152 : decode cX9_restore 152 = .ok (.aload_n 0, 1) := by decide +kernel
theorem dX9_restore_153 : decode cX9_restore 153 = .ok (.getfield 41, 3) := by decide +kernel
theorem dX9_restore_156 : decode cX9_restore 156 = .ok (.iload_n 2, 1) := by decide +kernel
theorem dX9_restore_157 : decode cX9_restore 157 = .ok (.bipush 120, 2) := by decide +kernel
theorem dX9_restore_159 : decode cX9_restore 159 = .ok (.iadd, 1) := by decide +kernel
theorem dX9_restore_160 : decode cX9_restore 160 = .ok (.iaload, 1) := by decide +kernel
theorem dX9_restore_161 : decode cX9_restore 161 = .ok (.putfield 52, 3) := by decide +kernel
theorem dX9_restore_164 : decode cX9_restore 164 = .ok (.aload_n 0, 1) := by decide +kernel
theorem dX9_restore_165 : decode cX9_restore 165 = .ok (.aload_n 0, 1) := by decide +kernel
theorem dX9_restore_166 : decode cX9_restore 166 = .ok (.getfield 41, 3) := by decide +kernel
theorem dX9_restore_169 : decode cX9_restore 169 = .ok (.iload_n 2, 1) := by decide +kernel
theorem dX9_restore_170 : decode cX9_restore 170 = .ok (.bipush 121, 2) := by decide +kernel
theorem dX9_restore_172 : decode cX9_restore 172 = .ok (.iadd, 1) := by decide +kernel
theorem dX9_restore_173 : decode cX9_restore 173 = .ok (.iaload, 1) := by decide +kernel
theorem dX9_restore_174 : decode cX9_restore 174 = .ok (.putfield 183, 3) := by decide +kernel
theorem dX9_restore_177 : decode cX9_restore 177 = .ok (.iconst 1, 1) := by decide +kernel
theorem dX9_restore_178 : decode cX9_restore 178 = .ok (.ireturn, 1) := by decide +kernel
