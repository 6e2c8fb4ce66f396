theorem dX9_init_0 : decode cX9_init 0 = .ok (.aload_n 0, 1) := by decide +kernel
theorem dX9_init_1 : decode cX9_init 1 = .ok (.invokespecial 1, 3) := by decide +kernel
theorem dX9_init_4 : decode cX9_init 4 = .ok (.aload_n 0, 1) := by decide +kernel
theorem dX9_init_5 : decode cX9_init 5 = .ok (.bipush 61, 2) := by decide +kernel
theorem dX9_init_7 : decode cX9_init 7 = .ok (.newarray .int, 2) := by decide +kernel
theorem dX9_init_9 : decode cX9_init 9 = .ok (.putfield 7, 3) := by decide +kernel
theorem dX9_init_12 : decode cX9_init 12 = .ok (.aload_n 0, 1) := by decide +kernel
theorem dX9_init_13 : decode cX9_init 13 = .ok (.bipush 61, 2) := by decide +kernel
theorem dX9_init_15 : decode cX9_init 15 = .ok (.newarray .int, 2) := by decide +kernel
theorem dX9_init_17 : decode cX9_init 17 = .ok (.putfield 13, 3) := by decide +kernel
theorem dX9_init_20 : decode cX9_init 20 = .ok (.aload_n 0, 1) := by decide +kernel
theorem dX9_init_21 : decode cX9_init 21 = .ok (.bipush 6, 2) := by decide +kernel
theorem dX9_init_23 : decode cX9_init 23 = .ok (.newarray .int, 2) := by decide +kernel
theorem dX9_init_25 : decode cX9_init 25 = .ok (.putfield 16, 3) := by decide +kernel
theorem dX9_init_28 : decode cX9_init 28 = .ok (.aload_n 0, 1) := by decide +kernel
theorem dX9_init_29 : decode cX9_init 29 = .ok (.bipush 10, 2) := by decide +kernel
theorem dX9_init_31 : decode cX9_init 31 = .ok (.newarray .int, 2) := by decide +kernel
theorem dX9_init_33 : decode cX9_init 33 = .ok (.putfield 19, 3) := by decide +kernel
theorem dX9_init_36 : decode cX9_init 36 = .ok (.aload_n 0, 1) := by decide +kernel
theorem dX9_init_37 : decode cX9_init 37 = .ok (.bipush 32, 2) := by decide +kernel
theorem dX9_init_39 : decode cX9_init 39 = .ok (.newarray .int, 2) := by decide +kernel
theorem dX9_init_41 : decode cX9_init 41 = .ok (.putfield 22, 3) := by decide +kernel
theorem dX9_init_44 : decode cX9_init 44 = .ok (.aload_n 0, 1) := by decide +kernel
theorem dX9_init_45 : decode cX9_init 45 = .ok (.bipush 60, 2) := by decide +kernel
theorem dX9_init_47 : decode cX9_init 47 = .ok (.newarray .int, 2) := by decide +kernel
theorem dX9_init_49 : decode cX9_init 49 = .ok (.putfield 25, 3) := by decide +kernel
theorem dX9_init_52 : decode cX9_init 52 = .ok (.aload_n 0, 1) := by decide +kernel
theorem dX9_init_53 : decode cX9_init 53 = .ok (.bipush 110, 2) := by decide +kernel
theorem dX9_init_55 : decode cX9_init 55 = .ok (.newarray .long, 2) := by decide +kernel
theorem dX9_init_57 : decode cX9_init 57 = .ok (.putfield 28, 3) := by decide +kernel
theorem dX9_init_60 : decode cX9_init 60 = .ok (.aload_n 0, 1) := by decide +kernel
theorem dX9_init_61 : decode cX9_init 61 = .ok (.bipush 64, 2) := by decide +kernel
theorem dX9_init_63 : decode cX9_init 63 = .ok (.newarray .int, 2) := by decide +kernel
theorem dX9_init_65 : decode cX9_init 65 = .ok (.putfield 32, 3) := by decide +kernel
theorem dX9_init_68 : decode cX9_init 68 = .ok (.aload_n 0, 1) := by decide +kernel
theorem dX9_init_69 : decode cX9_init 69 = .ok (.bipush 6, 2) := by decide +kernel
theorem dX9_init_71 : decode cX9_init 71 = .ok (.newarray .int, 2) := by decide +kernel
theorem dX9_init_73 : decode cX9_init 73 = .ok (.putfield 35, 3) := by decide +kernel
theorem dX9_init_76 : decode cX9_init 76 = .ok (.aload_n 0, 1) := by decide +kernel
theorem dX9_init_77 : decode cX9_init 77 = .ok (.bipush 6, 2) := by decide +kernel
theorem dX9_init_79 : decode cX9_init 79 = .ok (.newarray .int, 2) := by decide +kernel
theorem dX9_init_81 : decode cX9_init 81 = .ok (.putfield 38, 3) := by decide +kernel
theorem dX9_init_84 : decode cX9_init 84 = .ok (.aload_n 0, 1) := by decide +kernel
theorem dX9_init_85 : decode cX9_init 85 = .ok (.sipush 260, 3) := by decide +kernel
theorem dX9_init_88 : decode cX9_init 88 = .ok (.newarray .int, 2) := by decide +kernel
theorem dX9_init_90 : decode cX9_init 90 = .ok (.putfield 41, 3) := by decide +kernel
theorem dX9_init_93 : decode cX9_init 93 = .ok (.aload_n 0, 1) := by decide +kernel
theorem dX9_init_94 : decode cX9_init 94 = .ok (.iconst 2, 1) := by decide +kernel
theorem dX9_init_95 : decode cX9_init 95 = .ok (.newarray .boolean, 2) := by decide +kernel
theorem dX9_init_97 : decode cX9_init 97 = .ok (.putfield 44, 3) := by decide +kernel
theorem dX9_init_100 : decode cX9_init 100 = .ok (.iconst 1, 1) := by decide +kernel
theorem dX9_init_101 : decode cX9_init 101 = .ok (.istore_n 1, 1) := by decide +kernel
theorem dX9_init_102 : decode cX9_init 102 = .ok (.iload_n 1, 1) := by decide +kernel
theorem dX9_init_103 : decode cX9_init 103 = .ok (.bipush 10, 2) := by decide +kernel
theorem dX9_init_105 : decode cX9_init 105 = .ok (.if_icmp .ge 16, 3) := by decide +kernel
theorem dX9_init_108 : decode cX9_init 108 = .ok (.aload_n 0, 1) := by decide +kernel
theorem dX9_init_109 : decode cX9_init 109 = .ok (.getfield 19, 3) := by decide +kernel
theorem dX9_init_112 : decode cX9_init 112 = .ok (.iload_n 1, 1) := by decide +kernel
theorem dX9_init_113 : decode cX9_init 113 = .ok (.iconst 1, 1) := by decide +kernel
theorem dX9_init_114 : decode cX9_init 114 = .ok (.iastore, 1) := by decide +kernel
theorem dX9_init_115 : decode cX9_init 115 = .ok (.iinc 1 1, 3) := by decide +kernel
theorem dX9_init_118 : decode cX9_init 118 = .ok (.goto (-16), 3) := by decide +kernel
theorem dX9_init_121 : decode cX9_init 121 = .ok (.return_, 1) := by decide +kernel
theorem dX9_in_0 : decode cX9_in 0 = .ok (.iload_n 0, 1) := by decide +kernel
theorem dX9_in_1 : decode cX9_in 1 = .ok (.iload_n 1, 1) := by decide +kernel
theorem dX9_in_2 : decode cX9_in 2 = .ok (.if_icmp .lt 12, 3) := by decide +kernel
theorem dX9_in_5 : decode cX9_in 5 = .ok (.iload_n 0, 1) := by decide +kernel
theorem dX9_in_6 : decode cX9_in 6 = .ok (.iload_n 2, 1) := by decide +kernel
theorem dX9_in_7 : decode cX9_in 7 = .ok (.if_icmp .gt 7, 3) := by decide +kernel
theorem dX9_in_10 : decode cX9_in 10 = .ok (.iconst 1, 1) := by decide +kernel
theorem dX9_in_11 : decode cX9_in 11 = .ok (.goto 4, 3) := by decide +kernel
theorem dX9_in_14 : decode cX9_in 14 = .ok (.iconst 0, 1) := by decide +kernel
theorem dX9_in_15 : decode cX9_in 15 = .ok (.ireturn, 1) := by decide +kernel
theorem dX9_has_0 : decode cX9_has 0 = .ok (.iload_n 0, 1) := by decide +kernel
theorem dX9_has_1 : decode cX9_has 1 = .ok (.iload_n 1, 1) := by decide +kernel
theorem dX9_has_2 : decode cX9_has 2 = .ok (.ishr, 1) := by decide +kernel
theorem dX9_has_3 : decode cX9_has 3 = .ok (.iconst 1, 1) := by decide +kernel
theorem dX9_has_4 : decode cX9_has 4 = .ok (.iand, 1) := by decide +kernel
theorem dX9_has_5 : decode cX9_has 5 = .ok (.iconst 1, 1) := by decide +kernel
theorem dX9_has_6 : decode cX9_has 6 = .ok (.if_icmp .ne 7, 3) := by decide +kernel
theorem dX9_has_9 : decode cX9_has 9 = .ok (.iconst 1, 1) := by decide +kernel
theorem dX9_has_10 : decode cX9_has 10 = .ok (.goto 4, 3) := by decide +kernel
theorem dX9_has_13 : decode cX9_has 13 = .ok (.iconst 0, 1) := by decide +kernel
theorem dX9_has_14 : decode cX9_has 14 = .ok (.ireturn, 1) := by decide +kernel
theorem dX9_bits_0 : decode cX9_bits 0 = .ok (.iconst 0, 1) := by decide +kernel
theorem dX9_bits_1 : decode cX9_bits 1 = .ok (.istore_n 1, 1) := by decide +kernel
theorem dX9_bits_2 : decode cX9_bits 2 = .ok (.iconst 0, 1) := by decide +kernel
theorem dX9_bits_3 : decode cX9_bits 3 = .ok (.istore_n 2, 1) := by decide +kernel
theorem dX9_bits_4 : decode cX9_bits 4 = .ok (.iload_n 2, 1) := by decide +kernel
theorem dX9_bits_5 : decode cX9_bits 5 = .ok (.bipush 12, 2) := by decide +kernel
theorem dX9_bits_7 : decode cX9_bits 7 = .ok (.if_icmp .ge 17, 3) := by decide +kernel
theorem dX9_bits_10 : decode cX9_bits 10 = .ok (.iload_n 1, 1) := by decide +kernel
theorem dX9_bits_11 : decode cX9_bits 11 = .ok (.iload_n 0, 1) := by decide +kernel
theorem dX9_bits_12 : decode cX9_bits 12 = .ok (.iload_n 2, 1) := by decide +kernel
theorem dX9_bits_13 : decode cX9_bits 13 = .ok (.ishr, 1) := by decide +kernel
theorem dX9_bits_14 : decode cX9_bits 14 = .ok (.iconst 1, 1) := by decide +kernel
theorem dX9_bits_15 : decode cX9_bits 15 = .ok (.iand, 1) := by decide +kernel
theorem dX9_bits_16 : decode cX9_bits 16 = .ok (.iadd, 1) := by decide +kernel
theorem dX9_bits_17 : decode cX9_bits 17 = .ok (.istore_n 1, 1) := by decide +kernel
theorem dX9_bits_18 : decode cX9_bits 18 = .ok (.iinc 2 1, 3) := by decide +kernel
theorem dX9_bits_21 : decode cX9_bits 21 = .ok (.goto (-17), 3) := by decide +kernel
theorem dX9_bits_24 : decode cX9_bits 24 = .ok (.iload_n 1, 1) := by decide +kernel
theorem dX9_bits_25 : decode cX9_bits 25 = .ok (.ireturn, 1) := by decide +kernel
theorem dX9_isThere_0 : decode cX9_isThere 0 = .ok (.iload_n 1, 1) := by decide +kernel
theorem dX9_isThere_1 : decode cX9_isThere 1 = .ok (.iconst 0, 1) := by decide +kernel
theorem dX9_isThere_2 : decode cX9_isThere 2 = .ok (.iconst 5, 1) := by decide +kernel
theorem dX9_isThere_3 : decode cX9_isThere 3 = .ok (.invokestatic 48, 3) := by decide +kernel
theorem dX9_isThere_6 : decode cX9_isThere 6 = .ok (.ifCond .eq 18, 3) := by decide +kernel
theorem dX9_isThere_9 : decode cX9_isThere 9 = .ok (.aload_n 0, 1) := by decide +kernel
theorem dX9_isThere_10 : decode cX9_isThere 10 = .ok (.getfield 52, 3) := by decide +kernel
theorem dX9_isThere_13 : decode cX9_isThere 13 = .ok (.iload_n 1, 1) := by decide +kernel
theorem dX9_isThere_14 : decode cX9_isThere 14 = .ok (.invokestatic 56, 3) := by decide +kernel
theorem dX9_isThere_17 : decode cX9_isThere 17 = .ok (.ifCond .eq 7, 3) := by decide +kernel
theorem dX9_isThere_20 : decode cX9_isThere 20 = .ok (.iconst 1, 1) := by decide +kernel
theorem dX9_isThere_21 : decode cX9_isThere 21 = .ok (.goto 4, 3) := by decide +kernel
theorem dX9_isThere_24 : decode cX9_isThere 24 = .ok (.iconst 0, 1) := by decide +kernel
theorem dX9_isThere_25 : decode cX9_isThere 25 = .ok (.ireturn, 1) := by decide +kernel
theorem dX9_person_0 : decode cX9_person 0 = .ok (.iload_n 1, 1) := by decide +kernel
theorem dX9_person_1 : decode cX9_person 1 = .ok (.iconst 0, 1) := by decide +kernel
theorem dX9_person_2 : decode cX9_person 2 = .ok (.iconst 5, 1) := by decide +kernel
theorem dX9_person_3 : decode cX9_person 3 = .ok (.invokestatic 48, 3) := by decide +kernel
theorem dX9_person_6 : decode cX9_person 6 = .ok (.ifCond .ne 5, 3) := by decide +kernel
theorem dX9_person_9 : decode cX9_person 9 = .ok (.iconst (-1), 1) := by decide +kernel
theorem dX9_person_10 : decode cX9_person 10 = .ok (.ireturn, 1) := by decide +kernel
theorem dX9_person_11 : decode cX9_person 11 = .ok (.iload_n 2, 1) := by decide +kernel
theorem dX9_person_12 : decode cX9_person 12 = .ok (.iconst 0, 1) := by decide +kernel
theorem dX9_person_13 : decode cX9_person 13 = .ok (.sipush 400, 3) := by decide +kernel
theorem dX9_person_16 : decode cX9_person 16 = .ok (.invokestatic 48, 3) := by decide +kernel
theorem dX9_person_19 : decode cX9_person 19 = .ok (.ifCond .eq 13, 3) := by decide +kernel
theorem dX9_person_22 : decode cX9_person 22 = .ok (.iload_n 3, 1) := by decide +kernel
theorem dX9_person_23 : decode cX9_person 23 = .ok (.iconst 0, 1) := by decide +kernel
theorem dX9_person_24 : decode cX9_person 24 = .ok (.bipush 9, 2) := by decide +kernel
theorem dX9_person_26 : decode cX9_person 26 = .ok (.invokestatic 48, 3) := by decide +kernel
theorem dX9_person_29 : decode cX9_person 29 = .ok (.ifCond .ne 6, 3) := by decide +kernel
theorem dX9_person_32 : decode cX9_person 32 = .ok (.bipush (-2), 2) := by decide +kernel
theorem dX9_person_34 : decode cX9_person 34 = .ok (.ireturn, 1) := by decide +kernel
theorem dX9_person_35 : decode cX9_person 35 = .ok (.aload_n 0, 1) := by decide +kernel
theorem dX9_person_36 : decode cX9_person 36 = .ok (.getfield 52, 3) := by decide +kernel
theorem dX9_person_39 : decode cX9_person 39 = .ok (.iload_n 1, 1) := by decide +kernel
theorem dX9_person_40 : decode cX9_person 40 = .ok (.invokestatic 56, 3) := by decide +kernel
theorem dX9_person_43 : decode cX9_person 43 = .ok (.ifCond .ne 23, 3) := by decide +kernel
theorem dX9_person_46 : decode cX9_person 46 = .ok (.aload_n 0, 1) := by decide +kernel
theorem dX9_person_47 : decode cX9_person 47 = .ok (.getfield 7, 3) := by decide +kernel
theorem dX9_person_50 : decode cX9_person 50 = .ok (.bipush 6, 2) := by decide +kernel
theorem dX9_person_52 : decode cX9_person 52 = .ok (.iload_n 1, 1) := by decide +kernel
theorem dX9_person_53 : decode cX9_person 53 = .ok (.iadd, 1) := by decide +kernel
theorem dX9_person_54 : decode cX9_person 54 = .ok (.iconst 0, 1) := by decide +kernel
theorem dX9_person_55 : decode cX9_person 55 = .ok (.iastore, 1) := by decide +kernel
theorem dX9_person_56 : decode cX9_person 56 = .ok (.aload_n 0, 1) := by decide +kernel
theorem dX9_person_57 : decode cX9_person 57 = .ok (.getfield 7, 3) := by decide +kernel
theorem dX9_person_60 : decode cX9_person 60 = .ok (.bipush 12, 2) := by decide +kernel
theorem dX9_person_62 : decode cX9_person 62 = .ok (.iload_n 1, 1) := by decide +kernel
theorem dX9_person_63 : decode cX9_person 63 = .ok (.iadd, 1) := by decide +kernel
theorem dX9_person_64 : decode cX9_person 64 = .ok (.iconst 0, 1) := by decide +kernel
theorem dX9_person_65 : decode cX9_person 65 = .ok (.iastore, 1) := by decide +kernel
theorem dX9_person_66 : decode cX9_person 66 = .ok (.aload_n 0, 1) := by decide +kernel
theorem dX9_person_67 : decode cX9_person 67 = .ok (.dup, 1) := by decide +kernel
theorem dX9_person_68 : decode cX9_person 68 = .ok (.getfield 52, 3) := by decide +kernel
theorem dX9_person_71 : decode cX9_person 71 = .ok (.iconst 1, 1) := by decide +kernel
theorem dX9_person_72 : decode cX9_person 72 = .ok (.iload_n 1, 1) := by decide +kernel
theorem dX9_person_73 : decode cX9_person 73 = .ok (.ishl, 1) := by decide +kernel
theorem dX9_person_74 : decode cX9_person 74 = .ok (.ior, 1) := by decide +kernel
theorem dX9_person_75 : decode cX9_person 75 = .ok (.putfield 52, 3) := by decide +kernel
theorem dX9_person_78 : decode cX9_person 78 = .ok (.aload_n 0, 1) := by decide +kernel
theorem dX9_person_79 : decode cX9_person 79 = .ok (.getfield 7, 3) := by decide +kernel
theorem dX9_person_82 : decode cX9_person 82 = .ok (.iload_n 1, 1) := by decide +kernel
theorem dX9_person_83 : decode cX9_person 83 = .ok (.iload_n 2, 1) := by decide +kernel
theorem dX9_person_84 : decode cX9_person 84 = .ok (.iastore, 1) := by decide +kernel
theorem dX9_person_85 : decode cX9_person 85 = .ok (.aload_n 0, 1) := by decide +kernel
theorem dX9_person_86 : decode cX9_person 86 = .ok (.getfield 16, 3) := by decide +kernel
theorem dX9_person_89 : decode cX9_person 89 = .ok (.iload_n 1, 1) := by decide +kernel
theorem dX9_person_90 : decode cX9_person 90 = .ok (.iload_n 3, 1) := by decide +kernel
theorem dX9_person_91 : decode cX9_person 91 = .ok (.iastore, 1) := by decide +kernel
theorem dX9_person_92 : decode cX9_person 92 = .ok (.aload_n 0, 1) := by decide +kernel
theorem dX9_person_93 : decode cX9_person 93 = .ok (.getfield 52, 3) := by decide +kernel
theorem dX9_person_96 : decode cX9_person 96 = .ok (.invokestatic 60, 3) := by decide +kernel
theorem dX9_person_99 : decode cX9_person 99 = .ok (.ireturn, 1) := by decide +kernel
theorem dX9_die_0 : decode cX9_die 0 = .ok (.aload_n 0, 1) := by decide +kernel
theorem dX9_die_1 : decode cX9_die 1 = .ok (.iload_n 1, 1) := by decide +kernel
theorem dX9_die_2 : decode cX9_die 2 = .ok (.invokevirtual 64, 3) := by decide +kernel
theorem dX9_die_5 : decode cX9_die 5 = .ok (.ifCond .ne 5, 3) := by decide +kernel
theorem dX9_die_8 : decode cX9_die 8 = .ok (.iconst (-1), 1) := by decide +kernel
theorem dX9_die_9 : decode cX9_die 9 = .ok (.ireturn, 1) := by decide +kernel
theorem dX9_die_10 : decode cX9_die 10 = .ok (.aload_n 0, 1) := by decide +kernel
theorem dX9_die_11 : decode cX9_die 11 = .ok (.dup, 1) := by decide +kernel
theorem dX9_die_12 : decode cX9_die 12 = .ok (.getfield 52, 3) := by decide +kernel
theorem dX9_die_15 : decode cX9_die 15 = .ok (.iconst 1, 1) := by decide +kernel
theorem dX9_die_16 : decode cX9_die 16 = .ok (.iload_n 1, 1) := by decide +kernel
theorem dX9_die_17 : decode cX9_die 17 = .ok (.ishl, 1) := by decide +kernel
theorem dX9_die_18 : decode cX9_die 18 = .ok (.iconst (-1), 1) := by decide +kernel
theorem dX9_die_19 : decode cX9_die 19 = .ok (.ixor, 1) := by decide +kernel
theorem dX9_die_20 : decode cX9_die 20 = .ok (.iand, 1) := by decide +kernel
theorem dX9_die_21 : decode cX9_die 21 = .ok (.putfield 52, 3) := by decide +kernel
theorem dX9_die_24 : decode cX9_die 24 = .ok (.iconst 0, 1) := by decide +kernel
theorem dX9_die_25 : decode cX9_die 25 = .ok (.istore_n 2, 1) := by decide +kernel
theorem dX9_die_26 : decode cX9_die 26 = .ok (.iload_n 2, 1) := by decide +kernel
theorem dX9_die_27 : decode cX9_die 27 = .ok (.bipush 6, 2) := by decide +kernel
theorem dX9_die_29 : decode cX9_die 29 = .ok (.if_icmp .ge 39, 3) := by decide +kernel
theorem dX9_die_32 : decode cX9_die 32 = .ok (.aload_n 0, 1) := by decide +kernel
theorem dX9_die_33 : decode cX9_die 33 = .ok (.getfield 7, 3) := by decide +kernel
theorem dX9_die_36 : decode cX9_die 36 = .ok (.bipush 20, 2) := by decide +kernel
theorem dX9_die_38 : decode cX9_die 38 = .ok (.bipush 6, 2) := by decide +kernel
theorem dX9_die_40 : decode cX9_die 40 = .ok (.iload_n 1, 1) := by decide +kernel
theorem dX9_die_41 : decode cX9_die 41 = .ok (.imul, 1) := by decide +kernel
theorem dX9_die_42 : decode cX9_die 42 = .ok (.iadd, 1) := by decide +kernel
theorem dX9_die_43 : decode cX9_die 43 = .ok (.iload_n 2, 1) := by decide +kernel
theorem dX9_die_44 : decode cX9_die 44 = .ok (.iadd, 1) := by decide +kernel
theorem dX9_die_45 : decode cX9_die 45 = .ok (.iconst 0, 1) := by decide +kernel
theorem dX9_die_46 : decode cX9_die 46 = .ok (.iastore, 1) := by decide +kernel
theorem dX9_die_47 : decode cX9_die 47 = .ok (.aload_n 0, 1) := by decide +kernel
theorem dX9_die_48 : decode cX9_die 48 = .ok (.getfield 7, 3) := by decide +kernel
theorem dX9_die_51 : decode cX9_die 51 = .ok (.bipush 20, 2) := by decide +kernel
theorem dX9_die_53 : decode cX9_die 53 = .ok (.bipush 6, 2) := by decide +kernel
theorem dX9_die_55 : decode cX9_die 55 = .ok (.iload_n 2, 1) := by decide +kernel
theorem dX9_die_56 : decode cX9_die 56 = .ok (.imul, 1) := by decide +kernel
theorem dX9_die_57 : decode cX9_die 57 = .ok (.iadd, 1) := by decide +kernel
theorem dX9_die_58 : decode cX9_die 58 = .ok (.iload_n 1, 1) := by decide +kernel
theorem dX9_die_59 : decode cX9_die 59 = .ok (.iadd, 1) := by decide +kernel
theorem dX9_die_60 : decode cX9_die 60 = .ok (.iconst 0, 1) := by decide +kernel
theorem dX9_die_61 : decode cX9_die 61 = .ok (.iastore, 1) := by decide +kernel
theorem dX9_die_62 : decode cX9_die 62 = .ok (.iinc 2 1, 3) := by decide +kernel
theorem dX9_die_65 : decode cX9_die 65 = .ok (.goto (-39), 3) := by decide +kernel
theorem dX9_die_68 : decode cX9_die 68 = .ok (.aload_n 0, 1) := by decide +kernel
theorem dX9_die_69 : decode cX9_die 69 = .ok (.getfield 52, 3) := by decide +kernel
theorem dX9_die_72 : decode cX9_die 72 = .ok (.invokestatic 60, 3) := by decide +kernel
theorem dX9_die_75 : decode cX9_die 75 = .ok (.ireturn, 1) := by decide +kernel
theorem dX9_weight_0 : decode cX9_weight 0 = .ok (.iload_n 1, 1) := by decide +kernel
theorem dX9_weight_1 : decode cX9_weight 1 = .ok (.iconst 1, 1) := by decide +kernel
theorem dX9_weight_2 : decode cX9_weight 2 = .ok (.bipush 9, 2) := by decide +kernel
theorem dX9_weight_4 : decode cX9_weight 4 = .ok (.invokestatic 48, 3) := by decide +kernel
theorem dX9_weight_7 : decode cX9_weight 7 = .ok (.ifCond .eq 13, 3) := by decide +kernel
theorem dX9_weight_10 : decode cX9_weight 10 = .ok (.iload_n 2, 1) := by decide +kernel
theorem dX9_weight_11 : decode cX9_weight 11 = .ok (.iconst 0, 1) := by decide +kernel
theorem dX9_weight_12 : decode cX9_weight 12 = .ok (.bipush 9, 2) := by decide +kernel
theorem dX9_weight_14 : decode cX9_weight 14 = .ok (.invokestatic 48, 3) := by decide +kernel
theorem dX9_weight_17 : decode cX9_weight 17 = .ok (.ifCond .ne 6, 3) := by decide +kernel
theorem dX9_weight_20 : decode cX9_weight 20 = .ok (.bipush (-2), 2) := by decide +kernel
theorem dX9_weight_22 : decode cX9_weight 22 = .ok (.ireturn, 1) := by decide +kernel
theorem dX9_weight_23 : decode cX9_weight 23 = .ok (.iconst 0, 1) := by decide +kernel
theorem dX9_weight_24 : decode cX9_weight 24 = .ok (.istore_n 3, 1) := by decide +kernel
theorem dX9_weight_25 : decode cX9_weight 25 = .ok (.iconst 1, 1) := by decide +kernel
theorem dX9_weight_26 : decode cX9_weight 26 = .ok (.istore 4, 2) := by decide +kernel
theorem dX9_weight_28 : decode cX9_weight 28 = .ok (.iload 4, 2) := by decide +kernel
theorem dX9_weight_30 : decode cX9_weight 30 = .ok (.bipush 10, 2) := by decide +kernel
theorem dX9_weight_32 : decode cX9_weight 32 = .ok (.if_icmp .ge 29, 3) := by decide +kernel
theorem dX9_weight_35 : decode cX9_weight 35 = .ok (.iload_n 3, 1) := by decide +kernel
theorem dX9_weight_36 : decode cX9_weight 36 = .ok (.iload 4, 2) := by decide +kernel
theorem dX9_weight_38 : decode cX9_weight 38 = .ok (.iload_n 1, 1) := by decide +kernel
theorem dX9_weight_39 : decode cX9_weight 39 = .ok (.if_icmp .ne 7, 3) := by decide +kernel
theorem dX9_weight_42 : decode cX9_weight 42 = .ok (.iconst 0, 1) := by decide +kernel
theorem dX9_weight_43 : decode cX9_weight 43 = .ok (.goto 10, 3) := by decide +kernel
theorem dX9_weight_46 : decode cX9_weight 46 = .ok (.aload_n 0, 1) := by decide +kernel
theorem dX9_weight_47 : decode cX9_weight 47 = .ok (.getfield 19, 3) := by decide +kernel
theorem dX9_weight_50 : decode cX9_weight 50 = .ok (.iload 4, 2) := by decide +kernel
theorem dX9_weight_52 : decode cX9_weight 52 = .ok (.iaload, 1) := by decide +kernel
theorem dX9_weight_53 : decode cX9_weight 53 = .ok (.iadd, 1) := by decide +kernel
theorem dX9_weight_54 : decode cX9_weight 54 = .ok (.istore_n 3, 1) := by decide +kernel
theorem dX9_weight_55 : decode cX9_weight 55 = .ok (.iinc 4 1, 3) := by decide +kernel
theorem dX9_weight_58 : decode cX9_weight 58 = .ok (.goto (-30), 3) := by decide +kernel
theorem dX9_weight_61 : decode cX9_weight 61 = .ok (.iload_n 3, 1) := by decide +kernel
theorem dX9_weight_62 : decode cX9_weight 62 = .ok (.iload_n 2, 1) := by decide +kernel
theorem dX9_weight_63 : decode cX9_weight 63 = .ok (.iadd, 1) := by decide +kernel
theorem dX9_weight_64 : decode cX9_weight 64 = .ok (.ifCond .ne 6, 3) := by decide +kernel
theorem dX9_weight_67 : decode cX9_weight 67 = .ok (.bipush (-3), 2) := by decide +kernel
theorem dX9_weight_69 : decode cX9_weight 69 = .ok (.ireturn, 1) := by decide +kernel
theorem dX9_weight_70 : decode cX9_weight 70 = .ok (.aload_n 0, 1) := by decide +kernel
theorem dX9_weight_71 : decode cX9_weight 71 = .ok (.getfield 19, 3) := by decide +kernel
theorem dX9_weight_74 : decode cX9_weight 74 = .ok (.iload_n 1, 1) := by decide +kernel
theorem dX9_weight_75 : decode cX9_weight 75 = .ok (.iaload, 1) := by decide +kernel
theorem dX9_weight_76 : decode cX9_weight 76 = .ok (.istore 4, 2) := by decide +kernel
theorem dX9_weight_78 : decode cX9_weight 78 = .ok (.aload_n 0, 1) := by decide +kernel
theorem dX9_weight_79 : decode cX9_weight 79 = .ok (.getfield 19, 3) := by decide +kernel
theorem dX9_weight_82 : decode cX9_weight 82 = .ok (.iload_n 1, 1) := by decide +kernel
theorem dX9_weight_83 : decode cX9_weight 83 = .ok (.iload_n 2, 1) := by decide +kernel
theorem dX9_weight_84 : decode cX9_weight 84 = .ok (.iastore, 1) := by decide +kernel
theorem dX9_weight_85 : decode cX9_weight 85 = .ok (.iload 4, 2) := by decide +kernel
theorem dX9_weight_87 : decode cX9_weight 87 = .ok (.ireturn, 1) := by decide +kernel
theorem dX9_say_0 : decode cX9_say 0 = .ok (.iload_n 1, 1) := by decide +kernel
theorem dX9_say_1 : decode cX9_say 1 = .ok (.bipush 33, 2) := by decide +kernel
theorem dX9_say_3 : decode cX9_say 3 = .ok (.bipush 126, 2) := by decide +kernel
theorem dX9_say_5 : decode cX9_say 5 = .ok (.invokestatic 48, 3) := by decide +kernel
theorem dX9_say_8 : decode cX9_say 8 = .ok (.ifCond .ne 6, 3) := by decide +kernel
theorem dX9_say_11 : decode cX9_say 11 = .ok (.bipush (-2), 2) := by decide +kernel
theorem dX9_say_13 : decode cX9_say 13 = .ok (.ireturn, 1) := by decide +kernel
theorem dX9_say_14 : decode cX9_say 14 = .ok (.aload_n 0, 1) := by decide +kernel
theorem dX9_say_15 : decode cX9_say 15 = .ok (.getfield 68, 3) := by decide +kernel
theorem dX9_say_18 : decode cX9_say 18 = .ok (.bipush 60, 2) := by decide +kernel
theorem dX9_say_20 : decode cX9_say 20 = .ok (.if_icmp .ne 6, 3) := by decide +kernel
theorem dX9_say_23 : decode cX9_say 23 = .ok (.bipush (-4), 2) := by decide +kernel
theorem dX9_say_25 : decode cX9_say 25 = .ok (.ireturn, 1) := by decide +kernel
theorem dX9_say_26 : decode cX9_say 26 = .ok (.aload_n 0, 1) := by decide +kernel
theorem dX9_say_27 : decode cX9_say 27 = .ok (.getfield 25, 3) := by decide +kernel
theorem dX9_say_30 : decode cX9_say 30 = .ok (.aload_n 0, 1) := by decide +kernel
theorem dX9_say_31 : decode cX9_say 31 = .ok (.getfield 68, 3) := by decide +kernel
theorem dX9_say_34 : decode cX9_say 34 = .ok (.iload_n 1, 1) := by decide +kernel
theorem dX9_say_35 : decode cX9_say 35 = .ok (.iastore, 1) := by decide +kernel
theorem dX9_say_36 : decode cX9_say 36 = .ok (.aload_n 0, 1) := by decide +kernel
theorem dX9_say_37 : decode cX9_say 37 = .ok (.dup, 1) := by decide +kernel
theorem dX9_say_38 : decode cX9_say 38 = .ok (.getfield 68, 3) := by decide +kernel
theorem dX9_say_41 : decode cX9_say 41 = .ok (.iconst 1, 1) := by decide +kernel
theorem dX9_say_42 : decode cX9_say 42 = .ok (.iadd, 1) := by decide +kernel
theorem dX9_say_43 : decode cX9_say 43 = .ok (.putfield 68, 3) := by decide +kernel
theorem dX9_say_46 : decode cX9_say 46 = .ok (.aload_n 0, 1) := by decide +kernel
theorem dX9_say_47 : decode cX9_say 47 = .ok (.getfield 68, 3) := by decide +kernel
theorem dX9_say_50 : decode cX9_say 50 = .ok (.ireturn, 1) := by decide +kernel
theorem dX9_wipe_0 : decode cX9_wipe 0 = .ok (.aload_n 0, 1) := by decide +kernel
theorem dX9_wipe_1 : decode cX9_wipe 1 = .ok (.getfield 68, 3) := by decide +kernel
theorem dX9_wipe_4 : decode cX9_wipe 4 = .ok (.istore_n 1, 1) := by decide +kernel
theorem dX9_wipe_5 : decode cX9_wipe 5 = .ok (.aload_n 0, 1) := by decide +kernel
theorem dX9_wipe_6 : decode cX9_wipe 6 = .ok (.iconst 0, 1) := by decide +kernel
theorem dX9_wipe_7 : decode cX9_wipe 7 = .ok (.putfield 68, 3) := by decide +kernel
theorem dX9_wipe_10 : decode cX9_wipe 10 = .ok (.iload_n 1, 1) := by decide +kernel
theorem dX9_wipe_11 : decode cX9_wipe 11 = .ok (.ireturn, 1) := by decide +kernel
theorem dX9_isLetter_0 : decode cX9_isLetter 0 = .ok (.iload_n 0, 1) := by decide +kernel
theorem dX9_isLetter_1 : decode cX9_isLetter 1 = .ok (.bipush 65, 2) := by decide +kernel
theorem dX9_isLetter_3 : decode cX9_isLetter 3 = .ok (.bipush 70, 2) := by decide +kernel
theorem dX9_isLetter_5 : decode cX9_isLetter 5 = .ok (.invokestatic 48, 3) := by decide +kernel
theorem dX9_isLetter_8 : decode cX9_isLetter 8 = .ok (.ireturn, 1) := by decide +kernel
theorem dX9_isDigit_0 : decode cX9_isDigit 0 = .ok (.iload_n 0, 1) := by decide +kernel
theorem dX9_isDigit_1 : decode cX9_isDigit 1 = .ok (.bipush 49, 2) := by decide +kernel
theorem dX9_isDigit_3 : decode cX9_isDigit 3 = .ok (.bipush 57, 2) := by decide +kernel
theorem dX9_isDigit_5 : decode cX9_isDigit 5 = .ok (.invokestatic 48, 3) := by decide +kernel
theorem dX9_isDigit_8 : decode cX9_isDigit 8 = .ok (.ireturn, 1) := by decide +kernel
theorem dX9_passes_0 : decode cX9_passes 0 = .ok (.iload_n 0, 1) := by decide +kernel
theorem dX9_passes_1 : decode cX9_passes 1 = .ok (.bipush 62, 2) := by decide +kernel
theorem dX9_passes_3 : decode cX9_passes 3 = .ok (.if_icmp .eq 15, 3) := by decide +kernel
theorem dX9_passes_6 : decode cX9_passes 6 = .ok (.iload_n 0, 1) := by decide +kernel
theorem dX9_passes_7 : decode cX9_passes 7 = .ok (.bipush 61, 2) := by decide +kernel
theorem dX9_passes_9 : decode cX9_passes 9 = .ok (.if_icmp .eq 9, 3) := by decide +kernel
theorem dX9_passes_12 : decode cX9_passes 12 = .ok (.iload_n 0, 1) := by decide +kernel
theorem dX9_passes_13 : decode cX9_passes 13 = .ok (.bipush 60, 2) := by decide +kernel
theorem dX9_passes_15 : decode cX9_passes 15 = .ok (.if_icmp .ne 7, 3) := by decide +kernel
theorem dX9_passes_18 : decode cX9_passes 18 = .ok (.iconst 1, 1) := by decide +kernel
theorem dX9_passes_19 : decode cX9_passes 19 = .ok (.goto 4, 3) := by decide +kernel
theorem dX9_passes_22 : decode cX9_passes 22 = .ok (.iconst 0, 1) := by decide +kernel
theorem dX9_passes_23 : decode cX9_passes 23 = .ok (.ireturn, 1) := by decide +kernel
theorem dX9_faultOf_0 : decode cX9_faultOf 0 = .ok (.iconst 0, 1) := by decide +kernel
theorem dX9_faultOf_1 : decode cX9_faultOf 1 = .ok (.istore_n 1, 1) := by decide +kernel
theorem dX9_faultOf_2 : decode cX9_faultOf 2 = .ok (.iconst 0, 1) := by decide +kernel
theorem dX9_faultOf_3 : decode cX9_faultOf 3 = .ok (.istore_n 2, 1) := by decide +kernel
theorem dX9_faultOf_4 : decode cX9_faultOf 4 = .ok (.iload_n 2, 1) := by decide +kernel
theorem dX9_faultOf_5 : decode cX9_faultOf 5 = .ok (.aload_n 0, 1) := by decide +kernel
theorem dX9_faultOf_6 : decode cX9_faultOf 6 = .ok (.getfield 68, 3) := by decide +kernel
theorem dX9_faultOf_9 : decode cX9_faultOf 9 = .ok (.if_icmp .ge 169, 3) := by decide +kernel
theorem dX9_faultOf_12 : decode cX9_faultOf 12 = .ok (.aload_n 0, 1) := by decide +kernel
theorem dX9_faultOf_13 : decode cX9_faultOf 13 = .ok (.getfield 25, 3) := by decide +kernel
theorem dX9_faultOf_16 : decode cX9_faultOf 16 = .ok (.iload_n 2, 1) := by decide +kernel
theorem dX9_faultOf_17 : decode cX9_faultOf 17 = .ok (.iaload, 1) := by decide +kernel
theorem dX9_faultOf_18 : decode cX9_faultOf 18 = .ok (.istore_n 3, 1) := by decide +kernel
theorem dX9_faultOf_19 : decode cX9_faultOf 19 = .ok (.iload_n 1, 1) := by decide +kernel
theorem dX9_faultOf_20 : decode cX9_faultOf 20 = .ok (.ifCond .ne 24, 3) := by decide +kernel
theorem dX9_faultOf_23 : decode cX9_faultOf 23 = .ok (.iload_n 3, 1) := by decide +kernel
theorem dX9_faultOf_24 : decode cX9_faultOf 24 = .ok (.invokestatic 71, 3) := by decide +kernel
theorem dX9_faultOf_27 : decode cX9_faultOf 27 = .ok (.ifCond .ne 9, 3) := by decide +kernel
theorem dX9_faultOf_30 : decode cX9_faultOf 30 = .ok (.iload_n 3, 1) := by decide +kernel
theorem dX9_faultOf_31 : decode cX9_faultOf 31 = .ok (.bipush 46, 2) := by decide +kernel
theorem dX9_faultOf_33 : decode cX9_faultOf 33 = .ok (.if_icmp .ne 7, 3) := by decide +kernel
theorem dX9_faultOf_36 : decode cX9_faultOf 36 = .ok (.iconst 1, 1) := by decide +kernel
theorem dX9_faultOf_37 : decode cX9_faultOf 37 = .ok (.goto 62, 3) := by decide +kernel
theorem dX9_faultOf_40 : decode cX9_faultOf 40 = .ok (.iconst 0, 1) := by decide +kernel
theorem dX9_faultOf_41 : decode cX9_faultOf 41 = .ok (.goto 58, 3) := by decide +kernel
theorem dX9_faultOf_44 : decode cX9_faultOf 44 = .ok (.iload_n 1, 1) := by decide +kernel
theorem dX9_faultOf_45 : decode cX9_faultOf 45 = .ok (.iconst 1, 1) := by decide +kernel
theorem dX9_faultOf_46 : decode cX9_faultOf 46 = .ok (.if_icmp .ne 37, 3) := by decide +kernel
theorem dX9_faultOf_49 : decode cX9_faultOf 49 = .ok (.iload_n 3, 1) := by decide +kernel
theorem dX9_faultOf_50 : decode cX9_faultOf 50 = .ok (.invokestatic 74, 3) := by decide +kernel
theorem dX9_faultOf_53 : decode cX9_faultOf 53 = .ok (.ifCond .ne 22, 3) := by decide +kernel
theorem dX9_faultOf_56 : decode cX9_faultOf 56 = .ok (.iload_n 3, 1) := by decide +kernel
theorem dX9_faultOf_57 : decode cX9_faultOf 57 = .ok (.bipush 33, 2) := by decide +kernel
theorem dX9_faultOf_59 : decode cX9_faultOf 59 = .ok (.if_icmp .eq 16, 3) := by decide +kernel
theorem dX9_faultOf_62 : decode cX9_faultOf 62 = .ok (.iload_n 3, 1) := by decide +kernel
theorem dX9_faultOf_63 : decode cX9_faultOf 63 = .ok (.bipush 42, 2) := by decide +kernel
theorem dX9_faultOf_65 : decode cX9_faultOf 65 = .ok (.if_icmp .eq 10, 3) := by decide +kernel
theorem dX9_faultOf_68 : decode cX9_faultOf 68 = .ok (.iload_n 3, 1) := by decide +kernel
theorem dX9_faultOf_69 : decode cX9_faultOf 69 = .ok (.invokestatic 77, 3) := by decide +kernel
theorem dX9_faultOf_72 : decode cX9_faultOf 72 = .ok (.ifCond .eq 7, 3) := by decide +kernel
theorem dX9_faultOf_75 : decode cX9_faultOf 75 = .ok (.iconst 1, 1) := by decide +kernel
theorem dX9_faultOf_76 : decode cX9_faultOf 76 = .ok (.goto 23, 3) := by decide +kernel
theorem dX9_faultOf_79 : decode cX9_faultOf 79 = .ok (.iconst 0, 1) := by decide +kernel
theorem dX9_faultOf_80 : decode cX9_faultOf 80 = .ok (.goto 19, 3) := by decide +kernel
theorem dX9_faultOf_83 : decode cX9_faultOf 83 = .ok (.iload_n 1, 1) := by decide +kernel
theorem dX9_faultOf_84 : decode cX9_faultOf 84 = .ok (.iconst 4, 1) := by decide +kernel
theorem dX9_faultOf_85 : decode cX9_faultOf 85 = .ok (.if_icmp .ne 10, 3) := by decide +kernel
theorem dX9_faultOf_88 : decode cX9_faultOf 88 = .ok (.iload_n 3, 1) := by decide +kernel
theorem dX9_faultOf_89 : decode cX9_faultOf 89 = .ok (.invokestatic 71, 3) := by decide +kernel
theorem dX9_faultOf_92 : decode cX9_faultOf 92 = .ok (.goto 7, 3) := by decide +kernel
theorem dX9_faultOf_95 : decode cX9_faultOf 95 = .ok (.iload_n 3, 1) := by decide +kernel
theorem dX9_faultOf_96 : decode cX9_faultOf 96 = .ok (.invokestatic 74, 3) := by decide +kernel
theorem dX9_faultOf_99 : decode cX9_faultOf 99 = .ok (.istore 4, 2) := by decide +kernel
theorem dX9_faultOf_101 : decode cX9_faultOf 101 = .ok (.iload 4, 2) := by decide +kernel
theorem dX9_faultOf_103 : decode cX9_faultOf 103 = .ok (.ifCond .ne 5, 3) := by decide +kernel
theorem dX9_faultOf_106 : decode cX9_faultOf 106 = .ok (.iload_n 2, 1) := by decide +kernel
theorem dX9_faultOf_107 : decode cX9_faultOf 107 = .ok (.ireturn, 1) := by decide +kernel
theorem dX9_faultOf_108 : decode cX9_faultOf 108 = .ok (.iload_n 1, 1) := by decide +kernel
theorem dX9_faultOf_109 : decode cX9_faultOf 109 = .ok (.iconst 3, 1) := by decide +kernel
theorem dX9_faultOf_110 : decode cX9_faultOf 110 = .ok (.if_icmp .ne 7, 3) := by decide +kernel
theorem dX9_faultOf_113 : decode cX9_faultOf 113 = .ok (.iconst 4, 1) := by decide +kernel
theorem dX9_faultOf_114 : decode cX9_faultOf 114 = .ok (.goto 4, 3) := by decide +kernel
theorem dX9_faultOf_117 : decode cX9_faultOf 117 = .ok (.iconst 0, 1) := by decide +kernel
theorem dX9_faultOf_118 : decode cX9_faultOf 118 = .ok (.istore 5, 2) := by decide +kernel
theorem dX9_faultOf_120 : decode cX9_faultOf 120 = .ok (.iload_n 1, 1) := by decide +kernel
theorem dX9_faultOf_121 : decode cX9_faultOf 121 = .ok (.ifCond .ne 14, 3) := by decide +kernel
theorem dX9_faultOf_124 : decode cX9_faultOf 124 = .ok (.iload_n 3, 1) := by decide +kernel
theorem dX9_faultOf_125 : decode cX9_faultOf 125 = .ok (.invokestatic 71, 3) := by decide +kernel
theorem dX9_faultOf_128 : decode cX9_faultOf 128 = .ok (.ifCond .eq 7, 3) := by decide +kernel
theorem dX9_faultOf_131 : decode cX9_faultOf 131 = .ok (.iconst 1, 1) := by decide +kernel
theorem dX9_faultOf_132 : decode cX9_faultOf 132 = .ok (.goto 5, 3) := by decide +kernel
theorem dX9_faultOf_135 : decode cX9_faultOf 135 = .ok (.iload 5, 2) := by decide +kernel
theorem dX9_faultOf_137 : decode cX9_faultOf 137 = .ok (.istore 5, 2) := by decide +kernel
theorem dX9_faultOf_139 : decode cX9_faultOf 139 = .ok (.iload_n 1, 1) := by decide +kernel
theorem dX9_faultOf_140 : decode cX9_faultOf 140 = .ok (.iconst 1, 1) := by decide +kernel
theorem dX9_faultOf_141 : decode cX9_faultOf 141 = .ok (.if_icmp .ne 28, 3) := by decide +kernel
theorem dX9_faultOf_144 : decode cX9_faultOf 144 = .ok (.iload_n 3, 1) := by decide +kernel
theorem dX9_faultOf_145 : decode cX9_faultOf 145 = .ok (.bipush 33, 2) := by decide +kernel
theorem dX9_faultOf_147 : decode cX9_faultOf 147 = .ok (.if_icmp .ne 7, 3) := by decide +kernel
theorem dX9_faultOf_150 : decode cX9_faultOf 150 = .ok (.iconst 2, 1) := by decide +kernel
theorem dX9_faultOf_151 : decode cX9_faultOf 151 = .ok (.goto 20, 3) := by decide +kernel
theorem dX9_faultOf_154 : decode cX9_faultOf 154 = .ok (.iload_n 3, 1) := by decide +kernel
theorem dX9_faultOf_155 : decode cX9_faultOf 155 = .ok (.invokestatic 77, 3) := by decide +kernel
theorem dX9_faultOf_158 : decode cX9_faultOf 158 = .ok (.ifCond .eq 7, 3) := by decide +kernel
theorem dX9_faultOf_161 : decode cX9_faultOf 161 = .ok (.iconst 3, 1) := by decide +kernel
theorem dX9_faultOf_162 : decode cX9_faultOf 162 = .ok (.goto 9, 3) := by decide +kernel
theorem dX9_faultOf_165 : decode cX9_faultOf 165 = .ok (.iconst 0, 1) := by decide +kernel
theorem dX9_faultOf_166 : decode cX9_faultOf 166 = .ok (.goto 5, 3) := by decide +kernel
theorem dX9_faultOf_169 : decode cX9_faultOf 169 = .ok (.iload 5, 2) := by decide +kernel
theorem dX9_faultOf_171 : decode cX9_faultOf 171 = .ok (.istore_n 1, 1) := by decide +kernel
theorem dX9_faultOf_172 : decode cX9_faultOf 172 = .ok (.iinc 2 1, 3) := by decide +kernel
theorem dX9_faultOf_175 : decode cX9_faultOf 175 = .ok (.goto (-171), 3) := by decide +kernel
theorem dX9_faultOf_178 : decode cX9_faultOf 178 = .ok (.iload_n 1, 1) := by decide +kernel
theorem dX9_faultOf_179 : decode cX9_faultOf 179 = .ok (.ifCond .ne 8, 3) := by decide +kernel
theorem dX9_faultOf_182 : decode cX9_faultOf 182 = .ok (.bipush (-6), 2) := by decide +kernel
theorem dX9_faultOf_184 : decode cX9_faultOf 184 = .ok (.goto 7, 3) := by decide +kernel
theorem dX9_faultOf_187 : decode cX9_faultOf 187 = .ok (.aload_n 0, 1) := by decide +kernel
theorem dX9_faultOf_188 : decode cX9_faultOf 188 = .ok (.getfield 68, 3) := by decide +kernel
theorem dX9_faultOf_191 : decode cX9_faultOf 191 = .ok (.ireturn, 1) := by decide +kernel
theorem dX9_fault_0 : decode cX9_fault 0 = .ok (.aload_n 0, 1) := by decide +kernel
theorem dX9_fault_1 : decode cX9_fault 1 = .ok (.invokevirtual 80, 3) := by decide +kernel
theorem dX9_fault_4 : decode cX9_fault 4 = .ok (.ireturn, 1) := by decide +kernel
theorem dX9_asNow_0 : decode cX9_asNow 0 = .ok (.iconst 0, 1) := by decide +kernel
theorem dX9_asNow_1 : decode cX9_asNow 1 = .ok (.istore_n 1, 1) := by decide +kernel
theorem dX9_asNow_2 : decode cX9_asNow 2 = .ok (.iload_n 1, 1) := by decide +kernel
theorem dX9_asNow_3 : decode cX9_asNow 3 = .ok (.bipush 61, 2) := by decide +kernel
theorem dX9_asNow_5 : decode cX9_asNow 5 = .ok (.if_icmp .ge 21, 3) := by decide +kernel
theorem dX9_asNow_8 : decode cX9_asNow 8 = .ok (.aload_n 0, 1) := by decide +kernel
theorem dX9_asNow_9 : decode cX9_asNow 9 = .ok (.getfield 13, 3) := by decide +kernel
theorem dX9_asNow_12 : decode cX9_asNow 12 = .ok (.iload_n 1, 1) := by decide +kernel
theorem dX9_asNow_13 : decode cX9_asNow 13 = .ok (.aload_n 0, 1) := by decide +kernel
theorem dX9_asNow_14 : decode cX9_asNow 14 = .ok (.getfield 7, 3) := by decide +kernel
theorem dX9_asNow_17 : decode cX9_asNow 17 = .ok (.iload_n 1, 1) := by decide +kernel
theorem dX9_asNow_18 : decode cX9_asNow 18 = .ok (.iaload, 1) := by decide +kernel
theorem dX9_asNow_19 : decode cX9_asNow 19 = .ok (.iastore, 1) := by decide +kernel
theorem dX9_asNow_20 : decode cX9_asNow 20 = .ok (.iinc 1 1, 3) := by decide +kernel
theorem dX9_asNow_23 : decode cX9_asNow 23 = .ok (.goto (-21), 3) := by decide +kernel
theorem dX9_asNow_26 : decode cX9_asNow 26 = .ok (.aload_n 0, 1) := by decide +kernel
theorem dX9_asNow_27 : decode cX9_asNow 27 = .ok (.iconst 0, 1) := by decide +kernel
theorem dX9_asNow_28 : decode cX9_asNow 28 = .ok (.putfield 84, 3) := by decide +kernel
theorem dX9_asNow_31 : decode cX9_asNow 31 = .ok (.aload_n 0, 1) := by decide +kernel
theorem dX9_asNow_32 : decode cX9_asNow 32 = .ok (.iconst 0, 1) := by decide +kernel
theorem dX9_asNow_33 : decode cX9_asNow 33 = .ok (.putfield 87, 3) := by decide +kernel
theorem dX9_asNow_36 : decode cX9_asNow 36 = .ok (.return_, 1) := by decide +kernel
theorem dX9_gains_0 : decode cX9_gains 0 = .ok (.aload_n 0, 1) := by decide +kernel
theorem dX9_gains_1 : decode cX9_gains 1 = .ok (.getfield 13, 3) := by decide +kernel
theorem dX9_gains_4 : decode cX9_gains 4 = .ok (.bipush 6, 2) := by decide +kernel
theorem dX9_gains_6 : decode cX9_gains 6 = .ok (.iload_n 1, 1) := by decide +kernel
theorem dX9_gains_7 : decode cX9_gains 7 = .ok (.iadd, 1) := by decide +kernel
theorem dX9_gains_8 : decode cX9_gains 8 = .ok (.aload_n 0, 1) := by decide +kernel
theorem dX9_gains_9 : decode cX9_gains 9 = .ok (.getfield 13, 3) := by decide +kernel
theorem dX9_gains_12 : decode cX9_gains 12 = .ok (.bipush 6, 2) := by decide +kernel
theorem dX9_gains_14 : decode cX9_gains 14 = .ok (.iload_n 1, 1) := by decide +kernel
theorem dX9_gains_15 : decode cX9_gains 15 = .ok (.iadd, 1) := by decide +kernel
theorem dX9_gains_16 : decode cX9_gains 16 = .ok (.iaload, 1) := by decide +kernel
theorem dX9_gains_17 : decode cX9_gains 17 = .ok (.iload_n 2, 1) := by decide +kernel
theorem dX9_gains_18 : decode cX9_gains 18 = .ok (.iadd, 1) := by decide +kernel
theorem dX9_gains_19 : decode cX9_gains 19 = .ok (.sipush 9999, 3) := by decide +kernel
theorem dX9_gains_22 : decode cX9_gains 22 = .ok (.if_icmp .le 9, 3) := by decide +kernel
theorem dX9_gains_25 : decode cX9_gains 25 = .ok (.sipush 9999, 3) := by decide +kernel
theorem dX9_gains_28 : decode cX9_gains 28 = .ok (.goto 14, 3) := by decide +kernel
theorem dX9_gains_31 : decode cX9_gains 31 = .ok (.aload_n 0, 1) := by decide +kernel
theorem dX9_gains_32 : decode cX9_gains 32 = .ok (.getfield 13, 3) := by decide +kernel
theorem dX9_gains_35 : decode cX9_gains 35 = .ok (.bipush 6, 2) := by decide +kernel
theorem dX9_gains_37 : decode cX9_gains 37 = .ok (.iload_n 1, 1) := by decide +kernel
theorem dX9_gains_38 : decode cX9_gains 38 = .ok (.iadd, 1) := by decide +kernel
theorem dX9_gains_39 : decode cX9_gains 39 = .ok (.iaload, 1) := by decide +kernel
theorem dX9_gains_40 : decode cX9_gains 40 = .ok (.iload_n 2, 1) := by decide +kernel
theorem dX9_gains_41 : decode cX9_gains 41 = .ok (.iadd, 1) := by decide +kernel
theorem dX9_gains_42 : decode cX9_gains 42 = .ok (.iastore, 1) := by decide +kernel
theorem dX9_gains_43 : decode cX9_gains 43 = .ok (.return_, 1) := by decide +kernel
theorem dX9_gets_0 : decode cX9_gets 0 = .ok (.aload_n 0, 1) := by decide +kernel
theorem dX9_gets_1 : decode cX9_gets 1 = .ok (.getfield 13, 3) := by decide +kernel
theorem dX9_gets_4 : decode cX9_gets 4 = .ok (.iload_n 1, 1) := by decide +kernel
theorem dX9_gets_5 : decode cX9_gets 5 = .ok (.aload_n 0, 1) := by decide +kernel
theorem dX9_gets_6 : decode cX9_gets 6 = .ok (.getfield 13, 3) := by decide +kernel
theorem dX9_gets_9 : decode cX9_gets 9 = .ok (.iload_n 1, 1) := by decide +kernel
theorem dX9_gets_10 : decode cX9_gets 10 = .ok (.iaload, 1) := by decide +kernel
theorem dX9_gets_11 : decode cX9_gets 11 = .ok (.iload_n 2, 1) := by decide +kernel
theorem dX9_gets_12 : decode cX9_gets 12 = .ok (.iadd, 1) := by decide +kernel
theorem dX9_gets_13 : decode cX9_gets 13 = .ok (.sipush 400, 3) := by decide +kernel
theorem dX9_gets_16 : decode cX9_gets 16 = .ok (.if_icmp .le 9, 3) := by decide +kernel
theorem dX9_gets_19 : decode cX9_gets 19 = .ok (.sipush 400, 3) := by decide +kernel
theorem dX9_gets_22 : decode cX9_gets 22 = .ok (.goto 11, 3) := by decide +kernel
theorem dX9_gets_25 : decode cX9_gets 25 = .ok (.aload_n 0, 1) := by decide +kernel
theorem dX9_gets_26 : decode cX9_gets 26 = .ok (.getfield 13, 3) := by decide +kernel
theorem dX9_gets_29 : decode cX9_gets 29 = .ok (.iload_n 1, 1) := by decide +kernel
theorem dX9_gets_30 : decode cX9_gets 30 = .ok (.iaload, 1) := by decide +kernel
theorem dX9_gets_31 : decode cX9_gets 31 = .ok (.iload_n 2, 1) := by decide +kernel
theorem dX9_gets_32 : decode cX9_gets 32 = .ok (.iadd, 1) := by decide +kernel
theorem dX9_gets_33 : decode cX9_gets 33 = .ok (.iastore, 1) := by decide +kernel
theorem dX9_gets_34 : decode cX9_gets 34 = .ok (.return_, 1) := by decide +kernel
theorem dX9_signAct_0 : decode cX9_signAct 0 = .ok (.aload_n 0, 1) := by decide +kernel
theorem dX9_signAct_1 : decode cX9_signAct 1 = .ok (.iload_n 1, 1) := by decide +kernel
theorem dX9_signAct_2 : decode cX9_signAct 2 = .ok (.invokevirtual 64, 3) := by decide +kernel
theorem dX9_signAct_5 : decode cX9_signAct 5 = .ok (.ifCond .ne 5, 3) := by decide +kernel
theorem dX9_signAct_8 : decode cX9_signAct 8 = .ok (.iconst 1, 1) := by decide +kernel
theorem dX9_signAct_9 : decode cX9_signAct 9 = .ok (.ireturn, 1) := by decide +kernel
theorem dX9_signAct_10 : decode cX9_signAct 10 = .ok (.aload_n 0, 1) := by decide +kernel
theorem dX9_signAct_11 : decode cX9_signAct 11 = .ok (.getfield 13, 3) := by decide +kernel
theorem dX9_signAct_14 : decode cX9_signAct 14 = .ok (.iload_n 1, 1) := by decide +kernel
theorem dX9_signAct_15 : decode cX9_signAct 15 = .ok (.iaload, 1) := by decide +kernel
theorem dX9_signAct_16 : decode cX9_signAct 16 = .ok (.ifCond .ne 5, 3) := by decide +kernel
theorem dX9_signAct_19 : decode cX9_signAct 19 = .ok (.iconst 3, 1) := by decide +kernel
theorem dX9_signAct_20 : decode cX9_signAct 20 = .ok (.ireturn, 1) := by decide +kernel
theorem dX9_signAct_21 : decode cX9_signAct 21 = .ok (.aload_n 0, 1) := by decide +kernel
theorem dX9_signAct_22 : decode cX9_signAct 22 = .ok (.getfield 13, 3) := by decide +kernel
theorem dX9_signAct_25 : decode cX9_signAct 25 = .ok (.iload_n 1, 1) := by decide +kernel
theorem dX9_signAct_26 : decode cX9_signAct 26 = .ok (.dup2, 1) := by decide +kernel
theorem dX9_signAct_27 : decode cX9_signAct 27 = .ok (.iaload, 1) := by decide +kernel
theorem dX9_signAct_28 : decode cX9_signAct 28 = .ok (.iconst 1, 1) := by decide +kernel
theorem dX9_signAct_29 : decode cX9_signAct 29 = .ok (.isub, 1) := by decide +kernel
theorem dX9_signAct_30 : decode cX9_signAct 30 = .ok (.iastore, 1) := by decide +kernel
theorem dX9_signAct_31 : decode cX9_signAct 31 = .ok (.aload_n 0, 1) := by decide +kernel
theorem dX9_signAct_32 : decode cX9_signAct 32 = .ok (.iload_n 1, 1) := by decide +kernel
theorem dX9_signAct_33 : decode cX9_signAct 33 = .ok (.iload_n 2, 1) := by decide +kernel
theorem dX9_signAct_34 : decode cX9_signAct 34 = .ok (.invokevirtual 90, 3) := by decide +kernel
theorem dX9_signAct_37 : decode cX9_signAct 37 = .ok (.aload_n 0, 1) := by decide +kernel
theorem dX9_signAct_38 : decode cX9_signAct 38 = .ok (.dup, 1) := by decide +kernel
theorem dX9_signAct_39 : decode cX9_signAct 39 = .ok (.getfield 84, 3) := by decide +kernel
theorem dX9_signAct_42 : decode cX9_signAct 42 = .ok (.iconst 1, 1) := by decide +kernel
theorem dX9_signAct_43 : decode cX9_signAct 43 = .ok (.iadd, 1) := by decide +kernel
theorem dX9_signAct_44 : decode cX9_signAct 44 = .ok (.putfield 84, 3) := by decide +kernel
theorem dX9_signAct_47 : decode cX9_signAct 47 = .ok (.iconst 0, 1) := by decide +kernel
theorem dX9_signAct_48 : decode cX9_signAct 48 = .ok (.ireturn, 1) := by decide +kernel
theorem dX9_forge_0 : decode cX9_forge 0 = .ok (.aload_n 0, 1) := by decide +kernel
theorem dX9_forge_1 : decode cX9_forge 1 = .ok (.iload_n 1, 1) := by decide +kernel
theorem dX9_forge_2 : decode cX9_forge 2 = .ok (.invokevirtual 64, 3) := by decide +kernel
theorem dX9_forge_5 : decode cX9_forge 5 = .ok (.ifCond .ne 5, 3) := by decide +kernel
theorem dX9_forge_8 : decode cX9_forge 8 = .ok (.iconst 1, 1) := by decide +kernel
theorem dX9_forge_9 : decode cX9_forge 9 = .ok (.ireturn, 1) := by decide +kernel
theorem dX9_forge_10 : decode cX9_forge 10 = .ok (.aload_n 0, 1) := by decide +kernel
theorem dX9_forge_11 : decode cX9_forge 11 = .ok (.iload_n 1, 1) := by decide +kernel
theorem dX9_forge_12 : decode cX9_forge 12 = .ok (.iload_n 2, 1) := by decide +kernel
theorem dX9_forge_13 : decode cX9_forge 13 = .ok (.invokevirtual 90, 3) := by decide +kernel
theorem dX9_forge_16 : decode cX9_forge 16 = .ok (.aload_n 0, 1) := by decide +kernel
theorem dX9_forge_17 : decode cX9_forge 17 = .ok (.getfield 13, 3) := by decide +kernel
theorem dX9_forge_20 : decode cX9_forge 20 = .ok (.bipush 12, 2) := by decide +kernel
theorem dX9_forge_22 : decode cX9_forge 22 = .ok (.iload_n 1, 1) := by decide +kernel
theorem dX9_forge_23 : decode cX9_forge 23 = .ok (.iadd, 1) := by decide +kernel
theorem dX9_forge_24 : decode cX9_forge 24 = .ok (.dup2, 1) := by decide +kernel
theorem dX9_forge_25 : decode cX9_forge 25 = .ok (.iaload, 1) := by decide +kernel
theorem dX9_forge_26 : decode cX9_forge 26 = .ok (.iconst 1, 1) := by decide +kernel
theorem dX9_forge_27 : decode cX9_forge 27 = .ok (.iadd, 1) := by decide +kernel
theorem dX9_forge_28 : decode cX9_forge 28 = .ok (.iastore, 1) := by decide +kernel
theorem dX9_forge_29 : decode cX9_forge 29 = .ok (.aload_n 0, 1) := by decide +kernel
theorem dX9_forge_30 : decode cX9_forge 30 = .ok (.dup, 1) := by decide +kernel
theorem dX9_forge_31 : decode cX9_forge 31 = .ok (.getfield 87, 3) := by decide +kernel
theorem dX9_forge_34 : decode cX9_forge 34 = .ok (.iconst 1, 1) := by decide +kernel
theorem dX9_forge_35 : decode cX9_forge 35 = .ok (.iadd, 1) := by decide +kernel
theorem dX9_forge_36 : decode cX9_forge 36 = .ok (.putfield 87, 3) := by decide +kernel
theorem dX9_forge_39 : decode cX9_forge 39 = .ok (.iconst 0, 1) := by decide +kernel
theorem dX9_forge_40 : decode cX9_forge 40 = .ok (.ireturn, 1) := by decide +kernel
theorem dX9_blot_0 : decode cX9_blot 0 = .ok (.aload_n 0, 1) := by decide +kernel
theorem dX9_blot_1 : decode cX9_blot 1 = .ok (.iload_n 1, 1) := by decide +kernel
theorem dX9_blot_2 : decode cX9_blot 2 = .ok (.invokevirtual 64, 3) := by decide +kernel
theorem dX9_blot_5 : decode cX9_blot 5 = .ok (.ifCond .ne 5, 3) := by decide +kernel
theorem dX9_blot_8 : decode cX9_blot 8 = .ok (.iconst 1, 1) := by decide +kernel
theorem dX9_blot_9 : decode cX9_blot 9 = .ok (.ireturn, 1) := by decide +kernel
theorem dX9_blot_10 : decode cX9_blot 10 = .ok (.aload_n 0, 1) := by decide +kernel
theorem dX9_blot_11 : decode cX9_blot 11 = .ok (.getfield 13, 3) := by decide +kernel
theorem dX9_blot_14 : decode cX9_blot 14 = .ok (.iload_n 1, 1) := by decide +kernel
theorem dX9_blot_15 : decode cX9_blot 15 = .ok (.iaload, 1) := by decide +kernel
theorem dX9_blot_16 : decode cX9_blot 16 = .ok (.ifCond .ne 5, 3) := by decide +kernel
theorem dX9_blot_19 : decode cX9_blot 19 = .ok (.iconst 3, 1) := by decide +kernel
theorem dX9_blot_20 : decode cX9_blot 20 = .ok (.ireturn, 1) := by decide +kernel
theorem dX9_blot_21 : decode cX9_blot 21 = .ok (.aload_n 0, 1) := by decide +kernel
theorem dX9_blot_22 : decode cX9_blot 22 = .ok (.getfield 13, 3) := by decide +kernel
theorem dX9_blot_25 : decode cX9_blot 25 = .ok (.iload_n 1, 1) := by decide +kernel
theorem dX9_blot_26 : decode cX9_blot 26 = .ok (.dup2, 1) := by decide +kernel
theorem dX9_blot_27 : decode cX9_blot 27 = .ok (.iaload, 1) := by decide +kernel
theorem dX9_blot_28 : decode cX9_blot 28 = .ok (.iconst 1, 1) := by decide +kernel
theorem dX9_blot_29 : decode cX9_blot 29 = .ok (.isub, 1) := by decide +kernel
theorem dX9_blot_30 : decode cX9_blot 30 = .ok (.iastore, 1) := by decide +kernel
theorem dX9_blot_31 : decode cX9_blot 31 = .ok (.iconst 0, 1) := by decide +kernel
theorem dX9_blot_32 : decode cX9_blot 32 = .ok (.ireturn, 1) := by decide +kernel
theorem dX9_hand_0 : decode cX9_hand 0 = .ok (.aload_n 0, 1) := by decide +kernel
theorem dX9_hand_1 : decode cX9_hand 1 = .ok (.iload_n 1, 1) := by decide +kernel
theorem dX9_hand_2 : decode cX9_hand 2 = .ok (.invokevirtual 64, 3) := by decide +kernel
theorem dX9_hand_5 : decode cX9_hand 5 = .ok (.ifCond .eq 12, 3) := by decide +kernel
theorem dX9_hand_8 : decode cX9_hand 8 = .ok (.aload_n 0, 1) := by decide +kernel
theorem dX9_hand_9 : decode cX9_hand 9 = .ok (.iload 4, 2) := by decide +kernel
theorem dX9_hand_11 : decode cX9_hand 11 = .ok (.invokevirtual 64, 3) := by decide +kernel
theorem dX9_hand_14 : decode cX9_hand 14 = .ok (.ifCond .ne 5, 3) := by decide +kernel
theorem dX9_hand_17 : decode cX9_hand 17 = .ok (.iconst 1, 1) := by decide +kernel
theorem dX9_hand_18 : decode cX9_hand 18 = .ok (.ireturn, 1) := by decide +kernel
theorem dX9_hand_19 : decode cX9_hand 19 = .ok (.iload_n 1, 1) := by decide +kernel
theorem dX9_hand_20 : decode cX9_hand 20 = .ok (.iload 4, 2) := by decide +kernel
theorem dX9_hand_22 : decode cX9_hand 22 = .ok (.if_icmp .ne 5, 3) := by decide +kernel
theorem dX9_hand_25 : decode cX9_hand 25 = .ok (.iconst 2, 1) := by decide +kernel
theorem dX9_hand_26 : decode cX9_hand 26 = .ok (.ireturn, 1) := by decide +kernel
theorem dX9_hand_27 : decode cX9_hand 27 = .ok (.iload_n 2, 1) := by decide +kernel
theorem dX9_hand_28 : decode cX9_hand 28 = .ok (.bipush 60, 2) := by decide +kernel
theorem dX9_hand_30 : decode cX9_hand 30 = .ok (.if_icmp .ne 8, 3) := by decide +kernel
theorem dX9_hand_33 : decode cX9_hand 33 = .ok (.iload 4, 2) := by decide +kernel
theorem dX9_hand_35 : decode cX9_hand 35 = .ok (.goto 4, 3) := by decide +kernel
theorem dX9_hand_38 : decode cX9_hand 38 = .ok (.iload_n 1, 1) := by decide +kernel
theorem dX9_hand_39 : decode cX9_hand 39 = .ok (.istore 5, 2) := by decide +kernel
theorem dX9_hand_41 : decode cX9_hand 41 = .ok (.iload_n 2, 1) := by decide +kernel
theorem dX9_hand_42 : decode cX9_hand 42 = .ok (.bipush 60, 2) := by decide +kernel
theorem dX9_hand_44 : decode cX9_hand 44 = .ok (.if_icmp .ne 7, 3) := by decide +kernel
theorem dX9_hand_47 : decode cX9_hand 47 = .ok (.iload_n 1, 1) := by decide +kernel
theorem dX9_hand_48 : decode cX9_hand 48 = .ok (.goto 5, 3) := by decide +kernel
theorem dX9_hand_51 : decode cX9_hand 51 = .ok (.iload 4, 2) := by decide +kernel
theorem dX9_hand_53 : decode cX9_hand 53 = .ok (.istore 6, 2) := by decide +kernel
theorem dX9_hand_55 : decode cX9_hand 55 = .ok (.aload_n 0, 1) := by decide +kernel
theorem dX9_hand_56 : decode cX9_hand 56 = .ok (.getfield 13, 3) := by decide +kernel
theorem dX9_hand_59 : decode cX9_hand 59 = .ok (.iload 5, 2) := by decide +kernel
theorem dX9_hand_61 : decode cX9_hand 61 = .ok (.iaload, 1) := by decide +kernel
theorem dX9_hand_62 : decode cX9_hand 62 = .ok (.iload_n 3, 1) := by decide +kernel
theorem dX9_hand_63 : decode cX9_hand 63 = .ok (.if_icmp .ge 5, 3) := by decide +kernel
theorem dX9_hand_66 : decode cX9_hand 66 = .ok (.iconst 3, 1) := by decide +kernel
theorem dX9_hand_67 : decode cX9_hand 67 = .ok (.ireturn, 1) := by decide +kernel
theorem dX9_hand_68 : decode cX9_hand 68 = .ok (.bipush 20, 2) := by decide +kernel
theorem dX9_hand_70 : decode cX9_hand 70 = .ok (.bipush 6, 2) := by decide +kernel
theorem dX9_hand_72 : decode cX9_hand 72 = .ok (.iload 4, 2) := by decide +kernel
theorem dX9_hand_74 : decode cX9_hand 74 = .ok (.imul, 1) := by decide +kernel
theorem dX9_hand_75 : decode cX9_hand 75 = .ok (.iadd, 1) := by decide +kernel
theorem dX9_hand_76 : decode cX9_hand 76 = .ok (.iload_n 1, 1) := by decide +kernel
theorem dX9_hand_77 : decode cX9_hand 77 = .ok (.iadd, 1) := by decide +kernel
theorem dX9_hand_78 : decode cX9_hand 78 = .ok (.istore 7, 2) := by decide +kernel
theorem dX9_hand_80 : decode cX9_hand 80 = .ok (.iload_n 2, 1) := by decide +kernel
theorem dX9_hand_81 : decode cX9_hand 81 = .ok (.bipush 61, 2) := by decide +kernel
theorem dX9_hand_83 : decode cX9_hand 83 = .ok (.if_icmp .ne 19, 3) := by decide +kernel
theorem dX9_hand_86 : decode cX9_hand 86 = .ok (.aload_n 0, 1) := by decide +kernel
theorem dX9_hand_87 : decode cX9_hand 87 = .ok (.getfield 13, 3) := by decide +kernel
theorem dX9_hand_90 : decode cX9_hand 90 = .ok (.iload 7, 2) := by decide +kernel
theorem dX9_hand_92 : decode cX9_hand 92 = .ok (.iaload, 1) := by decide +kernel
theorem dX9_hand_93 : decode cX9_hand 93 = .ok (.iload_n 3, 1) := by decide +kernel
theorem dX9_hand_94 : decode cX9_hand 94 = .ok (.iadd, 1) := by decide +kernel
theorem dX9_hand_95 : decode cX9_hand 95 = .ok (.bipush 99, 2) := by decide +kernel
theorem dX9_hand_97 : decode cX9_hand 97 = .ok (.if_icmp .le 5, 3) := by decide +kernel
theorem dX9_hand_100 : decode cX9_hand 100 = .ok (.iconst 5, 1) := by decide +kernel
theorem dX9_hand_101 : decode cX9_hand 101 = .ok (.ireturn, 1) := by decide +kernel
theorem dX9_hand_102 : decode cX9_hand 102 = .ok (.aload_n 0, 1) := by decide +kernel
theorem dX9_hand_103 : decode cX9_hand 103 = .ok (.getfield 13, 3) := by decide +kernel
theorem dX9_hand_106 : decode cX9_hand 106 = .ok (.iload 7, 2) := by decide +kernel
theorem dX9_hand_108 : decode cX9_hand 108 = .ok (.dup2, 1) := by decide +kernel
theorem dX9_hand_109 : decode cX9_hand 109 = .ok (.iaload, 1) := by decide +kernel
theorem dX9_hand_110 : decode cX9_hand 110 = .ok (.iload_n 2, 1) := by decide +kernel
theorem dX9_hand_111 : decode cX9_hand 111 = .ok (.bipush 61, 2) := by decide +kernel
theorem dX9_hand_113 : decode cX9_hand 113 = .ok (.if_icmp .ne 7, 3) := by decide +kernel
theorem dX9_hand_116 : decode cX9_hand 116 = .ok (.iload_n 3, 1) := by decide +kernel
theorem dX9_hand_117 : decode cX9_hand 117 = .ok (.goto 4, 3) := by decide +kernel
theorem dX9_hand_120 : decode cX9_hand 120 = .ok (.iconst 0, 1) := by decide +kernel
theorem dX9_hand_121 : decode cX9_hand 121 = .ok (.iadd, 1) := by decide +kernel
theorem dX9_hand_122 : decode cX9_hand 122 = .ok (.iastore, 1) := by decide +kernel
theorem dX9_hand_123 : decode cX9_hand 123 = .ok (.aload_n 0, 1) := by decide +kernel
theorem dX9_hand_124 : decode cX9_hand 124 = .ok (.getfield 13, 3) := by decide +kernel
theorem dX9_hand_127 : decode cX9_hand 127 = .ok (.iload 5, 2) := by decide +kernel
theorem dX9_hand_129 : decode cX9_hand 129 = .ok (.dup2, 1) := by decide +kernel
theorem dX9_hand_130 : decode cX9_hand 130 = .ok (.iaload, 1) := by decide +kernel
theorem dX9_hand_131 : decode cX9_hand 131 = .ok (.iload_n 3, 1) := by decide +kernel
theorem dX9_hand_132 : decode cX9_hand 132 = .ok (.isub, 1) := by decide +kernel
theorem dX9_hand_133 : decode cX9_hand 133 = .ok (.iastore, 1) := by decide +kernel
theorem dX9_hand_134 : decode cX9_hand 134 = .ok (.aload_n 0, 1) := by decide +kernel
theorem dX9_hand_135 : decode cX9_hand 135 = .ok (.iload 6, 2) := by decide +kernel
theorem dX9_hand_137 : decode cX9_hand 137 = .ok (.iload_n 3, 1) := by decide +kernel
theorem dX9_hand_138 : decode cX9_hand 138 = .ok (.invokevirtual 94, 3) := by decide +kernel
theorem dX9_hand_141 : decode cX9_hand 141 = .ok (.iconst 0, 1) := by decide +kernel
theorem dX9_hand_142 : decode cX9_hand 142 = .ok (.ireturn, 1) := by decide +kernel
theorem dX9_endYear_0 : decode cX9_endYear 0 = .ok (.aload_n 0, 1) := by decide +kernel
theorem dX9_endYear_1 : decode cX9_endYear 1 = .ok (.getfield 13, 3) := by decide +kernel
theorem dX9_endYear_4 : decode cX9_endYear 4 = .ok (.bipush 60, 2) := by decide +kernel
theorem dX9_endYear_6 : decode cX9_endYear 6 = .ok (.iaload, 1) := by decide +kernel
theorem dX9_endYear_7 : decode cX9_endYear 7 = .ok (.bipush 99, 2) := by decide +kernel
theorem dX9_endYear_9 : decode cX9_endYear 9 = .ok (.if_icmp .ne 5, 3) := by decide +kernel
theorem dX9_endYear_12 : decode cX9_endYear 12 = .ok (.iconst 4, 1) := by decide +kernel
theorem dX9_endYear_13 : decode cX9_endYear 13 = .ok (.ireturn, 1) := by decide +kernel
theorem dX9_endYear_14 : decode cX9_endYear 14 = .ok (.aload_n 0, 1) := by decide +kernel
theorem dX9_endYear_15 : decode cX9_endYear 15 = .ok (.getfield 13, 3) := by decide +kernel
theorem dX9_endYear_18 : decode cX9_endYear 18 = .ok (.bipush 60, 2) := by decide +kernel
theorem dX9_endYear_20 : decode cX9_endYear 20 = .ok (.dup2, 1) := by decide +kernel
theorem dX9_endYear_21 : decode cX9_endYear 21 = .ok (.iaload, 1) := by decide +kernel
theorem dX9_endYear_22 : decode cX9_endYear 22 = .ok (.iconst 1, 1) := by decide +kernel
theorem dX9_endYear_23 : decode cX9_endYear 23 = .ok (.iadd, 1) := by decide +kernel
theorem dX9_endYear_24 : decode cX9_endYear 24 = .ok (.iastore, 1) := by decide +kernel
theorem dX9_endYear_25 : decode cX9_endYear 25 = .ok (.iconst 0, 1) := by decide +kernel
theorem dX9_endYear_26 : decode cX9_endYear 26 = .ok (.ireturn, 1) := by decide +kernel
theorem dX9_some_0 : decode cX9_some 0 = .ok (.iconst 0, 1) := by decide +kernel
theorem dX9_some_1 : decode cX9_some 1 = .ok (.istore_n 1, 1) := by decide +kernel
theorem dX9_some_2 : decode cX9_some 2 = .ok (.iconst 0, 1) := by decide +kernel
theorem dX9_some_3 : decode cX9_some 3 = .ok (.istore_n 2, 1) := by decide +kernel
theorem dX9_some_4 : decode cX9_some 4 = .ok (.iload_n 2, 1) := by decide +kernel
theorem dX9_some_5 : decode cX9_some 5 = .ok (.bipush 6, 2) := by decide +kernel
theorem dX9_some_7 : decode cX9_some 7 = .ok (.if_icmp .ge 39, 3) := by decide +kernel
theorem dX9_some_10 : decode cX9_some 10 = .ok (.iload_n 1, 1) := by decide +kernel
theorem dX9_some_11 : decode cX9_some 11 = .ok (.aload_n 0, 1) := by decide +kernel
theorem dX9_some_12 : decode cX9_some 12 = .ok (.getfield 52, 3) := by decide +kernel
theorem dX9_some_15 : decode cX9_some 15 = .ok (.iload_n 2, 1) := by decide +kernel
theorem dX9_some_16 : decode cX9_some 16 = .ok (.invokestatic 56, 3) := by decide +kernel
theorem dX9_some_19 : decode cX9_some 19 = .ok (.ifCond .eq 18, 3) := by decide +kernel
theorem dX9_some_22 : decode cX9_some 22 = .ok (.aload_n 0, 1) := by decide +kernel
theorem dX9_some_23 : decode cX9_some 23 = .ok (.getfield 13, 3) := by decide +kernel
theorem dX9_some_26 : decode cX9_some 26 = .ok (.iload_n 2, 1) := by decide +kernel
theorem dX9_some_27 : decode cX9_some 27 = .ok (.iaload, 1) := by decide +kernel
theorem dX9_some_28 : decode cX9_some 28 = .ok (.ifCond .le 9, 3) := by decide +kernel
theorem dX9_some_31 : decode cX9_some 31 = .ok (.iconst 1, 1) := by decide +kernel
theorem dX9_some_32 : decode cX9_some 32 = .ok (.iload_n 2, 1) := by decide +kernel
theorem dX9_some_33 : decode cX9_some 33 = .ok (.ishl, 1) := by decide +kernel
theorem dX9_some_34 : decode cX9_some 34 = .ok (.goto 4, 3) := by decide +kernel
theorem dX9_some_37 : decode cX9_some 37 = .ok (.iconst 0, 1) := by decide +kernel
theorem dX9_some_38 : decode cX9_some 38 = .ok (.ior, 1) := by decide +kernel
theorem dX9_some_39 : decode cX9_some 39 = .ok (.istore_n 1, 1) := by decide +kernel
theorem dX9_some_40 : decode cX9_some 40 = .ok (.iinc 2 1, 3) := by decide +kernel
theorem dX9_some_43 : decode cX9_some 43 = .ok (.goto (-39), 3) := by decide +kernel
theorem dX9_some_46 : decode cX9_some 46 = .ok (.iload_n 1, 1) := by decide +kernel
theorem dX9_some_47 : decode cX9_some 47 = .ok (.ireturn, 1) := by decide +kernel
theorem dX9_goLives_0 : decode cX9_goLives 0 = .ok (.aload_n 0, 1) := by decide +kernel
theorem dX9_goLives_1 : decode cX9_goLives 1 = .ok (.invokevirtual 97, 3) := by decide +kernel
theorem dX9_goLives_4 : decode cX9_goLives 4 = .ok (.aload_n 0, 1) := by decide +kernel
theorem dX9_goLives_5 : decode cX9_goLives 5 = .ok (.iconst 0, 1) := by decide +kernel
theorem dX9_goLives_6 : decode cX9_goLives 6 = .ok (.putfield 100, 3) := by decide +kernel
theorem dX9_goLives_9 : decode cX9_goLives 9 = .ok (.aload_n 0, 1) := by decide +kernel
theorem dX9_goLives_10 : decode cX9_goLives 10 = .ok (.bipush (-6), 2) := by decide +kernel
theorem dX9_goLives_12 : decode cX9_goLives 12 = .ok (.putfield 103, 3) := by decide +kernel
theorem dX9_goLives_15 : decode cX9_goLives 15 = .ok (.iconst 0, 1) := by decide +kernel
theorem dX9_goLives_16 : decode cX9_goLives 16 = .ok (.istore_n 1, 1) := by decide +kernel
theorem dX9_goLives_17 : decode cX9_goLives 17 = .ok (.iload_n 1, 1) := by decide +kernel
theorem dX9_goLives_18 : decode cX9_goLives 18 = .ok (.aload_n 0, 1) := by decide +kernel
theorem dX9_goLives_19 : decode cX9_goLives 19 = .ok (.getfield 68, 3) := by decide +kernel
theorem dX9_goLives_22 : decode cX9_goLives 22 = .ok (.if_icmp .ge 230, 3) := by decide +kernel
theorem dX9_goLives_25 : decode cX9_goLives 25 = .ok (.aload_n 0, 1) := by decide +kernel
theorem dX9_goLives_26 : decode cX9_goLives 26 = .ok (.invokevirtual 106, 3) := by decide +kernel
theorem dX9_goLives_29 : decode cX9_goLives 29 = .ok (.istore_n 2, 1) := by decide +kernel
theorem dX9_goLives_30 : decode cX9_goLives 30 = .ok (.aload_n 0, 1) := by decide +kernel
theorem dX9_goLives_31 : decode cX9_goLives 31 = .ok (.getfield 25, 3) := by decide +kernel
theorem dX9_goLives_34 : decode cX9_goLives 34 = .ok (.iload_n 1, 1) := by decide +kernel
theorem dX9_goLives_35 : decode cX9_goLives 35 = .ok (.iaload, 1) := by decide +kernel
theorem dX9_goLives_36 : decode cX9_goLives 36 = .ok (.bipush 46, 2) := by decide +kernel
theorem dX9_goLives_38 : decode cX9_goLives 38 = .ok (.if_icmp .ne 17, 3) := by decide +kernel
theorem dX9_goLives_41 : decode cX9_goLives 41 = .ok (.aload_n 0, 1) := by decide +kernel
theorem dX9_goLives_42 : decode cX9_goLives 42 = .ok (.aload_n 0, 1) := by decide +kernel
theorem dX9_goLives_43 : decode cX9_goLives 43 = .ok (.invokevirtual 109, 3) := by decide +kernel
theorem dX9_goLives_46 : decode cX9_goLives 46 = .ok (.putfield 112, 3) := by decide +kernel
theorem dX9_goLives_49 : decode cX9_goLives 49 = .ok (.iinc 1 1, 3) := by decide +kernel
theorem dX9_goLives_52 : decode cX9_goLives 52 = .ok (.goto 142, 3) := by decide +kernel
theorem dX9_goLives_55 : decode cX9_goLives 55 = .ok (.aload_n 0, 1) := by decide +kernel
theorem dX9_goLives_56 : decode cX9_goLives 56 = .ok (.getfield 25, 3) := by decide +kernel
theorem dX9_goLives_59 : decode cX9_goLives 59 = .ok (.iload_n 1, 1) := by decide +kernel
theorem dX9_goLives_60 : decode cX9_goLives 60 = .ok (.iaload, 1) := by decide +kernel
theorem dX9_goLives_61 : decode cX9_goLives 61 = .ok (.bipush 65, 2) := by decide +kernel
theorem dX9_goLives_63 : decode cX9_goLives 63 = .ok (.isub, 1) := by decide +kernel
theorem dX9_goLives_64 : decode cX9_goLives 64 = .ok (.istore_n 3, 1) := by decide +kernel
theorem dX9_goLives_65 : decode cX9_goLives 65 = .ok (.aload_n 0, 1) := by decide +kernel
theorem dX9_goLives_66 : decode cX9_goLives 66 = .ok (.getfield 25, 3) := by decide +kernel
theorem dX9_goLives_69 : decode cX9_goLives 69 = .ok (.iload_n 1, 1) := by decide +kernel
theorem dX9_goLives_70 : decode cX9_goLives 70 = .ok (.iconst 1, 1) := by decide +kernel
theorem dX9_goLives_71 : decode cX9_goLives 71 = .ok (.iadd, 1) := by decide +kernel
theorem dX9_goLives_72 : decode cX9_goLives 72 = .ok (.iaload, 1) := by decide +kernel
theorem dX9_goLives_73 : decode cX9_goLives 73 = .ok (.istore 4, 2) := by decide +kernel
theorem dX9_goLives_75 : decode cX9_goLives 75 = .ok (.iload 4, 2) := by decide +kernel
theorem dX9_goLives_77 : decode cX9_goLives 77 = .ok (.invokestatic 74, 3) := by decide +kernel
theorem dX9_goLives_80 : decode cX9_goLives 80 = .ok (.ifCond .eq 23, 3) := by decide +kernel
theorem dX9_goLives_83 : decode cX9_goLives 83 = .ok (.aload_n 0, 1) := by decide +kernel
theorem dX9_goLives_84 : decode cX9_goLives 84 = .ok (.aload_n 0, 1) := by decide +kernel
theorem dX9_goLives_85 : decode cX9_goLives 85 = .ok (.iload_n 3, 1) := by decide +kernel
theorem dX9_goLives_86 : decode cX9_goLives 86 = .ok (.iload 4, 2) := by decide +kernel
theorem dX9_goLives_88 : decode cX9_goLives 88 = .ok (.bipush 48, 2) := by decide +kernel
theorem dX9_goLives_90 : decode cX9_goLives 90 = .ok (.isub, 1) := by decide +kernel
theorem dX9_goLives_91 : decode cX9_goLives 91 = .ok (.invokevirtual 115, 3) := by decide +kernel
theorem dX9_goLives_94 : decode cX9_goLives 94 = .ok (.putfield 112, 3) := by decide +kernel
theorem dX9_goLives_97 : decode cX9_goLives 97 = .ok (.iinc 1 2, 3) := by decide +kernel
theorem dX9_goLives_100 : decode cX9_goLives 100 = .ok (.goto 94, 3) := by decide +kernel
theorem dX9_goLives_103 : decode cX9_goLives 103 = .ok (.iload 4, 2) := by decide +kernel
theorem dX9_goLives_105 : decode cX9_goLives 105 = .ok (.bipush 33, 2) := by decide +kernel
theorem dX9_goLives_107 : decode cX9_goLives 107 = .ok (.if_icmp .ne 29, 3) := by decide +kernel
theorem dX9_goLives_110 : decode cX9_goLives 110 = .ok (.aload_n 0, 1) := by decide +kernel
theorem dX9_goLives_111 : decode cX9_goLives 111 = .ok (.aload_n 0, 1) := by decide +kernel
theorem dX9_goLives_112 : decode cX9_goLives 112 = .ok (.iload_n 3, 1) := by decide +kernel
theorem dX9_goLives_113 : decode cX9_goLives 113 = .ok (.aload_n 0, 1) := by decide +kernel
theorem dX9_goLives_114 : decode cX9_goLives 114 = .ok (.getfield 25, 3) := by decide +kernel
theorem dX9_goLives_117 : decode cX9_goLives 117 = .ok (.iload_n 1, 1) := by decide +kernel
theorem dX9_goLives_118 : decode cX9_goLives 118 = .ok (.iconst 2, 1) := by decide +kernel
theorem dX9_goLives_119 : decode cX9_goLives 119 = .ok (.iadd, 1) := by decide +kernel
theorem dX9_goLives_120 : decode cX9_goLives 120 = .ok (.iaload, 1) := by decide +kernel
theorem dX9_goLives_121 : decode cX9_goLives 121 = .ok (.bipush 48, 2) := by decide +kernel
theorem dX9_goLives_123 : decode cX9_goLives 123 = .ok (.isub, 1) := by decide +kernel
theorem dX9_goLives_124 : decode cX9_goLives 124 = .ok (.invokevirtual 119, 3) := by decide +kernel
theorem dX9_goLives_127 : decode cX9_goLives 127 = .ok (.putfield 112, 3) := by decide +kernel
theorem dX9_goLives_130 : decode cX9_goLives 130 = .ok (.iinc 1 3, 3) := by decide +kernel
theorem dX9_goLives_133 : decode cX9_goLives 133 = .ok (.goto 61, 3) := by decide +kernel
theorem dX9_goLives_136 : decode cX9_goLives 136 = .ok (.iload 4, 2) := by decide +kernel
theorem dX9_goLives_138 : decode cX9_goLives 138 = .ok (.bipush 42, 2) := by decide +kernel
theorem dX9_goLives_140 : decode cX9_goLives 140 = .ok (.if_icmp .ne 18, 3) := by decide +kernel
theorem dX9_goLives_143 : decode cX9_goLives 143 = .ok (.aload_n 0, 1) := by decide +kernel
theorem dX9_goLives_144 : decode cX9_goLives 144 = .ok (.aload_n 0, 1) := by decide +kernel
theorem dX9_goLives_145 : decode cX9_goLives 145 = .ok (.iload_n 3, 1) := by decide +kernel
theorem dX9_goLives_146 : decode cX9_goLives 146 = .ok (.invokevirtual 122, 3) := by decide +kernel
theorem dX9_goLives_149 : decode cX9_goLives 149 = .ok (.putfield 112, 3) := by decide +kernel
theorem dX9_goLives_152 : decode cX9_goLives 152 = .ok (.iinc 1 2, 3) := by decide +kernel
theorem dX9_goLives_155 : decode cX9_goLives 155 = .ok (.goto 39, 3) := by decide +kernel
theorem dX9_goLives_158 : decode cX9_goLives 158 = .ok (.aload_n 0, 1) := by decide +kernel
theorem dX9_goLives_159 : decode cX9_goLives 159 = .ok (.aload_n 0, 1) := by decide +kernel
theorem dX9_goLives_160 : decode cX9_goLives 160 = .ok (.iload_n 3, 1) := by decide +kernel
theorem dX9_goLives_161 : decode cX9_goLives 161 = .ok (.iload 4, 2) := by decide +kernel
theorem dX9_goLives_163 : decode cX9_goLives 163 = .ok (.aload_n 0, 1) := by decide +kernel
theorem dX9_goLives_164 : decode cX9_goLives 164 = .ok (.getfield 25, 3) := by decide +kernel
theorem dX9_goLives_167 : decode cX9_goLives 167 = .ok (.iload_n 1, 1) := by decide +kernel
theorem dX9_goLives_168 : decode cX9_goLives 168 = .ok (.iconst 2, 1) := by decide +kernel
theorem dX9_goLives_169 : decode cX9_goLives 169 = .ok (.iadd, 1) := by decide +kernel
theorem dX9_goLives_170 : decode cX9_goLives 170 = .ok (.iaload, 1) := by decide +kernel
theorem dX9_goLives_171 : decode cX9_goLives 171 = .ok (.bipush 48, 2) := by decide +kernel
theorem dX9_goLives_173 : decode cX9_goLives 173 = .ok (.isub, 1) := by decide +kernel
theorem dX9_goLives_174 : decode cX9_goLives 174 = .ok (.aload_n 0, 1) := by decide +kernel
theorem dX9_goLives_175 : decode cX9_goLives 175 = .ok (.getfield 25, 3) := by decide +kernel
theorem dX9_goLives_178 : decode cX9_goLives 178 = .ok (.iload_n 1, 1) := by decide +kernel
theorem dX9_goLives_179 : decode cX9_goLives 179 = .ok (.iconst 3, 1) := by decide +kernel
theorem dX9_goLives_180 : decode cX9_goLives 180 = .ok (.iadd, 1) := by decide +kernel
theorem dX9_goLives_181 : decode cX9_goLives 181 = .ok (.iaload, 1) := by decide +kernel
theorem dX9_goLives_182 : decode cX9_goLives 182 = .ok (.bipush 65, 2) := by decide +kernel
theorem dX9_goLives_184 : decode cX9_goLives 184 = .ok (.isub, 1) := by decide +kernel
theorem dX9_goLives_185 : decode cX9_goLives 185 = .ok (.invokevirtual 125, 3) := by decide +kernel
theorem dX9_goLives_188 : decode cX9_goLives 188 = .ok (.putfield 112, 3) := by decide +kernel
theorem dX9_goLives_191 : decode cX9_goLives 191 = .ok (.iinc 1 4, 3) := by decide +kernel
theorem dX9_goLives_194 : decode cX9_goLives 194 = .ok (.aload_n 0, 1) := by decide +kernel
theorem dX9_goLives_195 : decode cX9_goLives 195 = .ok (.getfield 112, 3) := by decide +kernel
theorem dX9_goLives_198 : decode cX9_goLives 198 = .ok (.ifCond .le 8, 3) := by decide +kernel
theorem dX9_goLives_201 : decode cX9_goLives 201 = .ok (.aload_n 0, 1) := by decide +kernel
theorem dX9_goLives_202 : decode cX9_goLives 202 = .ok (.getfield 100, 3) := by decide +kernel
theorem dX9_goLives_205 : decode cX9_goLives 205 = .ok (.ireturn, 1) := by decide +kernel
theorem dX9_goLives_206 : decode cX9_goLives 206 = .ok (.aload_n 0, 1) := by decide +kernel
theorem dX9_goLives_207 : decode cX9_goLives 207 = .ok (.aload_n 0, 1) := by decide +kernel
theorem dX9_goLives_208 : decode cX9_goLives 208 = .ok (.getfield 103, 3) := by decide +kernel
theorem dX9_goLives_211 : decode cX9_goLives 211 = .ok (.ifCond .ge 21, 3) := by decide +kernel
theorem dX9_goLives_214 : decode cX9_goLives 214 = .ok (.iload_n 2, 1) := by decide +kernel
theorem dX9_goLives_215 : decode cX9_goLives 215 = .ok (.aload_n 0, 1) := by decide +kernel
theorem dX9_goLives_216 : decode cX9_goLives 216 = .ok (.invokevirtual 106, 3) := by decide +kernel
theorem dX9_goLives_219 : decode cX9_goLives 219 = .ok (.iconst (-1), 1) := by decide +kernel
theorem dX9_goLives_220 : decode cX9_goLives 220 = .ok (.ixor, 1) := by decide +kernel
theorem dX9_goLives_221 : decode cX9_goLives 221 = .ok (.iand, 1) := by decide +kernel
theorem dX9_goLives_222 : decode cX9_goLives 222 = .ok (.ifCond .eq 10, 3) := by decide +kernel
theorem dX9_goLives_225 : decode cX9_goLives 225 = .ok (.aload_n 0, 1) := by decide +kernel
theorem dX9_goLives_226 : decode cX9_goLives 226 = .ok (.getfield 100, 3) := by decide +kernel
theorem dX9_goLives_229 : decode cX9_goLives 229 = .ok (.goto 7, 3) := by decide +kernel
theorem dX9_goLives_232 : decode cX9_goLives 232 = .ok (.aload_n 0, 1) := by decide +kernel
theorem dX9_goLives_233 : decode cX9_goLives 233 = .ok (.getfield 103, 3) := by decide +kernel
theorem dX9_goLives_236 : decode cX9_goLives 236 = .ok (.putfield 103, 3) := by decide +kernel
theorem dX9_goLives_239 : decode cX9_goLives 239 = .ok (.aload_n 0, 1) := by decide +kernel
theorem dX9_goLives_240 : decode cX9_goLives 240 = .ok (.dup, 1) := by decide +kernel
theorem dX9_goLives_241 : decode cX9_goLives 241 = .ok (.getfield 100, 3) := by decide +kernel
theorem dX9_goLives_244 : decode cX9_goLives 244 = .ok (.iconst 1, 1) := by decide +kernel
theorem dX9_goLives_245 : decode cX9_goLives 245 = .ok (.iadd, 1) := by decide +kernel
theorem dX9_goLives_246 : decode cX9_goLives 246 = .ok (.putfield 100, 3) := by decide +kernel
theorem dX9_goLives_249 : decode cX9_goLives 249 = .ok (.goto (-232), 3) := by decide +kernel
theorem dX9_goLives_252 : decode cX9_goLives 252 = .ok (.bipush (-6), 2) := by decide +kernel
theorem dX9_goLives_254 : decode cX9_goLives 254 = .ok (.ireturn, 1) := by decide +kernel
theorem dX9_judge_0 : decode cX9_judge 0 = .ok (.iload_n 1, 1) := by decide +kernel
theorem dX9_judge_1 : decode cX9_judge 1 = .ok (.iconst 0, 1) := by decide +kernel
theorem dX9_judge_2 : decode cX9_judge 2 = .ok (.iconst 1, 1) := by decide +kernel
theorem dX9_judge_3 : decode cX9_judge 3 = .ok (.invokestatic 48, 3) := by decide +kernel
theorem dX9_judge_6 : decode cX9_judge 6 = .ok (.ifCond .ne 6, 3) := by decide +kernel
theorem dX9_judge_9 : decode cX9_judge 9 = .ok (.bipush (-2), 2) := by decide +kernel
theorem dX9_judge_11 : decode cX9_judge 11 = .ok (.ireturn, 1) := by decide +kernel
theorem dX9_judge_12 : decode cX9_judge 12 = .ok (.aload_n 0, 1) := by decide +kernel
theorem dX9_judge_13 : decode cX9_judge 13 = .ok (.invokevirtual 80, 3) := by decide +kernel
theorem dX9_judge_16 : decode cX9_judge 16 = .ok (.ifCond .lt 6, 3) := by decide +kernel
theorem dX9_judge_19 : decode cX9_judge 19 = .ok (.bipush (-5), 2) := by decide +kernel
theorem dX9_judge_21 : decode cX9_judge 21 = .ok (.ireturn, 1) := by decide +kernel
theorem dX9_judge_22 : decode cX9_judge 22 = .ok (.aload_n 0, 1) := by decide +kernel
theorem dX9_judge_23 : decode cX9_judge 23 = .ok (.invokevirtual 129, 3) := by decide +kernel
theorem dX9_judge_26 : decode cX9_judge 26 = .ok (.istore_n 2, 1) := by decide +kernel
theorem dX9_judge_27 : decode cX9_judge 27 = .ok (.iload_n 2, 1) := by decide +kernel
theorem dX9_judge_28 : decode cX9_judge 28 = .ok (.ifCond .lt 7, 3) := by decide +kernel
theorem dX9_judge_31 : decode cX9_judge 31 = .ok (.iload_n 1, 1) := by decide +kernel
theorem dX9_judge_32 : decode cX9_judge 32 = .ok (.ifCond .ne 7, 3) := by decide +kernel
theorem dX9_judge_35 : decode cX9_judge 35 = .ok (.iload_n 2, 1) := by decide +kernel
theorem dX9_judge_36 : decode cX9_judge 36 = .ok (.goto 7, 3) := by decide +kernel
theorem dX9_judge_39 : decode cX9_judge 39 = .ok (.aload_n 0, 1) := by decide +kernel
theorem dX9_judge_40 : decode cX9_judge 40 = .ok (.getfield 112, 3) := by decide +kernel
theorem dX9_judge_43 : decode cX9_judge 43 = .ok (.ireturn, 1) := by decide +kernel
theorem dX9_barOfLives_0 : decode cX9_barOfLives 0 = .ok (.aload_n 0, 1) := by decide +kernel
theorem dX9_barOfLives_1 : decode cX9_barOfLives 1 = .ok (.invokevirtual 80, 3) := by decide +kernel
theorem dX9_barOfLives_4 : decode cX9_barOfLives 4 = .ok (.ifCond .ge 10, 3) := by decide +kernel
theorem dX9_barOfLives_7 : decode cX9_barOfLives 7 = .ok (.aload_n 0, 1) := by decide +kernel
theorem dX9_barOfLives_8 : decode cX9_barOfLives 8 = .ok (.invokevirtual 129, 3) := by decide +kernel
theorem dX9_barOfLives_11 : decode cX9_barOfLives 11 = .ok (.ifCond .lt 8, 3) := by decide +kernel
theorem dX9_barOfLives_14 : decode cX9_barOfLives 14 = .ok (.bipush (-5), 2) := by decide +kernel
theorem dX9_barOfLives_16 : decode cX9_barOfLives 16 = .ok (.goto 4, 3) := by decide +kernel
theorem dX9_barOfLives_19 : decode cX9_barOfLives 19 = .ok (.iconst 0, 1) := by decide +kernel
theorem dX9_barOfLives_20 : decode cX9_barOfLives 20 = .ok (.ireturn, 1) := by decide +kernel
theorem dX9_done_0 : decode cX9_done 0 = .ok (.aload_n 0, 1) := by decide +kernel
theorem dX9_done_1 : decode cX9_done 1 = .ok (.invokevirtual 132, 3) := by decide +kernel
theorem dX9_done_4 : decode cX9_done 4 = .ok (.ifCond .ge 6, 3) := by decide +kernel
theorem dX9_done_7 : decode cX9_done 7 = .ok (.bipush (-5), 2) := by decide +kernel
theorem dX9_done_9 : decode cX9_done 9 = .ok (.ireturn, 1) := by decide +kernel
theorem dX9_done_10 : decode cX9_done 10 = .ok (.iconst 0, 1) := by decide +kernel
theorem dX9_done_11 : decode cX9_done 11 = .ok (.istore_n 1, 1) := by decide +kernel
theorem dX9_done_12 : decode cX9_done 12 = .ok (.iload_n 1, 1) := by decide +kernel
theorem dX9_done_13 : decode cX9_done 13 = .ok (.bipush 61, 2) := by decide +kernel
theorem dX9_done_15 : decode cX9_done 15 = .ok (.if_icmp .ge 21, 3) := by decide +kernel
theorem dX9_done_18 : decode cX9_done 18 = .ok (.aload_n 0, 1) := by decide +kernel
theorem dX9_done_19 : decode cX9_done 19 = .ok (.getfield 7, 3) := by decide +kernel
theorem dX9_done_22 : decode cX9_done 22 = .ok (.iload_n 1, 1) := by decide +kernel
theorem dX9_done_23 : decode cX9_done 23 = .ok (.aload_n 0, 1) := by decide +kernel
theorem dX9_done_24 : decode cX9_done 24 = .ok (.getfield 13, 3) := by decide +kernel
theorem dX9_done_27 : decode cX9_done 27 = .ok (.iload_n 1, 1) := by decide +kernel
theorem dX9_done_28 : decode cX9_done 28 = .ok (.iaload, 1) := by decide +kernel
theorem dX9_done_29 : decode cX9_done 29 = .ok (.iastore, 1) := by decide +kernel
theorem dX9_done_30 : decode cX9_done 30 = .ok (.iinc 1 1, 3) := by decide +kernel
theorem dX9_done_33 : decode cX9_done 33 = .ok (.goto (-21), 3) := by decide +kernel
theorem dX9_done_36 : decode cX9_done 36 = .ok (.aload_n 0, 1) := by decide +kernel
theorem dX9_done_37 : decode cX9_done 37 = .ok (.iconst 0, 1) := by decide +kernel
theorem dX9_done_38 : decode cX9_done 38 = .ok (.putfield 68, 3) := by decide +kernel
theorem dX9_done_41 : decode cX9_done 41 = .ok (.aload_n 0, 1) := by decide +kernel
theorem dX9_done_42 : decode cX9_done 42 = .ok (.getfield 100, 3) := by decide +kernel
theorem dX9_done_45 : decode cX9_done 45 = .ok (.ireturn, 1) := by decide +kernel
theorem dX9_state_0 : decode cX9_state 0 = .ok (.aload_n 0, 1) := by decide +kernel
theorem dX9_state_1 : decode cX9_state 1 = .ok (.iload_n 1, 1) := by decide +kernel
theorem dX9_state_2 : decode cX9_state 2 = .ok (.invokevirtual 64, 3) := by decide +kernel
theorem dX9_state_5 : decode cX9_state 5 = .ok (.ifCond .ne 5, 3) := by decide +kernel
theorem dX9_state_8 : decode cX9_state 8 = .ok (.iconst (-1), 1) := by decide +kernel
theorem dX9_state_9 : decode cX9_state 9 = .ok (.ireturn, 1) := by decide +kernel
theorem dX9_state_10 : decode cX9_state 10 = .ok (.iload_n 2, 1) := by decide +kernel
theorem dX9_state_11 : decode cX9_state 11 = .ok (.iconst 0, 1) := by decide +kernel
theorem dX9_state_12 : decode cX9_state 12 = .ok (.iconst 2, 1) := by decide +kernel
theorem dX9_state_13 : decode cX9_state 13 = .ok (.invokestatic 48, 3) := by decide +kernel
theorem dX9_state_16 : decode cX9_state 16 = .ok (.ifCond .eq 17, 3) := by decide +kernel
theorem dX9_state_19 : decode cX9_state 19 = .ok (.aload_n 0, 1) := by decide +kernel
theorem dX9_state_20 : decode cX9_state 20 = .ok (.getfield 7, 3) := by decide +kernel
theorem dX9_state_23 : decode cX9_state 23 = .ok (.bipush 6, 2) := by decide +kernel
theorem dX9_state_25 : decode cX9_state 25 = .ok (.iload_n 2, 1) := by decide +kernel
theorem dX9_state_26 : decode cX9_state 26 = .ok (.imul, 1) := by decide +kernel
theorem dX9_state_27 : decode cX9_state 27 = .ok (.iload_n 1, 1) := by decide +kernel
theorem dX9_state_28 : decode cX9_state 28 = .ok (.iadd, 1) := by decide +kernel
theorem dX9_state_29 : decode cX9_state 29 = .ok (.iaload, 1) := by decide +kernel
theorem dX9_state_30 : decode cX9_state 30 = .ok (.goto 5, 3) := by decide +kernel
theorem dX9_state_33 : decode cX9_state 33 = .ok (.bipush (-2), 2) := by decide +kernel
theorem dX9_state_35 : decode cX9_state 35 = .ok (.ireturn, 1) := by decide +kernel
theorem dX9_behind_0 : decode cX9_behind 0 = .ok (.aload_n 0, 1) := by decide +kernel
theorem dX9_behind_1 : decode cX9_behind 1 = .ok (.iload_n 1, 1) := by decide +kernel
theorem dX9_behind_2 : decode cX9_behind 2 = .ok (.invokevirtual 64, 3) := by decide +kernel
theorem dX9_behind_5 : decode cX9_behind 5 = .ok (.ifCond .ne 5, 3) := by decide +kernel
theorem dX9_behind_8 : decode cX9_behind 8 = .ok (.iconst (-1), 1) := by decide +kernel
theorem dX9_behind_9 : decode cX9_behind 9 = .ok (.ireturn, 1) := by decide +kernel
theorem dX9_behind_10 : decode cX9_behind 10 = .ok (.iload_n 2, 1) := by decide +kernel
theorem dX9_behind_11 : decode cX9_behind 11 = .ok (.iconst 0, 1) := by decide +kernel
theorem dX9_behind_12 : decode cX9_behind 12 = .ok (.iconst 2, 1) := by decide +kernel
theorem dX9_behind_13 : decode cX9_behind 13 = .ok (.invokestatic 48, 3) := by decide +kernel
theorem dX9_behind_16 : decode cX9_behind 16 = .ok (.ifCond .ne 6, 3) := by decide +kernel
theorem dX9_behind_19 : decode cX9_behind 19 = .ok (.bipush (-2), 2) := by decide +kernel
theorem dX9_behind_21 : decode cX9_behind 21 = .ok (.ireturn, 1) := by decide +kernel
theorem dX9_behind_22 : decode cX9_behind 22 = .ok (.aload_n 0, 1) := by decide +kernel
theorem dX9_behind_23 : decode cX9_behind 23 = .ok (.invokevirtual 132, 3) := by decide +kernel
theorem dX9_behind_26 : decode cX9_behind 26 = .ok (.ifCond .ge 8, 3) := by decide +kernel
theorem dX9_behind_29 : decode cX9_behind 29 = .ok (.bipush (-5), 2) := by decide +kernel
theorem dX9_behind_31 : decode cX9_behind 31 = .ok (.goto 14, 3) := by decide +kernel
theorem dX9_behind_34 : decode cX9_behind 34 = .ok (.aload_n 0, 1) := by decide +kernel
theorem dX9_behind_35 : decode cX9_behind 35 = .ok (.getfield 13, 3) := by decide +kernel
theorem dX9_behind_38 : decode cX9_behind 38 = .ok (.bipush 6, 2) := by decide +kernel
theorem dX9_behind_40 : decode cX9_behind 40 = .ok (.iload_n 2, 1) := by decide +kernel
theorem dX9_behind_41 : decode cX9_behind 41 = .ok (.imul, 1) := by decide +kernel
theorem dX9_behind_42 : decode cX9_behind 42 = .ok (.iload_n 1, 1) := by decide +kernel
theorem dX9_behind_43 : decode cX9_behind 43 = .ok (.iadd, 1) := by decide +kernel
theorem dX9_behind_44 : decode cX9_behind 44 = .ok (.iaload, 1) := by decide +kernel
theorem dX9_behind_45 : decode cX9_behind 45 = .ok (.ireturn, 1) := by decide +kernel
theorem dX9_acts_0 : decode cX9_acts 0 = .ok (.iload_n 1, 1) := by decide +kernel
theorem dX9_acts_1 : decode cX9_acts 1 = .ok (.iconst 0, 1) := by decide +kernel
theorem dX9_acts_2 : decode cX9_acts 2 = .ok (.iconst 1, 1) := by decide +kernel
theorem dX9_acts_3 : decode cX9_acts 3 = .ok (.invokestatic 48, 3) := by decide +kernel
theorem dX9_acts_6 : decode cX9_acts 6 = .ok (.ifCond .ne 6, 3) := by decide +kernel
theorem dX9_acts_9 : decode cX9_acts 9 = .ok (.bipush (-2), 2) := by decide +kernel
theorem dX9_acts_11 : decode cX9_acts 11 = .ok (.ireturn, 1) := by decide +kernel
theorem dX9_acts_12 : decode cX9_acts 12 = .ok (.aload_n 0, 1) := by decide +kernel
theorem dX9_acts_13 : decode cX9_acts 13 = .ok (.invokevirtual 132, 3) := by decide +kernel
theorem dX9_acts_16 : decode cX9_acts 16 = .ok (.ifCond .ge 6, 3) := by decide +kernel
theorem dX9_acts_19 : decode cX9_acts 19 = .ok (.bipush (-5), 2) := by decide +kernel
theorem dX9_acts_21 : decode cX9_acts 21 = .ok (.ireturn, 1) := by decide +kernel
theorem dX9_acts_22 : decode cX9_acts 22 = .ok (.iload_n 1, 1) := by decide +kernel
theorem dX9_acts_23 : decode cX9_acts 23 = .ok (.ifCond .ne 10, 3) := by decide +kernel
theorem dX9_acts_26 : decode cX9_acts 26 = .ok (.aload_n 0, 1) := by decide +kernel
theorem dX9_acts_27 : decode cX9_acts 27 = .ok (.getfield 84, 3) := by decide +kernel
theorem dX9_acts_30 : decode cX9_acts 30 = .ok (.goto 7, 3) := by decide +kernel
theorem dX9_acts_33 : decode cX9_acts 33 = .ok (.aload_n 0, 1) := by decide +kernel
theorem dX9_acts_34 : decode cX9_acts 34 = .ok (.getfield 103, 3) := by decide +kernel
theorem dX9_acts_37 : decode cX9_acts 37 = .ok (.ireturn, 1) := by decide +kernel
theorem dX9_owes_0 : decode cX9_owes 0 = .ok (.aload_n 0, 1) := by decide +kernel
theorem dX9_owes_1 : decode cX9_owes 1 = .ok (.iload_n 1, 1) := by decide +kernel
theorem dX9_owes_2 : decode cX9_owes 2 = .ok (.invokevirtual 64, 3) := by decide +kernel
theorem dX9_owes_5 : decode cX9_owes 5 = .ok (.ifCond .eq 33, 3) := by decide +kernel
theorem dX9_owes_8 : decode cX9_owes 8 = .ok (.aload_n 0, 1) := by decide +kernel
theorem dX9_owes_9 : decode cX9_owes 9 = .ok (.iload_n 2, 1) := by decide +kernel
theorem dX9_owes_10 : decode cX9_owes 10 = .ok (.invokevirtual 64, 3) := by decide +kernel
theorem dX9_owes_13 : decode cX9_owes 13 = .ok (.ifCond .eq 25, 3) := by decide +kernel
theorem dX9_owes_16 : decode cX9_owes 16 = .ok (.iload_n 1, 1) := by decide +kernel
theorem dX9_owes_17 : decode cX9_owes 17 = .ok (.iload_n 2, 1) := by decide +kernel
theorem dX9_owes_18 : decode cX9_owes 18 = .ok (.if_icmp .eq 20, 3) := by decide +kernel
theorem dX9_owes_21 : decode cX9_owes 21 = .ok (.aload_n 0, 1) := by decide +kernel
theorem dX9_owes_22 : decode cX9_owes 22 = .ok (.getfield 7, 3) := by decide +kernel
theorem dX9_owes_25 : decode cX9_owes 25 = .ok (.bipush 20, 2) := by decide +kernel
theorem dX9_owes_27 : decode cX9_owes 27 = .ok (.bipush 6, 2) := by decide +kernel
theorem dX9_owes_29 : decode cX9_owes 29 = .ok (.iload_n 1, 1) := by decide +kernel
theorem dX9_owes_30 : decode cX9_owes 30 = .ok (.imul, 1) := by decide +kernel
theorem dX9_owes_31 : decode cX9_owes 31 = .ok (.iadd, 1) := by decide +kernel
theorem dX9_owes_32 : decode cX9_owes 32 = .ok (.iload_n 2, 1) := by decide +kernel
theorem dX9_owes_33 : decode cX9_owes 33 = .ok (.iadd, 1) := by decide +kernel
theorem dX9_owes_34 : decode cX9_owes 34 = .ok (.iaload, 1) := by decide +kernel
theorem dX9_owes_35 : decode cX9_owes 35 = .ok (.goto 4, 3) := by decide +kernel
theorem dX9_owes_38 : decode cX9_owes 38 = .ok (.iconst (-1), 1) := by decide +kernel
theorem dX9_owes_39 : decode cX9_owes 39 = .ok (.ireturn, 1) := by decide +kernel
theorem dX9_who_0 : decode cX9_who 0 = .ok (.iload_n 1, 1) := by decide +kernel
theorem dX9_who_1 : decode cX9_who 1 = .ok (.iconst 0, 1) := by decide +kernel
theorem dX9_who_2 : decode cX9_who 2 = .ok (.iconst 1, 1) := by decide +kernel
theorem dX9_who_3 : decode cX9_who 3 = .ok (.invokestatic 48, 3) := by decide +kernel
theorem dX9_who_6 : decode cX9_who 6 = .ok (.ifCond .ne 6, 3) := by decide +kernel
theorem dX9_who_9 : decode cX9_who 9 = .ok (.bipush (-2), 2) := by decide +kernel
theorem dX9_who_11 : decode cX9_who 11 = .ok (.ireturn, 1) := by decide +kernel
theorem dX9_who_12 : decode cX9_who 12 = .ok (.bipush (-6), 2) := by decide +kernel
theorem dX9_who_14 : decode cX9_who 14 = .ok (.istore_n 2, 1) := by decide +kernel
theorem dX9_who_15 : decode cX9_who 15 = .ok (.iconst 0, 1) := by decide +kernel
theorem dX9_who_16 : decode cX9_who 16 = .ok (.istore_n 3, 1) := by decide +kernel
theorem dX9_who_17 : decode cX9_who 17 = .ok (.iconst 0, 1) := by decide +kernel
theorem dX9_who_18 : decode cX9_who 18 = .ok (.istore 4, 2) := by decide +kernel
theorem dX9_who_20 : decode cX9_who 20 = .ok (.iload 4, 2) := by decide +kernel
theorem dX9_who_22 : decode cX9_who 22 = .ok (.bipush 6, 2) := by decide +kernel
theorem dX9_who_24 : decode cX9_who 24 = .ok (.if_icmp .ge 78, 3) := by decide +kernel
theorem dX9_who_27 : decode cX9_who 27 = .ok (.aload_n 0, 1) := by decide +kernel
theorem dX9_who_28 : decode cX9_who 28 = .ok (.getfield 52, 3) := by decide +kernel
theorem dX9_who_31 : decode cX9_who 31 = .ok (.iload 4, 2) := by decide +kernel
theorem dX9_who_33 : decode cX9_who 33 = .ok (.invokestatic 56, 3) := by decide +kernel
theorem dX9_who_36 : decode cX9_who 36 = .ok (.ifCond .eq 60, 3) := by decide +kernel
theorem dX9_who_39 : decode cX9_who 39 = .ok (.iload_n 2, 1) := by decide +kernel
theorem dX9_who_40 : decode cX9_who 40 = .ok (.ifCond .lt 25, 3) := by decide +kernel
theorem dX9_who_43 : decode cX9_who 43 = .ok (.aload_n 0, 1) := by decide +kernel
theorem dX9_who_44 : decode cX9_who 44 = .ok (.getfield 7, 3) := by decide +kernel
theorem dX9_who_47 : decode cX9_who 47 = .ok (.bipush 6, 2) := by decide +kernel
theorem dX9_who_49 : decode cX9_who 49 = .ok (.iload 4, 2) := by decide +kernel
theorem dX9_who_51 : decode cX9_who 51 = .ok (.iadd, 1) := by decide +kernel
theorem dX9_who_52 : decode cX9_who 52 = .ok (.iaload, 1) := by decide +kernel
theorem dX9_who_53 : decode cX9_who 53 = .ok (.aload_n 0, 1) := by decide +kernel
theorem dX9_who_54 : decode cX9_who 54 = .ok (.getfield 7, 3) := by decide +kernel
theorem dX9_who_57 : decode cX9_who 57 = .ok (.bipush 6, 2) := by decide +kernel
theorem dX9_who_59 : decode cX9_who 59 = .ok (.iload_n 2, 1) := by decide +kernel
theorem dX9_who_60 : decode cX9_who 60 = .ok (.iadd, 1) := by decide +kernel
theorem dX9_who_61 : decode cX9_who 61 = .ok (.iaload, 1) := by decide +kernel
theorem dX9_who_62 : decode cX9_who 62 = .ok (.if_icmp .le 8, 3) := by decide +kernel
theorem dX9_who_65 : decode cX9_who 65 = .ok (.iload 4, 2) := by decide +kernel
theorem dX9_who_67 : decode cX9_who 67 = .ok (.goto 4, 3) := by decide +kernel
theorem dX9_who_70 : decode cX9_who 70 = .ok (.iload_n 2, 1) := by decide +kernel
theorem dX9_who_71 : decode cX9_who 71 = .ok (.istore_n 2, 1) := by decide +kernel
theorem dX9_who_72 : decode cX9_who 72 = .ok (.iload_n 3, 1) := by decide +kernel
theorem dX9_who_73 : decode cX9_who 73 = .ok (.aload_n 0, 1) := by decide +kernel
theorem dX9_who_74 : decode cX9_who 74 = .ok (.getfield 7, 3) := by decide +kernel
theorem dX9_who_77 : decode cX9_who 77 = .ok (.bipush 12, 2) := by decide +kernel
theorem dX9_who_79 : decode cX9_who 79 = .ok (.iload 4, 2) := by decide +kernel
theorem dX9_who_81 : decode cX9_who 81 = .ok (.iadd, 1) := by decide +kernel
theorem dX9_who_82 : decode cX9_who 82 = .ok (.iaload, 1) := by decide +kernel
theorem dX9_who_83 : decode cX9_who 83 = .ok (.ifCond .ne 10, 3) := by decide +kernel
theorem dX9_who_86 : decode cX9_who 86 = .ok (.iconst 1, 1) := by decide +kernel
theorem dX9_who_87 : decode cX9_who 87 = .ok (.iload 4, 2) := by decide +kernel
theorem dX9_who_89 : decode cX9_who 89 = .ok (.ishl, 1) := by decide +kernel
theorem dX9_who_90 : decode cX9_who 90 = .ok (.goto 4, 3) := by decide +kernel
theorem dX9_who_93 : decode cX9_who 93 = .ok (.iconst 0, 1) := by decide +kernel
theorem dX9_who_94 : decode cX9_who 94 = .ok (.ior, 1) := by decide +kernel
theorem dX9_who_95 : decode cX9_who 95 = .ok (.istore_n 3, 1) := by decide +kernel
theorem dX9_who_96 : decode cX9_who 96 = .ok (.iinc 4 1, 3) := by decide +kernel
theorem dX9_who_99 : decode cX9_who 99 = .ok (.goto (-79), 3) := by decide +kernel
theorem dX9_who_102 : decode cX9_who 102 = .ok (.iload_n 1, 1) := by decide +kernel
theorem dX9_who_103 : decode cX9_who 103 = .ok (.ifCond .ne 7, 3) := by decide +kernel
theorem dX9_who_106 : decode cX9_who 106 = .ok (.iload_n 2, 1) := by decide +kernel
theorem dX9_who_107 : decode cX9_who 107 = .ok (.goto 4, 3) := by decide +kernel
theorem dX9_who_110 : decode cX9_who 110 = .ok (.iload_n 3, 1) := by decide +kernel
theorem dX9_who_111 : decode cX9_who 111 = .ok (.ireturn, 1) := by decide +kernel
theorem dX9_weights_0 : decode cX9_weights 0 = .ok (.iconst 0, 1) := by decide +kernel
theorem dX9_weights_1 : decode cX9_weights 1 = .ok (.istore_n 1, 1) := by decide +kernel
theorem dX9_weights_2 : decode cX9_weights 2 = .ok (.iconst 1, 1) := by decide +kernel
theorem dX9_weights_3 : decode cX9_weights 3 = .ok (.istore_n 2, 1) := by decide +kernel
theorem dX9_weights_4 : decode cX9_weights 4 = .ok (.iload_n 2, 1) := by decide +kernel
theorem dX9_weights_5 : decode cX9_weights 5 = .ok (.bipush 10, 2) := by decide +kernel
theorem dX9_weights_7 : decode cX9_weights 7 = .ok (.if_icmp .ge 18, 3) := by decide +kernel
theorem dX9_weights_10 : decode cX9_weights 10 = .ok (.iload_n 1, 1) := by decide +kernel
theorem dX9_weights_11 : decode cX9_weights 11 = .ok (.aload_n 0, 1) := by decide +kernel
theorem dX9_weights_12 : decode cX9_weights 12 = .ok (.getfield 19, 3) := by decide +kernel
theorem dX9_weights_15 : decode cX9_weights 15 = .ok (.iload_n 2, 1) := by decide +kernel
theorem dX9_weights_16 : decode cX9_weights 16 = .ok (.iaload, 1) := by decide +kernel
theorem dX9_weights_17 : decode cX9_weights 17 = .ok (.iadd, 1) := by decide +kernel
theorem dX9_weights_18 : decode cX9_weights 18 = .ok (.istore_n 1, 1) := by decide +kernel
theorem dX9_weights_19 : decode cX9_weights 19 = .ok (.iinc 2 1, 3) := by decide +kernel
theorem dX9_weights_22 : decode cX9_weights 22 = .ok (.goto (-18), 3) := by decide +kernel
theorem dX9_weights_25 : decode cX9_weights 25 = .ok (.iload_n 1, 1) := by decide +kernel
theorem dX9_weights_26 : decode cX9_weights 26 = .ok (.ireturn, 1) := by decide +kernel
theorem dX9_power_0 : decode cX9_power 0 = .ok (.lconst 1, 1) := by decide +kernel
theorem dX9_power_1 : decode cX9_power 1 = .ok (.lstore_n 3, 1) := by decide +kernel
theorem dX9_power_2 : decode cX9_power 2 = .ok (.iconst 0, 1) := by decide +kernel
theorem dX9_power_3 : decode cX9_power 3 = .ok (.istore 5, 2) := by decide +kernel
theorem dX9_power_5 : decode cX9_power 5 = .ok (.iload 5, 2) := by decide +kernel
theorem dX9_power_7 : decode cX9_power 7 = .ok (.iload_n 2, 1) := by decide +kernel
theorem dX9_power_8 : decode cX9_power 8 = .ok (.if_icmp .ge 13, 3) := by decide +kernel
theorem dX9_power_11 : decode cX9_power 11 = .ok (.lload_n 3, 1) := by decide +kernel
theorem dX9_power_12 : decode cX9_power 12 = .ok (.lload_n 0, 1) := by decide +kernel
theorem dX9_power_13 : decode cX9_power 13 = .ok (.lmul, 1) := by decide +kernel
theorem dX9_power_14 : decode cX9_power 14 = .ok (.lstore_n 3, 1) := by decide +kernel
theorem dX9_power_15 : decode cX9_power 15 = .ok (.iinc 5 1, 3) := by decide +kernel
theorem dX9_power_18 : decode cX9_power 18 = .ok (.goto (-13), 3) := by decide +kernel
theorem dX9_power_21 : decode cX9_power 21 = .ok (.lload_n 3, 1) := by decide +kernel
theorem dX9_power_22 : decode cX9_power 22 = .ok (.lreturn, 1) := by decide +kernel
theorem dX9_layBest_0 : decode cX9_layBest 0 = .ok (.aload_n 0, 1) := by decide +kernel
theorem dX9_layBest_1 : decode cX9_layBest 1 = .ok (.invokevirtual 135, 3) := by decide +kernel
theorem dX9_layBest_4 : decode cX9_layBest 4 = .ok (.i2l, 1) := by decide +kernel
theorem dX9_layBest_5 : decode cX9_layBest 5 = .ok (.lstore_n 1, 1) := by decide +kernel
theorem dX9_layBest_6 : decode cX9_layBest 6 = .ok (.iconst 0, 1) := by decide +kernel
theorem dX9_layBest_7 : decode cX9_layBest 7 = .ok (.istore_n 3, 1) := by decide +kernel
theorem dX9_layBest_8 : decode cX9_layBest 8 = .ok (.iload_n 3, 1) := by decide +kernel
theorem dX9_layBest_9 : decode cX9_layBest 9 = .ok (.bipush 10, 2) := by decide +kernel
theorem dX9_layBest_11 : decode cX9_layBest 11 = .ok (.if_icmp .ge 19, 3) := by decide +kernel
theorem dX9_layBest_14 : decode cX9_layBest 14 = .ok (.aload_n 0, 1) := by decide +kernel
theorem dX9_layBest_15 : decode cX9_layBest 15 = .ok (.getfield 28, 3) := by decide +kernel
theorem dX9_layBest_18 : decode cX9_layBest 18 = .ok (.bipush 11, 2) := by decide +kernel
theorem dX9_layBest_20 : decode cX9_layBest 20 = .ok (.iload_n 3, 1) := by decide +kernel
theorem dX9_layBest_21 : decode cX9_layBest 21 = .ok (.imul, 1) := by decide +kernel
theorem dX9_layBest_22 : decode cX9_layBest 22 = .ok (.lconst 0, 1) := by decide +kernel
theorem dX9_layBest_23 : decode cX9_layBest 23 = .ok (.lastore, 1) := by decide +kernel
theorem dX9_layBest_24 : decode cX9_layBest 24 = .ok (.iinc 3 1, 3) := by decide +kernel
theorem dX9_layBest_27 : decode cX9_layBest 27 = .ok (.goto (-19), 3) := by decide +kernel
theorem dX9_layBest_30 : decode cX9_layBest 30 = .ok (.iconst 1, 1) := by decide +kernel
theorem dX9_layBest_31 : decode cX9_layBest 31 = .ok (.istore_n 3, 1) := by decide +kernel
theorem dX9_layBest_32 : decode cX9_layBest 32 = .ok (.iload_n 3, 1) := by decide +kernel
theorem dX9_layBest_33 : decode cX9_layBest 33 = .ok (.bipush 9, 2) := by decide +kernel
theorem dX9_layBest_35 : decode cX9_layBest 35 = .ok (.if_icmp .ge 144, 3) := by decide +kernel
theorem dX9_layBest_38 : decode cX9_layBest 38 = .ok (.iconst 0, 1) := by decide +kernel
theorem dX9_layBest_39 : decode cX9_layBest 39 = .ok (.istore 4, 2) := by decide +kernel
theorem dX9_layBest_41 : decode cX9_layBest 41 = .ok (.iload 4, 2) := by decide +kernel
theorem dX9_layBest_43 : decode cX9_layBest 43 = .ok (.bipush 10, 2) := by decide +kernel
theorem dX9_layBest_45 : decode cX9_layBest 45 = .ok (.if_icmp .ge 128, 3) := by decide +kernel
theorem dX9_layBest_48 : decode cX9_layBest 48 = .ok (.lconst 0, 1) := by decide +kernel
theorem dX9_layBest_49 : decode cX9_layBest 49 = .ok (.lstore 5, 2) := by decide +kernel
theorem dX9_layBest_51 : decode cX9_layBest 51 = .ok (.iconst 1, 1) := by decide +kernel
theorem dX9_layBest_52 : decode cX9_layBest 52 = .ok (.istore 7, 2) := by decide +kernel
theorem dX9_layBest_54 : decode cX9_layBest 54 = .ok (.iload 7, 2) := by decide +kernel
theorem dX9_layBest_56 : decode cX9_layBest 56 = .ok (.bipush 10, 2) := by decide +kernel
theorem dX9_layBest_58 : decode cX9_layBest 58 = .ok (.if_icmp .ge 95, 3) := by decide +kernel
theorem dX9_layBest_61 : decode cX9_layBest 61 = .ok (.iload 4, 2) := by decide +kernel
theorem dX9_layBest_63 : decode cX9_layBest 63 = .ok (.ifCond .ne 9, 3) := by decide +kernel
theorem dX9_layBest_66 : decode cX9_layBest 66 = .ok (.ldc2_w 138, 3) := by decide +kernel
theorem dX9_layBest_69 : decode cX9_layBest 69 = .ok (.goto 31, 3) := by decide +kernel
theorem dX9_layBest_72 : decode cX9_layBest 72 = .ok (.iload 7, 2) := by decide +kernel
theorem dX9_layBest_74 : decode cX9_layBest 74 = .ok (.i2l, 1) := by decide +kernel
theorem dX9_layBest_75 : decode cX9_layBest 75 = .ok (.lload_n 1, 1) := by decide +kernel
theorem dX9_layBest_76 : decode cX9_layBest 76 = .ok (.iload_n 3, 1) := by decide +kernel
theorem dX9_layBest_77 : decode cX9_layBest 77 = .ok (.iconst 1, 1) := by decide +kernel
theorem dX9_layBest_78 : decode cX9_layBest 78 = .ok (.isub, 1) := by decide +kernel
theorem dX9_layBest_79 : decode cX9_layBest 79 = .ok (.invokestatic 140, 3) := by decide +kernel
theorem dX9_layBest_82 : decode cX9_layBest 82 = .ok (.lmul, 1) := by decide +kernel
theorem dX9_layBest_83 : decode cX9_layBest 83 = .ok (.aload_n 0, 1) := by decide +kernel
theorem dX9_layBest_84 : decode cX9_layBest 84 = .ok (.getfield 28, 3) := by decide +kernel
theorem dX9_layBest_87 : decode cX9_layBest 87 = .ok (.bipush 11, 2) := by decide +kernel
theorem dX9_layBest_89 : decode cX9_layBest 89 = .ok (.iload 4, 2) := by decide +kernel
theorem dX9_layBest_91 : decode cX9_layBest 91 = .ok (.iconst 1, 1) := by decide +kernel
theorem dX9_layBest_92 : decode cX9_layBest 92 = .ok (.isub, 1) := by decide +kernel
theorem dX9_layBest_93 : decode cX9_layBest 93 = .ok (.imul, 1) := by decide +kernel
theorem dX9_layBest_94 : decode cX9_layBest 94 = .ok (.iload_n 3, 1) := by decide +kernel
theorem dX9_layBest_95 : decode cX9_layBest 95 = .ok (.iadd, 1) := by decide +kernel
theorem dX9_layBest_96 : decode cX9_layBest 96 = .ok (.iconst 1, 1) := by decide +kernel
theorem dX9_layBest_97 : decode cX9_layBest 97 = .ok (.isub, 1) := by decide +kernel
theorem dX9_layBest_98 : decode cX9_layBest 98 = .ok (.laload, 1) := by decide +kernel
theorem dX9_layBest_99 : decode cX9_layBest 99 = .ok (.ladd, 1) := by decide +kernel
theorem dX9_layBest_100 : decode cX9_layBest 100 = .ok (.lstore 8, 2) := by decide +kernel
theorem dX9_layBest_102 : decode cX9_layBest 102 = .ok (.aload_n 0, 1) := by decide +kernel
theorem dX9_layBest_103 : decode cX9_layBest 103 = .ok (.getfield 28, 3) := by decide +kernel
theorem dX9_layBest_106 : decode cX9_layBest 106 = .ok (.bipush 11, 2) := by decide +kernel
theorem dX9_layBest_108 : decode cX9_layBest 108 = .ok (.iload 4, 2) := by decide +kernel
theorem dX9_layBest_110 : decode cX9_layBest 110 = .ok (.imul, 1) := by decide +kernel
theorem dX9_layBest_111 : decode cX9_layBest 111 = .ok (.iload_n 3, 1) := by decide +kernel
theorem dX9_layBest_112 : decode cX9_layBest 112 = .ok (.iadd, 1) := by decide +kernel
theorem dX9_layBest_113 : decode cX9_layBest 113 = .ok (.iconst 1, 1) := by decide +kernel
theorem dX9_layBest_114 : decode cX9_layBest 114 = .ok (.isub, 1) := by decide +kernel
theorem dX9_layBest_115 : decode cX9_layBest 115 = .ok (.laload, 1) := by decide +kernel
theorem dX9_layBest_116 : decode cX9_layBest 116 = .ok (.lstore 10, 2) := by decide +kernel
theorem dX9_layBest_118 : decode cX9_layBest 118 = .ok (.lload 5, 2) := by decide +kernel
theorem dX9_layBest_120 : decode cX9_layBest 120 = .ok (.aload_n 0, 1) := by decide +kernel
theorem dX9_layBest_121 : decode cX9_layBest 121 = .ok (.getfield 19, 3) := by decide +kernel
theorem dX9_layBest_124 : decode cX9_layBest 124 = .ok (.iload 7, 2) := by decide +kernel
theorem dX9_layBest_126 : decode cX9_layBest 126 = .ok (.iaload, 1) := by decide +kernel
theorem dX9_layBest_127 : decode cX9_layBest 127 = .ok (.i2l, 1) := by decide +kernel
theorem dX9_layBest_128 : decode cX9_layBest 128 = .ok (.lload 8, 2) := by decide +kernel
theorem dX9_layBest_130 : decode cX9_layBest 130 = .ok (.lload 10, 2) := by decide +kernel
theorem dX9_layBest_132 : decode cX9_layBest 132 = .ok (.lcmp, 1) := by decide +kernel
theorem dX9_layBest_133 : decode cX9_layBest 133 = .ok (.ifCond .le 8, 3) := by decide +kernel
theorem dX9_layBest_136 : decode cX9_layBest 136 = .ok (.lload 8, 2) := by decide +kernel
theorem dX9_layBest_138 : decode cX9_layBest 138 = .ok (.goto 5, 3) := by decide +kernel
theorem dX9_layBest_141 : decode cX9_layBest 141 = .ok (.lload 10, 2) := by decide +kernel
theorem dX9_layBest_143 : decode cX9_layBest 143 = .ok (.lmul, 1) := by decide +kernel
theorem dX9_layBest_144 : decode cX9_layBest 144 = .ok (.ladd, 1) := by decide +kernel
theorem dX9_layBest_145 : decode cX9_layBest 145 = .ok (.lstore 5, 2) := by decide +kernel
theorem dX9_layBest_147 : decode cX9_layBest 147 = .ok (.iinc 7 1, 3) := by decide +kernel
theorem dX9_layBest_150 : decode cX9_layBest 150 = .ok (.goto (-96), 3) := by decide +kernel
theorem dX9_layBest_153 : decode cX9_layBest 153 = .ok (.aload_n 0, 1) := by decide +kernel
theorem dX9_layBest_154 : decode cX9_layBest 154 = .ok (.getfield 28, 3) := by decide +kernel
theorem dX9_layBest_157 : decode cX9_layBest 157 = .ok (.bipush 11, 2) := by decide +kernel
theorem dX9_layBest_159 : decode cX9_layBest 159 = .ok (.iload 4, 2) := by decide +kernel
theorem dX9_layBest_161 : decode cX9_layBest 161 = .ok (.imul, 1) := by decide +kernel
theorem dX9_layBest_162 : decode cX9_layBest 162 = .ok (.iload_n 3, 1) := by decide +kernel
theorem dX9_layBest_163 : decode cX9_layBest 163 = .ok (.iadd, 1) := by decide +kernel
theorem dX9_layBest_164 : decode cX9_layBest 164 = .ok (.lload 5, 2) := by decide +kernel
theorem dX9_layBest_166 : decode cX9_layBest 166 = .ok (.lastore, 1) := by decide +kernel
theorem dX9_layBest_167 : decode cX9_layBest 167 = .ok (.iinc 4 1, 3) := by decide +kernel
theorem dX9_layBest_170 : decode cX9_layBest 170 = .ok (.goto (-129), 3) := by decide +kernel
theorem dX9_layBest_173 : decode cX9_layBest 173 = .ok (.iinc 3 1, 3) := by decide +kernel
theorem dX9_layBest_176 : decode cX9_layBest 176 = .ok (.goto (-144), 3) := by decide +kernel
theorem dX9_layBest_179 : decode cX9_layBest 179 = .ok (.return_, 1) := by decide +kernel
theorem dX9_part_0 : decode cX9_part 0 = .ok (.lload_n 0, 1) := by decide +kernel
theorem dX9_part_1 : decode cX9_part 1 = .ok (.lstore 5, 2) := by decide +kernel
theorem dX9_part_3 : decode cX9_part 3 = .ok (.lload_n 2, 1) := by decide +kernel
theorem dX9_part_4 : decode cX9_part 4 = .ok (.lstore 7, 2) := by decide +kernel
theorem dX9_part_6 : decode cX9_part 6 = .ok (.lload 7, 2) := by decide +kernel
theorem dX9_part_8 : decode cX9_part 8 = .ok (.lconst 0, 1) := by decide +kernel
theorem dX9_part_9 : decode cX9_part 9 = .ok (.lcmp, 1) := by decide +kernel
theorem dX9_part_10 : decode cX9_part 10 = .ok (.ifCond .eq 21, 3) := by decide +kernel
theorem dX9_part_13 : decode cX9_part 13 = .ok (.lload 5, 2) := by decide +kernel
theorem dX9_part_15 : decode cX9_part 15 = .ok (.lload 7, 2) := by decide +kernel
theorem dX9_part_17 : decode cX9_part 17 = .ok (.lrem, 1) := by decide +kernel
theorem dX9_part_18 : decode cX9_part 18 = .ok (.lstore 9, 2) := by decide +kernel
theorem dX9_part_20 : decode cX9_part 20 = .ok (.lload 7, 2) := by decide +kernel
theorem dX9_part_22 : decode cX9_part 22 = .ok (.lstore 5, 2) := by decide +kernel
theorem dX9_part_24 : decode cX9_part 24 = .ok (.lload 9, 2) := by decide +kernel
theorem dX9_part_26 : decode cX9_part 26 = .ok (.lstore 7, 2) := by decide +kernel
theorem dX9_part_28 : decode cX9_part 28 = .ok (.goto (-22), 3) := by decide +kernel
theorem dX9_part_31 : decode cX9_part 31 = .ok (.iload 4, 2) := by decide +kernel
theorem dX9_part_33 : decode cX9_part 33 = .ok (.ifCond .ne 10, 3) := by decide +kernel
theorem dX9_part_36 : decode cX9_part 36 = .ok (.lload_n 0, 1) := by decide +kernel
theorem dX9_part_37 : decode cX9_part 37 = .ok (.lload 5, 2) := by decide +kernel
theorem dX9_part_39 : decode cX9_part 39 = .ok (.ldiv, 1) := by decide +kernel
theorem dX9_part_40 : decode cX9_part 40 = .ok (.goto 7, 3) := by decide +kernel
theorem dX9_part_43 : decode cX9_part 43 = .ok (.lload_n 2, 1) := by decide +kernel
theorem dX9_part_44 : decode cX9_part 44 = .ok (.lload 5, 2) := by decide +kernel
theorem dX9_part_46 : decode cX9_part 46 = .ok (.ldiv, 1) := by decide +kernel
theorem dX9_part_47 : decode cX9_part 47 = .ok (.lreturn, 1) := by decide +kernel
theorem dX9_best_0 : decode cX9_best 0 = .ok (.iload_n 1, 1) := by decide +kernel
theorem dX9_best_1 : decode cX9_best 1 = .ok (.iconst 0, 1) := by decide +kernel
theorem dX9_best_2 : decode cX9_best 2 = .ok (.bipush 9, 2) := by decide +kernel
theorem dX9_best_4 : decode cX9_best 4 = .ok (.invokestatic 48, 3) := by decide +kernel
theorem dX9_best_7 : decode cX9_best 7 = .ok (.ifCond .eq 22, 3) := by decide +kernel
theorem dX9_best_10 : decode cX9_best 10 = .ok (.iload_n 2, 1) := by decide +kernel
theorem dX9_best_11 : decode cX9_best 11 = .ok (.iconst 0, 1) := by decide +kernel
theorem dX9_best_12 : decode cX9_best 12 = .ok (.bipush 8, 2) := by decide +kernel
theorem dX9_best_14 : decode cX9_best 14 = .ok (.invokestatic 48, 3) := by decide +kernel
theorem dX9_best_17 : decode cX9_best 17 = .ok (.ifCond .eq 12, 3) := by decide +kernel
theorem dX9_best_20 : decode cX9_best 20 = .ok (.iload_n 3, 1) := by decide +kernel
theorem dX9_best_21 : decode cX9_best 21 = .ok (.iconst 0, 1) := by decide +kernel
theorem dX9_best_22 : decode cX9_best 22 = .ok (.iconst 1, 1) := by decide +kernel
theorem dX9_best_23 : decode cX9_best 23 = .ok (.invokestatic 48, 3) := by decide +kernel
theorem dX9_best_26 : decode cX9_best 26 = .ok (.ifCond .ne 7, 3) := by decide +kernel
theorem dX9_best_29 : decode cX9_best 29 = .ok (.ldc2_w 144, 3) := by decide +kernel
theorem dX9_best_32 : decode cX9_best 32 = .ok (.lreturn, 1) := by decide +kernel
theorem dX9_best_33 : decode cX9_best 33 = .ok (.aload_n 0, 1) := by decide +kernel
theorem dX9_best_34 : decode cX9_best 34 = .ok (.invokevirtual 146, 3) := by decide +kernel
theorem dX9_best_37 : decode cX9_best 37 = .ok (.aload_n 0, 1) := by decide +kernel
theorem dX9_best_38 : decode cX9_best 38 = .ok (.getfield 28, 3) := by decide +kernel
theorem dX9_best_41 : decode cX9_best 41 = .ok (.bipush 11, 2) := by decide +kernel
theorem dX9_best_43 : decode cX9_best 43 = .ok (.iload_n 1, 1) := by decide +kernel
theorem dX9_best_44 : decode cX9_best 44 = .ok (.imul, 1) := by decide +kernel
theorem dX9_best_45 : decode cX9_best 45 = .ok (.iload_n 2, 1) := by decide +kernel
theorem dX9_best_46 : decode cX9_best 46 = .ok (.iadd, 1) := by decide +kernel
theorem dX9_best_47 : decode cX9_best 47 = .ok (.laload, 1) := by decide +kernel
theorem dX9_best_48 : decode cX9_best 48 = .ok (.aload_n 0, 1) := by decide +kernel
theorem dX9_best_49 : decode cX9_best 49 = .ok (.invokevirtual 135, 3) := by decide +kernel
theorem dX9_best_52 : decode cX9_best 52 = .ok (.i2l, 1) := by decide +kernel
theorem dX9_best_53 : decode cX9_best 53 = .ok (.iload_n 2, 1) := by decide +kernel
theorem dX9_best_54 : decode cX9_best 54 = .ok (.invokestatic 140, 3) := by decide +kernel
theorem dX9_best_57 : decode cX9_best 57 = .ok (.iload_n 3, 1) := by decide +kernel
theorem dX9_best_58 : decode cX9_best 58 = .ok (.invokestatic 149, 3) := by decide +kernel
theorem dX9_best_61 : decode cX9_best 61 = .ok (.lreturn, 1) := by decide +kernel
