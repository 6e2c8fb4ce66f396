theorem dX0_init_0 : decode cX0_init 0 = .ok (.aload_n 0, 1) := by decide +kernel
theorem dX0_init_1 : decode cX0_init 1 = .ok (.invokespecial 3, 3) := by decide +kernel
theorem dX0_init_4 : decode cX0_init 4 = .ok (.return_, 1) := by decide +kernel
theorem dX0_read_0 : decode cX0_read 0 = .ok (.aload_n 0, 1) := by decide +kernel
theorem dX0_read_1 : decode cX0_read 1 = .ok (.aload_n 1, 1) := by decide +kernel
theorem dX0_read_2 : decode cX0_read 2 = .ok (.iload_n 2, 1) := by decide +kernel
theorem dX0_read_3 : decode cX0_read 3 = .ok (.invokevirtual 9, 3) := by decide +kernel
theorem dX0_read_6 : decode cX0_read 6 = .ok (.bipush 65, 2) := by decide +kernel
theorem dX0_read_8 : decode cX0_read 8 = .ok (.isub, 1) := by decide +kernel
theorem dX0_read_9 : decode cX0_read 9 = .ok (.putfield 15, 3) := by decide +kernel
theorem dX0_read_12 : decode cX0_read 12 = .ok (.aload_n 0, 1) := by decide +kernel
theorem dX0_read_13 : decode cX0_read 13 = .ok (.aload_n 0, 1) := by decide +kernel
theorem dX0_read_14 : decode cX0_read 14 = .ok (.getfield 15, 3) := by decide +kernel
theorem dX0_read_17 : decode cX0_read 17 = .ok (.putfield 21, 3) := by decide +kernel
theorem dX0_read_20 : decode cX0_read 20 = .ok (.aload_n 0, 1) := by decide +kernel
theorem dX0_read_21 : decode cX0_read 21 = .ok (.iconst 1, 1) := by decide +kernel
theorem dX0_read_22 : decode cX0_read 22 = .ok (.putfield 24, 3) := by decide +kernel
theorem dX0_read_25 : decode cX0_read 25 = .ok (.aload_n 0, 1) := by decide +kernel
theorem dX0_read_26 : decode cX0_read 26 = .ok (.aload_n 1, 1) := by decide +kernel
theorem dX0_read_27 : decode cX0_read 27 = .ok (.iload_n 2, 1) := by decide +kernel
theorem dX0_read_28 : decode cX0_read 28 = .ok (.iconst 1, 1) := by decide +kernel
theorem dX0_read_29 : decode cX0_read 29 = .ok (.iadd, 1) := by decide +kernel
theorem dX0_read_30 : decode cX0_read 30 = .ok (.invokevirtual 9, 3) := by decide +kernel
theorem dX0_read_33 : decode cX0_read 33 = .ok (.putfield 27, 3) := by decide +kernel
theorem dX0_read_36 : decode cX0_read 36 = .ok (.aload_n 0, 1) := by decide +kernel
theorem dX0_read_37 : decode cX0_read 37 = .ok (.iconst 2, 1) := by decide +kernel
theorem dX0_read_38 : decode cX0_read 38 = .ok (.putfield 30, 3) := by decide +kernel
theorem dX0_read_41 : decode cX0_read 41 = .ok (.aload_n 1, 1) := by decide +kernel
theorem dX0_read_42 : decode cX0_read 42 = .ok (.iload_n 2, 1) := by decide +kernel
theorem dX0_read_43 : decode cX0_read 43 = .ok (.invokevirtual 9, 3) := by decide +kernel
theorem dX0_read_46 : decode cX0_read 46 = .ok (.bipush 46, 2) := by decide +kernel
theorem dX0_read_48 : decode cX0_read 48 = .ok (.if_icmp .ne 17, 3) := by decide +kernel
theorem dX0_read_51 : decode cX0_read 51 = .ok (.aload_n 0, 1) := by decide +kernel
theorem dX0_read_52 : decode cX0_read 52 = .ok (.bipush 46, 2) := by decide +kernel
theorem dX0_read_54 : decode cX0_read 54 = .ok (.putfield 27, 3) := by decide +kernel
theorem dX0_read_57 : decode cX0_read 57 = .ok (.aload_n 0, 1) := by decide +kernel
theorem dX0_read_58 : decode cX0_read 58 = .ok (.iconst 1, 1) := by decide +kernel
theorem dX0_read_59 : decode cX0_read 59 = .ok (.putfield 30, 3) := by decide +kernel
theorem dX0_read_62 : decode cX0_read 62 = .ok (.goto 106, 3) := by decide +kernel
theorem dX0_read_65 : decode cX0_read 65 = .ok (.aload_n 0, 1) := by decide +kernel
theorem dX0_read_66 : decode cX0_read 66 = .ok (.getfield 27, 3) := by decide +kernel
theorem dX0_read_69 : decode cX0_read 69 = .ok (.invokestatic 33, 3) := by decide +kernel
theorem dX0_read_72 : decode cX0_read 72 = .ok (.ifCond .eq 23, 3) := by decide +kernel
theorem dX0_read_75 : decode cX0_read 75 = .ok (.aload_n 0, 1) := by decide +kernel
theorem dX0_read_76 : decode cX0_read 76 = .ok (.aload_n 0, 1) := by decide +kernel
theorem dX0_read_77 : decode cX0_read 77 = .ok (.getfield 27, 3) := by decide +kernel
theorem dX0_read_80 : decode cX0_read 80 = .ok (.bipush 48, 2) := by decide +kernel
theorem dX0_read_82 : decode cX0_read 82 = .ok (.isub, 1) := by decide +kernel
theorem dX0_read_83 : decode cX0_read 83 = .ok (.putfield 24, 3) := by decide +kernel
theorem dX0_read_86 : decode cX0_read 86 = .ok (.aload_n 0, 1) := by decide +kernel
theorem dX0_read_87 : decode cX0_read 87 = .ok (.bipush 49, 2) := by decide +kernel
theorem dX0_read_89 : decode cX0_read 89 = .ok (.putfield 27, 3) := by decide +kernel
theorem dX0_read_92 : decode cX0_read 92 = .ok (.goto 76, 3) := by decide +kernel
theorem dX0_read_95 : decode cX0_read 95 = .ok (.aload_n 0, 1) := by decide +kernel
theorem dX0_read_96 : decode cX0_read 96 = .ok (.getfield 27, 3) := by decide +kernel
theorem dX0_read_99 : decode cX0_read 99 = .ok (.bipush 33, 2) := by decide +kernel
theorem dX0_read_101 : decode cX0_read 101 = .ok (.if_icmp .ne 25, 3) := by decide +kernel
theorem dX0_read_104 : decode cX0_read 104 = .ok (.aload_n 0, 1) := by decide +kernel
theorem dX0_read_105 : decode cX0_read 105 = .ok (.aload_n 1, 1) := by decide +kernel
theorem dX0_read_106 : decode cX0_read 106 = .ok (.iload_n 2, 1) := by decide +kernel
theorem dX0_read_107 : decode cX0_read 107 = .ok (.iconst 2, 1) := by decide +kernel
theorem dX0_read_108 : decode cX0_read 108 = .ok (.iadd, 1) := by decide +kernel
theorem dX0_read_109 : decode cX0_read 109 = .ok (.invokevirtual 9, 3) := by decide +kernel
theorem dX0_read_112 : decode cX0_read 112 = .ok (.bipush 48, 2) := by decide +kernel
theorem dX0_read_114 : decode cX0_read 114 = .ok (.isub, 1) := by decide +kernel
theorem dX0_read_115 : decode cX0_read 115 = .ok (.putfield 24, 3) := by decide +kernel
theorem dX0_read_118 : decode cX0_read 118 = .ok (.aload_n 0, 1) := by decide +kernel
theorem dX0_read_119 : decode cX0_read 119 = .ok (.iconst 3, 1) := by decide +kernel
theorem dX0_read_120 : decode cX0_read 120 = .ok (.putfield 30, 3) := by decide +kernel
theorem dX0_read_123 : decode cX0_read 123 = .ok (.goto 45, 3) := by decide +kernel
theorem dX0_read_126 : decode cX0_read 126 = .ok (.aload_n 0, 1) := by decide +kernel
theorem dX0_read_127 : decode cX0_read 127 = .ok (.getfield 27, 3) := by decide +kernel
theorem dX0_read_130 : decode cX0_read 130 = .ok (.bipush 42, 2) := by decide +kernel
theorem dX0_read_132 : decode cX0_read 132 = .ok (.if_icmp .eq 36, 3) := by decide +kernel
theorem dX0_read_135 : decode cX0_read 135 = .ok (.aload_n 0, 1) := by decide +kernel
theorem dX0_read_136 : decode cX0_read 136 = .ok (.aload_n 1, 1) := by decide +kernel
theorem dX0_read_137 : decode cX0_read 137 = .ok (.iload_n 2, 1) := by decide +kernel
theorem dX0_read_138 : decode cX0_read 138 = .ok (.iconst 2, 1) := by decide +kernel
theorem dX0_read_139 : decode cX0_read 139 = .ok (.iadd, 1) := by decide +kernel
theorem dX0_read_140 : decode cX0_read 140 = .ok (.invokevirtual 9, 3) := by decide +kernel
theorem dX0_read_143 : decode cX0_read 143 = .ok (.bipush 48, 2) := by decide +kernel
theorem dX0_read_145 : decode cX0_read 145 = .ok (.isub, 1) := by decide +kernel
theorem dX0_read_146 : decode cX0_read 146 = .ok (.putfield 24, 3) := by decide +kernel
theorem dX0_read_149 : decode cX0_read 149 = .ok (.aload_n 0, 1) := by decide +kernel
theorem dX0_read_150 : decode cX0_read 150 = .ok (.aload_n 1, 1) := by decide +kernel
theorem dX0_read_151 : decode cX0_read 151 = .ok (.iload_n 2, 1) := by decide +kernel
theorem dX0_read_152 : decode cX0_read 152 = .ok (.iconst 3, 1) := by decide +kernel
theorem dX0_read_153 : decode cX0_read 153 = .ok (.iadd, 1) := by decide +kernel
theorem dX0_read_154 : decode cX0_read 154 = .ok (.invokevirtual 9, 3) := by decide +kernel
theorem dX0_read_157 : decode cX0_read 157 = .ok (.bipush 65, 2) := by decide +kernel
theorem dX0_read_159 : decode cX0_read 159 = .ok (.isub, 1) := by decide +kernel
theorem dX0_read_160 : decode cX0_read 160 = .ok (.putfield 21, 3) := by decide +kernel
theorem dX0_read_163 : decode cX0_read 163 = .ok (.aload_n 0, 1) := by decide +kernel
theorem dX0_read_164 : decode cX0_read 164 = .ok (.iconst 4, 1) := by decide +kernel
theorem dX0_read_165 : decode cX0_read 165 = .ok (.putfield 30, 3) := by decide +kernel
theorem dX0_read_168 : decode cX0_read 168 = .ok (.return_, 1) := by decide +kernel
theorem dX0_isOfTwo_0 : decode cX0_isOfTwo 0 = .ok (.aload_n 0, 1) := by decide +kernel
theorem dX0_isOfTwo_1 : decode cX0_isOfTwo 1 = .ok (.getfield 27, 3) := by decide +kernel
theorem dX0_isOfTwo_4 : decode cX0_isOfTwo 4 = .ok (.bipush 62, 2) := by decide +kernel
theorem dX0_isOfTwo_6 : decode cX0_isOfTwo 6 = .ok (.if_icmp .eq 21, 3) := by decide +kernel
theorem dX0_isOfTwo_9 : decode cX0_isOfTwo 9 = .ok (.aload_n 0, 1) := by decide +kernel
theorem dX0_isOfTwo_10 : decode cX0_isOfTwo 10 = .ok (.getfield 27, 3) := by decide +kernel
theorem dX0_isOfTwo_13 : decode cX0_isOfTwo 13 = .ok (.bipush 61, 2) := by decide +kernel
theorem dX0_isOfTwo_15 : decode cX0_isOfTwo 15 = .ok (.if_icmp .eq 12, 3) := by decide +kernel
theorem dX0_isOfTwo_18 : decode cX0_isOfTwo 18 = .ok (.aload_n 0, 1) := by decide +kernel
theorem dX0_isOfTwo_19 : decode cX0_isOfTwo 19 = .ok (.getfield 27, 3) := by decide +kernel
theorem dX0_isOfTwo_22 : decode cX0_isOfTwo 22 = .ok (.bipush 60, 2) := by decide +kernel
theorem dX0_isOfTwo_24 : decode cX0_isOfTwo 24 = .ok (.if_icmp .ne 7, 3) := by decide +kernel
theorem dX0_isOfTwo_27 : decode cX0_isOfTwo 27 = .ok (.iconst 1, 1) := by decide +kernel
theorem dX0_isOfTwo_28 : decode cX0_isOfTwo 28 = .ok (.goto 4, 3) := by decide +kernel
theorem dX0_isOfTwo_31 : decode cX0_isOfTwo 31 = .ok (.iconst 0, 1) := by decide +kernel
theorem dX0_isOfTwo_32 : decode cX0_isOfTwo 32 = .ok (.ireturn, 1) := by decide +kernel
theorem dX0_obstacle_0 : decode cX0_obstacle 0 = .ok (.aload_n 0, 1) := by decide +kernel
theorem dX0_obstacle_1 : decode cX0_obstacle 1 = .ok (.getfield 27, 3) := by decide +kernel
theorem dX0_obstacle_4 : decode cX0_obstacle 4 = .ok (.bipush 46, 2) := by decide +kernel
theorem dX0_obstacle_6 : decode cX0_obstacle 6 = .ok (.if_icmp .ne 18, 3) := by decide +kernel
theorem dX0_obstacle_9 : decode cX0_obstacle 9 = .ok (.aload_n 1, 1) := by decide +kernel
theorem dX0_obstacle_10 : decode cX0_obstacle 10 = .ok (.getfield 37, 3) := by decide +kernel
theorem dX0_obstacle_13 : decode cX0_obstacle 13 = .ok (.bipush 99, 2) := by decide +kernel
theorem dX0_obstacle_15 : decode cX0_obstacle 15 = .ok (.if_icmp .lt 7, 3) := by decide +kernel
theorem dX0_obstacle_18 : decode cX0_obstacle 18 = .ok (.iconst 4, 1) := by decide +kernel
theorem dX0_obstacle_19 : decode cX0_obstacle 19 = .ok (.goto 4, 3) := by decide +kernel
theorem dX0_obstacle_22 : decode cX0_obstacle 22 = .ok (.iconst 0, 1) := by decide +kernel
theorem dX0_obstacle_23 : decode cX0_obstacle 23 = .ok (.ireturn, 1) := by decide +kernel
theorem dX0_obstacle_24 : decode cX0_obstacle 24 = .ok (.aload_n 1, 1) := by decide +kernel
theorem dX0_obstacle_25 : decode cX0_obstacle 25 = .ok (.aload_n 0, 1) := by decide +kernel
theorem dX0_obstacle_26 : decode cX0_obstacle 26 = .ok (.getfield 15, 3) := by decide +kernel
theorem dX0_obstacle_29 : decode cX0_obstacle 29 = .ok (.invokevirtual 42, 3) := by decide +kernel
theorem dX0_obstacle_32 : decode cX0_obstacle 32 = .ok (.ifCond .eq 14, 3) := by decide +kernel
theorem dX0_obstacle_35 : decode cX0_obstacle 35 = .ok (.aload_n 1, 1) := by decide +kernel
theorem dX0_obstacle_36 : decode cX0_obstacle 36 = .ok (.aload_n 0, 1) := by decide +kernel
theorem dX0_obstacle_37 : decode cX0_obstacle 37 = .ok (.getfield 21, 3) := by decide +kernel
theorem dX0_obstacle_40 : decode cX0_obstacle 40 = .ok (.invokevirtual 42, 3) := by decide +kernel
theorem dX0_obstacle_43 : decode cX0_obstacle 43 = .ok (.ifCond .ne 5, 3) := by decide +kernel
theorem dX0_obstacle_46 : decode cX0_obstacle 46 = .ok (.iconst 1, 1) := by decide +kernel
theorem dX0_obstacle_47 : decode cX0_obstacle 47 = .ok (.ireturn, 1) := by decide +kernel
theorem dX0_obstacle_48 : decode cX0_obstacle 48 = .ok (.aload_n 0, 1) := by decide +kernel
theorem dX0_obstacle_49 : decode cX0_obstacle 49 = .ok (.invokevirtual 45, 3) := by decide +kernel
theorem dX0_obstacle_52 : decode cX0_obstacle 52 = .ok (.ifCond .eq 16, 3) := by decide +kernel
theorem dX0_obstacle_55 : decode cX0_obstacle 55 = .ok (.aload_n 0, 1) := by decide +kernel
theorem dX0_obstacle_56 : decode cX0_obstacle 56 = .ok (.getfield 15, 3) := by decide +kernel
theorem dX0_obstacle_59 : decode cX0_obstacle 59 = .ok (.aload_n 0, 1) := by decide +kernel
theorem dX0_obstacle_60 : decode cX0_obstacle 60 = .ok (.getfield 21, 3) := by decide +kernel
theorem dX0_obstacle_63 : decode cX0_obstacle 63 = .ok (.if_icmp .ne 5, 3) := by decide +kernel
theorem dX0_obstacle_66 : decode cX0_obstacle 66 = .ok (.iconst 2, 1) := by decide +kernel
theorem dX0_obstacle_67 : decode cX0_obstacle 67 = .ok (.ireturn, 1) := by decide +kernel
theorem dX0_obstacle_68 : decode cX0_obstacle 68 = .ok (.aload_n 1, 1) := by decide +kernel
theorem dX0_obstacle_69 : decode cX0_obstacle 69 = .ok (.getfield 49, 3) := by decide +kernel
theorem dX0_obstacle_72 : decode cX0_obstacle 72 = .ok (.aload_n 0, 1) := by decide +kernel
theorem dX0_obstacle_73 : decode cX0_obstacle 73 = .ok (.getfield 27, 3) := by decide +kernel
theorem dX0_obstacle_76 : decode cX0_obstacle 76 = .ok (.bipush 60, 2) := by decide +kernel
theorem dX0_obstacle_78 : decode cX0_obstacle 78 = .ok (.if_icmp .ne 10, 3) := by decide +kernel
theorem dX0_obstacle_81 : decode cX0_obstacle 81 = .ok (.aload_n 0, 1) := by decide +kernel
theorem dX0_obstacle_82 : decode cX0_obstacle 82 = .ok (.getfield 21, 3) := by decide +kernel
theorem dX0_obstacle_85 : decode cX0_obstacle 85 = .ok (.goto 7, 3) := by decide +kernel
theorem dX0_obstacle_88 : decode cX0_obstacle 88 = .ok (.aload_n 0, 1) := by decide +kernel
theorem dX0_obstacle_89 : decode cX0_obstacle 89 = .ok (.getfield 15, 3) := by decide +kernel
theorem dX0_obstacle_92 : decode cX0_obstacle 92 = .ok (.iaload, 1) := by decide +kernel
theorem dX0_obstacle_93 : decode cX0_obstacle 93 = .ok (.aload_n 0, 1) := by decide +kernel
theorem dX0_obstacle_94 : decode cX0_obstacle 94 = .ok (.invokevirtual 53, 3) := by decide +kernel
theorem dX0_obstacle_97 : decode cX0_obstacle 97 = .ok (.if_icmp .ge 5, 3) := by decide +kernel
theorem dX0_obstacle_100 : decode cX0_obstacle 100 = .ok (.iconst 3, 1) := by decide +kernel
theorem dX0_obstacle_101 : decode cX0_obstacle 101 = .ok (.ireturn, 1) := by decide +kernel
theorem dX0_obstacle_102 : decode cX0_obstacle 102 = .ok (.aload_n 0, 1) := by decide +kernel
theorem dX0_obstacle_103 : decode cX0_obstacle 103 = .ok (.getfield 27, 3) := by decide +kernel
theorem dX0_obstacle_106 : decode cX0_obstacle 106 = .ok (.bipush 61, 2) := by decide +kernel
theorem dX0_obstacle_108 : decode cX0_obstacle 108 = .ok (.if_icmp .ne 29, 3) := by decide +kernel
theorem dX0_obstacle_111 : decode cX0_obstacle 111 = .ok (.aload_n 1, 1) := by decide +kernel
theorem dX0_obstacle_112 : decode cX0_obstacle 112 = .ok (.aload_n 0, 1) := by decide +kernel
theorem dX0_obstacle_113 : decode cX0_obstacle 113 = .ok (.getfield 21, 3) := by decide +kernel
theorem dX0_obstacle_116 : decode cX0_obstacle 116 = .ok (.aload_n 0, 1) := by decide +kernel
theorem dX0_obstacle_117 : decode cX0_obstacle 117 = .ok (.getfield 15, 3) := by decide +kernel
theorem dX0_obstacle_120 : decode cX0_obstacle 120 = .ok (.invokevirtual 57, 3) := by decide +kernel
theorem dX0_obstacle_123 : decode cX0_obstacle 123 = .ok (.aload_n 0, 1) := by decide +kernel
theorem dX0_obstacle_124 : decode cX0_obstacle 124 = .ok (.getfield 24, 3) := by decide +kernel
theorem dX0_obstacle_127 : decode cX0_obstacle 127 = .ok (.iadd, 1) := by decide +kernel
theorem dX0_obstacle_128 : decode cX0_obstacle 128 = .ok (.bipush 99, 2) := by decide +kernel
theorem dX0_obstacle_130 : decode cX0_obstacle 130 = .ok (.if_icmp .le 7, 3) := by decide +kernel
theorem dX0_obstacle_133 : decode cX0_obstacle 133 = .ok (.iconst 5, 1) := by decide +kernel
theorem dX0_obstacle_134 : decode cX0_obstacle 134 = .ok (.goto 4, 3) := by decide +kernel
theorem dX0_obstacle_137 : decode cX0_obstacle 137 = .ok (.iconst 0, 1) := by decide +kernel
theorem dX0_obstacle_138 : decode cX0_obstacle 138 = .ok (.ireturn, 1) := by decide +kernel
theorem dX0_sheetsNeeded_0 : decode cX0_sheetsNeeded 0 = .ok (.aload_n 0, 1) := by decide +kernel
theorem dX0_sheetsNeeded_1 : decode cX0_sheetsNeeded 1 = .ok (.getfield 27, 3) := by decide +kernel
theorem dX0_sheetsNeeded_4 : decode cX0_sheetsNeeded 4 = .ok (.bipush 33, 2) := by decide +kernel
theorem dX0_sheetsNeeded_6 : decode cX0_sheetsNeeded 6 = .ok (.if_icmp .ne 5, 3) := by decide +kernel
theorem dX0_sheetsNeeded_9 : decode cX0_sheetsNeeded 9 = .ok (.iconst 0, 1) := by decide +kernel
theorem dX0_sheetsNeeded_10 : decode cX0_sheetsNeeded 10 = .ok (.ireturn, 1) := by decide +kernel
theorem dX0_sheetsNeeded_11 : decode cX0_sheetsNeeded 11 = .ok (.aload_n 0, 1) := by decide +kernel
theorem dX0_sheetsNeeded_12 : decode cX0_sheetsNeeded 12 = .ok (.invokevirtual 45, 3) := by decide +kernel
theorem dX0_sheetsNeeded_15 : decode cX0_sheetsNeeded 15 = .ok (.ifCond .eq 10, 3) := by decide +kernel
theorem dX0_sheetsNeeded_18 : decode cX0_sheetsNeeded 18 = .ok (.aload_n 0, 1) := by decide +kernel
theorem dX0_sheetsNeeded_19 : decode cX0_sheetsNeeded 19 = .ok (.getfield 24, 3) := by decide +kernel
theorem dX0_sheetsNeeded_22 : decode cX0_sheetsNeeded 22 = .ok (.goto 4, 3) := by decide +kernel
theorem dX0_sheetsNeeded_25 : decode cX0_sheetsNeeded 25 = .ok (.iconst 1, 1) := by decide +kernel
theorem dX0_sheetsNeeded_26 : decode cX0_sheetsNeeded 26 = .ok (.ireturn, 1) := by decide +kernel
theorem dX0_apply_0 : decode cX0_apply 0 = .ok (.aload_n 0, 1) := by decide +kernel
theorem dX0_apply_1 : decode cX0_apply 1 = .ok (.getfield 27, 3) := by decide +kernel
theorem dX0_apply_4 : decode cX0_apply 4 = .ok (.lookupswitch 179 #[(33, 75), (42, 90), (49, 60), (60, 160), (61, 125), (62, 106)], 60) := by decide +kernel
theorem dX0_apply_64 : decode cX0_apply 64 = .ok (.aload_n 1, 1) := by decide +kernel
theorem dX0_apply_65 : decode cX0_apply 65 = .ok (.aload_n 0, 1) := by decide +kernel
theorem dX0_apply_66 : decode cX0_apply 66 = .ok (.getfield 15, 3) := by decide +kernel
theorem dX0_apply_69 : decode cX0_apply 69 = .ok (.aload_n 0, 1) := by decide +kernel
theorem dX0_apply_70 : decode cX0_apply 70 = .ok (.getfield 24, 3) := by decide +kernel
theorem dX0_apply_73 : decode cX0_apply 73 = .ok (.invokevirtual 61, 3) := by decide +kernel
theorem dX0_apply_76 : decode cX0_apply 76 = .ok (.goto 117, 3) := by decide +kernel
theorem dX0_apply_79 : decode cX0_apply 79 = .ok (.aload_n 1, 1) := by decide +kernel
theorem dX0_apply_80 : decode cX0_apply 80 = .ok (.aload_n 0, 1) := by decide +kernel
theorem dX0_apply_81 : decode cX0_apply 81 = .ok (.getfield 15, 3) := by decide +kernel
theorem dX0_apply_84 : decode cX0_apply 84 = .ok (.aload_n 0, 1) := by decide +kernel
theorem dX0_apply_85 : decode cX0_apply 85 = .ok (.getfield 24, 3) := by decide +kernel
theorem dX0_apply_88 : decode cX0_apply 88 = .ok (.invokevirtual 65, 3) := by decide +kernel
theorem dX0_apply_91 : decode cX0_apply 91 = .ok (.goto 102, 3) := by decide +kernel
theorem dX0_apply_94 : decode cX0_apply 94 = .ok (.aload_n 1, 1) := by decide +kernel
theorem dX0_apply_95 : decode cX0_apply 95 = .ok (.getfield 49, 3) := by decide +kernel
theorem dX0_apply_98 : decode cX0_apply 98 = .ok (.aload_n 0, 1) := by decide +kernel
theorem dX0_apply_99 : decode cX0_apply 99 = .ok (.getfield 15, 3) := by decide +kernel
theorem dX0_apply_102 : decode cX0_apply 102 = .ok (.dup2, 1) := by decide +kernel
theorem dX0_apply_103 : decode cX0_apply 103 = .ok (.iaload, 1) := by decide +kernel
theorem dX0_apply_104 : decode cX0_apply 104 = .ok (.iconst 1, 1) := by decide +kernel
theorem dX0_apply_105 : decode cX0_apply 105 = .ok (.isub, 1) := by decide +kernel
theorem dX0_apply_106 : decode cX0_apply 106 = .ok (.iastore, 1) := by decide +kernel
theorem dX0_apply_107 : decode cX0_apply 107 = .ok (.goto 86, 3) := by decide +kernel
theorem dX0_apply_110 : decode cX0_apply 110 = .ok (.aload_n 1, 1) := by decide +kernel
theorem dX0_apply_111 : decode cX0_apply 111 = .ok (.aload_n 0, 1) := by decide +kernel
theorem dX0_apply_112 : decode cX0_apply 112 = .ok (.getfield 15, 3) := by decide +kernel
theorem dX0_apply_115 : decode cX0_apply 115 = .ok (.aload_n 0, 1) := by decide +kernel
theorem dX0_apply_116 : decode cX0_apply 116 = .ok (.getfield 21, 3) := by decide +kernel
theorem dX0_apply_119 : decode cX0_apply 119 = .ok (.aload_n 0, 1) := by decide +kernel
theorem dX0_apply_120 : decode cX0_apply 120 = .ok (.getfield 24, 3) := by decide +kernel
theorem dX0_apply_123 : decode cX0_apply 123 = .ok (.invokevirtual 68, 3) := by decide +kernel
theorem dX0_apply_126 : decode cX0_apply 126 = .ok (.goto 67, 3) := by decide +kernel
theorem dX0_apply_129 : decode cX0_apply 129 = .ok (.aload_n 1, 1) := by decide +kernel
theorem dX0_apply_130 : decode cX0_apply 130 = .ok (.aload_n 0, 1) := by decide +kernel
theorem dX0_apply_131 : decode cX0_apply 131 = .ok (.getfield 15, 3) := by decide +kernel
theorem dX0_apply_134 : decode cX0_apply 134 = .ok (.aload_n 0, 1) := by decide +kernel
theorem dX0_apply_135 : decode cX0_apply 135 = .ok (.getfield 21, 3) := by decide +kernel
theorem dX0_apply_138 : decode cX0_apply 138 = .ok (.aload_n 0, 1) := by decide +kernel
theorem dX0_apply_139 : decode cX0_apply 139 = .ok (.getfield 24, 3) := by decide +kernel
theorem dX0_apply_142 : decode cX0_apply 142 = .ok (.invokevirtual 68, 3) := by decide +kernel
theorem dX0_apply_145 : decode cX0_apply 145 = .ok (.aload_n 1, 1) := by decide +kernel
theorem dX0_apply_146 : decode cX0_apply 146 = .ok (.aload_n 0, 1) := by decide +kernel
theorem dX0_apply_147 : decode cX0_apply 147 = .ok (.getfield 21, 3) := by decide +kernel
theorem dX0_apply_150 : decode cX0_apply 150 = .ok (.aload_n 0, 1) := by decide +kernel
theorem dX0_apply_151 : decode cX0_apply 151 = .ok (.getfield 15, 3) := by decide +kernel
theorem dX0_apply_154 : decode cX0_apply 154 = .ok (.aload_n 0, 1) := by decide +kernel
theorem dX0_apply_155 : decode cX0_apply 155 = .ok (.getfield 24, 3) := by decide +kernel
theorem dX0_apply_158 : decode cX0_apply 158 = .ok (.invokevirtual 72, 3) := by decide +kernel
theorem dX0_apply_161 : decode cX0_apply 161 = .ok (.goto 32, 3) := by decide +kernel
theorem dX0_apply_164 : decode cX0_apply 164 = .ok (.aload_n 1, 1) := by decide +kernel
theorem dX0_apply_165 : decode cX0_apply 165 = .ok (.aload_n 0, 1) := by decide +kernel
theorem dX0_apply_166 : decode cX0_apply 166 = .ok (.getfield 21, 3) := by decide +kernel
theorem dX0_apply_169 : decode cX0_apply 169 = .ok (.aload_n 0, 1) := by decide +kernel
theorem dX0_apply_170 : decode cX0_apply 170 = .ok (.getfield 15, 3) := by decide +kernel
theorem dX0_apply_173 : decode cX0_apply 173 = .ok (.aload_n 0, 1) := by decide +kernel
theorem dX0_apply_174 : decode cX0_apply 174 = .ok (.getfield 24, 3) := by decide +kernel
theorem dX0_apply_177 : decode cX0_apply 177 = .ok (.invokevirtual 68, 3) := by decide +kernel
theorem dX0_apply_180 : decode cX0_apply 180 = .ok (.goto 13, 3) := by decide +kernel
theorem dX0_apply_183 : decode cX0_apply 183 = .ok (.aload_n 1, 1) := by decide +kernel
theorem dX0_apply_184 : decode cX0_apply 184 = .ok (.dup, 1) := by decide +kernel
theorem dX0_apply_185 : decode cX0_apply 185 = .ok (.getfield 37, 3) := by decide +kernel
theorem dX0_apply_188 : decode cX0_apply 188 = .ok (.iconst 1, 1) := by decide +kernel
theorem dX0_apply_189 : decode cX0_apply 189 = .ok (.iadd, 1) := by decide +kernel
theorem dX0_apply_190 : decode cX0_apply 190 = .ok (.putfield 37, 3) := by decide +kernel
theorem dX0_apply_193 : decode cX0_apply 193 = .ok (.return_, 1) := by decide +kernel
theorem dX1_init_0 : decode cX1_init 0 = .ok (.aload_n 0, 1) := by decide +kernel
theorem dX1_init_1 : decode cX1_init 1 = .ok (.invokespecial 3, 3) := by decide +kernel
theorem dX1_init_4 : decode cX1_init 4 = .ok (.aload_n 0, 1) := by decide +kernel
theorem dX1_init_5 : decode cX1_init 5 = .ok (.bipush 6, 2) := by decide +kernel
theorem dX1_init_7 : decode cX1_init 7 = .ok (.newarray .int, 2) := by decide +kernel
theorem dX1_init_9 : decode cX1_init 9 = .ok (.putfield 9, 3) := by decide +kernel
theorem dX1_init_12 : decode cX1_init 12 = .ok (.aload_n 0, 1) := by decide +kernel
theorem dX1_init_13 : decode cX1_init 13 = .ok (.bipush 6, 2) := by decide +kernel
theorem dX1_init_15 : decode cX1_init 15 = .ok (.newarray .int, 2) := by decide +kernel
theorem dX1_init_17 : decode cX1_init 17 = .ok (.putfield 15, 3) := by decide +kernel
theorem dX1_init_20 : decode cX1_init 20 = .ok (.aload_n 0, 1) := by decide +kernel
theorem dX1_init_21 : decode cX1_init 21 = .ok (.bipush 6, 2) := by decide +kernel
theorem dX1_init_23 : decode cX1_init 23 = .ok (.newarray .int, 2) := by decide +kernel
theorem dX1_init_25 : decode cX1_init 25 = .ok (.putfield 18, 3) := by decide +kernel
theorem dX1_init_28 : decode cX1_init 28 = .ok (.aload_n 0, 1) := by decide +kernel
theorem dX1_init_29 : decode cX1_init 29 = .ok (.bipush 6, 2) := by decide +kernel
theorem dX1_init_31 : decode cX1_init 31 = .ok (.newarray .int, 2) := by decide +kernel
theorem dX1_init_33 : decode cX1_init 33 = .ok (.putfield 21, 3) := by decide +kernel
theorem dX1_init_36 : decode cX1_init 36 = .ok (.aload_n 0, 1) := by decide +kernel
theorem dX1_init_37 : decode cX1_init 37 = .ok (.bipush 36, 2) := by decide +kernel
theorem dX1_init_39 : decode cX1_init 39 = .ok (.newarray .int, 2) := by decide +kernel
theorem dX1_init_41 : decode cX1_init 41 = .ok (.putfield 24, 3) := by decide +kernel
theorem dX1_init_44 : decode cX1_init 44 = .ok (.return_, 1) := by decide +kernel
theorem dX1_has_0 : decode cX1_has 0 = .ok (.iload_n 1, 1) := by decide +kernel
theorem dX1_has_1 : decode cX1_has 1 = .ok (.iconst 0, 1) := by decide +kernel
theorem dX1_has_2 : decode cX1_has 2 = .ok (.iconst 5, 1) := by decide +kernel
theorem dX1_has_3 : decode cX1_has 3 = .ok (.invokestatic 27, 3) := by decide +kernel
theorem dX1_has_6 : decode cX1_has 6 = .ok (.ifCond .eq 19, 3) := by decide +kernel
theorem dX1_has_9 : decode cX1_has 9 = .ok (.aload_n 0, 1) := by decide +kernel
theorem dX1_has_10 : decode cX1_has 10 = .ok (.getfield 31, 3) := by decide +kernel
theorem dX1_has_13 : decode cX1_has 13 = .ok (.iload_n 1, 1) := by decide +kernel
theorem dX1_has_14 : decode cX1_has 14 = .ok (.ishr, 1) := by decide +kernel
theorem dX1_has_15 : decode cX1_has 15 = .ok (.iconst 1, 1) := by decide +kernel
theorem dX1_has_16 : decode cX1_has 16 = .ok (.iand, 1) := by decide +kernel
theorem dX1_has_17 : decode cX1_has 17 = .ok (.iconst 1, 1) := by decide +kernel
theorem dX1_has_18 : decode cX1_has 18 = .ok (.if_icmp .ne 7, 3) := by decide +kernel
theorem dX1_has_21 : decode cX1_has 21 = .ok (.iconst 1, 1) := by decide +kernel
theorem dX1_has_22 : decode cX1_has 22 = .ok (.goto 4, 3) := by decide +kernel
theorem dX1_has_25 : decode cX1_has 25 = .ok (.iconst 0, 1) := by decide +kernel
theorem dX1_has_26 : decode cX1_has 26 = .ok (.ireturn, 1) := by decide +kernel
theorem dX1_count_0 : decode cX1_count 0 = .ok (.aload_n 0, 1) := by decide +kernel
theorem dX1_count_1 : decode cX1_count 1 = .ok (.getfield 31, 3) := by decide +kernel
theorem dX1_count_4 : decode cX1_count 4 = .ok (.invokestatic 35, 3) := by decide +kernel
theorem dX1_count_7 : decode cX1_count 7 = .ok (.ireturn, 1) := by decide +kernel
theorem dX1_enter_0 : decode cX1_enter 0 = .ok (.aload_n 0, 1) := by decide +kernel
theorem dX1_enter_1 : decode cX1_enter 1 = .ok (.dup, 1) := by decide +kernel
theorem dX1_enter_2 : decode cX1_enter 2 = .ok (.getfield 31, 3) := by decide +kernel
theorem dX1_enter_5 : decode cX1_enter 5 = .ok (.iconst 1, 1) := by decide +kernel
theorem dX1_enter_6 : decode cX1_enter 6 = .ok (.iload_n 1, 1) := by decide +kernel
theorem dX1_enter_7 : decode cX1_enter 7 = .ok (.ishl, 1) := by decide +kernel
theorem dX1_enter_8 : decode cX1_enter 8 = .ok (.ior, 1) := by decide +kernel
theorem dX1_enter_9 : decode cX1_enter 9 = .ok (.putfield 31, 3) := by decide +kernel
theorem dX1_enter_12 : decode cX1_enter 12 = .ok (.aload_n 0, 1) := by decide +kernel
theorem dX1_enter_13 : decode cX1_enter 13 = .ok (.getfield 9, 3) := by decide +kernel
theorem dX1_enter_16 : decode cX1_enter 16 = .ok (.iload_n 1, 1) := by decide +kernel
theorem dX1_enter_17 : decode cX1_enter 17 = .ok (.iload_n 2, 1) := by decide +kernel
theorem dX1_enter_18 : decode cX1_enter 18 = .ok (.iastore, 1) := by decide +kernel
theorem dX1_enter_19 : decode cX1_enter 19 = .ok (.aload_n 0, 1) := by decide +kernel
theorem dX1_enter_20 : decode cX1_enter 20 = .ok (.getfield 15, 3) := by decide +kernel
theorem dX1_enter_23 : decode cX1_enter 23 = .ok (.iload_n 1, 1) := by decide +kernel
theorem dX1_enter_24 : decode cX1_enter 24 = .ok (.iload_n 3, 1) := by decide +kernel
theorem dX1_enter_25 : decode cX1_enter 25 = .ok (.iastore, 1) := by decide +kernel
theorem dX1_enter_26 : decode cX1_enter 26 = .ok (.return_, 1) := by decide +kernel
theorem dX1_leave_0 : decode cX1_leave 0 = .ok (.aload_n 0, 1) := by decide +kernel
theorem dX1_leave_1 : decode cX1_leave 1 = .ok (.dup, 1) := by decide +kernel
theorem dX1_leave_2 : decode cX1_leave 2 = .ok (.getfield 31, 3) := by decide +kernel
theorem dX1_leave_5 : decode cX1_leave 5 = .ok (.iconst 1, 1) := by decide +kernel
theorem dX1_leave_6 : decode cX1_leave 6 = .ok (.iload_n 1, 1) := by decide +kernel
theorem dX1_leave_7 : decode cX1_leave 7 = .ok (.ishl, 1) := by decide +kernel
theorem dX1_leave_8 : decode cX1_leave 8 = .ok (.iconst (-1), 1) := by decide +kernel
theorem dX1_leave_9 : decode cX1_leave 9 = .ok (.ixor, 1) := by decide +kernel
theorem dX1_leave_10 : decode cX1_leave 10 = .ok (.iand, 1) := by decide +kernel
theorem dX1_leave_11 : decode cX1_leave 11 = .ok (.putfield 31, 3) := by decide +kernel
theorem dX1_leave_14 : decode cX1_leave 14 = .ok (.aload_n 0, 1) := by decide +kernel
theorem dX1_leave_15 : decode cX1_leave 15 = .ok (.getfield 9, 3) := by decide +kernel
theorem dX1_leave_18 : decode cX1_leave 18 = .ok (.iload_n 1, 1) := by decide +kernel
theorem dX1_leave_19 : decode cX1_leave 19 = .ok (.iconst 0, 1) := by decide +kernel
theorem dX1_leave_20 : decode cX1_leave 20 = .ok (.iastore, 1) := by decide +kernel
theorem dX1_leave_21 : decode cX1_leave 21 = .ok (.aload_n 0, 1) := by decide +kernel
theorem dX1_leave_22 : decode cX1_leave 22 = .ok (.getfield 15, 3) := by decide +kernel
theorem dX1_leave_25 : decode cX1_leave 25 = .ok (.iload_n 1, 1) := by decide +kernel
theorem dX1_leave_26 : decode cX1_leave 26 = .ok (.iconst 0, 1) := by decide +kernel
theorem dX1_leave_27 : decode cX1_leave 27 = .ok (.iastore, 1) := by decide +kernel
theorem dX1_leave_28 : decode cX1_leave 28 = .ok (.aload_n 0, 1) := by decide +kernel
theorem dX1_leave_29 : decode cX1_leave 29 = .ok (.getfield 18, 3) := by decide +kernel
theorem dX1_leave_32 : decode cX1_leave 32 = .ok (.iload_n 1, 1) := by decide +kernel
theorem dX1_leave_33 : decode cX1_leave 33 = .ok (.iconst 0, 1) := by decide +kernel
theorem dX1_leave_34 : decode cX1_leave 34 = .ok (.iastore, 1) := by decide +kernel
theorem dX1_leave_35 : decode cX1_leave 35 = .ok (.aload_n 0, 1) := by decide +kernel
theorem dX1_leave_36 : decode cX1_leave 36 = .ok (.getfield 21, 3) := by decide +kernel
theorem dX1_leave_39 : decode cX1_leave 39 = .ok (.iload_n 1, 1) := by decide +kernel
theorem dX1_leave_40 : decode cX1_leave 40 = .ok (.iconst 0, 1) := by decide +kernel
theorem dX1_leave_41 : decode cX1_leave 41 = .ok (.iastore, 1) := by decide +kernel
theorem dX1_leave_42 : decode cX1_leave 42 = .ok (.iconst 0, 1) := by decide +kernel
theorem dX1_leave_43 : decode cX1_leave 43 = .ok (.istore_n 2, 1) := by decide +kernel
theorem dX1_leave_44 : decode cX1_leave 44 = .ok (.iload_n 2, 1) := by decide +kernel
theorem dX1_leave_45 : decode cX1_leave 45 = .ok (.bipush 6, 2) := by decide +kernel
theorem dX1_leave_47 : decode cX1_leave 47 = .ok (.if_icmp .ge 33, 3) := by decide +kernel
theorem dX1_leave_50 : decode cX1_leave 50 = .ok (.aload_n 0, 1) := by decide +kernel
theorem dX1_leave_51 : decode cX1_leave 51 = .ok (.getfield 24, 3) := by decide +kernel
theorem dX1_leave_54 : decode cX1_leave 54 = .ok (.iload_n 1, 1) := by decide +kernel
theorem dX1_leave_55 : decode cX1_leave 55 = .ok (.bipush 6, 2) := by decide +kernel
theorem dX1_leave_57 : decode cX1_leave 57 = .ok (.imul, 1) := by decide +kernel
theorem dX1_leave_58 : decode cX1_leave 58 = .ok (.iload_n 2, 1) := by decide +kernel
theorem dX1_leave_59 : decode cX1_leave 59 = .ok (.iadd, 1) := by decide +kernel
theorem dX1_leave_60 : decode cX1_leave 60 = .ok (.iconst 0, 1) := by decide +kernel
theorem dX1_leave_61 : decode cX1_leave 61 = .ok (.iastore, 1) := by decide +kernel
theorem dX1_leave_62 : decode cX1_leave 62 = .ok (.aload_n 0, 1) := by decide +kernel
theorem dX1_leave_63 : decode cX1_leave 63 = .ok (.getfield 24, 3) := by decide +kernel
theorem dX1_leave_66 : decode cX1_leave 66 = .ok (.iload_n 2, 1) := by decide +kernel
theorem dX1_leave_67 : decode cX1_leave 67 = .ok (.bipush 6, 2) := by decide +kernel
theorem dX1_leave_69 : decode cX1_leave 69 = .ok (.imul, 1) := by decide +kernel
theorem dX1_leave_70 : decode cX1_leave 70 = .ok (.iload_n 1, 1) := by decide +kernel
theorem dX1_leave_71 : decode cX1_leave 71 = .ok (.iadd, 1) := by decide +kernel
theorem dX1_leave_72 : decode cX1_leave 72 = .ok (.iconst 0, 1) := by decide +kernel
theorem dX1_leave_73 : decode cX1_leave 73 = .ok (.iastore, 1) := by decide +kernel
theorem dX1_leave_74 : decode cX1_leave 74 = .ok (.iinc 2 1, 3) := by decide +kernel
theorem dX1_leave_77 : decode cX1_leave 77 = .ok (.goto (-33), 3) := by decide +kernel
theorem dX1_leave_80 : decode cX1_leave 80 = .ok (.return_, 1) := by decide +kernel
theorem dX1_copyFrom_0 : decode cX1_copyFrom 0 = .ok (.aload_n 0, 1) := by decide +kernel
theorem dX1_copyFrom_1 : decode cX1_copyFrom 1 = .ok (.aload_n 1, 1) := by decide +kernel
theorem dX1_copyFrom_2 : decode cX1_copyFrom 2 = .ok (.getfield 31, 3) := by decide +kernel
theorem dX1_copyFrom_5 : decode cX1_copyFrom 5 = .ok (.putfield 31, 3) := by decide +kernel
theorem dX1_copyFrom_8 : decode cX1_copyFrom 8 = .ok (.aload_n 0, 1) := by decide +kernel
theorem dX1_copyFrom_9 : decode cX1_copyFrom 9 = .ok (.aload_n 1, 1) := by decide +kernel
theorem dX1_copyFrom_10 : decode cX1_copyFrom 10 = .ok (.getfield 41, 3) := by decide +kernel
theorem dX1_copyFrom_13 : decode cX1_copyFrom 13 = .ok (.putfield 41, 3) := by decide +kernel
theorem dX1_copyFrom_16 : decode cX1_copyFrom 16 = .ok (.aload_n 1, 1) := by decide +kernel
theorem dX1_copyFrom_17 : decode cX1_copyFrom 17 = .ok (.getfield 9, 3) := by decide +kernel
theorem dX1_copyFrom_20 : decode cX1_copyFrom 20 = .ok (.iconst 0, 1) := by decide +kernel
theorem dX1_copyFrom_21 : decode cX1_copyFrom 21 = .ok (.aload_n 0, 1) := by decide +kernel
theorem dX1_copyFrom_22 : decode cX1_copyFrom 22 = .ok (.getfield 9, 3) := by decide +kernel
theorem dX1_copyFrom_25 : decode cX1_copyFrom 25 = .ok (.iconst 0, 1) := by decide +kernel
theorem dX1_copyFrom_26 : decode cX1_copyFrom 26 = .ok (.bipush 6, 2) := by decide +kernel
theorem dX1_copyFrom_28 : decode cX1_copyFrom 28 = .ok (.invokestatic 44, 3) := by decide +kernel
theorem dX1_copyFrom_31 : decode cX1_copyFrom 31 = .ok (.aload_n 1, 1) := by decide +kernel
theorem dX1_copyFrom_32 : decode cX1_copyFrom 32 = .ok (.getfield 15, 3) := by decide +kernel
theorem dX1_copyFrom_35 : decode cX1_copyFrom 35 = .ok (.iconst 0, 1) := by decide +kernel
theorem dX1_copyFrom_36 : decode cX1_copyFrom 36 = .ok (.aload_n 0, 1) := by decide +kernel
theorem dX1_copyFrom_37 : decode cX1_copyFrom 37 = .ok (.getfield 15, 3) := by decide +kernel
theorem dX1_copyFrom_40 : decode cX1_copyFrom 40 = .ok (.iconst 0, 1) := by decide +kernel
theorem dX1_copyFrom_41 : decode cX1_copyFrom 41 = .ok (.bipush 6, 2) := by decide +kernel
theorem dX1_copyFrom_43 : decode cX1_copyFrom 43 = .ok (.invokestatic 44, 3) := by decide +kernel
theorem dX1_copyFrom_46 : decode cX1_copyFrom 46 = .ok (.aload_n 1, 1) := by decide +kernel
theorem dX1_copyFrom_47 : decode cX1_copyFrom 47 = .ok (.getfield 18, 3) := by decide +kernel
theorem dX1_copyFrom_50 : decode cX1_copyFrom 50 = .ok (.iconst 0, 1) := by decide +kernel
theorem dX1_copyFrom_51 : decode cX1_copyFrom 51 = .ok (.aload_n 0, 1) := by decide +kernel
theorem dX1_copyFrom_52 : decode cX1_copyFrom 52 = .ok (.getfield 18, 3) := by decide +kernel
theorem dX1_copyFrom_55 : decode cX1_copyFrom 55 = .ok (.iconst 0, 1) := by decide +kernel
theorem dX1_copyFrom_56 : decode cX1_copyFrom 56 = .ok (.bipush 6, 2) := by decide +kernel
theorem dX1_copyFrom_58 : decode cX1_copyFrom 58 = .ok (.invokestatic 44, 3) := by decide +kernel
theorem dX1_copyFrom_61 : decode cX1_copyFrom 61 = .ok (.aload_n 1, 1) := by decide +kernel
theorem dX1_copyFrom_62 : decode cX1_copyFrom 62 = .ok (.getfield 21, 3) := by decide +kernel
theorem dX1_copyFrom_65 : decode cX1_copyFrom 65 = .ok (.iconst 0, 1) := by decide +kernel
theorem dX1_copyFrom_66 : decode cX1_copyFrom 66 = .ok (.aload_n 0, 1) := by decide +kernel
theorem dX1_copyFrom_67 : decode cX1_copyFrom 67 = .ok (.getfield 21, 3) := by decide +kernel
theorem dX1_copyFrom_70 : decode cX1_copyFrom 70 = .ok (.iconst 0, 1) := by decide +kernel
theorem dX1_copyFrom_71 : decode cX1_copyFrom 71 = .ok (.bipush 6, 2) := by decide +kernel
theorem dX1_copyFrom_73 : decode cX1_copyFrom 73 = .ok (.invokestatic 44, 3) := by decide +kernel
theorem dX1_copyFrom_76 : decode cX1_copyFrom 76 = .ok (.aload_n 1, 1) := by decide +kernel
theorem dX1_copyFrom_77 : decode cX1_copyFrom 77 = .ok (.getfield 24, 3) := by decide +kernel
theorem dX1_copyFrom_80 : decode cX1_copyFrom 80 = .ok (.iconst 0, 1) := by decide +kernel
theorem dX1_copyFrom_81 : decode cX1_copyFrom 81 = .ok (.aload_n 0, 1) := by decide +kernel
theorem dX1_copyFrom_82 : decode cX1_copyFrom 82 = .ok (.getfield 24, 3) := by decide +kernel
theorem dX1_copyFrom_85 : decode cX1_copyFrom 85 = .ok (.iconst 0, 1) := by decide +kernel
theorem dX1_copyFrom_86 : decode cX1_copyFrom 86 = .ok (.bipush 36, 2) := by decide +kernel
theorem dX1_copyFrom_88 : decode cX1_copyFrom 88 = .ok (.invokestatic 44, 3) := by decide +kernel
theorem dX1_copyFrom_91 : decode cX1_copyFrom 91 = .ok (.return_, 1) := by decide +kernel
theorem dX1_holding_0 : decode cX1_holding 0 = .ok (.iload_n 2, 1) := by decide +kernel
theorem dX1_holding_1 : decode cX1_holding 1 = .ok (.ifCond .ne 10, 3) := by decide +kernel
theorem dX1_holding_4 : decode cX1_holding 4 = .ok (.aload_n 0, 1) := by decide +kernel
theorem dX1_holding_5 : decode cX1_holding 5 = .ok (.getfield 9, 3) := by decide +kernel
theorem dX1_holding_8 : decode cX1_holding 8 = .ok (.iload_n 1, 1) := by decide +kernel
theorem dX1_holding_9 : decode cX1_holding 9 = .ok (.iaload, 1) := by decide +kernel
theorem dX1_holding_10 : decode cX1_holding 10 = .ok (.ireturn, 1) := by decide +kernel
theorem dX1_holding_11 : decode cX1_holding 11 = .ok (.iload_n 2, 1) := by decide +kernel
theorem dX1_holding_12 : decode cX1_holding 12 = .ok (.iconst 1, 1) := by decide +kernel
theorem dX1_holding_13 : decode cX1_holding 13 = .ok (.if_icmp .ne 12, 3) := by decide +kernel
theorem dX1_holding_16 : decode cX1_holding 16 = .ok (.aload_n 0, 1) := by decide +kernel
theorem dX1_holding_17 : decode cX1_holding 17 = .ok (.getfield 18, 3) := by decide +kernel
theorem dX1_holding_20 : decode cX1_holding 20 = .ok (.iload_n 1, 1) := by decide +kernel
theorem dX1_holding_21 : decode cX1_holding 21 = .ok (.iaload, 1) := by decide +kernel
theorem dX1_holding_22 : decode cX1_holding 22 = .ok (.goto 9, 3) := by decide +kernel
theorem dX1_holding_25 : decode cX1_holding 25 = .ok (.aload_n 0, 1) := by decide +kernel
theorem dX1_holding_26 : decode cX1_holding 26 = .ok (.getfield 21, 3) := by decide +kernel
theorem dX1_holding_29 : decode cX1_holding 29 = .ok (.iload_n 1, 1) := by decide +kernel
theorem dX1_holding_30 : decode cX1_holding 30 = .ok (.iaload, 1) := by decide +kernel
theorem dX1_holding_31 : decode cX1_holding 31 = .ok (.ireturn, 1) := by decide +kernel
theorem dX1_debt_0 : decode cX1_debt 0 = .ok (.aload_n 0, 1) := by decide +kernel
theorem dX1_debt_1 : decode cX1_debt 1 = .ok (.getfield 24, 3) := by decide +kernel
theorem dX1_debt_4 : decode cX1_debt 4 = .ok (.iload_n 1, 1) := by decide +kernel
theorem dX1_debt_5 : decode cX1_debt 5 = .ok (.bipush 6, 2) := by decide +kernel
theorem dX1_debt_7 : decode cX1_debt 7 = .ok (.imul, 1) := by decide +kernel
theorem dX1_debt_8 : decode cX1_debt 8 = .ok (.iload_n 2, 1) := by decide +kernel
theorem dX1_debt_9 : decode cX1_debt 9 = .ok (.iadd, 1) := by decide +kernel
theorem dX1_debt_10 : decode cX1_debt 10 = .ok (.iaload, 1) := by decide +kernel
theorem dX1_debt_11 : decode cX1_debt 11 = .ok (.ireturn, 1) := by decide +kernel
theorem dX1_net_0 : decode cX1_net 0 = .ok (.iconst 0, 1) := by decide +kernel
theorem dX1_net_1 : decode cX1_net 1 = .ok (.istore_n 2, 1) := by decide +kernel
theorem dX1_net_2 : decode cX1_net 2 = .ok (.iconst 0, 1) := by decide +kernel
theorem dX1_net_3 : decode cX1_net 3 = .ok (.istore_n 3, 1) := by decide +kernel
theorem dX1_net_4 : decode cX1_net 4 = .ok (.iload_n 3, 1) := by decide +kernel
theorem dX1_net_5 : decode cX1_net 5 = .ok (.bipush 6, 2) := by decide +kernel
theorem dX1_net_7 : decode cX1_net 7 = .ok (.if_icmp .ge 25, 3) := by decide +kernel
theorem dX1_net_10 : decode cX1_net 10 = .ok (.iload_n 2, 1) := by decide +kernel
theorem dX1_net_11 : decode cX1_net 11 = .ok (.aload_n 0, 1) := by decide +kernel
theorem dX1_net_12 : decode cX1_net 12 = .ok (.iload_n 3, 1) := by decide +kernel
theorem dX1_net_13 : decode cX1_net 13 = .ok (.iload_n 1, 1) := by decide +kernel
theorem dX1_net_14 : decode cX1_net 14 = .ok (.invokevirtual 50, 3) := by decide +kernel
theorem dX1_net_17 : decode cX1_net 17 = .ok (.aload_n 0, 1) := by decide +kernel
theorem dX1_net_18 : decode cX1_net 18 = .ok (.iload_n 1, 1) := by decide +kernel
theorem dX1_net_19 : decode cX1_net 19 = .ok (.iload_n 3, 1) := by decide +kernel
theorem dX1_net_20 : decode cX1_net 20 = .ok (.invokevirtual 50, 3) := by decide +kernel
theorem dX1_net_23 : decode cX1_net 23 = .ok (.isub, 1) := by decide +kernel
theorem dX1_net_24 : decode cX1_net 24 = .ok (.iadd, 1) := by decide +kernel
theorem dX1_net_25 : decode cX1_net 25 = .ok (.istore_n 2, 1) := by decide +kernel
theorem dX1_net_26 : decode cX1_net 26 = .ok (.iinc 3 1, 3) := by decide +kernel
theorem dX1_net_29 : decode cX1_net 29 = .ok (.goto (-25), 3) := by decide +kernel
theorem dX1_net_32 : decode cX1_net 32 = .ok (.iload_n 2, 1) := by decide +kernel
theorem dX1_net_33 : decode cX1_net 33 = .ok (.ireturn, 1) := by decide +kernel
theorem dX1_signAct_0 : decode cX1_signAct 0 = .ok (.aload_n 0, 1) := by decide +kernel
theorem dX1_signAct_1 : decode cX1_signAct 1 = .ok (.getfield 9, 3) := by decide +kernel
theorem dX1_signAct_4 : decode cX1_signAct 4 = .ok (.iload_n 1, 1) := by decide +kernel
theorem dX1_signAct_5 : decode cX1_signAct 5 = .ok (.dup2, 1) := by decide +kernel
theorem dX1_signAct_6 : decode cX1_signAct 6 = .ok (.iaload, 1) := by decide +kernel
theorem dX1_signAct_7 : decode cX1_signAct 7 = .ok (.iconst 1, 1) := by decide +kernel
theorem dX1_signAct_8 : decode cX1_signAct 8 = .ok (.isub, 1) := by decide +kernel
theorem dX1_signAct_9 : decode cX1_signAct 9 = .ok (.iastore, 1) := by decide +kernel
theorem dX1_signAct_10 : decode cX1_signAct 10 = .ok (.aload_n 0, 1) := by decide +kernel
theorem dX1_signAct_11 : decode cX1_signAct 11 = .ok (.iload_n 1, 1) := by decide +kernel
theorem dX1_signAct_12 : decode cX1_signAct 12 = .ok (.iload_n 2, 1) := by decide +kernel
theorem dX1_signAct_13 : decode cX1_signAct 13 = .ok (.invokevirtual 54, 3) := by decide +kernel
theorem dX1_signAct_16 : decode cX1_signAct 16 = .ok (.return_, 1) := by decide +kernel
theorem dX1_forgeAct_0 : decode cX1_forgeAct 0 = .ok (.aload_n 0, 1) := by decide +kernel
theorem dX1_forgeAct_1 : decode cX1_forgeAct 1 = .ok (.getfield 21, 3) := by decide +kernel
theorem dX1_forgeAct_4 : decode cX1_forgeAct 4 = .ok (.iload_n 1, 1) := by decide +kernel
theorem dX1_forgeAct_5 : decode cX1_forgeAct 5 = .ok (.dup2, 1) := by decide +kernel
theorem dX1_forgeAct_6 : decode cX1_forgeAct 6 = .ok (.iaload, 1) := by decide +kernel
theorem dX1_forgeAct_7 : decode cX1_forgeAct 7 = .ok (.iconst 1, 1) := by decide +kernel
theorem dX1_forgeAct_8 : decode cX1_forgeAct 8 = .ok (.iadd, 1) := by decide +kernel
theorem dX1_forgeAct_9 : decode cX1_forgeAct 9 = .ok (.iastore, 1) := by decide +kernel
theorem dX1_forgeAct_10 : decode cX1_forgeAct 10 = .ok (.aload_n 0, 1) := by decide +kernel
theorem dX1_forgeAct_11 : decode cX1_forgeAct 11 = .ok (.iload_n 1, 1) := by decide +kernel
theorem dX1_forgeAct_12 : decode cX1_forgeAct 12 = .ok (.iload_n 2, 1) := by decide +kernel
theorem dX1_forgeAct_13 : decode cX1_forgeAct 13 = .ok (.invokevirtual 54, 3) := by decide +kernel
theorem dX1_forgeAct_16 : decode cX1_forgeAct 16 = .ok (.return_, 1) := by decide +kernel
theorem dX1_earn_0 : decode cX1_earn 0 = .ok (.aload_n 0, 1) := by decide +kernel
theorem dX1_earn_1 : decode cX1_earn 1 = .ok (.getfield 18, 3) := by decide +kernel
theorem dX1_earn_4 : decode cX1_earn 4 = .ok (.iload_n 1, 1) := by decide +kernel
theorem dX1_earn_5 : decode cX1_earn 5 = .ok (.sipush 9999, 3) := by decide +kernel
theorem dX1_earn_8 : decode cX1_earn 8 = .ok (.aload_n 0, 1) := by decide +kernel
theorem dX1_earn_9 : decode cX1_earn 9 = .ok (.getfield 18, 3) := by decide +kernel
theorem dX1_earn_12 : decode cX1_earn 12 = .ok (.iload_n 1, 1) := by decide +kernel
theorem dX1_earn_13 : decode cX1_earn 13 = .ok (.iaload, 1) := by decide +kernel
theorem dX1_earn_14 : decode cX1_earn 14 = .ok (.iload_n 2, 1) := by decide +kernel
theorem dX1_earn_15 : decode cX1_earn 15 = .ok (.iadd, 1) := by decide +kernel
theorem dX1_earn_16 : decode cX1_earn 16 = .ok (.invokestatic 58, 3) := by decide +kernel
theorem dX1_earn_19 : decode cX1_earn 19 = .ok (.iastore, 1) := by decide +kernel
theorem dX1_earn_20 : decode cX1_earn 20 = .ok (.return_, 1) := by decide +kernel
theorem dX1_move_0 : decode cX1_move 0 = .ok (.aload_n 0, 1) := by decide +kernel
theorem dX1_move_1 : decode cX1_move 1 = .ok (.getfield 9, 3) := by decide +kernel
theorem dX1_move_4 : decode cX1_move 4 = .ok (.iload_n 1, 1) := by decide +kernel
theorem dX1_move_5 : decode cX1_move 5 = .ok (.dup2, 1) := by decide +kernel
theorem dX1_move_6 : decode cX1_move 6 = .ok (.iaload, 1) := by decide +kernel
theorem dX1_move_7 : decode cX1_move 7 = .ok (.iload_n 3, 1) := by decide +kernel
theorem dX1_move_8 : decode cX1_move 8 = .ok (.isub, 1) := by decide +kernel
theorem dX1_move_9 : decode cX1_move 9 = .ok (.iastore, 1) := by decide +kernel
theorem dX1_move_10 : decode cX1_move 10 = .ok (.aload_n 0, 1) := by decide +kernel
theorem dX1_move_11 : decode cX1_move 11 = .ok (.getfield 9, 3) := by decide +kernel
theorem dX1_move_14 : decode cX1_move 14 = .ok (.iload_n 2, 1) := by decide +kernel
theorem dX1_move_15 : decode cX1_move 15 = .ok (.sipush 400, 3) := by decide +kernel
theorem dX1_move_18 : decode cX1_move 18 = .ok (.aload_n 0, 1) := by decide +kernel
theorem dX1_move_19 : decode cX1_move 19 = .ok (.getfield 9, 3) := by decide +kernel
theorem dX1_move_22 : decode cX1_move 22 = .ok (.iload_n 2, 1) := by decide +kernel
theorem dX1_move_23 : decode cX1_move 23 = .ok (.iaload, 1) := by decide +kernel
theorem dX1_move_24 : decode cX1_move 24 = .ok (.iload_n 3, 1) := by decide +kernel
theorem dX1_move_25 : decode cX1_move 25 = .ok (.iadd, 1) := by decide +kernel
theorem dX1_move_26 : decode cX1_move 26 = .ok (.invokestatic 58, 3) := by decide +kernel
theorem dX1_move_29 : decode cX1_move 29 = .ok (.iastore, 1) := by decide +kernel
theorem dX1_move_30 : decode cX1_move 30 = .ok (.return_, 1) := by decide +kernel
theorem dX1_owe_0 : decode cX1_owe 0 = .ok (.aload_n 0, 1) := by decide +kernel
theorem dX1_owe_1 : decode cX1_owe 1 = .ok (.getfield 24, 3) := by decide +kernel
theorem dX1_owe_4 : decode cX1_owe 4 = .ok (.iload_n 1, 1) := by decide +kernel
theorem dX1_owe_5 : decode cX1_owe 5 = .ok (.bipush 6, 2) := by decide +kernel
theorem dX1_owe_7 : decode cX1_owe 7 = .ok (.imul, 1) := by decide +kernel
theorem dX1_owe_8 : decode cX1_owe 8 = .ok (.iload_n 2, 1) := by decide +kernel
theorem dX1_owe_9 : decode cX1_owe 9 = .ok (.iadd, 1) := by decide +kernel
theorem dX1_owe_10 : decode cX1_owe 10 = .ok (.dup2, 1) := by decide +kernel
theorem dX1_owe_11 : decode cX1_owe 11 = .ok (.iaload, 1) := by decide +kernel
theorem dX1_owe_12 : decode cX1_owe 12 = .ok (.iload_n 3, 1) := by decide +kernel
theorem dX1_owe_13 : decode cX1_owe 13 = .ok (.iadd, 1) := by decide +kernel
theorem dX1_owe_14 : decode cX1_owe 14 = .ok (.iastore, 1) := by decide +kernel
theorem dX1_owe_15 : decode cX1_owe 15 = .ok (.return_, 1) := by decide +kernel
theorem dX1_bare_0 : decode cX1_bare 0 = .ok (.iconst 0, 1) := by decide +kernel
theorem dX1_bare_1 : decode cX1_bare 1 = .ok (.istore_n 1, 1) := by decide +kernel
theorem dX1_bare_2 : decode cX1_bare 2 = .ok (.iconst 0, 1) := by decide +kernel
theorem dX1_bare_3 : decode cX1_bare 3 = .ok (.istore_n 2, 1) := by decide +kernel
theorem dX1_bare_4 : decode cX1_bare 4 = .ok (.iload_n 2, 1) := by decide +kernel
theorem dX1_bare_5 : decode cX1_bare 5 = .ok (.bipush 6, 2) := by decide +kernel
theorem dX1_bare_7 : decode cX1_bare 7 = .ok (.if_icmp .ge 32, 3) := by decide +kernel
theorem dX1_bare_10 : decode cX1_bare 10 = .ok (.aload_n 0, 1) := by decide +kernel
theorem dX1_bare_11 : decode cX1_bare 11 = .ok (.iload_n 2, 1) := by decide +kernel
theorem dX1_bare_12 : decode cX1_bare 12 = .ok (.invokevirtual 63, 3) := by decide +kernel
theorem dX1_bare_15 : decode cX1_bare 15 = .ok (.ifCond .eq 18, 3) := by decide +kernel
theorem dX1_bare_18 : decode cX1_bare 18 = .ok (.aload_n 0, 1) := by decide +kernel
theorem dX1_bare_19 : decode cX1_bare 19 = .ok (.getfield 9, 3) := by decide +kernel
theorem dX1_bare_22 : decode cX1_bare 22 = .ok (.iload_n 2, 1) := by decide +kernel
theorem dX1_bare_23 : decode cX1_bare 23 = .ok (.iaload, 1) := by decide +kernel
theorem dX1_bare_24 : decode cX1_bare 24 = .ok (.ifCond .ne 9, 3) := by decide +kernel
theorem dX1_bare_27 : decode cX1_bare 27 = .ok (.iload_n 1, 1) := by decide +kernel
theorem dX1_bare_28 : decode cX1_bare 28 = .ok (.iconst 1, 1) := by decide +kernel
theorem dX1_bare_29 : decode cX1_bare 29 = .ok (.iload_n 2, 1) := by decide +kernel
theorem dX1_bare_30 : decode cX1_bare 30 = .ok (.ishl, 1) := by decide +kernel
theorem dX1_bare_31 : decode cX1_bare 31 = .ok (.ior, 1) := by decide +kernel
theorem dX1_bare_32 : decode cX1_bare 32 = .ok (.istore_n 1, 1) := by decide +kernel
theorem dX1_bare_33 : decode cX1_bare 33 = .ok (.iinc 2 1, 3) := by decide +kernel
theorem dX1_bare_36 : decode cX1_bare 36 = .ok (.goto (-32), 3) := by decide +kernel
theorem dX1_bare_39 : decode cX1_bare 39 = .ok (.iload_n 1, 1) := by decide +kernel
theorem dX1_bare_40 : decode cX1_bare 40 = .ok (.ireturn, 1) := by decide +kernel
theorem dX1_honest_0 : decode cX1_honest 0 = .ok (.iconst 0, 1) := by decide +kernel
theorem dX1_honest_1 : decode cX1_honest 1 = .ok (.istore_n 1, 1) := by decide +kernel
theorem dX1_honest_2 : decode cX1_honest 2 = .ok (.iconst 0, 1) := by decide +kernel
theorem dX1_honest_3 : decode cX1_honest 3 = .ok (.istore_n 2, 1) := by decide +kernel
theorem dX1_honest_4 : decode cX1_honest 4 = .ok (.iload_n 2, 1) := by decide +kernel
theorem dX1_honest_5 : decode cX1_honest 5 = .ok (.bipush 6, 2) := by decide +kernel
theorem dX1_honest_7 : decode cX1_honest 7 = .ok (.if_icmp .ge 32, 3) := by decide +kernel
theorem dX1_honest_10 : decode cX1_honest 10 = .ok (.aload_n 0, 1) := by decide +kernel
theorem dX1_honest_11 : decode cX1_honest 11 = .ok (.iload_n 2, 1) := by decide +kernel
theorem dX1_honest_12 : decode cX1_honest 12 = .ok (.invokevirtual 63, 3) := by decide +kernel
theorem dX1_honest_15 : decode cX1_honest 15 = .ok (.ifCond .eq 18, 3) := by decide +kernel
theorem dX1_honest_18 : decode cX1_honest 18 = .ok (.aload_n 0, 1) := by decide +kernel
theorem dX1_honest_19 : decode cX1_honest 19 = .ok (.getfield 21, 3) := by decide +kernel
theorem dX1_honest_22 : decode cX1_honest 22 = .ok (.iload_n 2, 1) := by decide +kernel
theorem dX1_honest_23 : decode cX1_honest 23 = .ok (.iaload, 1) := by decide +kernel
theorem dX1_honest_24 : decode cX1_honest 24 = .ok (.ifCond .ne 9, 3) := by decide +kernel
theorem dX1_honest_27 : decode cX1_honest 27 = .ok (.iload_n 1, 1) := by decide +kernel
theorem dX1_honest_28 : decode cX1_honest 28 = .ok (.iconst 1, 1) := by decide +kernel
theorem dX1_honest_29 : decode cX1_honest 29 = .ok (.iload_n 2, 1) := by decide +kernel
theorem dX1_honest_30 : decode cX1_honest 30 = .ok (.ishl, 1) := by decide +kernel
theorem dX1_honest_31 : decode cX1_honest 31 = .ok (.ior, 1) := by decide +kernel
theorem dX1_honest_32 : decode cX1_honest 32 = .ok (.istore_n 1, 1) := by decide +kernel
theorem dX1_honest_33 : decode cX1_honest 33 = .ok (.iinc 2 1, 3) := by decide +kernel
theorem dX1_honest_36 : decode cX1_honest 36 = .ok (.goto (-32), 3) := by decide +kernel
theorem dX1_honest_39 : decode cX1_honest 39 = .ok (.iload_n 1, 1) := by decide +kernel
theorem dX1_honest_40 : decode cX1_honest 40 = .ok (.ireturn, 1) := by decide +kernel
theorem dX1_richest_0 : decode cX1_richest 0 = .ok (.bipush (-6), 2) := by decide +kernel
theorem dX1_richest_2 : decode cX1_richest 2 = .ok (.istore_n 1, 1) := by decide +kernel
theorem dX1_richest_3 : decode cX1_richest 3 = .ok (.iconst (-1), 1) := by decide +kernel
theorem dX1_richest_4 : decode cX1_richest 4 = .ok (.istore_n 2, 1) := by decide +kernel
theorem dX1_richest_5 : decode cX1_richest 5 = .ok (.iconst 0, 1) := by decide +kernel
theorem dX1_richest_6 : decode cX1_richest 6 = .ok (.istore_n 3, 1) := by decide +kernel
theorem dX1_richest_7 : decode cX1_richest 7 = .ok (.iload_n 3, 1) := by decide +kernel
theorem dX1_richest_8 : decode cX1_richest 8 = .ok (.bipush 6, 2) := by decide +kernel
theorem dX1_richest_10 : decode cX1_richest 10 = .ok (.if_icmp .ge 36, 3) := by decide +kernel
theorem dX1_richest_13 : decode cX1_richest 13 = .ok (.aload_n 0, 1) := by decide +kernel
theorem dX1_richest_14 : decode cX1_richest 14 = .ok (.iload_n 3, 1) := by decide +kernel
theorem dX1_richest_15 : decode cX1_richest 15 = .ok (.invokevirtual 63, 3) := by decide +kernel
theorem dX1_richest_18 : decode cX1_richest 18 = .ok (.ifCond .eq 22, 3) := by decide +kernel
theorem dX1_richest_21 : decode cX1_richest 21 = .ok (.aload_n 0, 1) := by decide +kernel
theorem dX1_richest_22 : decode cX1_richest 22 = .ok (.getfield 18, 3) := by decide +kernel
theorem dX1_richest_25 : decode cX1_richest 25 = .ok (.iload_n 3, 1) := by decide +kernel
theorem dX1_richest_26 : decode cX1_richest 26 = .ok (.iaload, 1) := by decide +kernel
theorem dX1_richest_27 : decode cX1_richest 27 = .ok (.iload_n 2, 1) := by decide +kernel
theorem dX1_richest_28 : decode cX1_richest 28 = .ok (.if_icmp .le 12, 3) := by decide +kernel
theorem dX1_richest_31 : decode cX1_richest 31 = .ok (.iload_n 3, 1) := by decide +kernel
theorem dX1_richest_32 : decode cX1_richest 32 = .ok (.istore_n 1, 1) := by decide +kernel
theorem dX1_richest_33 : decode cX1_richest 33 = .ok (.aload_n 0, 1) := by decide +kernel
theorem dX1_richest_34 : decode cX1_richest 34 = .ok (.getfield 18, 3) := by decide +kernel
theorem dX1_richest_37 : decode cX1_richest 37 = .ok (.iload_n 3, 1) := by decide +kernel
theorem dX1_richest_38 : decode cX1_richest 38 = .ok (.iaload, 1) := by decide +kernel
theorem dX1_richest_39 : decode cX1_richest 39 = .ok (.istore_n 2, 1) := by decide +kernel
theorem dX1_richest_40 : decode cX1_richest 40 = .ok (.iinc 3 1, 3) := by decide +kernel
theorem dX1_richest_43 : decode cX1_richest 43 = .ok (.goto (-36), 3) := by decide +kernel
theorem dX1_richest_46 : decode cX1_richest 46 = .ok (.iload_n 1, 1) := by decide +kernel
theorem dX1_richest_47 : decode cX1_richest 47 = .ok (.ireturn, 1) := by decide +kernel
theorem dX1_worthOfAll_0 : decode cX1_worthOfAll 0 = .ok (.iconst 0, 1) := by decide +kernel
theorem dX1_worthOfAll_1 : decode cX1_worthOfAll 1 = .ok (.istore_n 1, 1) := by decide +kernel
theorem dX1_worthOfAll_2 : decode cX1_worthOfAll 2 = .ok (.iconst 0, 1) := by decide +kernel
theorem dX1_worthOfAll_3 : decode cX1_worthOfAll 3 = .ok (.istore_n 2, 1) := by decide +kernel
theorem dX1_worthOfAll_4 : decode cX1_worthOfAll 4 = .ok (.iload_n 2, 1) := by decide +kernel
theorem dX1_worthOfAll_5 : decode cX1_worthOfAll 5 = .ok (.bipush 6, 2) := by decide +kernel
theorem dX1_worthOfAll_7 : decode cX1_worthOfAll 7 = .ok (.if_icmp .ge 18, 3) := by decide +kernel
theorem dX1_worthOfAll_10 : decode cX1_worthOfAll 10 = .ok (.iload_n 1, 1) := by decide +kernel
theorem dX1_worthOfAll_11 : decode cX1_worthOfAll 11 = .ok (.aload_n 0, 1) := by decide +kernel
theorem dX1_worthOfAll_12 : decode cX1_worthOfAll 12 = .ok (.getfield 18, 3) := by decide +kernel
theorem dX1_worthOfAll_15 : decode cX1_worthOfAll 15 = .ok (.iload_n 2, 1) := by decide +kernel
theorem dX1_worthOfAll_16 : decode cX1_worthOfAll 16 = .ok (.iaload, 1) := by decide +kernel
theorem dX1_worthOfAll_17 : decode cX1_worthOfAll 17 = .ok (.iadd, 1) := by decide +kernel
theorem dX1_worthOfAll_18 : decode cX1_worthOfAll 18 = .ok (.istore_n 1, 1) := by decide +kernel
theorem dX1_worthOfAll_19 : decode cX1_worthOfAll 19 = .ok (.iinc 2 1, 3) := by decide +kernel
theorem dX1_worthOfAll_22 : decode cX1_worthOfAll 22 = .ok (.goto (-18), 3) := by decide +kernel
theorem dX1_worthOfAll_25 : decode cX1_worthOfAll 25 = .ok (.iload_n 1, 1) := by decide +kernel
theorem dX1_worthOfAll_26 : decode cX1_worthOfAll 26 = .ok (.ireturn, 1) := by decide +kernel
theorem dX2_init_0 : decode cX2_init 0 = .ok (.aload_n 0, 1) := by decide +kernel
theorem dX2_init_1 : decode cX2_init 1 = .ok (.invokespecial 3, 3) := by decide +kernel
theorem dX2_init_4 : decode cX2_init 4 = .ok (.aload_n 0, 1) := by decide +kernel
theorem dX2_init_5 : decode cX2_init 5 = .ok (.new 9, 3) := by decide +kernel
theorem dX2_init_8 : decode cX2_init 8 = .ok (.dup, 1) := by decide +kernel
theorem dX2_init_9 : decode cX2_init 9 = .ok (.invokespecial 11, 3) := by decide +kernel
theorem dX2_init_12 : decode cX2_init 12 = .ok (.putfield 12, 3) := by decide +kernel
theorem dX2_init_15 : decode cX2_init 15 = .ok (.aload_n 0, 1) := by decide +kernel
theorem dX2_init_16 : decode cX2_init 16 = .ok (.new 18, 3) := by decide +kernel
theorem dX2_init_19 : decode cX2_init 19 = .ok (.dup, 1) := by decide +kernel
theorem dX2_init_20 : decode cX2_init 20 = .ok (.invokespecial 20, 3) := by decide +kernel
theorem dX2_init_23 : decode cX2_init 23 = .ok (.putfield 21, 3) := by decide +kernel
theorem dX2_init_26 : decode cX2_init 26 = .ok (.return_, 1) := by decide +kernel
theorem dX2_tell_0 : decode cX2_tell 0 = .ok (.aload_n 0, 1) := by decide +kernel
theorem dX2_tell_1 : decode cX2_tell 1 = .ok (.getfield 12, 3) := by decide +kernel
theorem dX2_tell_4 : decode cX2_tell 4 = .ok (.aload_n 1, 1) := by decide +kernel
theorem dX2_tell_5 : decode cX2_tell 5 = .ok (.invokevirtual 25, 3) := by decide +kernel
theorem dX2_tell_8 : decode cX2_tell 8 = .ok (.aload_n 0, 1) := by decide +kernel
theorem dX2_tell_9 : decode cX2_tell 9 = .ok (.iconst 0, 1) := by decide +kernel
theorem dX2_tell_10 : decode cX2_tell 10 = .ok (.putfield 29, 3) := by decide +kernel
theorem dX2_tell_13 : decode cX2_tell 13 = .ok (.aload_n 0, 1) := by decide +kernel
theorem dX2_tell_14 : decode cX2_tell 14 = .ok (.bipush (-6), 2) := by decide +kernel
theorem dX2_tell_16 : decode cX2_tell 16 = .ok (.putfield 33, 3) := by decide +kernel
theorem dX2_tell_19 : decode cX2_tell 19 = .ok (.aload_n 0, 1) := by decide +kernel
theorem dX2_tell_20 : decode cX2_tell 20 = .ok (.bipush (-6), 2) := by decide +kernel
theorem dX2_tell_22 : decode cX2_tell 22 = .ok (.putfield 36, 3) := by decide +kernel
theorem dX2_tell_25 : decode cX2_tell 25 = .ok (.aload_n 0, 1) := by decide +kernel
theorem dX2_tell_26 : decode cX2_tell 26 = .ok (.iconst 0, 1) := by decide +kernel
theorem dX2_tell_27 : decode cX2_tell 27 = .ok (.putfield 39, 3) := by decide +kernel
theorem dX2_tell_30 : decode cX2_tell 30 = .ok (.aload_n 0, 1) := by decide +kernel
theorem dX2_tell_31 : decode cX2_tell 31 = .ok (.bipush (-6), 2) := by decide +kernel
theorem dX2_tell_33 : decode cX2_tell 33 = .ok (.putfield 42, 3) := by decide +kernel
theorem dX2_tell_36 : decode cX2_tell 36 = .ok (.iconst 0, 1) := by decide +kernel
theorem dX2_tell_37 : decode cX2_tell 37 = .ok (.istore_n 3, 1) := by decide +kernel
theorem dX2_tell_38 : decode cX2_tell 38 = .ok (.iconst 0, 1) := by decide +kernel
theorem dX2_tell_39 : decode cX2_tell 39 = .ok (.istore 4, 2) := by decide +kernel
theorem dX2_tell_41 : decode cX2_tell 41 = .ok (.iload 4, 2) := by decide +kernel
theorem dX2_tell_43 : decode cX2_tell 43 = .ok (.bipush 60, 2) := by decide +kernel
theorem dX2_tell_45 : decode cX2_tell 45 = .ok (.if_icmp .ge 49, 3) := by decide +kernel
theorem dX2_tell_48 : decode cX2_tell 48 = .ok (.iload_n 3, 1) := by decide +kernel
theorem dX2_tell_49 : decode cX2_tell 49 = .ok (.aload_n 2, 1) := by decide +kernel
theorem dX2_tell_50 : decode cX2_tell 50 = .ok (.getfield 45, 3) := by decide +kernel
theorem dX2_tell_53 : decode cX2_tell 53 = .ok (.if_icmp .ge 41, 3) := by decide +kernel
theorem dX2_tell_56 : decode cX2_tell 56 = .ok (.aload_n 0, 1) := by decide +kernel
theorem dX2_tell_57 : decode cX2_tell 57 = .ok (.getfield 33, 3) := by decide +kernel
theorem dX2_tell_60 : decode cX2_tell 60 = .ok (.bipush (-6), 2) := by decide +kernel
theorem dX2_tell_62 : decode cX2_tell 62 = .ok (.if_icmp .ne 32, 3) := by decide +kernel
theorem dX2_tell_65 : decode cX2_tell 65 = .ok (.aload_n 0, 1) := by decide +kernel
theorem dX2_tell_66 : decode cX2_tell 66 = .ok (.getfield 21, 3) := by decide +kernel
theorem dX2_tell_69 : decode cX2_tell 69 = .ok (.aload_n 2, 1) := by decide +kernel
theorem dX2_tell_70 : decode cX2_tell 70 = .ok (.iload_n 3, 1) := by decide +kernel
theorem dX2_tell_71 : decode cX2_tell 71 = .ok (.invokevirtual 50, 3) := by decide +kernel
theorem dX2_tell_74 : decode cX2_tell 74 = .ok (.iload_n 3, 1) := by decide +kernel
theorem dX2_tell_75 : decode cX2_tell 75 = .ok (.aload_n 0, 1) := by decide +kernel
theorem dX2_tell_76 : decode cX2_tell 76 = .ok (.getfield 21, 3) := by decide +kernel
theorem dX2_tell_79 : decode cX2_tell 79 = .ok (.getfield 54, 3) := by decide +kernel
theorem dX2_tell_82 : decode cX2_tell 82 = .ok (.iadd, 1) := by decide +kernel
theorem dX2_tell_83 : decode cX2_tell 83 = .ok (.istore_n 3, 1) := by decide +kernel
theorem dX2_tell_84 : decode cX2_tell 84 = .ok (.aload_n 0, 1) := by decide +kernel
theorem dX2_tell_85 : decode cX2_tell 85 = .ok (.invokevirtual 57, 3) := by decide +kernel
theorem dX2_tell_88 : decode cX2_tell 88 = .ok (.iinc 4 1, 3) := by decide +kernel
theorem dX2_tell_91 : decode cX2_tell 91 = .ok (.goto (-50), 3) := by decide +kernel
theorem dX2_tell_94 : decode cX2_tell 94 = .ok (.return_, 1) := by decide +kernel
theorem dX2_tellAct_0 : decode cX2_tellAct 0 = .ok (.aload_n 0, 1) := by decide +kernel
theorem dX2_tellAct_1 : decode cX2_tellAct 1 = .ok (.getfield 21, 3) := by decide +kernel
theorem dX2_tellAct_4 : decode cX2_tellAct 4 = .ok (.aload_n 0, 1) := by decide +kernel
theorem dX2_tellAct_5 : decode cX2_tellAct 5 = .ok (.getfield 12, 3) := by decide +kernel
theorem dX2_tellAct_8 : decode cX2_tellAct 8 = .ok (.invokevirtual 60, 3) := by decide +kernel
theorem dX2_tellAct_11 : decode cX2_tellAct 11 = .ok (.istore_n 1, 1) := by decide +kernel
theorem dX2_tellAct_12 : decode cX2_tellAct 12 = .ok (.iload_n 1, 1) := by decide +kernel
theorem dX2_tellAct_13 : decode cX2_tellAct 13 = .ok (.ifCond .eq 17, 3) := by decide +kernel
theorem dX2_tellAct_16 : decode cX2_tellAct 16 = .ok (.aload_n 0, 1) := by decide +kernel
theorem dX2_tellAct_17 : decode cX2_tellAct 17 = .ok (.aload_n 0, 1) := by decide +kernel
theorem dX2_tellAct_18 : decode cX2_tellAct 18 = .ok (.getfield 29, 3) := by decide +kernel
theorem dX2_tellAct_21 : decode cX2_tellAct 21 = .ok (.putfield 33, 3) := by decide +kernel
theorem dX2_tellAct_24 : decode cX2_tellAct 24 = .ok (.aload_n 0, 1) := by decide +kernel
theorem dX2_tellAct_25 : decode cX2_tellAct 25 = .ok (.iload_n 1, 1) := by decide +kernel
theorem dX2_tellAct_26 : decode cX2_tellAct 26 = .ok (.putfield 36, 3) := by decide +kernel
theorem dX2_tellAct_29 : decode cX2_tellAct 29 = .ok (.return_, 1) := by decide +kernel
theorem dX2_tellAct_30 : decode cX2_tellAct 30 = .ok (.aload_n 0, 1) := by decide +kernel
theorem dX2_tellAct_31 : decode cX2_tellAct 31 = .ok (.getfield 12, 3) := by decide +kernel
theorem dX2_tellAct_34 : decode cX2_tellAct 34 = .ok (.invokevirtual 64, 3) := by decide +kernel
theorem dX2_tellAct_37 : decode cX2_tellAct 37 = .ok (.istore_n 2, 1) := by decide +kernel
theorem dX2_tellAct_38 : decode cX2_tellAct 38 = .ok (.aload_n 0, 1) := by decide +kernel
theorem dX2_tellAct_39 : decode cX2_tellAct 39 = .ok (.getfield 21, 3) := by decide +kernel
theorem dX2_tellAct_42 : decode cX2_tellAct 42 = .ok (.aload_n 0, 1) := by decide +kernel
theorem dX2_tellAct_43 : decode cX2_tellAct 43 = .ok (.getfield 12, 3) := by decide +kernel
theorem dX2_tellAct_46 : decode cX2_tellAct 46 = .ok (.invokevirtual 68, 3) := by decide +kernel
theorem dX2_tellAct_49 : decode cX2_tellAct 49 = .ok (.aload_n 0, 1) := by decide +kernel
theorem dX2_tellAct_50 : decode cX2_tellAct 50 = .ok (.getfield 42, 3) := by decide +kernel
theorem dX2_tellAct_53 : decode cX2_tellAct 53 = .ok (.bipush (-6), 2) := by decide +kernel
theorem dX2_tellAct_55 : decode cX2_tellAct 55 = .ok (.if_icmp .ne 25, 3) := by decide +kernel
theorem dX2_tellAct_58 : decode cX2_tellAct 58 = .ok (.aload_n 0, 1) := by decide +kernel
theorem dX2_tellAct_59 : decode cX2_tellAct 59 = .ok (.getfield 12, 3) := by decide +kernel
theorem dX2_tellAct_62 : decode cX2_tellAct 62 = .ok (.invokevirtual 64, 3) := by decide +kernel
theorem dX2_tellAct_65 : decode cX2_tellAct 65 = .ok (.iload_n 2, 1) := by decide +kernel
theorem dX2_tellAct_66 : decode cX2_tellAct 66 = .ok (.iconst (-1), 1) := by decide +kernel
theorem dX2_tellAct_67 : decode cX2_tellAct 67 = .ok (.ixor, 1) := by decide +kernel
theorem dX2_tellAct_68 : decode cX2_tellAct 68 = .ok (.iand, 1) := by decide +kernel
theorem dX2_tellAct_69 : decode cX2_tellAct 69 = .ok (.ifCond .eq 11, 3) := by decide +kernel
theorem dX2_tellAct_72 : decode cX2_tellAct 72 = .ok (.aload_n 0, 1) := by decide +kernel
theorem dX2_tellAct_73 : decode cX2_tellAct 73 = .ok (.aload_n 0, 1) := by decide +kernel
theorem dX2_tellAct_74 : decode cX2_tellAct 74 = .ok (.getfield 29, 3) := by decide +kernel
theorem dX2_tellAct_77 : decode cX2_tellAct 77 = .ok (.putfield 42, 3) := by decide +kernel
theorem dX2_tellAct_80 : decode cX2_tellAct 80 = .ok (.aload_n 0, 1) := by decide +kernel
theorem dX2_tellAct_81 : decode cX2_tellAct 81 = .ok (.getfield 21, 3) := by decide +kernel
theorem dX2_tellAct_84 : decode cX2_tellAct 84 = .ok (.getfield 71, 3) := by decide +kernel
theorem dX2_tellAct_87 : decode cX2_tellAct 87 = .ok (.bipush 49, 2) := by decide +kernel
theorem dX2_tellAct_89 : decode cX2_tellAct 89 = .ok (.if_icmp .ne 13, 3) := by decide +kernel
theorem dX2_tellAct_92 : decode cX2_tellAct 92 = .ok (.aload_n 0, 1) := by decide +kernel
theorem dX2_tellAct_93 : decode cX2_tellAct 93 = .ok (.dup, 1) := by decide +kernel
theorem dX2_tellAct_94 : decode cX2_tellAct 94 = .ok (.getfield 39, 3) := by decide +kernel
theorem dX2_tellAct_97 : decode cX2_tellAct 97 = .ok (.iconst 1, 1) := by decide +kernel
theorem dX2_tellAct_98 : decode cX2_tellAct 98 = .ok (.iadd, 1) := by decide +kernel
theorem dX2_tellAct_99 : decode cX2_tellAct 99 = .ok (.putfield 39, 3) := by decide +kernel
theorem dX2_tellAct_102 : decode cX2_tellAct 102 = .ok (.aload_n 0, 1) := by decide +kernel
theorem dX2_tellAct_103 : decode cX2_tellAct 103 = .ok (.dup, 1) := by decide +kernel
theorem dX2_tellAct_104 : decode cX2_tellAct 104 = .ok (.getfield 29, 3) := by decide +kernel
theorem dX2_tellAct_107 : decode cX2_tellAct 107 = .ok (.iconst 1, 1) := by decide +kernel
theorem dX2_tellAct_108 : decode cX2_tellAct 108 = .ok (.iadd, 1) := by decide +kernel
theorem dX2_tellAct_109 : decode cX2_tellAct 109 = .ok (.putfield 29, 3) := by decide +kernel
theorem dX2_tellAct_112 : decode cX2_tellAct 112 = .ok (.return_, 1) := by decide +kernel
theorem dX2_draw_0 : decode cX2_draw 0 = .ok (.aload_n 0, 1) := by decide +kernel
theorem dX2_draw_1 : decode cX2_draw 1 = .ok (.getfield 12, 3) := by decide +kernel
theorem dX2_draw_4 : decode cX2_draw 4 = .ok (.aload_n 1, 1) := by decide +kernel
theorem dX2_draw_5 : decode cX2_draw 5 = .ok (.invokevirtual 25, 3) := by decide +kernel
theorem dX2_draw_8 : decode cX2_draw 8 = .ok (.iconst 0, 1) := by decide +kernel
theorem dX2_draw_9 : decode cX2_draw 9 = .ok (.istore 4, 2) := by decide +kernel
theorem dX2_draw_11 : decode cX2_draw 11 = .ok (.iload_n 2, 1) := by decide +kernel
theorem dX2_draw_12 : decode cX2_draw 12 = .ok (.istore 5, 2) := by decide +kernel
theorem dX2_draw_14 : decode cX2_draw 14 = .ok (.iconst 0, 1) := by decide +kernel
theorem dX2_draw_15 : decode cX2_draw 15 = .ok (.istore 6, 2) := by decide +kernel
theorem dX2_draw_17 : decode cX2_draw 17 = .ok (.iload 6, 2) := by decide +kernel
theorem dX2_draw_19 : decode cX2_draw 19 = .ok (.iload_n 3, 1) := by decide +kernel
theorem dX2_draw_20 : decode cX2_draw 20 = .ok (.if_icmp .ge 106, 3) := by decide +kernel
theorem dX2_draw_23 : decode cX2_draw 23 = .ok (.bipush 75, 2) := by decide +kernel
theorem dX2_draw_25 : decode cX2_draw 25 = .ok (.iload 5, 2) := by decide +kernel
theorem dX2_draw_27 : decode cX2_draw 27 = .ok (.imul, 1) := by decide +kernel
theorem dX2_draw_28 : decode cX2_draw 28 = .ok (.bipush 74, 2) := by decide +kernel
theorem dX2_draw_30 : decode cX2_draw 30 = .ok (.iadd, 1) := by decide +kernel
theorem dX2_draw_31 : decode cX2_draw 31 = .ok (.ldc 74, 2) := by decide +kernel
theorem dX2_draw_33 : decode cX2_draw 33 = .ok (.irem, 1) := by decide +kernel
theorem dX2_draw_34 : decode cX2_draw 34 = .ok (.istore 5, 2) := by decide +kernel
theorem dX2_draw_36 : decode cX2_draw 36 = .ok (.iload 5, 2) := by decide +kernel
theorem dX2_draw_38 : decode cX2_draw 38 = .ok (.bipush 6, 2) := by decide +kernel
theorem dX2_draw_40 : decode cX2_draw 40 = .ok (.irem, 1) := by decide +kernel
theorem dX2_draw_41 : decode cX2_draw 41 = .ok (.istore 7, 2) := by decide +kernel
theorem dX2_draw_43 : decode cX2_draw 43 = .ok (.iconst 1, 1) := by decide +kernel
theorem dX2_draw_44 : decode cX2_draw 44 = .ok (.iload 5, 2) := by decide +kernel
theorem dX2_draw_46 : decode cX2_draw 46 = .ok (.bipush 6, 2) := by decide +kernel
theorem dX2_draw_48 : decode cX2_draw 48 = .ok (.idiv, 1) := by decide +kernel
theorem dX2_draw_49 : decode cX2_draw 49 = .ok (.bipush 9, 2) := by decide +kernel
theorem dX2_draw_51 : decode cX2_draw 51 = .ok (.irem, 1) := by decide +kernel
theorem dX2_draw_52 : decode cX2_draw 52 = .ok (.iadd, 1) := by decide +kernel
theorem dX2_draw_53 : decode cX2_draw 53 = .ok (.istore 8, 2) := by decide +kernel
theorem dX2_draw_55 : decode cX2_draw 55 = .ok (.aload_n 0, 1) := by decide +kernel
theorem dX2_draw_56 : decode cX2_draw 56 = .ok (.getfield 12, 3) := by decide +kernel
theorem dX2_draw_59 : decode cX2_draw 59 = .ok (.iload 7, 2) := by decide +kernel
theorem dX2_draw_61 : decode cX2_draw 61 = .ok (.invokevirtual 75, 3) := by decide +kernel
theorem dX2_draw_64 : decode cX2_draw 64 = .ok (.ifCond .eq 30, 3) := by decide +kernel
theorem dX2_draw_67 : decode cX2_draw 67 = .ok (.aload_n 0, 1) := by decide +kernel
theorem dX2_draw_68 : decode cX2_draw 68 = .ok (.getfield 12, 3) := by decide +kernel
theorem dX2_draw_71 : decode cX2_draw 71 = .ok (.getfield 79, 3) := by decide +kernel
theorem dX2_draw_74 : decode cX2_draw 74 = .ok (.iload 7, 2) := by decide +kernel
theorem dX2_draw_76 : decode cX2_draw 76 = .ok (.iaload, 1) := by decide +kernel
theorem dX2_draw_77 : decode cX2_draw 77 = .ok (.ifCond .le 17, 3) := by decide +kernel
theorem dX2_draw_80 : decode cX2_draw 80 = .ok (.aload_n 0, 1) := by decide +kernel
theorem dX2_draw_81 : decode cX2_draw 81 = .ok (.getfield 12, 3) := by decide +kernel
theorem dX2_draw_84 : decode cX2_draw 84 = .ok (.iload 7, 2) := by decide +kernel
theorem dX2_draw_86 : decode cX2_draw 86 = .ok (.iload 8, 2) := by decide +kernel
theorem dX2_draw_88 : decode cX2_draw 88 = .ok (.invokevirtual 83, 3) := by decide +kernel
theorem dX2_draw_91 : decode cX2_draw 91 = .ok (.goto 29, 3) := by decide +kernel
theorem dX2_draw_94 : decode cX2_draw 94 = .ok (.aload_n 0, 1) := by decide +kernel
theorem dX2_draw_95 : decode cX2_draw 95 = .ok (.getfield 12, 3) := by decide +kernel
theorem dX2_draw_98 : decode cX2_draw 98 = .ok (.iload 7, 2) := by decide +kernel
theorem dX2_draw_100 : decode cX2_draw 100 = .ok (.invokevirtual 75, 3) := by decide +kernel
theorem dX2_draw_103 : decode cX2_draw 103 = .ok (.ifCond .eq 17, 3) := by decide +kernel
theorem dX2_draw_106 : decode cX2_draw 106 = .ok (.aload_n 0, 1) := by decide +kernel
theorem dX2_draw_107 : decode cX2_draw 107 = .ok (.getfield 12, 3) := by decide +kernel
theorem dX2_draw_110 : decode cX2_draw 110 = .ok (.iload 7, 2) := by decide +kernel
theorem dX2_draw_112 : decode cX2_draw 112 = .ok (.iload 8, 2) := by decide +kernel
theorem dX2_draw_114 : decode cX2_draw 114 = .ok (.invokevirtual 87, 3) := by decide +kernel
theorem dX2_draw_117 : decode cX2_draw 117 = .ok (.iinc 4 1, 3) := by decide +kernel
theorem dX2_draw_120 : decode cX2_draw 120 = .ok (.iinc 6 1, 3) := by decide +kernel
theorem dX2_draw_123 : decode cX2_draw 123 = .ok (.goto (-106), 3) := by decide +kernel
theorem dX2_draw_126 : decode cX2_draw 126 = .ok (.iload 4, 2) := by decide +kernel
theorem dX2_draw_128 : decode cX2_draw 128 = .ok (.ireturn, 1) := by decide +kernel
theorem dX3_init_0 : decode cX3_init 0 = .ok (.aload_n 0, 1) := by decide +kernel
theorem dX3_init_1 : decode cX3_init 1 = .ok (.invokespecial 3, 3) := by decide +kernel
theorem dX3_init_4 : decode cX3_init 4 = .ok (.aload_n 0, 1) := by decide +kernel
theorem dX3_init_5 : decode cX3_init 5 = .ok (.bipush 64, 2) := by decide +kernel
theorem dX3_init_7 : decode cX3_init 7 = .ok (.newarray .int, 2) := by decide +kernel
theorem dX3_init_9 : decode cX3_init 9 = .ok (.putfield 9, 3) := by decide +kernel
theorem dX3_init_12 : decode cX3_init 12 = .ok (.aload_n 0, 1) := by decide +kernel
theorem dX3_init_13 : decode cX3_init 13 = .ok (.bipush 64, 2) := by decide +kernel
theorem dX3_init_15 : decode cX3_init 15 = .ok (.newarray .int, 2) := by decide +kernel
theorem dX3_init_17 : decode cX3_init 17 = .ok (.putfield 15, 3) := by decide +kernel
theorem dX3_init_20 : decode cX3_init 20 = .ok (.aload_n 0, 1) := by decide +kernel
theorem dX3_init_21 : decode cX3_init 21 = .ok (.bipush 6, 2) := by decide +kernel
theorem dX3_init_23 : decode cX3_init 23 = .ok (.newarray .int, 2) := by decide +kernel
theorem dX3_init_25 : decode cX3_init 25 = .ok (.putfield 18, 3) := by decide +kernel
theorem dX3_init_28 : decode cX3_init 28 = .ok (.return_, 1) := by decide +kernel
theorem dX3_weigh_0 : decode cX3_weigh 0 = .ok (.iload_n 2, 1) := by decide +kernel
theorem dX3_weigh_1 : decode cX3_weigh 1 = .ok (.istore_n 3, 1) := by decide +kernel
theorem dX3_weigh_2 : decode cX3_weigh 2 = .ok (.aload_n 1, 1) := by decide +kernel
theorem dX3_weigh_3 : decode cX3_weigh 3 = .ok (.invokevirtual 21, 3) := by decide +kernel
theorem dX3_weigh_6 : decode cX3_weigh 6 = .ok (.iconst 1, 1) := by decide +kernel
theorem dX3_weigh_7 : decode cX3_weigh 7 = .ok (.isub, 1) := by decide +kernel
theorem dX3_weigh_8 : decode cX3_weigh 8 = .ok (.istore 4, 2) := by decide +kernel
theorem dX3_weigh_10 : decode cX3_weigh 10 = .ok (.iload 4, 2) := by decide +kernel
theorem dX3_weigh_12 : decode cX3_weigh 12 = .ok (.ifCond .lt 25, 3) := by decide +kernel
theorem dX3_weigh_15 : decode cX3_weigh 15 = .ok (.aload_n 0, 1) := by decide +kernel
theorem dX3_weigh_16 : decode cX3_weigh 16 = .ok (.getfield 18, 3) := by decide +kernel
theorem dX3_weigh_19 : decode cX3_weigh 19 = .ok (.iload 4, 2) := by decide +kernel
theorem dX3_weigh_21 : decode cX3_weigh 21 = .ok (.iload_n 3, 1) := by decide +kernel
theorem dX3_weigh_22 : decode cX3_weigh 22 = .ok (.bipush 10, 2) := by decide +kernel
theorem dX3_weigh_24 : decode cX3_weigh 24 = .ok (.irem, 1) := by decide +kernel
theorem dX3_weigh_25 : decode cX3_weigh 25 = .ok (.iastore, 1) := by decide +kernel
theorem dX3_weigh_26 : decode cX3_weigh 26 = .ok (.iload_n 3, 1) := by decide +kernel
theorem dX3_weigh_27 : decode cX3_weigh 27 = .ok (.bipush 10, 2) := by decide +kernel
theorem dX3_weigh_29 : decode cX3_weigh 29 = .ok (.idiv, 1) := by decide +kernel
theorem dX3_weigh_30 : decode cX3_weigh 30 = .ok (.istore_n 3, 1) := by decide +kernel
theorem dX3_weigh_31 : decode cX3_weigh 31 = .ok (.iinc 4 (-1), 3) := by decide +kernel
theorem dX3_weigh_34 : decode cX3_weigh 34 = .ok (.goto (-24), 3) := by decide +kernel
theorem dX3_weigh_37 : decode cX3_weigh 37 = .ok (.aload_n 0, 1) := by decide +kernel
theorem dX3_weigh_38 : decode cX3_weigh 38 = .ok (.getfield 9, 3) := by decide +kernel
theorem dX3_weigh_41 : decode cX3_weigh 41 = .ok (.aload_n 1, 1) := by decide +kernel
theorem dX3_weigh_42 : decode cX3_weigh 42 = .ok (.getfield 27, 3) := by decide +kernel
theorem dX3_weigh_45 : decode cX3_weigh 45 = .ok (.iconst 0, 1) := by decide +kernel
theorem dX3_weigh_46 : decode cX3_weigh 46 = .ok (.iastore, 1) := by decide +kernel
theorem dX3_weigh_47 : decode cX3_weigh 47 = .ok (.aload_n 0, 1) := by decide +kernel
theorem dX3_weigh_48 : decode cX3_weigh 48 = .ok (.getfield 15, 3) := by decide +kernel
theorem dX3_weigh_51 : decode cX3_weigh 51 = .ok (.aload_n 1, 1) := by decide +kernel
theorem dX3_weigh_52 : decode cX3_weigh 52 = .ok (.getfield 27, 3) := by decide +kernel
theorem dX3_weigh_55 : decode cX3_weigh 55 = .ok (.iconst 1, 1) := by decide +kernel
theorem dX3_weigh_56 : decode cX3_weigh 56 = .ok (.iastore, 1) := by decide +kernel
theorem dX3_weigh_57 : decode cX3_weigh 57 = .ok (.aload_n 1, 1) := by decide +kernel
theorem dX3_weigh_58 : decode cX3_weigh 58 = .ok (.getfield 27, 3) := by decide +kernel
theorem dX3_weigh_61 : decode cX3_weigh 61 = .ok (.iconst 1, 1) := by decide +kernel
theorem dX3_weigh_62 : decode cX3_weigh 62 = .ok (.isub, 1) := by decide +kernel
theorem dX3_weigh_63 : decode cX3_weigh 63 = .ok (.istore 4, 2) := by decide +kernel
theorem dX3_weigh_65 : decode cX3_weigh 65 = .ok (.iload 4, 2) := by decide +kernel
theorem dX3_weigh_67 : decode cX3_weigh 67 = .ok (.ifCond .lt 28, 3) := by decide +kernel
theorem dX3_weigh_70 : decode cX3_weigh 70 = .ok (.iload 4, 2) := by decide +kernel
theorem dX3_weigh_72 : decode cX3_weigh 72 = .ok (.aload_n 1, 1) := by decide +kernel
theorem dX3_weigh_73 : decode cX3_weigh 73 = .ok (.getfield 27, 3) := by decide +kernel
theorem dX3_weigh_76 : decode cX3_weigh 76 = .ok (.iconst (-1), 1) := by decide +kernel
theorem dX3_weigh_77 : decode cX3_weigh 77 = .ok (.ixor, 1) := by decide +kernel
theorem dX3_weigh_78 : decode cX3_weigh 78 = .ok (.iand, 1) := by decide +kernel
theorem dX3_weigh_79 : decode cX3_weigh 79 = .ok (.ifCond .ne 10, 3) := by decide +kernel
theorem dX3_weigh_82 : decode cX3_weigh 82 = .ok (.aload_n 0, 1) := by decide +kernel
theorem dX3_weigh_83 : decode cX3_weigh 83 = .ok (.aload_n 1, 1) := by decide +kernel
theorem dX3_weigh_84 : decode cX3_weigh 84 = .ok (.iload 4, 2) := by decide +kernel
theorem dX3_weigh_86 : decode cX3_weigh 86 = .ok (.invokevirtual 31, 3) := by decide +kernel
theorem dX3_weigh_89 : decode cX3_weigh 89 = .ok (.iinc 4 (-1), 3) := by decide +kernel
theorem dX3_weigh_92 : decode cX3_weigh 92 = .ok (.goto (-27), 3) := by decide +kernel
theorem dX3_weigh_95 : decode cX3_weigh 95 = .ok (.return_, 1) := by decide +kernel
theorem dX3_weighSet_0 : decode cX3_weighSet 0 = .ok (.bipush 60, 2) := by decide +kernel
theorem dX3_weighSet_2 : decode cX3_weighSet 2 = .ok (.istore_n 3, 1) := by decide +kernel
theorem dX3_weighSet_3 : decode cX3_weighSet 3 = .ok (.iconst 0, 1) := by decide +kernel
theorem dX3_weighSet_4 : decode cX3_weighSet 4 = .ok (.istore 4, 2) := by decide +kernel
theorem dX3_weighSet_6 : decode cX3_weighSet 6 = .ok (.iconst 0, 1) := by decide +kernel
theorem dX3_weighSet_7 : decode cX3_weighSet 7 = .ok (.istore 5, 2) := by decide +kernel
theorem dX3_weighSet_9 : decode cX3_weighSet 9 = .ok (.iload 5, 2) := by decide +kernel
theorem dX3_weighSet_11 : decode cX3_weighSet 11 = .ok (.bipush 6, 2) := by decide +kernel
theorem dX3_weighSet_13 : decode cX3_weighSet 13 = .ok (.if_icmp .ge 63, 3) := by decide +kernel
theorem dX3_weighSet_16 : decode cX3_weighSet 16 = .ok (.aload_n 1, 1) := by decide +kernel
theorem dX3_weighSet_17 : decode cX3_weighSet 17 = .ok (.iload_n 2, 1) := by decide +kernel
theorem dX3_weighSet_18 : decode cX3_weighSet 18 = .ok (.iload 5, 2) := by decide +kernel
theorem dX3_weighSet_20 : decode cX3_weighSet 20 = .ok (.invokestatic 35, 3) := by decide +kernel
theorem dX3_weighSet_23 : decode cX3_weighSet 23 = .ok (.ifCond .eq 47, 3) := by decide +kernel
theorem dX3_weighSet_26 : decode cX3_weighSet 26 = .ok (.aload_n 0, 1) := by decide +kernel
theorem dX3_weighSet_27 : decode cX3_weighSet 27 = .ok (.aload_n 1, 1) := by decide +kernel
theorem dX3_weighSet_28 : decode cX3_weighSet 28 = .ok (.iload_n 2, 1) := by decide +kernel
theorem dX3_weighSet_29 : decode cX3_weighSet 29 = .ok (.iload 5, 2) := by decide +kernel
theorem dX3_weighSet_31 : decode cX3_weighSet 31 = .ok (.invokevirtual 39, 3) := by decide +kernel
theorem dX3_weighSet_34 : decode cX3_weighSet 34 = .ok (.istore 6, 2) := by decide +kernel
theorem dX3_weighSet_36 : decode cX3_weighSet 36 = .ok (.iload 6, 2) := by decide +kernel
theorem dX3_weighSet_38 : decode cX3_weighSet 38 = .ok (.iload_n 3, 1) := by decide +kernel
theorem dX3_weighSet_39 : decode cX3_weighSet 39 = .ok (.if_icmp .ge 9, 3) := by decide +kernel
theorem dX3_weighSet_42 : decode cX3_weighSet 42 = .ok (.iload 6, 2) := by decide +kernel
theorem dX3_weighSet_44 : decode cX3_weighSet 44 = .ok (.istore_n 3, 1) := by decide +kernel
theorem dX3_weighSet_45 : decode cX3_weighSet 45 = .ok (.iconst 0, 1) := by decide +kernel
theorem dX3_weighSet_46 : decode cX3_weighSet 46 = .ok (.istore 4, 2) := by decide +kernel
theorem dX3_weighSet_48 : decode cX3_weighSet 48 = .ok (.iload 6, 2) := by decide +kernel
theorem dX3_weighSet_50 : decode cX3_weighSet 50 = .ok (.iload_n 3, 1) := by decide +kernel
theorem dX3_weighSet_51 : decode cX3_weighSet 51 = .ok (.if_icmp .ne 19, 3) := by decide +kernel
theorem dX3_weighSet_54 : decode cX3_weighSet 54 = .ok (.iload 4, 2) := by decide +kernel
theorem dX3_weighSet_56 : decode cX3_weighSet 56 = .ok (.aload_n 0, 1) := by decide +kernel
theorem dX3_weighSet_57 : decode cX3_weighSet 57 = .ok (.getfield 15, 3) := by decide +kernel
theorem dX3_weighSet_60 : decode cX3_weighSet 60 = .ok (.iload_n 2, 1) := by decide +kernel
theorem dX3_weighSet_61 : decode cX3_weighSet 61 = .ok (.iconst 1, 1) := by decide +kernel
theorem dX3_weighSet_62 : decode cX3_weighSet 62 = .ok (.iload 5, 2) := by decide +kernel
theorem dX3_weighSet_64 : decode cX3_weighSet 64 = .ok (.ishl, 1) := by decide +kernel
theorem dX3_weighSet_65 : decode cX3_weighSet 65 = .ok (.ior, 1) := by decide +kernel
theorem dX3_weighSet_66 : decode cX3_weighSet 66 = .ok (.iaload, 1) := by decide +kernel
theorem dX3_weighSet_67 : decode cX3_weighSet 67 = .ok (.iadd, 1) := by decide +kernel
theorem dX3_weighSet_68 : decode cX3_weighSet 68 = .ok (.istore 4, 2) := by decide +kernel
theorem dX3_weighSet_70 : decode cX3_weighSet 70 = .ok (.iinc 5 1, 3) := by decide +kernel
theorem dX3_weighSet_73 : decode cX3_weighSet 73 = .ok (.goto (-64), 3) := by decide +kernel
theorem dX3_weighSet_76 : decode cX3_weighSet 76 = .ok (.aload_n 0, 1) := by decide +kernel
theorem dX3_weighSet_77 : decode cX3_weighSet 77 = .ok (.getfield 9, 3) := by decide +kernel
theorem dX3_weighSet_80 : decode cX3_weighSet 80 = .ok (.iload_n 2, 1) := by decide +kernel
theorem dX3_weighSet_81 : decode cX3_weighSet 81 = .ok (.iload_n 3, 1) := by decide +kernel
theorem dX3_weighSet_82 : decode cX3_weighSet 82 = .ok (.iastore, 1) := by decide +kernel
theorem dX3_weighSet_83 : decode cX3_weighSet 83 = .ok (.aload_n 0, 1) := by decide +kernel
theorem dX3_weighSet_84 : decode cX3_weighSet 84 = .ok (.getfield 15, 3) := by decide +kernel
theorem dX3_weighSet_87 : decode cX3_weighSet 87 = .ok (.iload_n 2, 1) := by decide +kernel
theorem dX3_weighSet_88 : decode cX3_weighSet 88 = .ok (.iload 4, 2) := by decide +kernel
theorem dX3_weighSet_90 : decode cX3_weighSet 90 = .ok (.iastore, 1) := by decide +kernel
theorem dX3_weighSet_91 : decode cX3_weighSet 91 = .ok (.return_, 1) := by decide +kernel
theorem dX3_isLeft_0 : decode cX3_isLeft 0 = .ok (.aload_n 0, 1) := by decide +kernel
theorem dX3_isLeft_1 : decode cX3_isLeft 1 = .ok (.iload_n 2, 1) := by decide +kernel
theorem dX3_isLeft_2 : decode cX3_isLeft 2 = .ok (.invokevirtual 43, 3) := by decide +kernel
theorem dX3_isLeft_5 : decode cX3_isLeft 5 = .ok (.ifCond .eq 15, 3) := by decide +kernel
theorem dX3_isLeft_8 : decode cX3_isLeft 8 = .ok (.iload_n 1, 1) := by decide +kernel
theorem dX3_isLeft_9 : decode cX3_isLeft 9 = .ok (.iload_n 2, 1) := by decide +kernel
theorem dX3_isLeft_10 : decode cX3_isLeft 10 = .ok (.ishr, 1) := by decide +kernel
theorem dX3_isLeft_11 : decode cX3_isLeft 11 = .ok (.iconst 1, 1) := by decide +kernel
theorem dX3_isLeft_12 : decode cX3_isLeft 12 = .ok (.iand, 1) := by decide +kernel
theorem dX3_isLeft_13 : decode cX3_isLeft 13 = .ok (.ifCond .ne 7, 3) := by decide +kernel
theorem dX3_isLeft_16 : decode cX3_isLeft 16 = .ok (.iconst 1, 1) := by decide +kernel
theorem dX3_isLeft_17 : decode cX3_isLeft 17 = .ok (.goto 4, 3) := by decide +kernel
theorem dX3_isLeft_20 : decode cX3_isLeft 20 = .ok (.iconst 0, 1) := by decide +kernel
theorem dX3_isLeft_21 : decode cX3_isLeft 21 = .ok (.ireturn, 1) := by decide +kernel
theorem dX3_slipsWith_0 : decode cX3_slipsWith 0 = .ok (.iload_n 2, 1) := by decide +kernel
theorem dX3_slipsWith_1 : decode cX3_slipsWith 1 = .ok (.invokestatic 47, 3) := by decide +kernel
theorem dX3_slipsWith_4 : decode cX3_slipsWith 4 = .ok (.istore 4, 2) := by decide +kernel
theorem dX3_slipsWith_6 : decode cX3_slipsWith 6 = .ok (.aload_n 0, 1) := by decide +kernel
theorem dX3_slipsWith_7 : decode cX3_slipsWith 7 = .ok (.getfield 18, 3) := by decide +kernel
theorem dX3_slipsWith_10 : decode cX3_slipsWith 10 = .ok (.iload 4, 2) := by decide +kernel
theorem dX3_slipsWith_12 : decode cX3_slipsWith 12 = .ok (.iaload, 1) := by decide +kernel
theorem dX3_slipsWith_13 : decode cX3_slipsWith 13 = .ok (.aload_n 1, 1) := by decide +kernel
theorem dX3_slipsWith_14 : decode cX3_slipsWith 14 = .ok (.getfield 53, 3) := by decide +kernel
theorem dX3_slipsWith_17 : decode cX3_slipsWith 17 = .ok (.iload_n 3, 1) := by decide +kernel
theorem dX3_slipsWith_18 : decode cX3_slipsWith 18 = .ok (.iaload, 1) := by decide +kernel
theorem dX3_slipsWith_19 : decode cX3_slipsWith 19 = .ok (.isub, 1) := by decide +kernel
theorem dX3_slipsWith_20 : decode cX3_slipsWith 20 = .ok (.invokestatic 56, 3) := by decide +kernel
theorem dX3_slipsWith_23 : decode cX3_slipsWith 23 = .ok (.aload_n 0, 1) := by decide +kernel
theorem dX3_slipsWith_24 : decode cX3_slipsWith 24 = .ok (.getfield 9, 3) := by decide +kernel
theorem dX3_slipsWith_27 : decode cX3_slipsWith 27 = .ok (.iload_n 2, 1) := by decide +kernel
theorem dX3_slipsWith_28 : decode cX3_slipsWith 28 = .ok (.iconst 1, 1) := by decide +kernel
theorem dX3_slipsWith_29 : decode cX3_slipsWith 29 = .ok (.iload_n 3, 1) := by decide +kernel
theorem dX3_slipsWith_30 : decode cX3_slipsWith 30 = .ok (.ishl, 1) := by decide +kernel
theorem dX3_slipsWith_31 : decode cX3_slipsWith 31 = .ok (.ior, 1) := by decide +kernel
theorem dX3_slipsWith_32 : decode cX3_slipsWith 32 = .ok (.iaload, 1) := by decide +kernel
theorem dX3_slipsWith_33 : decode cX3_slipsWith 33 = .ok (.iadd, 1) := by decide +kernel
theorem dX3_slipsWith_34 : decode cX3_slipsWith 34 = .ok (.ireturn, 1) := by decide +kernel
theorem dX3_writerOf_0 : decode cX3_writerOf 0 = .ok (.iconst 0, 1) := by decide +kernel
theorem dX3_writerOf_1 : decode cX3_writerOf 1 = .ok (.istore_n 3, 1) := by decide +kernel
theorem dX3_writerOf_2 : decode cX3_writerOf 2 = .ok (.bipush (-6), 2) := by decide +kernel
theorem dX3_writerOf_4 : decode cX3_writerOf 4 = .ok (.istore 4, 2) := by decide +kernel
theorem dX3_writerOf_6 : decode cX3_writerOf 6 = .ok (.iconst 0, 1) := by decide +kernel
theorem dX3_writerOf_7 : decode cX3_writerOf 7 = .ok (.istore 5, 2) := by decide +kernel
theorem dX3_writerOf_9 : decode cX3_writerOf 9 = .ok (.iload 5, 2) := by decide +kernel
theorem dX3_writerOf_11 : decode cX3_writerOf 11 = .ok (.iload_n 2, 1) := by decide +kernel
theorem dX3_writerOf_12 : decode cX3_writerOf 12 = .ok (.if_icmp .gt 34, 3) := by decide +kernel
theorem dX3_writerOf_15 : decode cX3_writerOf 15 = .ok (.aload_n 0, 1) := by decide +kernel
theorem dX3_writerOf_16 : decode cX3_writerOf 16 = .ok (.aload_n 1, 1) := by decide +kernel
theorem dX3_writerOf_17 : decode cX3_writerOf 17 = .ok (.iload_n 3, 1) := by decide +kernel
theorem dX3_writerOf_18 : decode cX3_writerOf 18 = .ok (.invokevirtual 61, 3) := by decide +kernel
theorem dX3_writerOf_21 : decode cX3_writerOf 21 = .ok (.istore 4, 2) := by decide +kernel
theorem dX3_writerOf_23 : decode cX3_writerOf 23 = .ok (.iload 4, 2) := by decide +kernel
theorem dX3_writerOf_25 : decode cX3_writerOf 25 = .ok (.bipush (-6), 2) := by decide +kernel
theorem dX3_writerOf_27 : decode cX3_writerOf 27 = .ok (.if_icmp .ne 6, 3) := by decide +kernel
theorem dX3_writerOf_30 : decode cX3_writerOf 30 = .ok (.bipush (-6), 2) := by decide +kernel
theorem dX3_writerOf_32 : decode cX3_writerOf 32 = .ok (.ireturn, 1) := by decide +kernel
theorem dX3_writerOf_33 : decode cX3_writerOf 33 = .ok (.iload_n 3, 1) := by decide +kernel
theorem dX3_writerOf_34 : decode cX3_writerOf 34 = .ok (.iconst 1, 1) := by decide +kernel
theorem dX3_writerOf_35 : decode cX3_writerOf 35 = .ok (.iload 4, 2) := by decide +kernel
theorem dX3_writerOf_37 : decode cX3_writerOf 37 = .ok (.ishl, 1) := by decide +kernel
theorem dX3_writerOf_38 : decode cX3_writerOf 38 = .ok (.ior, 1) := by decide +kernel
theorem dX3_writerOf_39 : decode cX3_writerOf 39 = .ok (.istore_n 3, 1) := by decide +kernel
theorem dX3_writerOf_40 : decode cX3_writerOf 40 = .ok (.iinc 5 1, 3) := by decide +kernel
theorem dX3_writerOf_43 : decode cX3_writerOf 43 = .ok (.goto (-34), 3) := by decide +kernel
theorem dX3_writerOf_46 : decode cX3_writerOf 46 = .ok (.iload 4, 2) := by decide +kernel
theorem dX3_writerOf_48 : decode cX3_writerOf 48 = .ok (.ireturn, 1) := by decide +kernel
theorem dX3_firstWriter_0 : decode cX3_firstWriter 0 = .ok (.iconst 0, 1) := by decide +kernel
theorem dX3_firstWriter_1 : decode cX3_firstWriter 1 = .ok (.istore_n 3, 1) := by decide +kernel
theorem dX3_firstWriter_2 : decode cX3_firstWriter 2 = .ok (.iload_n 3, 1) := by decide +kernel
theorem dX3_firstWriter_3 : decode cX3_firstWriter 3 = .ok (.bipush 6, 2) := by decide +kernel
theorem dX3_firstWriter_5 : decode cX3_firstWriter 5 = .ok (.if_icmp .ge 36, 3) := by decide +kernel
theorem dX3_firstWriter_8 : decode cX3_firstWriter 8 = .ok (.aload_n 1, 1) := by decide +kernel
theorem dX3_firstWriter_9 : decode cX3_firstWriter 9 = .ok (.iload_n 2, 1) := by decide +kernel
theorem dX3_firstWriter_10 : decode cX3_firstWriter 10 = .ok (.iload_n 3, 1) := by decide +kernel
theorem dX3_firstWriter_11 : decode cX3_firstWriter 11 = .ok (.invokestatic 35, 3) := by decide +kernel
theorem dX3_firstWriter_14 : decode cX3_firstWriter 14 = .ok (.ifCond .eq 21, 3) := by decide +kernel
theorem dX3_firstWriter_17 : decode cX3_firstWriter 17 = .ok (.aload_n 0, 1) := by decide +kernel
theorem dX3_firstWriter_18 : decode cX3_firstWriter 18 = .ok (.aload_n 1, 1) := by decide +kernel
theorem dX3_firstWriter_19 : decode cX3_firstWriter 19 = .ok (.iload_n 2, 1) := by decide +kernel
theorem dX3_firstWriter_20 : decode cX3_firstWriter 20 = .ok (.iload_n 3, 1) := by decide +kernel
theorem dX3_firstWriter_21 : decode cX3_firstWriter 21 = .ok (.invokevirtual 39, 3) := by decide +kernel
theorem dX3_firstWriter_24 : decode cX3_firstWriter 24 = .ok (.aload_n 0, 1) := by decide +kernel
theorem dX3_firstWriter_25 : decode cX3_firstWriter 25 = .ok (.getfield 9, 3) := by decide +kernel
theorem dX3_firstWriter_28 : decode cX3_firstWriter 28 = .ok (.iload_n 2, 1) := by decide +kernel
theorem dX3_firstWriter_29 : decode cX3_firstWriter 29 = .ok (.iaload, 1) := by decide +kernel
theorem dX3_firstWriter_30 : decode cX3_firstWriter 30 = .ok (.if_icmp .ne 5, 3) := by decide +kernel
theorem dX3_firstWriter_33 : decode cX3_firstWriter 33 = .ok (.iload_n 3, 1) := by decide +kernel
theorem dX3_firstWriter_34 : decode cX3_firstWriter 34 = .ok (.ireturn, 1) := by decide +kernel
theorem dX3_firstWriter_35 : decode cX3_firstWriter 35 = .ok (.iinc 3 1, 3) := by decide +kernel
theorem dX3_firstWriter_38 : decode cX3_firstWriter 38 = .ok (.goto (-36), 3) := by decide +kernel
theorem dX3_firstWriter_41 : decode cX3_firstWriter 41 = .ok (.bipush (-6), 2) := by decide +kernel
theorem dX3_firstWriter_43 : decode cX3_firstWriter 43 = .ok (.ireturn, 1) := by decide +kernel
theorem dX4_init_0 : decode cX4_init 0 = .ok (.aload_n 0, 1) := by decide +kernel
theorem dX4_init_1 : decode cX4_init 1 = .ok (.invokespecial 3, 3) := by decide +kernel
theorem dX4_init_4 : decode cX4_init 4 = .ok (.aload_n 0, 1) := by decide +kernel
theorem dX4_init_5 : decode cX4_init 5 = .ok (.bipush 64, 2) := by decide +kernel
theorem dX4_init_7 : decode cX4_init 7 = .ok (.newarray .int, 2) := by decide +kernel
theorem dX4_init_9 : decode cX4_init 9 = .ok (.putfield 9, 3) := by decide +kernel
theorem dX4_init_12 : decode cX4_init 12 = .ok (.aload_n 0, 1) := by decide +kernel
theorem dX4_init_13 : decode cX4_init 13 = .ok (.bipush 64, 2) := by decide +kernel
theorem dX4_init_15 : decode cX4_init 15 = .ok (.newarray .int, 2) := by decide +kernel
theorem dX4_init_17 : decode cX4_init 17 = .ok (.putfield 15, 3) := by decide +kernel
theorem dX4_init_20 : decode cX4_init 20 = .ok (.return_, 1) := by decide +kernel
theorem dX4_fewestHands_0 : decode cX4_fewestHands 0 = .ok (.iconst 1, 1) := by decide +kernel
theorem dX4_fewestHands_1 : decode cX4_fewestHands 1 = .ok (.istore_n 2, 1) := by decide +kernel
theorem dX4_fewestHands_2 : decode cX4_fewestHands 2 = .ok (.iload_n 2, 1) := by decide +kernel
theorem dX4_fewestHands_3 : decode cX4_fewestHands 3 = .ok (.bipush 64, 2) := by decide +kernel
theorem dX4_fewestHands_5 : decode cX4_fewestHands 5 = .ok (.if_icmp .ge 62, 3) := by decide +kernel
theorem dX4_fewestHands_8 : decode cX4_fewestHands 8 = .ok (.iload_n 2, 1) := by decide +kernel
theorem dX4_fewestHands_9 : decode cX4_fewestHands 9 = .ok (.invokestatic 18, 3) := by decide +kernel
theorem dX4_fewestHands_12 : decode cX4_fewestHands 12 = .ok (.istore_n 3, 1) := by decide +kernel
theorem dX4_fewestHands_13 : decode cX4_fewestHands 13 = .ok (.aload_n 0, 1) := by decide +kernel
theorem dX4_fewestHands_14 : decode cX4_fewestHands 14 = .ok (.getfield 9, 3) := by decide +kernel
theorem dX4_fewestHands_17 : decode cX4_fewestHands 17 = .ok (.iload_n 2, 1) := by decide +kernel
theorem dX4_fewestHands_18 : decode cX4_fewestHands 18 = .ok (.aload_n 0, 1) := by decide +kernel
theorem dX4_fewestHands_19 : decode cX4_fewestHands 19 = .ok (.getfield 9, 3) := by decide +kernel
theorem dX4_fewestHands_22 : decode cX4_fewestHands 22 = .ok (.iload_n 2, 1) := by decide +kernel
theorem dX4_fewestHands_23 : decode cX4_fewestHands 23 = .ok (.iload_n 2, 1) := by decide +kernel
theorem dX4_fewestHands_24 : decode cX4_fewestHands 24 = .ok (.iconst 1, 1) := by decide +kernel
theorem dX4_fewestHands_25 : decode cX4_fewestHands 25 = .ok (.isub, 1) := by decide +kernel
theorem dX4_fewestHands_26 : decode cX4_fewestHands 26 = .ok (.iand, 1) := by decide +kernel
theorem dX4_fewestHands_27 : decode cX4_fewestHands 27 = .ok (.iaload, 1) := by decide +kernel
theorem dX4_fewestHands_28 : decode cX4_fewestHands 28 = .ok (.aload_n 1, 1) := by decide +kernel
theorem dX4_fewestHands_29 : decode cX4_fewestHands 29 = .ok (.iload_n 3, 1) := by decide +kernel
theorem dX4_fewestHands_30 : decode cX4_fewestHands 30 = .ok (.invokevirtual 24, 3) := by decide +kernel
theorem dX4_fewestHands_33 : decode cX4_fewestHands 33 = .ok (.iadd, 1) := by decide +kernel
theorem dX4_fewestHands_34 : decode cX4_fewestHands 34 = .ok (.iastore, 1) := by decide +kernel
theorem dX4_fewestHands_35 : decode cX4_fewestHands 35 = .ok (.aload_n 0, 1) := by decide +kernel
theorem dX4_fewestHands_36 : decode cX4_fewestHands 36 = .ok (.getfield 15, 3) := by decide +kernel
theorem dX4_fewestHands_39 : decode cX4_fewestHands 39 = .ok (.iload_n 2, 1) := by decide +kernel
theorem dX4_fewestHands_40 : decode cX4_fewestHands 40 = .ok (.aload_n 0, 1) := by decide +kernel
theorem dX4_fewestHands_41 : decode cX4_fewestHands 41 = .ok (.iload_n 2, 1) := by decide +kernel
theorem dX4_fewestHands_42 : decode cX4_fewestHands 42 = .ok (.invokevirtual 29, 3) := by decide +kernel
theorem dX4_fewestHands_45 : decode cX4_fewestHands 45 = .ok (.aload_n 0, 1) := by decide +kernel
theorem dX4_fewestHands_46 : decode cX4_fewestHands 46 = .ok (.getfield 9, 3) := by decide +kernel
theorem dX4_fewestHands_49 : decode cX4_fewestHands 49 = .ok (.iload_n 2, 1) := by decide +kernel
theorem dX4_fewestHands_50 : decode cX4_fewestHands 50 = .ok (.iaload, 1) := by decide +kernel
theorem dX4_fewestHands_51 : decode cX4_fewestHands 51 = .ok (.ifCond .ne 7, 3) := by decide +kernel
theorem dX4_fewestHands_54 : decode cX4_fewestHands 54 = .ok (.iconst 1, 1) := by decide +kernel
theorem dX4_fewestHands_55 : decode cX4_fewestHands 55 = .ok (.goto 4, 3) := by decide +kernel
theorem dX4_fewestHands_58 : decode cX4_fewestHands 58 = .ok (.iconst 0, 1) := by decide +kernel
theorem dX4_fewestHands_59 : decode cX4_fewestHands 59 = .ok (.iadd, 1) := by decide +kernel
theorem dX4_fewestHands_60 : decode cX4_fewestHands 60 = .ok (.iastore, 1) := by decide +kernel
theorem dX4_fewestHands_61 : decode cX4_fewestHands 61 = .ok (.iinc 2 1, 3) := by decide +kernel
theorem dX4_fewestHands_64 : decode cX4_fewestHands 64 = .ok (.goto (-62), 3) := by decide +kernel
theorem dX4_fewestHands_67 : decode cX4_fewestHands 67 = .ok (.bipush 6, 2) := by decide +kernel
theorem dX4_fewestHands_69 : decode cX4_fewestHands 69 = .ok (.aload_n 0, 1) := by decide +kernel
theorem dX4_fewestHands_70 : decode cX4_fewestHands 70 = .ok (.getfield 15, 3) := by decide +kernel
theorem dX4_fewestHands_73 : decode cX4_fewestHands 73 = .ok (.bipush 63, 2) := by decide +kernel
theorem dX4_fewestHands_75 : decode cX4_fewestHands 75 = .ok (.iaload, 1) := by decide +kernel
theorem dX4_fewestHands_76 : decode cX4_fewestHands 76 = .ok (.isub, 1) := by decide +kernel
theorem dX4_fewestHands_77 : decode cX4_fewestHands 77 = .ok (.ireturn, 1) := by decide +kernel
theorem dX4_mostCirclesInside_0 : decode cX4_mostCirclesInside 0 = .ok (.iconst 0, 1) := by decide +kernel
theorem dX4_mostCirclesInside_1 : decode cX4_mostCirclesInside 1 = .ok (.istore_n 2, 1) := by decide +kernel
theorem dX4_mostCirclesInside_2 : decode cX4_mostCirclesInside 2 = .ok (.iconst 0, 1) := by decide +kernel
theorem dX4_mostCirclesInside_3 : decode cX4_mostCirclesInside 3 = .ok (.istore_n 3, 1) := by decide +kernel
theorem dX4_mostCirclesInside_4 : decode cX4_mostCirclesInside 4 = .ok (.iload_n 3, 1) := by decide +kernel
theorem dX4_mostCirclesInside_5 : decode cX4_mostCirclesInside 5 = .ok (.bipush 6, 2) := by decide +kernel
theorem dX4_mostCirclesInside_7 : decode cX4_mostCirclesInside 7 = .ok (.if_icmp .ge 33, 3) := by decide +kernel
theorem dX4_mostCirclesInside_10 : decode cX4_mostCirclesInside 10 = .ok (.iload_n 1, 1) := by decide +kernel
theorem dX4_mostCirclesInside_11 : decode cX4_mostCirclesInside 11 = .ok (.iload_n 3, 1) := by decide +kernel
theorem dX4_mostCirclesInside_12 : decode cX4_mostCirclesInside 12 = .ok (.ishr, 1) := by decide +kernel
theorem dX4_mostCirclesInside_13 : decode cX4_mostCirclesInside 13 = .ok (.iconst 1, 1) := by decide +kernel
theorem dX4_mostCirclesInside_14 : decode cX4_mostCirclesInside 14 = .ok (.iand, 1) := by decide +kernel
theorem dX4_mostCirclesInside_15 : decode cX4_mostCirclesInside 15 = .ok (.iconst 1, 1) := by decide +kernel
theorem dX4_mostCirclesInside_16 : decode cX4_mostCirclesInside 16 = .ok (.if_icmp .ne 18, 3) := by decide +kernel
theorem dX4_mostCirclesInside_19 : decode cX4_mostCirclesInside 19 = .ok (.iload_n 2, 1) := by decide +kernel
theorem dX4_mostCirclesInside_20 : decode cX4_mostCirclesInside 20 = .ok (.aload_n 0, 1) := by decide +kernel
theorem dX4_mostCirclesInside_21 : decode cX4_mostCirclesInside 21 = .ok (.getfield 15, 3) := by decide +kernel
theorem dX4_mostCirclesInside_24 : decode cX4_mostCirclesInside 24 = .ok (.iload_n 1, 1) := by decide +kernel
theorem dX4_mostCirclesInside_25 : decode cX4_mostCirclesInside 25 = .ok (.iconst 1, 1) := by decide +kernel
theorem dX4_mostCirclesInside_26 : decode cX4_mostCirclesInside 26 = .ok (.iload_n 3, 1) := by decide +kernel
theorem dX4_mostCirclesInside_27 : decode cX4_mostCirclesInside 27 = .ok (.ishl, 1) := by decide +kernel
theorem dX4_mostCirclesInside_28 : decode cX4_mostCirclesInside 28 = .ok (.ixor, 1) := by decide +kernel
theorem dX4_mostCirclesInside_29 : decode cX4_mostCirclesInside 29 = .ok (.iaload, 1) := by decide +kernel
theorem dX4_mostCirclesInside_30 : decode cX4_mostCirclesInside 30 = .ok (.invokestatic 32, 3) := by decide +kernel
theorem dX4_mostCirclesInside_33 : decode cX4_mostCirclesInside 33 = .ok (.istore_n 2, 1) := by decide +kernel
theorem dX4_mostCirclesInside_34 : decode cX4_mostCirclesInside 34 = .ok (.iinc 3 1, 3) := by decide +kernel
theorem dX4_mostCirclesInside_37 : decode cX4_mostCirclesInside 37 = .ok (.goto (-33), 3) := by decide +kernel
theorem dX4_mostCirclesInside_40 : decode cX4_mostCirclesInside 40 = .ok (.iload_n 2, 1) := by decide +kernel
theorem dX4_mostCirclesInside_41 : decode cX4_mostCirclesInside 41 = .ok (.ireturn, 1) := by decide +kernel
theorem dX5_init_0 : decode cX5_init 0 = .ok (.aload_n 0, 1) := by decide +kernel
theorem dX5_init_1 : decode cX5_init 1 = .ok (.invokespecial 3, 3) := by decide +kernel
theorem dX5_init_4 : decode cX5_init 4 = .ok (.aload_n 0, 1) := by decide +kernel
theorem dX5_init_5 : decode cX5_init 5 = .ok (.bipush 60, 2) := by decide +kernel
theorem dX5_init_7 : decode cX5_init 7 = .ok (.newarray .int, 2) := by decide +kernel
theorem dX5_init_9 : decode cX5_init 9 = .ok (.putfield 9, 3) := by decide +kernel
theorem dX5_init_12 : decode cX5_init 12 = .ok (.return_, 1) := by decide +kernel
theorem dX5_add_0 : decode cX5_add 0 = .ok (.aload_n 0, 1) := by decide +kernel
theorem dX5_add_1 : decode cX5_add 1 = .ok (.getfield 9, 3) := by decide +kernel
theorem dX5_add_4 : decode cX5_add 4 = .ok (.aload_n 0, 1) := by decide +kernel
theorem dX5_add_5 : decode cX5_add 5 = .ok (.getfield 15, 3) := by decide +kernel
theorem dX5_add_8 : decode cX5_add 8 = .ok (.iload_n 1, 1) := by decide +kernel
theorem dX5_add_9 : decode cX5_add 9 = .ok (.iastore, 1) := by decide +kernel
theorem dX5_add_10 : decode cX5_add 10 = .ok (.aload_n 0, 1) := by decide +kernel
theorem dX5_add_11 : decode cX5_add 11 = .ok (.dup, 1) := by decide +kernel
theorem dX5_add_12 : decode cX5_add 12 = .ok (.getfield 15, 3) := by decide +kernel
theorem dX5_add_15 : decode cX5_add 15 = .ok (.iconst 1, 1) := by decide +kernel
theorem dX5_add_16 : decode cX5_add 16 = .ok (.iadd, 1) := by decide +kernel
theorem dX5_add_17 : decode cX5_add 17 = .ok (.putfield 15, 3) := by decide +kernel
theorem dX5_add_20 : decode cX5_add 20 = .ok (.return_, 1) := by decide +kernel
theorem dX5_signAt_0 : decode cX5_signAt 0 = .ok (.iload_n 1, 1) := by decide +kernel
theorem dX5_signAt_1 : decode cX5_signAt 1 = .ok (.ifCond .lt 20, 3) := by decide +kernel
theorem dX5_signAt_4 : decode cX5_signAt 4 = .ok (.iload_n 1, 1) := by decide +kernel
theorem dX5_signAt_5 : decode cX5_signAt 5 = .ok (.aload_n 0, 1) := by decide +kernel
theorem dX5_signAt_6 : decode cX5_signAt 6 = .ok (.getfield 15, 3) := by decide +kernel
theorem dX5_signAt_9 : decode cX5_signAt 9 = .ok (.if_icmp .ge 12, 3) := by decide +kernel
theorem dX5_signAt_12 : decode cX5_signAt 12 = .ok (.aload_n 0, 1) := by decide +kernel
theorem dX5_signAt_13 : decode cX5_signAt 13 = .ok (.getfield 9, 3) := by decide +kernel
theorem dX5_signAt_16 : decode cX5_signAt 16 = .ok (.iload_n 1, 1) := by decide +kernel
theorem dX5_signAt_17 : decode cX5_signAt 17 = .ok (.iaload, 1) := by decide +kernel
theorem dX5_signAt_18 : decode cX5_signAt 18 = .ok (.goto 4, 3) := by decide +kernel
theorem dX5_signAt_21 : decode cX5_signAt 21 = .ok (.iconst 0, 1) := by decide +kernel
theorem dX5_signAt_22 : decode cX5_signAt 22 = .ok (.ireturn, 1) := by decide +kernel
theorem dX5_firstFault_0 : decode cX5_firstFault 0 = .ok (.iconst 0, 1) := by decide +kernel
theorem dX5_firstFault_1 : decode cX5_firstFault 1 = .ok (.istore_n 1, 1) := by decide +kernel
theorem dX5_firstFault_2 : decode cX5_firstFault 2 = .ok (.iconst 0, 1) := by decide +kernel
theorem dX5_firstFault_3 : decode cX5_firstFault 3 = .ok (.istore_n 2, 1) := by decide +kernel
theorem dX5_firstFault_4 : decode cX5_firstFault 4 = .ok (.iload_n 2, 1) := by decide +kernel
theorem dX5_firstFault_5 : decode cX5_firstFault 5 = .ok (.aload_n 0, 1) := by decide +kernel
theorem dX5_firstFault_6 : decode cX5_firstFault 6 = .ok (.getfield 15, 3) := by decide +kernel
theorem dX5_firstFault_9 : decode cX5_firstFault 9 = .ok (.if_icmp .ge 27, 3) := by decide +kernel
theorem dX5_firstFault_12 : decode cX5_firstFault 12 = .ok (.iload_n 1, 1) := by decide +kernel
theorem dX5_firstFault_13 : decode cX5_firstFault 13 = .ok (.aload_n 0, 1) := by decide +kernel
theorem dX5_firstFault_14 : decode cX5_firstFault 14 = .ok (.getfield 9, 3) := by decide +kernel
theorem dX5_firstFault_17 : decode cX5_firstFault 17 = .ok (.iload_n 2, 1) := by decide +kernel
theorem dX5_firstFault_18 : decode cX5_firstFault 18 = .ok (.iaload, 1) := by decide +kernel
theorem dX5_firstFault_19 : decode cX5_firstFault 19 = .ok (.invokestatic 19, 3) := by decide +kernel
theorem dX5_firstFault_22 : decode cX5_firstFault 22 = .ok (.istore_n 1, 1) := by decide +kernel
theorem dX5_firstFault_23 : decode cX5_firstFault 23 = .ok (.iload_n 1, 1) := by decide +kernel
theorem dX5_firstFault_24 : decode cX5_firstFault 24 = .ok (.iconst (-1), 1) := by decide +kernel
theorem dX5_firstFault_25 : decode cX5_firstFault 25 = .ok (.if_icmp .ne 5, 3) := by decide +kernel
theorem dX5_firstFault_28 : decode cX5_firstFault 28 = .ok (.iload_n 2, 1) := by decide +kernel
theorem dX5_firstFault_29 : decode cX5_firstFault 29 = .ok (.ireturn, 1) := by decide +kernel
theorem dX5_firstFault_30 : decode cX5_firstFault 30 = .ok (.iinc 2 1, 3) := by decide +kernel
theorem dX5_firstFault_33 : decode cX5_firstFault 33 = .ok (.goto (-29), 3) := by decide +kernel
theorem dX5_firstFault_36 : decode cX5_firstFault 36 = .ok (.iload_n 1, 1) := by decide +kernel
theorem dX5_firstFault_37 : decode cX5_firstFault 37 = .ok (.ifCond .ne 8, 3) := by decide +kernel
theorem dX5_firstFault_40 : decode cX5_firstFault 40 = .ok (.bipush (-6), 2) := by decide +kernel
theorem dX5_firstFault_42 : decode cX5_firstFault 42 = .ok (.goto 7, 3) := by decide +kernel
theorem dX5_firstFault_45 : decode cX5_firstFault 45 = .ok (.aload_n 0, 1) := by decide +kernel
theorem dX5_firstFault_46 : decode cX5_firstFault 46 = .ok (.getfield 15, 3) := by decide +kernel
theorem dX5_firstFault_49 : decode cX5_firstFault 49 = .ok (.ireturn, 1) := by decide +kernel
theorem dX5_awaitedBehind_0 : decode cX5_awaitedBehind 0 = .ok (.iload_n 0, 1) := by decide +kernel
theorem dX5_awaitedBehind_1 : decode cX5_awaitedBehind 1 = .ok (.tableswitch 85 0 3 #[31, 54, 59, 72], 31) := by decide +kernel
theorem dX5_awaitedBehind_32 : decode cX5_awaitedBehind 32 = .ok (.iload_n 1, 1) := by decide +kernel
theorem dX5_awaitedBehind_33 : decode cX5_awaitedBehind 33 = .ok (.bipush 46, 2) := by decide +kernel
theorem dX5_awaitedBehind_35 : decode cX5_awaitedBehind 35 = .ok (.if_icmp .ne 7, 3) := by decide +kernel
theorem dX5_awaitedBehind_38 : decode cX5_awaitedBehind 38 = .ok (.iconst 0, 1) := by decide +kernel
theorem dX5_awaitedBehind_39 : decode cX5_awaitedBehind 39 = .ok (.goto 15, 3) := by decide +kernel
theorem dX5_awaitedBehind_42 : decode cX5_awaitedBehind 42 = .ok (.iload_n 1, 1) := by decide +kernel
theorem dX5_awaitedBehind_43 : decode cX5_awaitedBehind 43 = .ok (.invokestatic 23, 3) := by decide +kernel
theorem dX5_awaitedBehind_46 : decode cX5_awaitedBehind 46 = .ok (.ifCond .eq 7, 3) := by decide +kernel
theorem dX5_awaitedBehind_49 : decode cX5_awaitedBehind 49 = .ok (.iconst 1, 1) := by decide +kernel
theorem dX5_awaitedBehind_50 : decode cX5_awaitedBehind 50 = .ok (.goto 4, 3) := by decide +kernel
theorem dX5_awaitedBehind_53 : decode cX5_awaitedBehind 53 = .ok (.iconst (-1), 1) := by decide +kernel
theorem dX5_awaitedBehind_54 : decode cX5_awaitedBehind 54 = .ok (.ireturn, 1) := by decide +kernel
theorem dX5_awaitedBehind_55 : decode cX5_awaitedBehind 55 = .ok (.iload_n 1, 1) := by decide +kernel
theorem dX5_awaitedBehind_56 : decode cX5_awaitedBehind 56 = .ok (.invokestatic 27, 3) := by decide +kernel
theorem dX5_awaitedBehind_59 : decode cX5_awaitedBehind 59 = .ok (.ireturn, 1) := by decide +kernel
theorem dX5_awaitedBehind_60 : decode cX5_awaitedBehind 60 = .ok (.iload_n 1, 1) := by decide +kernel
theorem dX5_awaitedBehind_61 : decode cX5_awaitedBehind 61 = .ok (.invokestatic 31, 3) := by decide +kernel
theorem dX5_awaitedBehind_64 : decode cX5_awaitedBehind 64 = .ok (.ifCond .eq 7, 3) := by decide +kernel
theorem dX5_awaitedBehind_67 : decode cX5_awaitedBehind 67 = .ok (.iconst 0, 1) := by decide +kernel
theorem dX5_awaitedBehind_68 : decode cX5_awaitedBehind 68 = .ok (.goto 4, 3) := by decide +kernel
theorem dX5_awaitedBehind_71 : decode cX5_awaitedBehind 71 = .ok (.iconst (-1), 1) := by decide +kernel
theorem dX5_awaitedBehind_72 : decode cX5_awaitedBehind 72 = .ok (.ireturn, 1) := by decide +kernel
theorem dX5_awaitedBehind_73 : decode cX5_awaitedBehind 73 = .ok (.iload_n 1, 1) := by decide +kernel
theorem dX5_awaitedBehind_74 : decode cX5_awaitedBehind 74 = .ok (.invokestatic 31, 3) := by decide +kernel
theorem dX5_awaitedBehind_77 : decode cX5_awaitedBehind 77 = .ok (.ifCond .eq 7, 3) := by decide +kernel
theorem dX5_awaitedBehind_80 : decode cX5_awaitedBehind 80 = .ok (.iconst 4, 1) := by decide +kernel
theorem dX5_awaitedBehind_81 : decode cX5_awaitedBehind 81 = .ok (.goto 4, 3) := by decide +kernel
theorem dX5_awaitedBehind_84 : decode cX5_awaitedBehind 84 = .ok (.iconst (-1), 1) := by decide +kernel
theorem dX5_awaitedBehind_85 : decode cX5_awaitedBehind 85 = .ok (.ireturn, 1) := by decide +kernel
theorem dX5_awaitedBehind_86 : decode cX5_awaitedBehind 86 = .ok (.iload_n 1, 1) := by decide +kernel
theorem dX5_awaitedBehind_87 : decode cX5_awaitedBehind 87 = .ok (.invokestatic 23, 3) := by decide +kernel
theorem dX5_awaitedBehind_90 : decode cX5_awaitedBehind 90 = .ok (.ifCond .eq 7, 3) := by decide +kernel
theorem dX5_awaitedBehind_93 : decode cX5_awaitedBehind 93 = .ok (.iconst 0, 1) := by decide +kernel
theorem dX5_awaitedBehind_94 : decode cX5_awaitedBehind 94 = .ok (.goto 4, 3) := by decide +kernel
theorem dX5_awaitedBehind_97 : decode cX5_awaitedBehind 97 = .ok (.iconst (-1), 1) := by decide +kernel
theorem dX5_awaitedBehind_98 : decode cX5_awaitedBehind 98 = .ok (.ireturn, 1) := by decide +kernel
theorem dX5_awaitedBehindDeed_0 : decode cX5_awaitedBehindDeed 0 = .ok (.iload_n 0, 1) := by decide +kernel
theorem dX5_awaitedBehindDeed_1 : decode cX5_awaitedBehindDeed 1 = .ok (.invokestatic 31, 3) := by decide +kernel
theorem dX5_awaitedBehindDeed_4 : decode cX5_awaitedBehindDeed 4 = .ok (.ifCond .ne 9, 3) := by decide +kernel
theorem dX5_awaitedBehindDeed_7 : decode cX5_awaitedBehindDeed 7 = .ok (.iload_n 0, 1) := by decide +kernel
theorem dX5_awaitedBehindDeed_8 : decode cX5_awaitedBehindDeed 8 = .ok (.bipush 42, 2) := by decide +kernel
theorem dX5_awaitedBehindDeed_10 : decode cX5_awaitedBehindDeed 10 = .ok (.if_icmp .ne 5, 3) := by decide +kernel
theorem dX5_awaitedBehindDeed_13 : decode cX5_awaitedBehindDeed 13 = .ok (.iconst 0, 1) := by decide +kernel
theorem dX5_awaitedBehindDeed_14 : decode cX5_awaitedBehindDeed 14 = .ok (.ireturn, 1) := by decide +kernel
theorem dX5_awaitedBehindDeed_15 : decode cX5_awaitedBehindDeed 15 = .ok (.iload_n 0, 1) := by decide +kernel
theorem dX5_awaitedBehindDeed_16 : decode cX5_awaitedBehindDeed 16 = .ok (.bipush 33, 2) := by decide +kernel
theorem dX5_awaitedBehindDeed_18 : decode cX5_awaitedBehindDeed 18 = .ok (.if_icmp .ne 5, 3) := by decide +kernel
theorem dX5_awaitedBehindDeed_21 : decode cX5_awaitedBehindDeed 21 = .ok (.iconst 2, 1) := by decide +kernel
theorem dX5_awaitedBehindDeed_22 : decode cX5_awaitedBehindDeed 22 = .ok (.ireturn, 1) := by decide +kernel
theorem dX5_awaitedBehindDeed_23 : decode cX5_awaitedBehindDeed 23 = .ok (.iload_n 0, 1) := by decide +kernel
theorem dX5_awaitedBehindDeed_24 : decode cX5_awaitedBehindDeed 24 = .ok (.bipush 62, 2) := by decide +kernel
theorem dX5_awaitedBehindDeed_26 : decode cX5_awaitedBehindDeed 26 = .ok (.if_icmp .eq 15, 3) := by decide +kernel
theorem dX5_awaitedBehindDeed_29 : decode cX5_awaitedBehindDeed 29 = .ok (.iload_n 0, 1) := by decide +kernel
theorem dX5_awaitedBehindDeed_30 : decode cX5_awaitedBehindDeed 30 = .ok (.bipush 61, 2) := by decide +kernel
theorem dX5_awaitedBehindDeed_32 : decode cX5_awaitedBehindDeed 32 = .ok (.if_icmp .eq 9, 3) := by decide +kernel
theorem dX5_awaitedBehindDeed_35 : decode cX5_awaitedBehindDeed 35 = .ok (.iload_n 0, 1) := by decide +kernel
theorem dX5_awaitedBehindDeed_36 : decode cX5_awaitedBehindDeed 36 = .ok (.bipush 60, 2) := by decide +kernel
theorem dX5_awaitedBehindDeed_38 : decode cX5_awaitedBehindDeed 38 = .ok (.if_icmp .ne 7, 3) := by decide +kernel
theorem dX5_awaitedBehindDeed_41 : decode cX5_awaitedBehindDeed 41 = .ok (.iconst 3, 1) := by decide +kernel
theorem dX5_awaitedBehindDeed_42 : decode cX5_awaitedBehindDeed 42 = .ok (.goto 4, 3) := by decide +kernel
theorem dX5_awaitedBehindDeed_45 : decode cX5_awaitedBehindDeed 45 = .ok (.iconst (-1), 1) := by decide +kernel
theorem dX5_awaitedBehindDeed_46 : decode cX5_awaitedBehindDeed 46 = .ok (.ireturn, 1) := by decide +kernel
theorem dX5_isLetter_0 : decode cX5_isLetter 0 = .ok (.iload_n 0, 1) := by decide +kernel
theorem dX5_isLetter_1 : decode cX5_isLetter 1 = .ok (.bipush 65, 2) := by decide +kernel
theorem dX5_isLetter_3 : decode cX5_isLetter 3 = .ok (.bipush 70, 2) := by decide +kernel
theorem dX5_isLetter_5 : decode cX5_isLetter 5 = .ok (.invokestatic 34, 3) := by decide +kernel
theorem dX5_isLetter_8 : decode cX5_isLetter 8 = .ok (.ireturn, 1) := by decide +kernel
theorem dX5_isDigit_0 : decode cX5_isDigit 0 = .ok (.iload_n 0, 1) := by decide +kernel
theorem dX5_isDigit_1 : decode cX5_isDigit 1 = .ok (.bipush 49, 2) := by decide +kernel
theorem dX5_isDigit_3 : decode cX5_isDigit 3 = .ok (.bipush 57, 2) := by decide +kernel
theorem dX5_isDigit_5 : decode cX5_isDigit 5 = .ok (.invokestatic 34, 3) := by decide +kernel
theorem dX5_isDigit_8 : decode cX5_isDigit 8 = .ok (.ireturn, 1) := by decide +kernel
theorem dX6_init_0 : decode cX6_init 0 = .ok (.aload_n 0, 1) := by decide +kernel
theorem dX6_init_1 : decode cX6_init 1 = .ok (.invokespecial 3, 3) := by decide +kernel
theorem dX6_init_4 : decode cX6_init 4 = .ok (.aload_n 0, 1) := by decide +kernel
theorem dX6_init_5 : decode cX6_init 5 = .ok (.bipush 90, 2) := by decide +kernel
theorem dX6_init_7 : decode cX6_init 7 = .ok (.newarray .long, 2) := by decide +kernel
theorem dX6_init_9 : decode cX6_init 9 = .ok (.putfield 11, 3) := by decide +kernel
theorem dX6_init_12 : decode cX6_init 12 = .ok (.aload_n 0, 1) := by decide +kernel
theorem dX6_init_13 : decode cX6_init 13 = .ok (.bipush 9, 2) := by decide +kernel
theorem dX6_init_15 : decode cX6_init 15 = .ok (.newarray .long, 2) := by decide +kernel
theorem dX6_init_17 : decode cX6_init 17 = .ok (.putfield 15, 3) := by decide +kernel
theorem dX6_init_20 : decode cX6_init 20 = .ok (.return_, 1) := by decide +kernel
