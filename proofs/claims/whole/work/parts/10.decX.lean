theorem dX0_init_0 : decode cX0_init 0 = .ok (.aload_n 0, 1) := by decide +kernel
theorem dX0_init_1 : decode cX0_init 1 = .ok (.invokespecial 1, 3) := by decide +kernel
theorem dX0_init_4 : decode cX0_init 4 = .ok (.aload_n 0, 1) := by decide +kernel
theorem dX0_init_5 : decode cX0_init 5 = .ok (.bipush 24, 2) := by decide +kernel
theorem dX0_init_7 : decode cX0_init 7 = .ok (.anewarray 9, 3) := by decide +kernel
theorem dX0_init_10 : decode cX0_init 10 = .ok (.putfield 11, 3) := by decide +kernel
theorem dX0_init_13 : decode cX0_init 13 = .ok (.iconst 0, 1) := by decide +kernel
theorem dX0_init_14 : decode cX0_init 14 = .ok (.istore_n 1, 1) := by decide +kernel
theorem dX0_init_15 : decode cX0_init 15 = .ok (.iload_n 1, 1) := by decide +kernel
theorem dX0_init_16 : decode cX0_init 16 = .ok (.bipush 24, 2) := by decide +kernel
theorem dX0_init_18 : decode cX0_init 18 = .ok (.if_icmp .ge 22, 3) := by decide +kernel
theorem dX0_init_21 : decode cX0_init 21 = .ok (.aload_n 0, 1) := by decide +kernel
theorem dX0_init_22 : decode cX0_init 22 = .ok (.getfield 11, 3) := by decide +kernel
theorem dX0_init_25 : decode cX0_init 25 = .ok (.iload_n 1, 1) := by decide +kernel
theorem dX0_init_26 : decode cX0_init 26 = .ok (.new 9, 3) := by decide +kernel
theorem dX0_init_29 : decode cX0_init 29 = .ok (.dup, 1) := by decide +kernel
theorem dX0_init_30 : decode cX0_init 30 = .ok (.invokespecial 15, 3) := by decide +kernel
theorem dX0_init_33 : decode cX0_init 33 = .ok (.aastore, 1) := by decide +kernel
theorem dX0_init_34 : decode cX0_init 34 = .ok (.iinc 1 1, 3) := by decide +kernel
theorem dX0_init_37 : decode cX0_init 37 = .ok (.goto (-22), 3) := by decide +kernel
theorem dX0_init_40 : decode cX0_init 40 = .ok (.return_, 1) := by decide +kernel
theorem dX0_keep_0 : decode cX0_keep 0 = .ok (.aload_n 0, 1) := by decide +kernel
theorem dX0_keep_1 : decode cX0_keep 1 = .ok (.getfield 11, 3) := by decide +kernel
theorem dX0_keep_4 : decode cX0_keep 4 = .ok (.aload_n 0, 1) := by decide +kernel
theorem dX0_keep_5 : decode cX0_keep 5 = .ok (.getfield 16, 3) := by decide +kernel
theorem dX0_keep_8 : decode cX0_keep 8 = .ok (.aaload, 1) := by decide +kernel
theorem dX0_keep_9 : decode cX0_keep 9 = .ok (.aload_n 1, 1) := by decide +kernel
theorem dX0_keep_10 : decode cX0_keep 10 = .ok (.invokevirtual 20, 3) := by decide +kernel
theorem dX0_keep_13 : decode cX0_keep 13 = .ok (.aload_n 0, 1) := by decide +kernel
theorem dX0_keep_14 : decode cX0_keep 14 = .ok (.aload_n 0, 1) := by decide +kernel
theorem dX0_keep_15 : decode cX0_keep 15 = .ok (.getfield 16, 3) := by decide +kernel
theorem dX0_keep_18 : decode cX0_keep 18 = .ok (.iconst 1, 1) := by decide +kernel
theorem dX0_keep_19 : decode cX0_keep 19 = .ok (.iadd, 1) := by decide +kernel
theorem dX0_keep_20 : decode cX0_keep 20 = .ok (.bipush 24, 2) := by decide +kernel
theorem dX0_keep_22 : decode cX0_keep 22 = .ok (.irem, 1) := by decide +kernel
theorem dX0_keep_23 : decode cX0_keep 23 = .ok (.putfield 16, 3) := by decide +kernel
theorem dX0_keep_26 : decode cX0_keep 26 = .ok (.aload_n 0, 1) := by decide +kernel
theorem dX0_keep_27 : decode cX0_keep 27 = .ok (.aload_n 0, 1) := by decide +kernel
theorem dX0_keep_28 : decode cX0_keep 28 = .ok (.getfield 24, 3) := by decide +kernel
theorem dX0_keep_31 : decode cX0_keep 31 = .ok (.iconst 1, 1) := by decide +kernel
theorem dX0_keep_32 : decode cX0_keep 32 = .ok (.iadd, 1) := by decide +kernel
theorem dX0_keep_33 : decode cX0_keep 33 = .ok (.bipush 24, 2) := by decide +kernel
theorem dX0_keep_35 : decode cX0_keep 35 = .ok (.invokestatic 27, 3) := by decide +kernel
theorem dX0_keep_38 : decode cX0_keep 38 = .ok (.putfield 24, 3) := by decide +kernel
theorem dX0_keep_41 : decode cX0_keep 41 = .ok (.return_, 1) := by decide +kernel
theorem dX0_takeBack_0 : decode cX0_takeBack 0 = .ok (.aload_n 0, 1) := by decide +kernel
theorem dX0_takeBack_1 : decode cX0_takeBack 1 = .ok (.aload_n 0, 1) := by decide +kernel
theorem dX0_takeBack_2 : decode cX0_takeBack 2 = .ok (.getfield 16, 3) := by decide +kernel
theorem dX0_takeBack_5 : decode cX0_takeBack 5 = .ok (.bipush 24, 2) := by decide +kernel
theorem dX0_takeBack_7 : decode cX0_takeBack 7 = .ok (.iadd, 1) := by decide +kernel
theorem dX0_takeBack_8 : decode cX0_takeBack 8 = .ok (.iconst 1, 1) := by decide +kernel
theorem dX0_takeBack_9 : decode cX0_takeBack 9 = .ok (.isub, 1) := by decide +kernel
theorem dX0_takeBack_10 : decode cX0_takeBack 10 = .ok (.bipush 24, 2) := by decide +kernel
theorem dX0_takeBack_12 : decode cX0_takeBack 12 = .ok (.irem, 1) := by decide +kernel
theorem dX0_takeBack_13 : decode cX0_takeBack 13 = .ok (.putfield 16, 3) := by decide +kernel
theorem dX0_takeBack_16 : decode cX0_takeBack 16 = .ok (.aload_n 0, 1) := by decide +kernel
theorem dX0_takeBack_17 : decode cX0_takeBack 17 = .ok (.dup, 1) := by decide +kernel
theorem dX0_takeBack_18 : decode cX0_takeBack 18 = .ok (.getfield 24, 3) := by decide +kernel
theorem dX0_takeBack_21 : decode cX0_takeBack 21 = .ok (.iconst 1, 1) := by decide +kernel
theorem dX0_takeBack_22 : decode cX0_takeBack 22 = .ok (.isub, 1) := by decide +kernel
theorem dX0_takeBack_23 : decode cX0_takeBack 23 = .ok (.putfield 24, 3) := by decide +kernel
theorem dX0_takeBack_26 : decode cX0_takeBack 26 = .ok (.aload_n 1, 1) := by decide +kernel
theorem dX0_takeBack_27 : decode cX0_takeBack 27 = .ok (.aload_n 0, 1) := by decide +kernel
theorem dX0_takeBack_28 : decode cX0_takeBack 28 = .ok (.getfield 11, 3) := by decide +kernel
theorem dX0_takeBack_31 : decode cX0_takeBack 31 = .ok (.aload_n 0, 1) := by decide +kernel
theorem dX0_takeBack_32 : decode cX0_takeBack 32 = .ok (.getfield 16, 3) := by decide +kernel
theorem dX0_takeBack_35 : decode cX0_takeBack 35 = .ok (.aaload, 1) := by decide +kernel
theorem dX0_takeBack_36 : decode cX0_takeBack 36 = .ok (.invokevirtual 20, 3) := by decide +kernel
theorem dX0_takeBack_39 : decode cX0_takeBack 39 = .ok (.return_, 1) := by decide +kernel
theorem dX0_forgetAll_0 : decode cX0_forgetAll 0 = .ok (.aload_n 0, 1) := by decide +kernel
theorem dX0_forgetAll_1 : decode cX0_forgetAll 1 = .ok (.iconst 0, 1) := by decide +kernel
theorem dX0_forgetAll_2 : decode cX0_forgetAll 2 = .ok (.putfield 24, 3) := by decide +kernel
theorem dX0_forgetAll_5 : decode cX0_forgetAll 5 = .ok (.return_, 1) := by decide +kernel
theorem dX1_init_0 : decode cX1_init 0 = .ok (.aload_n 0, 1) := by decide +kernel
theorem dX1_init_1 : decode cX1_init 1 = .ok (.invokespecial 1, 3) := by decide +kernel
theorem dX1_init_4 : decode cX1_init 4 = .ok (.aload_n 0, 1) := by decide +kernel
theorem dX1_init_5 : decode cX1_init 5 = .ok (.bipush 16, 2) := by decide +kernel
theorem dX1_init_7 : decode cX1_init 7 = .ok (.newarray .int, 2) := by decide +kernel
theorem dX1_init_9 : decode cX1_init 9 = .ok (.putfield 9, 3) := by decide +kernel
theorem dX1_init_12 : decode cX1_init 12 = .ok (.return_, 1) := by decide +kernel
theorem dX1_answer_0 : decode cX1_answer 0 = .ok (.aload_n 0, 1) := by decide +kernel
theorem dX1_answer_1 : decode cX1_answer 1 = .ok (.iconst 0, 1) := by decide +kernel
theorem dX1_answer_2 : decode cX1_answer 2 = .ok (.putfield 13, 3) := by decide +kernel
theorem dX1_answer_5 : decode cX1_answer 5 = .ok (.aload_n 0, 1) := by decide +kernel
theorem dX1_answer_6 : decode cX1_answer 6 = .ok (.aload_n 1, 1) := by decide +kernel
theorem dX1_answer_7 : decode cX1_answer 7 = .ok (.getfield 17, 3) := by decide +kernel
theorem dX1_answer_10 : decode cX1_answer 10 = .ok (.iload_n 2, 1) := by decide +kernel
theorem dX1_answer_11 : decode cX1_answer 11 = .ok (.iaload, 1) := by decide +kernel
theorem dX1_answer_12 : decode cX1_answer 12 = .ok (.putfield 22, 3) := by decide +kernel
theorem dX1_answer_15 : decode cX1_answer 15 = .ok (.aload_n 0, 1) := by decide +kernel
theorem dX1_answer_16 : decode cX1_answer 16 = .ok (.aload_n 1, 1) := by decide +kernel
theorem dX1_answer_17 : decode cX1_answer 17 = .ok (.getfield 25, 3) := by decide +kernel
theorem dX1_answer_20 : decode cX1_answer 20 = .ok (.iload_n 2, 1) := by decide +kernel
theorem dX1_answer_21 : decode cX1_answer 21 = .ok (.iaload, 1) := by decide +kernel
theorem dX1_answer_22 : decode cX1_answer 22 = .ok (.putfield 28, 3) := by decide +kernel
theorem dX1_answer_25 : decode cX1_answer 25 = .ok (.aload_n 0, 1) := by decide +kernel
theorem dX1_answer_26 : decode cX1_answer 26 = .ok (.aload_n 1, 1) := by decide +kernel
theorem dX1_answer_27 : decode cX1_answer 27 = .ok (.iload_n 2, 1) := by decide +kernel
theorem dX1_answer_28 : decode cX1_answer 28 = .ok (.invokevirtual 31, 3) := by decide +kernel
theorem dX1_answer_31 : decode cX1_answer 31 = .ok (.putfield 35, 3) := by decide +kernel
theorem dX1_answer_34 : decode cX1_answer 34 = .ok (.aload_n 0, 1) := by decide +kernel
theorem dX1_answer_35 : decode cX1_answer 35 = .ok (.iload_n 2, 1) := by decide +kernel
theorem dX1_answer_36 : decode cX1_answer 36 = .ok (.putfield 38, 3) := by decide +kernel
theorem dX1_answer_39 : decode cX1_answer 39 = .ok (.aload_n 0, 1) := by decide +kernel
theorem dX1_answer_40 : decode cX1_answer 40 = .ok (.iload_n 3, 1) := by decide +kernel
theorem dX1_answer_41 : decode cX1_answer 41 = .ok (.iconst 0, 1) := by decide +kernel
theorem dX1_answer_42 : decode cX1_answer 42 = .ok (.invokevirtual 41, 3) := by decide +kernel
theorem dX1_answer_45 : decode cX1_answer 45 = .ok (.ireturn, 1) := by decide +kernel
theorem dX1_asked_0 : decode cX1_asked 0 = .ok (.aload_n 0, 1) := by decide +kernel
theorem dX1_asked_1 : decode cX1_asked 1 = .ok (.getfield 22, 3) := by decide +kernel
theorem dX1_asked_4 : decode cX1_asked 4 = .ok (.istore_n 3, 1) := by decide +kernel
theorem dX1_asked_5 : decode cX1_asked 5 = .ok (.iconst 0, 1) := by decide +kernel
theorem dX1_asked_6 : decode cX1_asked 6 = .ok (.istore 4, 2) := by decide +kernel
theorem dX1_asked_8 : decode cX1_asked 8 = .ok (.iload 4, 2) := by decide +kernel
theorem dX1_asked_10 : decode cX1_asked 10 = .ok (.bipush 6, 2) := by decide +kernel
theorem dX1_asked_12 : decode cX1_asked 12 = .ok (.if_icmp .ge 46, 3) := by decide +kernel
theorem dX1_asked_15 : decode cX1_asked 15 = .ok (.iload_n 3, 1) := by decide +kernel
theorem dX1_asked_16 : decode cX1_asked 16 = .ok (.iconst (-1), 1) := by decide +kernel
theorem dX1_asked_17 : decode cX1_asked 17 = .ok (.if_icmp .eq 41, 3) := by decide +kernel
theorem dX1_asked_20 : decode cX1_asked 20 = .ok (.getstatic 47, 3) := by decide +kernel
theorem dX1_asked_23 : decode cX1_asked 23 = .ok (.bipush 6, 2) := by decide +kernel
theorem dX1_asked_25 : decode cX1_asked 25 = .ok (.iload_n 1, 1) := by decide +kernel
theorem dX1_asked_26 : decode cX1_asked 26 = .ok (.imul, 1) := by decide +kernel
theorem dX1_asked_27 : decode cX1_asked 27 = .ok (.iload_n 3, 1) := by decide +kernel
theorem dX1_asked_28 : decode cX1_asked 28 = .ok (.iadd, 1) := by decide +kernel
theorem dX1_asked_29 : decode cX1_asked 29 = .ok (.iaload, 1) := by decide +kernel
theorem dX1_asked_30 : decode cX1_asked 30 = .ok (.istore 5, 2) := by decide +kernel
theorem dX1_asked_32 : decode cX1_asked 32 = .ok (.iload 5, 2) := by decide +kernel
theorem dX1_asked_34 : decode cX1_asked 34 = .ok (.ifCond .eq 13, 3) := by decide +kernel
theorem dX1_asked_37 : decode cX1_asked 37 = .ok (.aload_n 0, 1) := by decide +kernel
theorem dX1_asked_38 : decode cX1_asked 38 = .ok (.iload 5, 2) := by decide +kernel
theorem dX1_asked_40 : decode cX1_asked 40 = .ok (.iload_n 2, 1) := by decide +kernel
theorem dX1_asked_41 : decode cX1_asked 41 = .ok (.iconst 1, 1) := by decide +kernel
theorem dX1_asked_42 : decode cX1_asked 42 = .ok (.iadd, 1) := by decide +kernel
theorem dX1_asked_43 : decode cX1_asked 43 = .ok (.invokevirtual 50, 3) := by decide +kernel
theorem dX1_asked_46 : decode cX1_asked 46 = .ok (.ireturn, 1) := by decide +kernel
theorem dX1_asked_47 : decode cX1_asked 47 = .ok (.iload_n 3, 1) := by decide +kernel
theorem dX1_asked_48 : decode cX1_asked 48 = .ok (.invokestatic 53, 3) := by decide +kernel
theorem dX1_asked_51 : decode cX1_asked 51 = .ok (.istore_n 3, 1) := by decide +kernel
theorem dX1_asked_52 : decode cX1_asked 52 = .ok (.iinc 4 1, 3) := by decide +kernel
theorem dX1_asked_55 : decode cX1_asked 55 = .ok (.goto (-47), 3) := by decide +kernel
theorem dX1_asked_58 : decode cX1_asked 58 = .ok (.iconst 0, 1) := by decide +kernel
theorem dX1_asked_59 : decode cX1_asked 59 = .ok (.ireturn, 1) := by decide +kernel
theorem dX1_given_0 : decode cX1_given 0 = .ok (.iload_n 2, 1) := by decide +kernel
theorem dX1_given_1 : decode cX1_given 1 = .ok (.bipush 30, 2) := by decide +kernel
theorem dX1_given_3 : decode cX1_given 3 = .ok (.if_icmp .le 5, 3) := by decide +kernel
theorem dX1_given_6 : decode cX1_given 6 = .ok (.iconst 0, 1) := by decide +kernel
theorem dX1_given_7 : decode cX1_given 7 = .ok (.ireturn, 1) := by decide +kernel
theorem dX1_given_8 : decode cX1_given 8 = .ok (.aload_n 0, 1) := by decide +kernel
theorem dX1_given_9 : decode cX1_given 9 = .ok (.iload_n 1, 1) := by decide +kernel
theorem dX1_given_10 : decode cX1_given 10 = .ok (.invokevirtual 56, 3) := by decide +kernel
theorem dX1_given_13 : decode cX1_given 13 = .ok (.iload_n 2, 1) := by decide +kernel
theorem dX1_given_14 : decode cX1_given 14 = .ok (.iconst 1, 1) := by decide +kernel
theorem dX1_given_15 : decode cX1_given 15 = .ok (.iadd, 1) := by decide +kernel
theorem dX1_given_16 : decode cX1_given 16 = .ok (.istore_n 3, 1) := by decide +kernel
theorem dX1_given_17 : decode cX1_given 17 = .ok (.iload_n 1, 1) := by decide +kernel
theorem dX1_given_18 : decode cX1_given 18 = .ok (.tableswitch 180 10 24 #[74, 79, 94, 104, 115, 180, 180, 180, 180, 180, 125, 130, 143, 155, 170], 74) := by decide +kernel
theorem dX1_given_92 : decode cX1_given 92 = .ok (.aload_n 0, 1) := by decide +kernel
theorem dX1_given_93 : decode cX1_given 93 = .ok (.getfield 28, 3) := by decide +kernel
theorem dX1_given_96 : decode cX1_given 96 = .ok (.ireturn, 1) := by decide +kernel
theorem dX1_given_97 : decode cX1_given 97 = .ok (.aload_n 0, 1) := by decide +kernel
theorem dX1_given_98 : decode cX1_given 98 = .ok (.bipush 10, 2) := by decide +kernel
theorem dX1_given_100 : decode cX1_given 100 = .ok (.iload_n 3, 1) := by decide +kernel
theorem dX1_given_101 : decode cX1_given 101 = .ok (.invokevirtual 50, 3) := by decide +kernel
theorem dX1_given_104 : decode cX1_given 104 = .ok (.aload_n 0, 1) := by decide +kernel
theorem dX1_given_105 : decode cX1_given 105 = .ok (.iconst 1, 1) := by decide +kernel
theorem dX1_given_106 : decode cX1_given 106 = .ok (.iload_n 3, 1) := by decide +kernel
theorem dX1_given_107 : decode cX1_given 107 = .ok (.invokevirtual 41, 3) := by decide +kernel
theorem dX1_given_110 : decode cX1_given 110 = .ok (.iadd, 1) := by decide +kernel
theorem dX1_given_111 : decode cX1_given 111 = .ok (.ireturn, 1) := by decide +kernel
theorem dX1_given_112 : decode cX1_given 112 = .ok (.iconst 0, 1) := by decide +kernel
theorem dX1_given_113 : decode cX1_given 113 = .ok (.aload_n 0, 1) := by decide +kernel
theorem dX1_given_114 : decode cX1_given 114 = .ok (.bipush 11, 2) := by decide +kernel
theorem dX1_given_116 : decode cX1_given 116 = .ok (.iload_n 3, 1) := by decide +kernel
theorem dX1_given_117 : decode cX1_given 117 = .ok (.invokevirtual 50, 3) := by decide +kernel
theorem dX1_given_120 : decode cX1_given 120 = .ok (.isub, 1) := by decide +kernel
theorem dX1_given_121 : decode cX1_given 121 = .ok (.ireturn, 1) := by decide +kernel
theorem dX1_given_122 : decode cX1_given 122 = .ok (.aload_n 0, 1) := by decide +kernel
theorem dX1_given_123 : decode cX1_given 123 = .ok (.bipush 10, 2) := by decide +kernel
theorem dX1_given_125 : decode cX1_given 125 = .ok (.iload_n 3, 1) := by decide +kernel
theorem dX1_given_126 : decode cX1_given 126 = .ok (.invokevirtual 50, 3) := by decide +kernel
theorem dX1_given_129 : decode cX1_given 129 = .ok (.bipush 100, 2) := by decide +kernel
theorem dX1_given_131 : decode cX1_given 131 = .ok (.isub, 1) := by decide +kernel
theorem dX1_given_132 : decode cX1_given 132 = .ok (.ireturn, 1) := by decide +kernel
theorem dX1_given_133 : decode cX1_given 133 = .ok (.aload_n 0, 1) := by decide +kernel
theorem dX1_given_134 : decode cX1_given 134 = .ok (.bipush 13, 2) := by decide +kernel
theorem dX1_given_136 : decode cX1_given 136 = .ok (.iload_n 3, 1) := by decide +kernel
theorem dX1_given_137 : decode cX1_given 137 = .ok (.invokevirtual 50, 3) := by decide +kernel
theorem dX1_given_140 : decode cX1_given 140 = .ok (.iconst 2, 1) := by decide +kernel
theorem dX1_given_141 : decode cX1_given 141 = .ok (.imul, 1) := by decide +kernel
theorem dX1_given_142 : decode cX1_given 142 = .ok (.ireturn, 1) := by decide +kernel
theorem dX1_given_143 : decode cX1_given 143 = .ok (.aload_n 0, 1) := by decide +kernel
theorem dX1_given_144 : decode cX1_given 144 = .ok (.getfield 38, 3) := by decide +kernel
theorem dX1_given_147 : decode cX1_given 147 = .ok (.ireturn, 1) := by decide +kernel
theorem dX1_given_148 : decode cX1_given 148 = .ok (.aload_n 0, 1) := by decide +kernel
theorem dX1_given_149 : decode cX1_given 149 = .ok (.bipush 20, 2) := by decide +kernel
theorem dX1_given_151 : decode cX1_given 151 = .ok (.iload_n 3, 1) := by decide +kernel
theorem dX1_given_152 : decode cX1_given 152 = .ok (.invokevirtual 50, 3) := by decide +kernel
theorem dX1_given_155 : decode cX1_given 155 = .ok (.aload_n 0, 1) := by decide +kernel
theorem dX1_given_156 : decode cX1_given 156 = .ok (.getfield 35, 3) := by decide +kernel
theorem dX1_given_159 : decode cX1_given 159 = .ok (.iadd, 1) := by decide +kernel
theorem dX1_given_160 : decode cX1_given 160 = .ok (.ireturn, 1) := by decide +kernel
theorem dX1_given_161 : decode cX1_given 161 = .ok (.aload_n 0, 1) := by decide +kernel
theorem dX1_given_162 : decode cX1_given 162 = .ok (.bipush 21, 2) := by decide +kernel
theorem dX1_given_164 : decode cX1_given 164 = .ok (.iload_n 3, 1) := by decide +kernel
theorem dX1_given_165 : decode cX1_given 165 = .ok (.invokevirtual 50, 3) := by decide +kernel
theorem dX1_given_168 : decode cX1_given 168 = .ok (.sipush 1000, 3) := by decide +kernel
theorem dX1_given_171 : decode cX1_given 171 = .ok (.isub, 1) := by decide +kernel
theorem dX1_given_172 : decode cX1_given 172 = .ok (.ireturn, 1) := by decide +kernel
theorem dX1_given_173 : decode cX1_given 173 = .ok (.aload_n 0, 1) := by decide +kernel
theorem dX1_given_174 : decode cX1_given 174 = .ok (.bipush 20, 2) := by decide +kernel
theorem dX1_given_176 : decode cX1_given 176 = .ok (.iload_n 3, 1) := by decide +kernel
theorem dX1_given_177 : decode cX1_given 177 = .ok (.invokevirtual 50, 3) := by decide +kernel
theorem dX1_given_180 : decode cX1_given 180 = .ok (.aload_n 0, 1) := by decide +kernel
theorem dX1_given_181 : decode cX1_given 181 = .ok (.iconst 0, 1) := by decide +kernel
theorem dX1_given_182 : decode cX1_given 182 = .ok (.iload_n 3, 1) := by decide +kernel
theorem dX1_given_183 : decode cX1_given 183 = .ok (.invokevirtual 41, 3) := by decide +kernel
theorem dX1_given_186 : decode cX1_given 186 = .ok (.isub, 1) := by decide +kernel
theorem dX1_given_187 : decode cX1_given 187 = .ok (.ireturn, 1) := by decide +kernel
theorem dX1_given_188 : decode cX1_given 188 = .ok (.aload_n 0, 1) := by decide +kernel
theorem dX1_given_189 : decode cX1_given 189 = .ok (.bipush 21, 2) := by decide +kernel
theorem dX1_given_191 : decode cX1_given 191 = .ok (.iload_n 3, 1) := by decide +kernel
theorem dX1_given_192 : decode cX1_given 192 = .ok (.invokevirtual 50, 3) := by decide +kernel
theorem dX1_given_195 : decode cX1_given 195 = .ok (.iconst 2, 1) := by decide +kernel
theorem dX1_given_196 : decode cX1_given 196 = .ok (.imul, 1) := by decide +kernel
theorem dX1_given_197 : decode cX1_given 197 = .ok (.ireturn, 1) := by decide +kernel
theorem dX1_given_198 : decode cX1_given 198 = .ok (.iconst 0, 1) := by decide +kernel
theorem dX1_given_199 : decode cX1_given 199 = .ok (.ireturn, 1) := by decide +kernel
theorem dX1_leave_0 : decode cX1_leave 0 = .ok (.aload_n 0, 1) := by decide +kernel
theorem dX1_leave_1 : decode cX1_leave 1 = .ok (.getfield 13, 3) := by decide +kernel
theorem dX1_leave_4 : decode cX1_leave 4 = .ok (.bipush 16, 2) := by decide +kernel
theorem dX1_leave_6 : decode cX1_leave 6 = .ok (.if_icmp .ge 23, 3) := by decide +kernel
theorem dX1_leave_9 : decode cX1_leave 9 = .ok (.aload_n 0, 1) := by decide +kernel
theorem dX1_leave_10 : decode cX1_leave 10 = .ok (.getfield 9, 3) := by decide +kernel
theorem dX1_leave_13 : decode cX1_leave 13 = .ok (.aload_n 0, 1) := by decide +kernel
theorem dX1_leave_14 : decode cX1_leave 14 = .ok (.getfield 13, 3) := by decide +kernel
theorem dX1_leave_17 : decode cX1_leave 17 = .ok (.iload_n 1, 1) := by decide +kernel
theorem dX1_leave_18 : decode cX1_leave 18 = .ok (.iastore, 1) := by decide +kernel
theorem dX1_leave_19 : decode cX1_leave 19 = .ok (.aload_n 0, 1) := by decide +kernel
theorem dX1_leave_20 : decode cX1_leave 20 = .ok (.dup, 1) := by decide +kernel
theorem dX1_leave_21 : decode cX1_leave 21 = .ok (.getfield 13, 3) := by decide +kernel
theorem dX1_leave_24 : decode cX1_leave 24 = .ok (.iconst 1, 1) := by decide +kernel
theorem dX1_leave_25 : decode cX1_leave 25 = .ok (.iadd, 1) := by decide +kernel
theorem dX1_leave_26 : decode cX1_leave 26 = .ok (.putfield 13, 3) := by decide +kernel
theorem dX1_leave_29 : decode cX1_leave 29 = .ok (.return_, 1) := by decide +kernel
theorem dX2_init_0 : decode cX2_init 0 = .ok (.aload_n 0, 1) := by decide +kernel
theorem dX2_init_1 : decode cX2_init 1 = .ok (.invokespecial 1, 3) := by decide +kernel
theorem dX2_init_4 : decode cX2_init 4 = .ok (.aload_n 0, 1) := by decide +kernel
theorem dX2_init_5 : decode cX2_init 5 = .ok (.bipush 20, 2) := by decide +kernel
theorem dX2_init_7 : decode cX2_init 7 = .ok (.newarray .int, 2) := by decide +kernel
theorem dX2_init_9 : decode cX2_init 9 = .ok (.putfield 9, 3) := by decide +kernel
theorem dX2_init_12 : decode cX2_init 12 = .ok (.aload_n 0, 1) := by decide +kernel
theorem dX2_init_13 : decode cX2_init 13 = .ok (.bipush 20, 2) := by decide +kernel
theorem dX2_init_15 : decode cX2_init 15 = .ok (.newarray .int, 2) := by decide +kernel
theorem dX2_init_17 : decode cX2_init 17 = .ok (.putfield 13, 3) := by decide +kernel
theorem dX2_init_20 : decode cX2_init 20 = .ok (.aload_n 0, 1) := by decide +kernel
theorem dX2_init_21 : decode cX2_init 21 = .ok (.iconst 3, 1) := by decide +kernel
theorem dX2_init_22 : decode cX2_init 22 = .ok (.newarray .int, 2) := by decide +kernel
theorem dX2_init_24 : decode cX2_init 24 = .ok (.putfield 16, 3) := by decide +kernel
theorem dX2_init_27 : decode cX2_init 27 = .ok (.aload_n 0, 1) := by decide +kernel
theorem dX2_init_28 : decode cX2_init 28 = .ok (.bipush 6, 2) := by decide +kernel
theorem dX2_init_30 : decode cX2_init 30 = .ok (.newarray .int, 2) := by decide +kernel
theorem dX2_init_32 : decode cX2_init 32 = .ok (.putfield 19, 3) := by decide +kernel
theorem dX2_init_35 : decode cX2_init 35 = .ok (.return_, 1) := by decide +kernel
theorem dX2_become_0 : decode cX2_become 0 = .ok (.aload_n 0, 1) := by decide +kernel
theorem dX2_become_1 : decode cX2_become 1 = .ok (.aload_n 1, 1) := by decide +kernel
theorem dX2_become_2 : decode cX2_become 2 = .ok (.getfield 22, 3) := by decide +kernel
theorem dX2_become_5 : decode cX2_become 5 = .ok (.putfield 22, 3) := by decide +kernel
theorem dX2_become_8 : decode cX2_become 8 = .ok (.aload_n 0, 1) := by decide +kernel
theorem dX2_become_9 : decode cX2_become 9 = .ok (.aload_n 1, 1) := by decide +kernel
theorem dX2_become_10 : decode cX2_become 10 = .ok (.getfield 26, 3) := by decide +kernel
theorem dX2_become_13 : decode cX2_become 13 = .ok (.putfield 26, 3) := by decide +kernel
theorem dX2_become_16 : decode cX2_become 16 = .ok (.aload_n 0, 1) := by decide +kernel
theorem dX2_become_17 : decode cX2_become 17 = .ok (.aload_n 1, 1) := by decide +kernel
theorem dX2_become_18 : decode cX2_become 18 = .ok (.getfield 29, 3) := by decide +kernel
theorem dX2_become_21 : decode cX2_become 21 = .ok (.putfield 29, 3) := by decide +kernel
theorem dX2_become_24 : decode cX2_become 24 = .ok (.aload_n 0, 1) := by decide +kernel
theorem dX2_become_25 : decode cX2_become 25 = .ok (.aload_n 1, 1) := by decide +kernel
theorem dX2_become_26 : decode cX2_become 26 = .ok (.getfield 32, 3) := by decide +kernel
theorem dX2_become_29 : decode cX2_become 29 = .ok (.putfield 32, 3) := by decide +kernel
theorem dX2_become_32 : decode cX2_become 32 = .ok (.aload_n 0, 1) := by decide +kernel
theorem dX2_become_33 : decode cX2_become 33 = .ok (.aload_n 1, 1) := by decide +kernel
theorem dX2_become_34 : decode cX2_become 34 = .ok (.getfield 35, 3) := by decide +kernel
theorem dX2_become_37 : decode cX2_become 37 = .ok (.putfield 35, 3) := by decide +kernel
theorem dX2_become_40 : decode cX2_become 40 = .ok (.aload_n 1, 1) := by decide +kernel
theorem dX2_become_41 : decode cX2_become 41 = .ok (.getfield 9, 3) := by decide +kernel
theorem dX2_become_44 : decode cX2_become 44 = .ok (.iconst 0, 1) := by decide +kernel
theorem dX2_become_45 : decode cX2_become 45 = .ok (.aload_n 0, 1) := by decide +kernel
theorem dX2_become_46 : decode cX2_become 46 = .ok (.getfield 9, 3) := by decide +kernel
theorem dX2_become_49 : decode cX2_become 49 = .ok (.iconst 0, 1) := by decide +kernel
theorem dX2_become_50 : decode cX2_become 50 = .ok (.bipush 20, 2) := by decide +kernel
theorem dX2_become_52 : decode cX2_become 52 = .ok (.invokestatic 38, 3) := by decide +kernel
theorem dX2_become_55 : decode cX2_become 55 = .ok (.aload_n 1, 1) := by decide +kernel
theorem dX2_become_56 : decode cX2_become 56 = .ok (.getfield 13, 3) := by decide +kernel
theorem dX2_become_59 : decode cX2_become 59 = .ok (.iconst 0, 1) := by decide +kernel
theorem dX2_become_60 : decode cX2_become 60 = .ok (.aload_n 0, 1) := by decide +kernel
theorem dX2_become_61 : decode cX2_become 61 = .ok (.getfield 13, 3) := by decide +kernel
theorem dX2_become_64 : decode cX2_become 64 = .ok (.iconst 0, 1) := by decide +kernel
theorem dX2_become_65 : decode cX2_become 65 = .ok (.bipush 20, 2) := by decide +kernel
theorem dX2_become_67 : decode cX2_become 67 = .ok (.invokestatic 38, 3) := by decide +kernel
theorem dX2_become_70 : decode cX2_become 70 = .ok (.aload_n 1, 1) := by decide +kernel
theorem dX2_become_71 : decode cX2_become 71 = .ok (.getfield 16, 3) := by decide +kernel
theorem dX2_become_74 : decode cX2_become 74 = .ok (.iconst 0, 1) := by decide +kernel
theorem dX2_become_75 : decode cX2_become 75 = .ok (.aload_n 0, 1) := by decide +kernel
theorem dX2_become_76 : decode cX2_become 76 = .ok (.getfield 16, 3) := by decide +kernel
theorem dX2_become_79 : decode cX2_become 79 = .ok (.iconst 0, 1) := by decide +kernel
theorem dX2_become_80 : decode cX2_become 80 = .ok (.iconst 3, 1) := by decide +kernel
theorem dX2_become_81 : decode cX2_become 81 = .ok (.invokestatic 38, 3) := by decide +kernel
theorem dX2_become_84 : decode cX2_become 84 = .ok (.aload_n 1, 1) := by decide +kernel
theorem dX2_become_85 : decode cX2_become 85 = .ok (.getfield 19, 3) := by decide +kernel
theorem dX2_become_88 : decode cX2_become 88 = .ok (.iconst 0, 1) := by decide +kernel
theorem dX2_become_89 : decode cX2_become 89 = .ok (.aload_n 0, 1) := by decide +kernel
theorem dX2_become_90 : decode cX2_become 90 = .ok (.getfield 19, 3) := by decide +kernel
theorem dX2_become_93 : decode cX2_become 93 = .ok (.iconst 0, 1) := by decide +kernel
theorem dX2_become_94 : decode cX2_become 94 = .ok (.bipush 6, 2) := by decide +kernel
theorem dX2_become_96 : decode cX2_become 96 = .ok (.invokestatic 38, 3) := by decide +kernel
theorem dX2_become_99 : decode cX2_become 99 = .ok (.return_, 1) := by decide +kernel
theorem dX2_swellOf_0 : decode cX2_swellOf 0 = .ok (.aload_n 0, 1) := by decide +kernel
theorem dX2_swellOf_1 : decode cX2_swellOf 1 = .ok (.getfield 29, 3) := by decide +kernel
theorem dX2_swellOf_4 : decode cX2_swellOf 4 = .ok (.ifCond .le 16, 3) := by decide +kernel
theorem dX2_swellOf_7 : decode cX2_swellOf 7 = .ok (.iload_n 1, 1) := by decide +kernel
theorem dX2_swellOf_8 : decode cX2_swellOf 8 = .ok (.ifCond .lt 12, 3) := by decide +kernel
theorem dX2_swellOf_11 : decode cX2_swellOf 11 = .ok (.iload_n 1, 1) := by decide +kernel
theorem dX2_swellOf_12 : decode cX2_swellOf 12 = .ok (.aload_n 0, 1) := by decide +kernel
theorem dX2_swellOf_13 : decode cX2_swellOf 13 = .ok (.getfield 29, 3) := by decide +kernel
theorem dX2_swellOf_16 : decode cX2_swellOf 16 = .ok (.irem, 1) := by decide +kernel
theorem dX2_swellOf_17 : decode cX2_swellOf 17 = .ok (.goto 4, 3) := by decide +kernel
theorem dX2_swellOf_20 : decode cX2_swellOf 20 = .ok (.iconst 0, 1) := by decide +kernel
theorem dX2_swellOf_21 : decode cX2_swellOf 21 = .ok (.ireturn, 1) := by decide +kernel
theorem dX2_kindIn_0 : decode cX2_kindIn 0 = .ok (.aload_n 0, 1) := by decide +kernel
theorem dX2_kindIn_1 : decode cX2_kindIn 1 = .ok (.getfield 9, 3) := by decide +kernel
theorem dX2_kindIn_4 : decode cX2_kindIn 4 = .ok (.aload_n 0, 1) := by decide +kernel
theorem dX2_kindIn_5 : decode cX2_kindIn 5 = .ok (.iload_n 1, 1) := by decide +kernel
theorem dX2_kindIn_6 : decode cX2_kindIn 6 = .ok (.invokevirtual 44, 3) := by decide +kernel
theorem dX2_kindIn_9 : decode cX2_kindIn 9 = .ok (.iaload, 1) := by decide +kernel
theorem dX2_kindIn_10 : decode cX2_kindIn 10 = .ok (.ireturn, 1) := by decide +kernel
theorem dX2_stepOf_0 : decode cX2_stepOf 0 = .ok (.aload_n 0, 1) := by decide +kernel
theorem dX2_stepOf_1 : decode cX2_stepOf 1 = .ok (.getfield 16, 3) := by decide +kernel
theorem dX2_stepOf_4 : decode cX2_stepOf 4 = .ok (.iload_n 1, 1) := by decide +kernel
theorem dX2_stepOf_5 : decode cX2_stepOf 5 = .ok (.iaload, 1) := by decide +kernel
theorem dX2_stepOf_6 : decode cX2_stepOf 6 = .ok (.iload_n 2, 1) := by decide +kernel
theorem dX2_stepOf_7 : decode cX2_stepOf 7 = .ok (.invokestatic 48, 3) := by decide +kernel
theorem dX2_stepOf_10 : decode cX2_stepOf 10 = .ok (.ireturn, 1) := by decide +kernel
theorem dX2_liftOf_0 : decode cX2_liftOf 0 = .ok (.iload_n 0, 1) := by decide +kernel
theorem dX2_liftOf_1 : decode cX2_liftOf 1 = .ok (.tableswitch 49 2 5 #[31, 35, 39, 41], 31) := by decide +kernel
theorem dX2_liftOf_32 : decode cX2_liftOf 32 = .ok (.iload_n 1, 1) := by decide +kernel
theorem dX2_liftOf_33 : decode cX2_liftOf 33 = .ok (.iconst 2, 1) := by decide +kernel
theorem dX2_liftOf_34 : decode cX2_liftOf 34 = .ok (.idiv, 1) := by decide +kernel
theorem dX2_liftOf_35 : decode cX2_liftOf 35 = .ok (.ireturn, 1) := by decide +kernel
theorem dX2_liftOf_36 : decode cX2_liftOf 36 = .ok (.iload_n 1, 1) := by decide +kernel
theorem dX2_liftOf_37 : decode cX2_liftOf 37 = .ok (.iconst 2, 1) := by decide +kernel
theorem dX2_liftOf_38 : decode cX2_liftOf 38 = .ok (.imul, 1) := by decide +kernel
theorem dX2_liftOf_39 : decode cX2_liftOf 39 = .ok (.ireturn, 1) := by decide +kernel
theorem dX2_liftOf_40 : decode cX2_liftOf 40 = .ok (.iconst 0, 1) := by decide +kernel
theorem dX2_liftOf_41 : decode cX2_liftOf 41 = .ok (.ireturn, 1) := by decide +kernel
theorem dX2_liftOf_42 : decode cX2_liftOf 42 = .ok (.iconst 0, 1) := by decide +kernel
theorem dX2_liftOf_43 : decode cX2_liftOf 43 = .ok (.iload_n 1, 1) := by decide +kernel
theorem dX2_liftOf_44 : decode cX2_liftOf 44 = .ok (.iconst 5, 1) := by decide +kernel
theorem dX2_liftOf_45 : decode cX2_liftOf 45 = .ok (.isub, 1) := by decide +kernel
theorem dX2_liftOf_46 : decode cX2_liftOf 46 = .ok (.invokestatic 54, 3) := by decide +kernel
theorem dX2_liftOf_49 : decode cX2_liftOf 49 = .ok (.ireturn, 1) := by decide +kernel
theorem dX2_liftOf_50 : decode cX2_liftOf 50 = .ok (.iload_n 1, 1) := by decide +kernel
theorem dX2_liftOf_51 : decode cX2_liftOf 51 = .ok (.ireturn, 1) := by decide +kernel
theorem dX2_liftOfSwell_0 : decode cX2_liftOfSwell 0 = .ok (.aload_n 0, 1) := by decide +kernel
theorem dX2_liftOfSwell_1 : decode cX2_liftOfSwell 1 = .ok (.getfield 9, 3) := by decide +kernel
theorem dX2_liftOfSwell_4 : decode cX2_liftOfSwell 4 = .ok (.iload_n 1, 1) := by decide +kernel
theorem dX2_liftOfSwell_5 : decode cX2_liftOfSwell 5 = .ok (.iaload, 1) := by decide +kernel
theorem dX2_liftOfSwell_6 : decode cX2_liftOfSwell 6 = .ok (.aload_n 0, 1) := by decide +kernel
theorem dX2_liftOfSwell_7 : decode cX2_liftOfSwell 7 = .ok (.getfield 13, 3) := by decide +kernel
theorem dX2_liftOfSwell_10 : decode cX2_liftOfSwell 10 = .ok (.iload_n 1, 1) := by decide +kernel
theorem dX2_liftOfSwell_11 : decode cX2_liftOfSwell 11 = .ok (.iaload, 1) := by decide +kernel
theorem dX2_liftOfSwell_12 : decode cX2_liftOfSwell 12 = .ok (.invokestatic 59, 3) := by decide +kernel
theorem dX2_liftOfSwell_15 : decode cX2_liftOfSwell 15 = .ok (.ireturn, 1) := by decide +kernel
theorem dX2_depthIn_0 : decode cX2_depthIn 0 = .ok (.iconst 0, 1) := by decide +kernel
theorem dX2_depthIn_1 : decode cX2_depthIn 1 = .ok (.aload_n 0, 1) := by decide +kernel
theorem dX2_depthIn_2 : decode cX2_depthIn 2 = .ok (.getfield 22, 3) := by decide +kernel
theorem dX2_depthIn_5 : decode cX2_depthIn 5 = .ok (.aload_n 0, 1) := by decide +kernel
theorem dX2_depthIn_6 : decode cX2_depthIn 6 = .ok (.getfield 26, 3) := by decide +kernel
theorem dX2_depthIn_9 : decode cX2_depthIn 9 = .ok (.iload_n 1, 1) := by decide +kernel
theorem dX2_depthIn_10 : decode cX2_depthIn 10 = .ok (.imul, 1) := by decide +kernel
theorem dX2_depthIn_11 : decode cX2_depthIn 11 = .ok (.bipush 10, 2) := by decide +kernel
theorem dX2_depthIn_13 : decode cX2_depthIn 13 = .ok (.idiv, 1) := by decide +kernel
theorem dX2_depthIn_14 : decode cX2_depthIn 14 = .ok (.isub, 1) := by decide +kernel
theorem dX2_depthIn_15 : decode cX2_depthIn 15 = .ok (.invokestatic 54, 3) := by decide +kernel
theorem dX2_depthIn_18 : decode cX2_depthIn 18 = .ok (.ireturn, 1) := by decide +kernel
theorem dX2_waterIn_0 : decode cX2_waterIn 0 = .ok (.aload_n 0, 1) := by decide +kernel
theorem dX2_waterIn_1 : decode cX2_waterIn 1 = .ok (.iload_n 1, 1) := by decide +kernel
theorem dX2_waterIn_2 : decode cX2_waterIn 2 = .ok (.invokevirtual 62, 3) := by decide +kernel
theorem dX2_waterIn_5 : decode cX2_waterIn 5 = .ok (.aload_n 0, 1) := by decide +kernel
theorem dX2_waterIn_6 : decode cX2_waterIn 6 = .ok (.aload_n 0, 1) := by decide +kernel
theorem dX2_waterIn_7 : decode cX2_waterIn 7 = .ok (.iload_n 1, 1) := by decide +kernel
theorem dX2_waterIn_8 : decode cX2_waterIn 8 = .ok (.invokevirtual 44, 3) := by decide +kernel
theorem dX2_waterIn_11 : decode cX2_waterIn 11 = .ok (.invokevirtual 65, 3) := by decide +kernel
theorem dX2_waterIn_14 : decode cX2_waterIn 14 = .ok (.iadd, 1) := by decide +kernel
theorem dX2_waterIn_15 : decode cX2_waterIn 15 = .ok (.ireturn, 1) := by decide +kernel
theorem dX3_init_0 : decode cX3_init 0 = .ok (.aload_n 0, 1) := by decide +kernel
theorem dX3_init_1 : decode cX3_init 1 = .ok (.invokespecial 1, 3) := by decide +kernel
theorem dX3_init_4 : decode cX3_init 4 = .ok (.aload_n 0, 1) := by decide +kernel
theorem dX3_init_5 : decode cX3_init 5 = .ok (.new 7, 3) := by decide +kernel
theorem dX3_init_8 : decode cX3_init 8 = .ok (.dup, 1) := by decide +kernel
theorem dX3_init_9 : decode cX3_init 9 = .ok (.invokespecial 9, 3) := by decide +kernel
theorem dX3_init_12 : decode cX3_init 12 = .ok (.putfield 10, 3) := by decide +kernel
theorem dX3_init_15 : decode cX3_init 15 = .ok (.aload_n 0, 1) := by decide +kernel
theorem dX3_init_16 : decode cX3_init 16 = .ok (.new 16, 3) := by decide +kernel
theorem dX3_init_19 : decode cX3_init 19 = .ok (.dup, 1) := by decide +kernel
theorem dX3_init_20 : decode cX3_init 20 = .ok (.invokespecial 18, 3) := by decide +kernel
theorem dX3_init_23 : decode cX3_init 23 = .ok (.putfield 19, 3) := by decide +kernel
theorem dX3_init_26 : decode cX3_init 26 = .ok (.return_, 1) := by decide +kernel
theorem dX3_keep_0 : decode cX3_keep 0 = .ok (.aload_n 0, 1) := by decide +kernel
theorem dX3_keep_1 : decode cX3_keep 1 = .ok (.getfield 10, 3) := by decide +kernel
theorem dX3_keep_4 : decode cX3_keep 4 = .ok (.aload_n 1, 1) := by decide +kernel
theorem dX3_keep_5 : decode cX3_keep 5 = .ok (.invokevirtual 23, 3) := by decide +kernel
theorem dX3_keep_8 : decode cX3_keep 8 = .ok (.aload_n 0, 1) := by decide +kernel
theorem dX3_keep_9 : decode cX3_keep 9 = .ok (.getfield 19, 3) := by decide +kernel
theorem dX3_keep_12 : decode cX3_keep 12 = .ok (.aload_n 2, 1) := by decide +kernel
theorem dX3_keep_13 : decode cX3_keep 13 = .ok (.invokevirtual 27, 3) := by decide +kernel
theorem dX3_keep_16 : decode cX3_keep 16 = .ok (.aload_n 0, 1) := by decide +kernel
theorem dX3_keep_17 : decode cX3_keep 17 = .ok (.iconst 1, 1) := by decide +kernel
theorem dX3_keep_18 : decode cX3_keep 18 = .ok (.putfield 30, 3) := by decide +kernel
theorem dX3_keep_21 : decode cX3_keep 21 = .ok (.return_, 1) := by decide +kernel
theorem dX4_next_0 : decode cX4_next 0 = .ok (.iload_n 0, 1) := by decide +kernel
theorem dX4_next_1 : decode cX4_next 1 = .ok (.ifCond .lt 19, 3) := by decide +kernel
theorem dX4_next_4 : decode cX4_next 4 = .ok (.iload_n 0, 1) := by decide +kernel
theorem dX4_next_5 : decode cX4_next 5 = .ok (.getstatic 7, 3) := by decide +kernel
theorem dX4_next_8 : decode cX4_next 8 = .ok (.arraylength, 1) := by decide +kernel
theorem dX4_next_9 : decode cX4_next 9 = .ok (.if_icmp .ge 11, 3) := by decide +kernel
theorem dX4_next_12 : decode cX4_next 12 = .ok (.getstatic 7, 3) := by decide +kernel
theorem dX4_next_15 : decode cX4_next 15 = .ok (.iload_n 0, 1) := by decide +kernel
theorem dX4_next_16 : decode cX4_next 16 = .ok (.iaload, 1) := by decide +kernel
theorem dX4_next_17 : decode cX4_next 17 = .ok (.goto 4, 3) := by decide +kernel
theorem dX4_next_20 : decode cX4_next 20 = .ok (.iconst (-1), 1) := by decide +kernel
theorem dX4_next_21 : decode cX4_next 21 = .ok (.ireturn, 1) := by decide +kernel
theorem dX4_isA_0 : decode cX4_isA 0 = .ok (.iload_n 0, 1) := by decide +kernel
theorem dX4_isA_1 : decode cX4_isA 1 = .ok (.istore_n 2, 1) := by decide +kernel
theorem dX4_isA_2 : decode cX4_isA 2 = .ok (.iconst 0, 1) := by decide +kernel
theorem dX4_isA_3 : decode cX4_isA 3 = .ok (.istore_n 3, 1) := by decide +kernel
theorem dX4_isA_4 : decode cX4_isA 4 = .ok (.iload_n 3, 1) := by decide +kernel
theorem dX4_isA_5 : decode cX4_isA 5 = .ok (.getstatic 7, 3) := by decide +kernel
theorem dX4_isA_8 : decode cX4_isA 8 = .ok (.arraylength, 1) := by decide +kernel
theorem dX4_isA_9 : decode cX4_isA 9 = .ok (.if_icmp .ge 26, 3) := by decide +kernel
theorem dX4_isA_12 : decode cX4_isA 12 = .ok (.iload_n 2, 1) := by decide +kernel
theorem dX4_isA_13 : decode cX4_isA 13 = .ok (.iconst (-1), 1) := by decide +kernel
theorem dX4_isA_14 : decode cX4_isA 14 = .ok (.if_icmp .eq 21, 3) := by decide +kernel
theorem dX4_isA_17 : decode cX4_isA 17 = .ok (.iload_n 2, 1) := by decide +kernel
theorem dX4_isA_18 : decode cX4_isA 18 = .ok (.iload_n 1, 1) := by decide +kernel
theorem dX4_isA_19 : decode cX4_isA 19 = .ok (.if_icmp .ne 5, 3) := by decide +kernel
theorem dX4_isA_22 : decode cX4_isA 22 = .ok (.iconst 1, 1) := by decide +kernel
theorem dX4_isA_23 : decode cX4_isA 23 = .ok (.ireturn, 1) := by decide +kernel
theorem dX4_isA_24 : decode cX4_isA 24 = .ok (.iload_n 2, 1) := by decide +kernel
theorem dX4_isA_25 : decode cX4_isA 25 = .ok (.invokestatic 13, 3) := by decide +kernel
theorem dX4_isA_28 : decode cX4_isA 28 = .ok (.istore_n 2, 1) := by decide +kernel
theorem dX4_isA_29 : decode cX4_isA 29 = .ok (.iinc 3 1, 3) := by decide +kernel
theorem dX4_isA_32 : decode cX4_isA 32 = .ok (.goto (-28), 3) := by decide +kernel
theorem dX4_isA_35 : decode cX4_isA 35 = .ok (.iconst 0, 1) := by decide +kernel
theorem dX4_isA_36 : decode cX4_isA 36 = .ok (.ireturn, 1) := by decide +kernel
theorem dX4_stepOf_0 : decode cX4_stepOf 0 = .ok (.iload_n 1, 1) := by decide +kernel
theorem dX4_stepOf_1 : decode cX4_stepOf 1 = .ok (.tableswitch 49 2 5 #[31, 49, 37, 43], 31) := by decide +kernel
theorem dX4_stepOf_32 : decode cX4_stepOf 32 = .ok (.iconst 1, 1) := by decide +kernel
theorem dX4_stepOf_33 : decode cX4_stepOf 33 = .ok (.iload_n 0, 1) := by decide +kernel
theorem dX4_stepOf_34 : decode cX4_stepOf 34 = .ok (.iconst 1, 1) := by decide +kernel
theorem dX4_stepOf_35 : decode cX4_stepOf 35 = .ok (.iand, 1) := by decide +kernel
theorem dX4_stepOf_36 : decode cX4_stepOf 36 = .ok (.iadd, 1) := by decide +kernel
theorem dX4_stepOf_37 : decode cX4_stepOf 37 = .ok (.ireturn, 1) := by decide +kernel
theorem dX4_stepOf_38 : decode cX4_stepOf 38 = .ok (.iload_n 0, 1) := by decide +kernel
theorem dX4_stepOf_39 : decode cX4_stepOf 39 = .ok (.iconst 1, 1) := by decide +kernel
theorem dX4_stepOf_40 : decode cX4_stepOf 40 = .ok (.ishr, 1) := by decide +kernel
theorem dX4_stepOf_41 : decode cX4_stepOf 41 = .ok (.iconst 1, 1) := by decide +kernel
theorem dX4_stepOf_42 : decode cX4_stepOf 42 = .ok (.iand, 1) := by decide +kernel
theorem dX4_stepOf_43 : decode cX4_stepOf 43 = .ok (.ireturn, 1) := by decide +kernel
theorem dX4_stepOf_44 : decode cX4_stepOf 44 = .ok (.iload_n 0, 1) := by decide +kernel
theorem dX4_stepOf_45 : decode cX4_stepOf 45 = .ok (.iconst 2, 1) := by decide +kernel
theorem dX4_stepOf_46 : decode cX4_stepOf 46 = .ok (.ishr, 1) := by decide +kernel
theorem dX4_stepOf_47 : decode cX4_stepOf 47 = .ok (.iconst 1, 1) := by decide +kernel
theorem dX4_stepOf_48 : decode cX4_stepOf 48 = .ok (.iand, 1) := by decide +kernel
theorem dX4_stepOf_49 : decode cX4_stepOf 49 = .ok (.ireturn, 1) := by decide +kernel
theorem dX4_stepOf_50 : decode cX4_stepOf 50 = .ok (.iconst 1, 1) := by decide +kernel
theorem dX4_stepOf_51 : decode cX4_stepOf 51 = .ok (.ireturn, 1) := by decide +kernel
theorem dX4_toldBy_0 : decode cX4_toldBy 0 = .ok (.iload_n 0, 1) := by decide +kernel
theorem dX4_toldBy_1 : decode cX4_toldBy 1 = .ok (.lookupswitch 61 #[(100, 55), (108, 57), (109, 59), (112, 51), (115, 53)], 51) := by decide +kernel
theorem dX4_toldBy_52 : decode cX4_toldBy 52 = .ok (.iconst 1, 1) := by decide +kernel
theorem dX4_toldBy_53 : decode cX4_toldBy 53 = .ok (.ireturn, 1) := by decide +kernel
theorem dX4_toldBy_54 : decode cX4_toldBy 54 = .ok (.iconst 2, 1) := by decide +kernel
theorem dX4_toldBy_55 : decode cX4_toldBy 55 = .ok (.ireturn, 1) := by decide +kernel
theorem dX4_toldBy_56 : decode cX4_toldBy 56 = .ok (.iconst 3, 1) := by decide +kernel
theorem dX4_toldBy_57 : decode cX4_toldBy 57 = .ok (.ireturn, 1) := by decide +kernel
theorem dX4_toldBy_58 : decode cX4_toldBy 58 = .ok (.iconst 4, 1) := by decide +kernel
theorem dX4_toldBy_59 : decode cX4_toldBy 59 = .ok (.ireturn, 1) := by decide +kernel
theorem dX4_toldBy_60 : decode cX4_toldBy 60 = .ok (.iconst 5, 1) := by decide +kernel
theorem dX4_toldBy_61 : decode cX4_toldBy 61 = .ok (.ireturn, 1) := by decide +kernel
theorem dX4_toldBy_62 : decode cX4_toldBy 62 = .ok (.iconst (-1), 1) := by decide +kernel
theorem dX4_toldBy_63 : decode cX4_toldBy 63 = .ok (.ireturn, 1) := by decide +kernel
theorem dX5_init_0 : decode cX5_init 0 = .ok (.aload_n 0, 1) := by decide +kernel
theorem dX5_init_1 : decode cX5_init 1 = .ok (.invokespecial 1, 3) := by decide +kernel
theorem dX5_init_4 : decode cX5_init 4 = .ok (.aload_n 0, 1) := by decide +kernel
theorem dX5_init_5 : decode cX5_init 5 = .ok (.iconst 3, 1) := by decide +kernel
theorem dX5_init_6 : decode cX5_init 6 = .ok (.bipush 6, 2) := by decide +kernel
theorem dX5_init_8 : decode cX5_init 8 = .ok (.multianewarray 9 2, 4) := by decide +kernel
theorem dX5_init_12 : decode cX5_init 12 = .ok (.putfield 11, 3) := by decide +kernel
theorem dX5_init_15 : decode cX5_init 15 = .ok (.aload_n 0, 1) := by decide +kernel
theorem dX5_init_16 : decode cX5_init 16 = .ok (.iconst 3, 1) := by decide +kernel
theorem dX5_init_17 : decode cX5_init 17 = .ok (.newarray .int, 2) := by decide +kernel
theorem dX5_init_19 : decode cX5_init 19 = .ok (.putfield 16, 3) := by decide +kernel
theorem dX5_init_22 : decode cX5_init 22 = .ok (.aload_n 0, 1) := by decide +kernel
theorem dX5_init_23 : decode cX5_init 23 = .ok (.iconst 3, 1) := by decide +kernel
theorem dX5_init_24 : decode cX5_init 24 = .ok (.newarray .int, 2) := by decide +kernel
theorem dX5_init_26 : decode cX5_init 26 = .ok (.putfield 20, 3) := by decide +kernel
theorem dX5_init_29 : decode cX5_init 29 = .ok (.aload_n 0, 1) := by decide +kernel
theorem dX5_init_30 : decode cX5_init 30 = .ok (.bipush 6, 2) := by decide +kernel
theorem dX5_init_32 : decode cX5_init 32 = .ok (.newarray .int, 2) := by decide +kernel
theorem dX5_init_34 : decode cX5_init 34 = .ok (.putfield 23, 3) := by decide +kernel
theorem dX5_init_37 : decode cX5_init 37 = .ok (.aload_n 0, 1) := by decide +kernel
theorem dX5_init_38 : decode cX5_init 38 = .ok (.bipush 6, 2) := by decide +kernel
theorem dX5_init_40 : decode cX5_init 40 = .ok (.newarray .int, 2) := by decide +kernel
theorem dX5_init_42 : decode cX5_init 42 = .ok (.putfield 26, 3) := by decide +kernel
theorem dX5_init_45 : decode cX5_init 45 = .ok (.return_, 1) := by decide +kernel
theorem dX5_listen_0 : decode cX5_listen 0 = .ok (.iconst 0, 1) := by decide +kernel
theorem dX5_listen_1 : decode cX5_listen 1 = .ok (.istore 4, 2) := by decide +kernel
theorem dX5_listen_3 : decode cX5_listen 3 = .ok (.iload 4, 2) := by decide +kernel
theorem dX5_listen_5 : decode cX5_listen 5 = .ok (.aload_n 1, 1) := by decide +kernel
theorem dX5_listen_6 : decode cX5_listen 6 = .ok (.getfield 29, 3) := by decide +kernel
theorem dX5_listen_9 : decode cX5_listen 9 = .ok (.if_icmp .ge 128, 3) := by decide +kernel
theorem dX5_listen_12 : decode cX5_listen 12 = .ok (.aload_n 0, 1) := by decide +kernel
theorem dX5_listen_13 : decode cX5_listen 13 = .ok (.getfield 16, 3) := by decide +kernel
theorem dX5_listen_16 : decode cX5_listen 16 = .ok (.iload 4, 2) := by decide +kernel
theorem dX5_listen_18 : decode cX5_listen 18 = .ok (.iconst 0, 1) := by decide +kernel
theorem dX5_listen_19 : decode cX5_listen 19 = .ok (.iastore, 1) := by decide +kernel
theorem dX5_listen_20 : decode cX5_listen 20 = .ok (.aload_n 2, 1) := by decide +kernel
theorem dX5_listen_21 : decode cX5_listen 21 = .ok (.getfield 33, 3) := by decide +kernel
theorem dX5_listen_24 : decode cX5_listen 24 = .ok (.iload 4, 2) := by decide +kernel
theorem dX5_listen_26 : decode cX5_listen 26 = .ok (.iaload, 1) := by decide +kernel
theorem dX5_listen_27 : decode cX5_listen 27 = .ok (.istore 5, 2) := by decide +kernel
theorem dX5_listen_29 : decode cX5_listen 29 = .ok (.aload_n 2, 1) := by decide +kernel
theorem dX5_listen_30 : decode cX5_listen 30 = .ok (.getfield 38, 3) := by decide +kernel
theorem dX5_listen_33 : decode cX5_listen 33 = .ok (.istore 6, 2) := by decide +kernel
theorem dX5_listen_35 : decode cX5_listen 35 = .ok (.iload 6, 2) := by decide +kernel
theorem dX5_listen_37 : decode cX5_listen 37 = .ok (.aload_n 2, 1) := by decide +kernel
theorem dX5_listen_38 : decode cX5_listen 38 = .ok (.getfield 38, 3) := by decide +kernel
theorem dX5_listen_41 : decode cX5_listen 41 = .ok (.iload_n 3, 1) := by decide +kernel
theorem dX5_listen_42 : decode cX5_listen 42 = .ok (.iadd, 1) := by decide +kernel
theorem dX5_listen_43 : decode cX5_listen 43 = .ok (.if_icmp .ge 88, 3) := by decide +kernel
theorem dX5_listen_46 : decode cX5_listen 46 = .ok (.aload_n 1, 1) := by decide +kernel
theorem dX5_listen_47 : decode cX5_listen 47 = .ok (.iload 4, 2) := by decide +kernel
theorem dX5_listen_49 : decode cX5_listen 49 = .ok (.aload_n 1, 1) := by decide +kernel
theorem dX5_listen_50 : decode cX5_listen 50 = .ok (.iload 6, 2) := by decide +kernel
theorem dX5_listen_52 : decode cX5_listen 52 = .ok (.invokevirtual 41, 3) := by decide +kernel
theorem dX5_listen_55 : decode cX5_listen 55 = .ok (.invokevirtual 45, 3) := by decide +kernel
theorem dX5_listen_58 : decode cX5_listen 58 = .ok (.istore 7, 2) := by decide +kernel
theorem dX5_listen_60 : decode cX5_listen 60 = .ok (.aload_n 0, 1) := by decide +kernel
theorem dX5_listen_61 : decode cX5_listen 61 = .ok (.getfield 16, 3) := by decide +kernel
theorem dX5_listen_64 : decode cX5_listen 64 = .ok (.iload 4, 2) := by decide +kernel
theorem dX5_listen_66 : decode cX5_listen 66 = .ok (.iaload, 1) := by decide +kernel
theorem dX5_listen_67 : decode cX5_listen 67 = .ok (.bipush 6, 2) := by decide +kernel
theorem dX5_listen_69 : decode cX5_listen 69 = .ok (.if_icmp .ge 49, 3) := by decide +kernel
theorem dX5_listen_72 : decode cX5_listen 72 = .ok (.iload 5, 2) := by decide +kernel
theorem dX5_listen_74 : decode cX5_listen 74 = .ok (.iload 7, 2) := by decide +kernel
theorem dX5_listen_76 : decode cX5_listen 76 = .ok (.aload_n 2, 1) := by decide +kernel
theorem dX5_listen_77 : decode cX5_listen 77 = .ok (.getfield 49, 3) := by decide +kernel
theorem dX5_listen_80 : decode cX5_listen 80 = .ok (.invokestatic 52, 3) := by decide +kernel
theorem dX5_listen_83 : decode cX5_listen 83 = .ok (.ifCond .eq 35, 3) := by decide +kernel
theorem dX5_listen_86 : decode cX5_listen 86 = .ok (.aload_n 0, 1) := by decide +kernel
theorem dX5_listen_87 : decode cX5_listen 87 = .ok (.getfield 11, 3) := by decide +kernel
theorem dX5_listen_90 : decode cX5_listen 90 = .ok (.iload 4, 2) := by decide +kernel
theorem dX5_listen_92 : decode cX5_listen 92 = .ok (.aaload, 1) := by decide +kernel
theorem dX5_listen_93 : decode cX5_listen 93 = .ok (.aload_n 0, 1) := by decide +kernel
theorem dX5_listen_94 : decode cX5_listen 94 = .ok (.getfield 16, 3) := by decide +kernel
theorem dX5_listen_97 : decode cX5_listen 97 = .ok (.iload 4, 2) := by decide +kernel
theorem dX5_listen_99 : decode cX5_listen 99 = .ok (.iaload, 1) := by decide +kernel
theorem dX5_listen_100 : decode cX5_listen 100 = .ok (.aload_n 1, 1) := by decide +kernel
theorem dX5_listen_101 : decode cX5_listen 101 = .ok (.iload 6, 2) := by decide +kernel
theorem dX5_listen_103 : decode cX5_listen 103 = .ok (.invokevirtual 58, 3) := by decide +kernel
theorem dX5_listen_106 : decode cX5_listen 106 = .ok (.iastore, 1) := by decide +kernel
theorem dX5_listen_107 : decode cX5_listen 107 = .ok (.aload_n 0, 1) := by decide +kernel
theorem dX5_listen_108 : decode cX5_listen 108 = .ok (.getfield 16, 3) := by decide +kernel
theorem dX5_listen_111 : decode cX5_listen 111 = .ok (.iload 4, 2) := by decide +kernel
theorem dX5_listen_113 : decode cX5_listen 113 = .ok (.dup2, 1) := by decide +kernel
theorem dX5_listen_114 : decode cX5_listen 114 = .ok (.iaload, 1) := by decide +kernel
theorem dX5_listen_115 : decode cX5_listen 115 = .ok (.iconst 1, 1) := by decide +kernel
theorem dX5_listen_116 : decode cX5_listen 116 = .ok (.iadd, 1) := by decide +kernel
theorem dX5_listen_117 : decode cX5_listen 117 = .ok (.iastore, 1) := by decide +kernel
theorem dX5_listen_118 : decode cX5_listen 118 = .ok (.iload 5, 2) := by decide +kernel
theorem dX5_listen_120 : decode cX5_listen 120 = .ok (.iload 7, 2) := by decide +kernel
theorem dX5_listen_122 : decode cX5_listen 122 = .ok (.iadd, 1) := by decide +kernel
theorem dX5_listen_123 : decode cX5_listen 123 = .ok (.istore 5, 2) := by decide +kernel
theorem dX5_listen_125 : decode cX5_listen 125 = .ok (.iinc 6 1, 3) := by decide +kernel
theorem dX5_listen_128 : decode cX5_listen 128 = .ok (.goto (-93), 3) := by decide +kernel
theorem dX5_listen_131 : decode cX5_listen 131 = .ok (.iinc 4 1, 3) := by decide +kernel
theorem dX5_listen_134 : decode cX5_listen 134 = .ok (.goto (-131), 3) := by decide +kernel
theorem dX5_listen_137 : decode cX5_listen 137 = .ok (.return_, 1) := by decide +kernel
theorem dX5_search_0 : decode cX5_search 0 = .ok (.aload_n 0, 1) := by decide +kernel
theorem dX5_search_1 : decode cX5_search 1 = .ok (.iconst (-1), 1) := by decide +kernel
theorem dX5_search_2 : decode cX5_search 2 = .ok (.putfield 61, 3) := by decide +kernel
theorem dX5_search_5 : decode cX5_search 5 = .ok (.iconst 0, 1) := by decide +kernel
theorem dX5_search_6 : decode cX5_search 6 = .ok (.istore_n 3, 1) := by decide +kernel
theorem dX5_search_7 : decode cX5_search 7 = .ok (.iload_n 3, 1) := by decide +kernel
theorem dX5_search_8 : decode cX5_search 8 = .ok (.aload_n 1, 1) := by decide +kernel
theorem dX5_search_9 : decode cX5_search 9 = .ok (.getfield 64, 3) := by decide +kernel
theorem dX5_search_12 : decode cX5_search 12 = .ok (.if_icmp .ge 16, 3) := by decide +kernel
theorem dX5_search_15 : decode cX5_search 15 = .ok (.aload_n 0, 1) := by decide +kernel
theorem dX5_search_16 : decode cX5_search 16 = .ok (.getfield 23, 3) := by decide +kernel
theorem dX5_search_19 : decode cX5_search 19 = .ok (.iload_n 3, 1) := by decide +kernel
theorem dX5_search_20 : decode cX5_search 20 = .ok (.iload_n 3, 1) := by decide +kernel
theorem dX5_search_21 : decode cX5_search 21 = .ok (.iastore, 1) := by decide +kernel
theorem dX5_search_22 : decode cX5_search 22 = .ok (.iinc 3 1, 3) := by decide +kernel
theorem dX5_search_25 : decode cX5_search 25 = .ok (.goto (-18), 3) := by decide +kernel
theorem dX5_search_28 : decode cX5_search 28 = .ok (.iconst 1, 1) := by decide +kernel
theorem dX5_search_29 : decode cX5_search 29 = .ok (.istore_n 3, 1) := by decide +kernel
theorem dX5_search_30 : decode cX5_search 30 = .ok (.iconst 0, 1) := by decide +kernel
theorem dX5_search_31 : decode cX5_search 31 = .ok (.istore 4, 2) := by decide +kernel
theorem dX5_search_33 : decode cX5_search 33 = .ok (.iload 4, 2) := by decide +kernel
theorem dX5_search_35 : decode cX5_search 35 = .ok (.sipush 720, 3) := by decide +kernel
theorem dX5_search_38 : decode cX5_search 38 = .ok (.if_icmp .ge 62, 3) := by decide +kernel
theorem dX5_search_41 : decode cX5_search 41 = .ok (.iload_n 3, 1) := by decide +kernel
theorem dX5_search_42 : decode cX5_search 42 = .ok (.ifCond .eq 58, 3) := by decide +kernel
theorem dX5_search_45 : decode cX5_search 45 = .ok (.aload_n 0, 1) := by decide +kernel
theorem dX5_search_46 : decode cX5_search 46 = .ok (.aload_n 1, 1) := by decide +kernel
theorem dX5_search_47 : decode cX5_search 47 = .ok (.aload_n 2, 1) := by decide +kernel
theorem dX5_search_48 : decode cX5_search 48 = .ok (.invokevirtual 67, 3) := by decide +kernel
theorem dX5_search_51 : decode cX5_search 51 = .ok (.istore 5, 2) := by decide +kernel
theorem dX5_search_53 : decode cX5_search 53 = .ok (.iload 5, 2) := by decide +kernel
theorem dX5_search_55 : decode cX5_search 55 = .ok (.aload_n 0, 1) := by decide +kernel
theorem dX5_search_56 : decode cX5_search 56 = .ok (.getfield 61, 3) := by decide +kernel
theorem dX5_search_59 : decode cX5_search 59 = .ok (.if_icmp .le 26, 3) := by decide +kernel
theorem dX5_search_62 : decode cX5_search 62 = .ok (.aload_n 0, 1) := by decide +kernel
theorem dX5_search_63 : decode cX5_search 63 = .ok (.iload 5, 2) := by decide +kernel
theorem dX5_search_65 : decode cX5_search 65 = .ok (.putfield 61, 3) := by decide +kernel
theorem dX5_search_68 : decode cX5_search 68 = .ok (.aload_n 0, 1) := by decide +kernel
theorem dX5_search_69 : decode cX5_search 69 = .ok (.getfield 23, 3) := by decide +kernel
theorem dX5_search_72 : decode cX5_search 72 = .ok (.iconst 0, 1) := by decide +kernel
theorem dX5_search_73 : decode cX5_search 73 = .ok (.aload_n 0, 1) := by decide +kernel
theorem dX5_search_74 : decode cX5_search 74 = .ok (.getfield 26, 3) := by decide +kernel
theorem dX5_search_77 : decode cX5_search 77 = .ok (.iconst 0, 1) := by decide +kernel
theorem dX5_search_78 : decode cX5_search 78 = .ok (.aload_n 1, 1) := by decide +kernel
theorem dX5_search_79 : decode cX5_search 79 = .ok (.getfield 64, 3) := by decide +kernel
theorem dX5_search_82 : decode cX5_search 82 = .ok (.invokestatic 71, 3) := by decide +kernel
theorem dX5_search_85 : decode cX5_search 85 = .ok (.aload_n 0, 1) := by decide +kernel
theorem dX5_search_86 : decode cX5_search 86 = .ok (.aload_n 1, 1) := by decide +kernel
theorem dX5_search_87 : decode cX5_search 87 = .ok (.getfield 64, 3) := by decide +kernel
theorem dX5_search_90 : decode cX5_search 90 = .ok (.invokevirtual 77, 3) := by decide +kernel
theorem dX5_search_93 : decode cX5_search 93 = .ok (.istore_n 3, 1) := by decide +kernel
theorem dX5_search_94 : decode cX5_search 94 = .ok (.iinc 4 1, 3) := by decide +kernel
theorem dX5_search_97 : decode cX5_search 97 = .ok (.goto (-64), 3) := by decide +kernel
theorem dX5_search_100 : decode cX5_search 100 = .ok (.return_, 1) := by decide +kernel
theorem dX5_howManyCross_0 : decode cX5_howManyCross 0 = .ok (.iconst 0, 1) := by decide +kernel
theorem dX5_howManyCross_1 : decode cX5_howManyCross 1 = .ok (.istore_n 3, 1) := by decide +kernel
theorem dX5_howManyCross_2 : decode cX5_howManyCross 2 = .ok (.iconst 0, 1) := by decide +kernel
theorem dX5_howManyCross_3 : decode cX5_howManyCross 3 = .ok (.istore 4, 2) := by decide +kernel
theorem dX5_howManyCross_5 : decode cX5_howManyCross 5 = .ok (.iload 4, 2) := by decide +kernel
theorem dX5_howManyCross_7 : decode cX5_howManyCross 7 = .ok (.aload_n 1, 1) := by decide +kernel
theorem dX5_howManyCross_8 : decode cX5_howManyCross 8 = .ok (.getfield 29, 3) := by decide +kernel
theorem dX5_howManyCross_11 : decode cX5_howManyCross 11 = .ok (.if_icmp .ge 17, 3) := by decide +kernel
theorem dX5_howManyCross_14 : decode cX5_howManyCross 14 = .ok (.aload_n 0, 1) := by decide +kernel
theorem dX5_howManyCross_15 : decode cX5_howManyCross 15 = .ok (.getfield 20, 3) := by decide +kernel
theorem dX5_howManyCross_18 : decode cX5_howManyCross 18 = .ok (.iload 4, 2) := by decide +kernel
theorem dX5_howManyCross_20 : decode cX5_howManyCross 20 = .ok (.iconst 0, 1) := by decide +kernel
theorem dX5_howManyCross_21 : decode cX5_howManyCross 21 = .ok (.iastore, 1) := by decide +kernel
theorem dX5_howManyCross_22 : decode cX5_howManyCross 22 = .ok (.iinc 4 1, 3) := by decide +kernel
theorem dX5_howManyCross_25 : decode cX5_howManyCross 25 = .ok (.goto (-20), 3) := by decide +kernel
theorem dX5_howManyCross_28 : decode cX5_howManyCross 28 = .ok (.iconst 0, 1) := by decide +kernel
theorem dX5_howManyCross_29 : decode cX5_howManyCross 29 = .ok (.istore 4, 2) := by decide +kernel
theorem dX5_howManyCross_31 : decode cX5_howManyCross 31 = .ok (.iload 4, 2) := by decide +kernel
theorem dX5_howManyCross_33 : decode cX5_howManyCross 33 = .ok (.aload_n 1, 1) := by decide +kernel
theorem dX5_howManyCross_34 : decode cX5_howManyCross 34 = .ok (.getfield 64, 3) := by decide +kernel
theorem dX5_howManyCross_37 : decode cX5_howManyCross 37 = .ok (.if_icmp .ge 97, 3) := by decide +kernel
theorem dX5_howManyCross_40 : decode cX5_howManyCross 40 = .ok (.aload_n 0, 1) := by decide +kernel
theorem dX5_howManyCross_41 : decode cX5_howManyCross 41 = .ok (.getfield 23, 3) := by decide +kernel
theorem dX5_howManyCross_44 : decode cX5_howManyCross 44 = .ok (.iload 4, 2) := by decide +kernel
theorem dX5_howManyCross_46 : decode cX5_howManyCross 46 = .ok (.iaload, 1) := by decide +kernel
theorem dX5_howManyCross_47 : decode cX5_howManyCross 47 = .ok (.istore 5, 2) := by decide +kernel
theorem dX5_howManyCross_49 : decode cX5_howManyCross 49 = .ok (.aload_n 2, 1) := by decide +kernel
theorem dX5_howManyCross_50 : decode cX5_howManyCross 50 = .ok (.getfield 81, 3) := by decide +kernel
theorem dX5_howManyCross_53 : decode cX5_howManyCross 53 = .ok (.iload 5, 2) := by decide +kernel
theorem dX5_howManyCross_55 : decode cX5_howManyCross 55 = .ok (.iaload, 1) := by decide +kernel
theorem dX5_howManyCross_56 : decode cX5_howManyCross 56 = .ok (.istore 6, 2) := by decide +kernel
theorem dX5_howManyCross_58 : decode cX5_howManyCross 58 = .ok (.aload_n 2, 1) := by decide +kernel
theorem dX5_howManyCross_59 : decode cX5_howManyCross 59 = .ok (.iload 5, 2) := by decide +kernel
theorem dX5_howManyCross_61 : decode cX5_howManyCross 61 = .ok (.invokevirtual 84, 3) := by decide +kernel
theorem dX5_howManyCross_64 : decode cX5_howManyCross 64 = .ok (.ifCond .eq 64, 3) := by decide +kernel
theorem dX5_howManyCross_67 : decode cX5_howManyCross 67 = .ok (.aload_n 0, 1) := by decide +kernel
theorem dX5_howManyCross_68 : decode cX5_howManyCross 68 = .ok (.getfield 20, 3) := by decide +kernel
theorem dX5_howManyCross_71 : decode cX5_howManyCross 71 = .ok (.iload 6, 2) := by decide +kernel
theorem dX5_howManyCross_73 : decode cX5_howManyCross 73 = .ok (.iaload, 1) := by decide +kernel
theorem dX5_howManyCross_74 : decode cX5_howManyCross 74 = .ok (.aload_n 0, 1) := by decide +kernel
theorem dX5_howManyCross_75 : decode cX5_howManyCross 75 = .ok (.getfield 16, 3) := by decide +kernel
theorem dX5_howManyCross_78 : decode cX5_howManyCross 78 = .ok (.iload 6, 2) := by decide +kernel
theorem dX5_howManyCross_80 : decode cX5_howManyCross 80 = .ok (.iaload, 1) := by decide +kernel
theorem dX5_howManyCross_81 : decode cX5_howManyCross 81 = .ok (.if_icmp .ge 47, 3) := by decide +kernel
theorem dX5_howManyCross_84 : decode cX5_howManyCross 84 = .ok (.iload_n 3, 1) := by decide +kernel
theorem dX5_howManyCross_85 : decode cX5_howManyCross 85 = .ok (.aload_n 0, 1) := by decide +kernel
theorem dX5_howManyCross_86 : decode cX5_howManyCross 86 = .ok (.getfield 11, 3) := by decide +kernel
theorem dX5_howManyCross_89 : decode cX5_howManyCross 89 = .ok (.iload 6, 2) := by decide +kernel
theorem dX5_howManyCross_91 : decode cX5_howManyCross 91 = .ok (.aaload, 1) := by decide +kernel
theorem dX5_howManyCross_92 : decode cX5_howManyCross 92 = .ok (.aload_n 0, 1) := by decide +kernel
theorem dX5_howManyCross_93 : decode cX5_howManyCross 93 = .ok (.getfield 20, 3) := by decide +kernel
theorem dX5_howManyCross_96 : decode cX5_howManyCross 96 = .ok (.iload 6, 2) := by decide +kernel
theorem dX5_howManyCross_98 : decode cX5_howManyCross 98 = .ok (.iaload, 1) := by decide +kernel
theorem dX5_howManyCross_99 : decode cX5_howManyCross 99 = .ok (.iaload, 1) := by decide +kernel
theorem dX5_howManyCross_100 : decode cX5_howManyCross 100 = .ok (.aload_n 1, 1) := by decide +kernel
theorem dX5_howManyCross_101 : decode cX5_howManyCross 101 = .ok (.getfield 87, 3) := by decide +kernel
theorem dX5_howManyCross_104 : decode cX5_howManyCross 104 = .ok (.iload 5, 2) := by decide +kernel
theorem dX5_howManyCross_106 : decode cX5_howManyCross 106 = .ok (.iaload, 1) := by decide +kernel
theorem dX5_howManyCross_107 : decode cX5_howManyCross 107 = .ok (.if_icmp .lt 7, 3) := by decide +kernel
theorem dX5_howManyCross_110 : decode cX5_howManyCross 110 = .ok (.iconst 1, 1) := by decide +kernel
theorem dX5_howManyCross_111 : decode cX5_howManyCross 111 = .ok (.goto 4, 3) := by decide +kernel
theorem dX5_howManyCross_114 : decode cX5_howManyCross 114 = .ok (.iconst 0, 1) := by decide +kernel
theorem dX5_howManyCross_115 : decode cX5_howManyCross 115 = .ok (.iadd, 1) := by decide +kernel
theorem dX5_howManyCross_116 : decode cX5_howManyCross 116 = .ok (.istore_n 3, 1) := by decide +kernel
theorem dX5_howManyCross_117 : decode cX5_howManyCross 117 = .ok (.aload_n 0, 1) := by decide +kernel
theorem dX5_howManyCross_118 : decode cX5_howManyCross 118 = .ok (.getfield 20, 3) := by decide +kernel
theorem dX5_howManyCross_121 : decode cX5_howManyCross 121 = .ok (.iload 6, 2) := by decide +kernel
theorem dX5_howManyCross_123 : decode cX5_howManyCross 123 = .ok (.dup2, 1) := by decide +kernel
theorem dX5_howManyCross_124 : decode cX5_howManyCross 124 = .ok (.iaload, 1) := by decide +kernel
theorem dX5_howManyCross_125 : decode cX5_howManyCross 125 = .ok (.iconst 1, 1) := by decide +kernel
theorem dX5_howManyCross_126 : decode cX5_howManyCross 126 = .ok (.iadd, 1) := by decide +kernel
theorem dX5_howManyCross_127 : decode cX5_howManyCross 127 = .ok (.iastore, 1) := by decide +kernel
theorem dX5_howManyCross_128 : decode cX5_howManyCross 128 = .ok (.iinc 4 1, 3) := by decide +kernel
theorem dX5_howManyCross_131 : decode cX5_howManyCross 131 = .ok (.goto (-100), 3) := by decide +kernel
theorem dX5_howManyCross_134 : decode cX5_howManyCross 134 = .ok (.iload_n 3, 1) := by decide +kernel
theorem dX5_howManyCross_135 : decode cX5_howManyCross 135 = .ok (.ireturn, 1) := by decide +kernel
theorem dX5_goOn_0 : decode cX5_goOn 0 = .ok (.iload_n 1, 1) := by decide +kernel
theorem dX5_goOn_1 : decode cX5_goOn 1 = .ok (.iconst 2, 1) := by decide +kernel
theorem dX5_goOn_2 : decode cX5_goOn 2 = .ok (.isub, 1) := by decide +kernel
theorem dX5_goOn_3 : decode cX5_goOn 3 = .ok (.istore_n 2, 1) := by decide +kernel
theorem dX5_goOn_4 : decode cX5_goOn 4 = .ok (.iload_n 2, 1) := by decide +kernel
theorem dX5_goOn_5 : decode cX5_goOn 5 = .ok (.ifCond .lt 26, 3) := by decide +kernel
theorem dX5_goOn_8 : decode cX5_goOn 8 = .ok (.aload_n 0, 1) := by decide +kernel
theorem dX5_goOn_9 : decode cX5_goOn 9 = .ok (.getfield 23, 3) := by decide +kernel
theorem dX5_goOn_12 : decode cX5_goOn 12 = .ok (.iload_n 2, 1) := by decide +kernel
theorem dX5_goOn_13 : decode cX5_goOn 13 = .ok (.iaload, 1) := by decide +kernel
theorem dX5_goOn_14 : decode cX5_goOn 14 = .ok (.aload_n 0, 1) := by decide +kernel
theorem dX5_goOn_15 : decode cX5_goOn 15 = .ok (.getfield 23, 3) := by decide +kernel
theorem dX5_goOn_18 : decode cX5_goOn 18 = .ok (.iload_n 2, 1) := by decide +kernel
theorem dX5_goOn_19 : decode cX5_goOn 19 = .ok (.iconst 1, 1) := by decide +kernel
theorem dX5_goOn_20 : decode cX5_goOn 20 = .ok (.iadd, 1) := by decide +kernel
theorem dX5_goOn_21 : decode cX5_goOn 21 = .ok (.iaload, 1) := by decide +kernel
theorem dX5_goOn_22 : decode cX5_goOn 22 = .ok (.if_icmp .le 9, 3) := by decide +kernel
theorem dX5_goOn_25 : decode cX5_goOn 25 = .ok (.iinc 2 (-1), 3) := by decide +kernel
theorem dX5_goOn_28 : decode cX5_goOn 28 = .ok (.goto (-24), 3) := by decide +kernel
theorem dX5_goOn_31 : decode cX5_goOn 31 = .ok (.iload_n 2, 1) := by decide +kernel
theorem dX5_goOn_32 : decode cX5_goOn 32 = .ok (.ifCond .ge 5, 3) := by decide +kernel
theorem dX5_goOn_35 : decode cX5_goOn 35 = .ok (.iconst 0, 1) := by decide +kernel
theorem dX5_goOn_36 : decode cX5_goOn 36 = .ok (.ireturn, 1) := by decide +kernel
theorem dX5_goOn_37 : decode cX5_goOn 37 = .ok (.iload_n 1, 1) := by decide +kernel
theorem dX5_goOn_38 : decode cX5_goOn 38 = .ok (.iconst 1, 1) := by decide +kernel
theorem dX5_goOn_39 : decode cX5_goOn 39 = .ok (.isub, 1) := by decide +kernel
theorem dX5_goOn_40 : decode cX5_goOn 40 = .ok (.istore_n 3, 1) := by decide +kernel
theorem dX5_goOn_41 : decode cX5_goOn 41 = .ok (.iload_n 3, 1) := by decide +kernel
theorem dX5_goOn_42 : decode cX5_goOn 42 = .ok (.iload_n 2, 1) := by decide +kernel
theorem dX5_goOn_43 : decode cX5_goOn 43 = .ok (.if_icmp .le 24, 3) := by decide +kernel
theorem dX5_goOn_46 : decode cX5_goOn 46 = .ok (.aload_n 0, 1) := by decide +kernel
theorem dX5_goOn_47 : decode cX5_goOn 47 = .ok (.getfield 23, 3) := by decide +kernel
theorem dX5_goOn_50 : decode cX5_goOn 50 = .ok (.iload_n 3, 1) := by decide +kernel
theorem dX5_goOn_51 : decode cX5_goOn 51 = .ok (.iaload, 1) := by decide +kernel
theorem dX5_goOn_52 : decode cX5_goOn 52 = .ok (.aload_n 0, 1) := by decide +kernel
theorem dX5_goOn_53 : decode cX5_goOn 53 = .ok (.getfield 23, 3) := by decide +kernel
theorem dX5_goOn_56 : decode cX5_goOn 56 = .ok (.iload_n 2, 1) := by decide +kernel
theorem dX5_goOn_57 : decode cX5_goOn 57 = .ok (.iaload, 1) := by decide +kernel
theorem dX5_goOn_58 : decode cX5_goOn 58 = .ok (.if_icmp .ge 9, 3) := by decide +kernel
theorem dX5_goOn_61 : decode cX5_goOn 61 = .ok (.iinc 3 (-1), 3) := by decide +kernel
theorem dX5_goOn_64 : decode cX5_goOn 64 = .ok (.goto (-23), 3) := by decide +kernel
theorem dX5_goOn_67 : decode cX5_goOn 67 = .ok (.aload_n 0, 1) := by decide +kernel
theorem dX5_goOn_68 : decode cX5_goOn 68 = .ok (.iload_n 2, 1) := by decide +kernel
theorem dX5_goOn_69 : decode cX5_goOn 69 = .ok (.iload_n 3, 1) := by decide +kernel
theorem dX5_goOn_70 : decode cX5_goOn 70 = .ok (.invokevirtual 90, 3) := by decide +kernel
theorem dX5_goOn_73 : decode cX5_goOn 73 = .ok (.iload_n 2, 1) := by decide +kernel
theorem dX5_goOn_74 : decode cX5_goOn 74 = .ok (.iconst 1, 1) := by decide +kernel
theorem dX5_goOn_75 : decode cX5_goOn 75 = .ok (.iadd, 1) := by decide +kernel
theorem dX5_goOn_76 : decode cX5_goOn 76 = .ok (.istore 4, 2) := by decide +kernel
theorem dX5_goOn_78 : decode cX5_goOn 78 = .ok (.iload_n 1, 1) := by decide +kernel
theorem dX5_goOn_79 : decode cX5_goOn 79 = .ok (.iconst 1, 1) := by decide +kernel
theorem dX5_goOn_80 : decode cX5_goOn 80 = .ok (.isub, 1) := by decide +kernel
theorem dX5_goOn_81 : decode cX5_goOn 81 = .ok (.istore 5, 2) := by decide +kernel
theorem dX5_goOn_83 : decode cX5_goOn 83 = .ok (.iload 4, 2) := by decide +kernel
theorem dX5_goOn_85 : decode cX5_goOn 85 = .ok (.iload 5, 2) := by decide +kernel
theorem dX5_goOn_87 : decode cX5_goOn 87 = .ok (.if_icmp .ge 20, 3) := by decide +kernel
theorem dX5_goOn_90 : decode cX5_goOn 90 = .ok (.aload_n 0, 1) := by decide +kernel
theorem dX5_goOn_91 : decode cX5_goOn 91 = .ok (.iload 4, 2) := by decide +kernel
theorem dX5_goOn_93 : decode cX5_goOn 93 = .ok (.iload 5, 2) := by decide +kernel
theorem dX5_goOn_95 : decode cX5_goOn 95 = .ok (.invokevirtual 90, 3) := by decide +kernel
theorem dX5_goOn_98 : decode cX5_goOn 98 = .ok (.iinc 4 1, 3) := by decide +kernel
theorem dX5_goOn_101 : decode cX5_goOn 101 = .ok (.iinc 5 (-1), 3) := by decide +kernel
theorem dX5_goOn_104 : decode cX5_goOn 104 = .ok (.goto (-21), 3) := by decide +kernel
theorem dX5_goOn_107 : decode cX5_goOn 107 = .ok (.iconst 1, 1) := by decide +kernel
theorem dX5_goOn_108 : decode cX5_goOn 108 = .ok (.ireturn, 1) := by decide +kernel
theorem dX5_swap_0 : decode cX5_swap 0 = .ok (.aload_n 0, 1) := by decide +kernel
theorem dX5_swap_1 : decode cX5_swap 1 = .ok (.getfield 23, 3) := by decide +kernel
theorem dX5_swap_4 : decode cX5_swap 4 = .ok (.iload_n 1, 1) := by decide +kernel
theorem dX5_swap_5 : decode cX5_swap 5 = .ok (.iaload, 1) := by decide +kernel
theorem dX5_swap_6 : decode cX5_swap 6 = .ok (.istore_n 3, 1) := by decide +kernel
theorem dX5_swap_7 : decode cX5_swap 7 = .ok (.aload_n 0, 1) := by decide +kernel
theorem dX5_swap_8 : decode cX5_swap 8 = .ok (.getfield 23, 3) := by decide +kernel
theorem dX5_swap_11 : decode cX5_swap 11 = .ok (.iload_n 1, 1) := by decide +kernel
theorem dX5_swap_12 : decode cX5_swap 12 = .ok (.aload_n 0, 1) := by decide +kernel
theorem dX5_swap_13 : decode cX5_swap 13 = .ok (.getfield 23, 3) := by decide +kernel
theorem dX5_swap_16 : decode cX5_swap 16 = .ok (.iload_n 2, 1) := by decide +kernel
theorem dX5_swap_17 : decode cX5_swap 17 = .ok (.iaload, 1) := by decide +kernel
theorem dX5_swap_18 : decode cX5_swap 18 = .ok (.iastore, 1) := by decide +kernel
theorem dX5_swap_19 : decode cX5_swap 19 = .ok (.aload_n 0, 1) := by decide +kernel
theorem dX5_swap_20 : decode cX5_swap 20 = .ok (.getfield 23, 3) := by decide +kernel
theorem dX5_swap_23 : decode cX5_swap 23 = .ok (.iload_n 2, 1) := by decide +kernel
theorem dX5_swap_24 : decode cX5_swap 24 = .ok (.iload_n 3, 1) := by decide +kernel
theorem dX5_swap_25 : decode cX5_swap 25 = .ok (.iastore, 1) := by decide +kernel
theorem dX5_swap_26 : decode cX5_swap 26 = .ok (.return_, 1) := by decide +kernel
theorem dX6_init_0 : decode cX6_init 0 = .ok (.aload_n 0, 1) := by decide +kernel
theorem dX6_init_1 : decode cX6_init 1 = .ok (.invokespecial 1, 3) := by decide +kernel
theorem dX6_init_4 : decode cX6_init 4 = .ok (.aload_n 0, 1) := by decide +kernel
theorem dX6_init_5 : decode cX6_init 5 = .ok (.sipush 160, 3) := by decide +kernel
theorem dX6_init_8 : decode cX6_init 8 = .ok (.newarray .int, 2) := by decide +kernel
theorem dX6_init_10 : decode cX6_init 10 = .ok (.putfield 9, 3) := by decide +kernel
theorem dX6_init_13 : decode cX6_init 13 = .ok (.return_, 1) := by decide +kernel
theorem dX6_isFull_0 : decode cX6_isFull 0 = .ok (.aload_n 0, 1) := by decide +kernel
theorem dX6_isFull_1 : decode cX6_isFull 1 = .ok (.getfield 13, 3) := by decide +kernel
theorem dX6_isFull_4 : decode cX6_isFull 4 = .ok (.sipush 160, 3) := by decide +kernel
theorem dX6_isFull_7 : decode cX6_isFull 7 = .ok (.if_icmp .lt 7, 3) := by decide +kernel
theorem dX6_isFull_10 : decode cX6_isFull 10 = .ok (.iconst 1, 1) := by decide +kernel
theorem dX6_isFull_11 : decode cX6_isFull 11 = .ok (.goto 4, 3) := by decide +kernel
theorem dX6_isFull_14 : decode cX6_isFull 14 = .ok (.iconst 0, 1) := by decide +kernel
theorem dX6_isFull_15 : decode cX6_isFull 15 = .ok (.ireturn, 1) := by decide +kernel
theorem dX6_append_0 : decode cX6_append 0 = .ok (.aload_n 0, 1) := by decide +kernel
theorem dX6_append_1 : decode cX6_append 1 = .ok (.invokevirtual 17, 3) := by decide +kernel
theorem dX6_append_4 : decode cX6_append 4 = .ok (.ifCond .ne 23, 3) := by decide +kernel
theorem dX6_append_7 : decode cX6_append 7 = .ok (.aload_n 0, 1) := by decide +kernel
theorem dX6_append_8 : decode cX6_append 8 = .ok (.getfield 9, 3) := by decide +kernel
theorem dX6_append_11 : decode cX6_append 11 = .ok (.aload_n 0, 1) := by decide +kernel
theorem dX6_append_12 : decode cX6_append 12 = .ok (.getfield 13, 3) := by decide +kernel
theorem dX6_append_15 : decode cX6_append 15 = .ok (.iload_n 1, 1) := by decide +kernel
theorem dX6_append_16 : decode cX6_append 16 = .ok (.iastore, 1) := by decide +kernel
theorem dX6_append_17 : decode cX6_append 17 = .ok (.aload_n 0, 1) := by decide +kernel
theorem dX6_append_18 : decode cX6_append 18 = .ok (.dup, 1) := by decide +kernel
theorem dX6_append_19 : decode cX6_append 19 = .ok (.getfield 13, 3) := by decide +kernel
theorem dX6_append_22 : decode cX6_append 22 = .ok (.iconst 1, 1) := by decide +kernel
theorem dX6_append_23 : decode cX6_append 23 = .ok (.iadd, 1) := by decide +kernel
theorem dX6_append_24 : decode cX6_append 24 = .ok (.putfield 13, 3) := by decide +kernel
theorem dX6_append_27 : decode cX6_append 27 = .ok (.aload_n 0, 1) := by decide +kernel
theorem dX6_append_28 : decode cX6_append 28 = .ok (.getfield 13, 3) := by decide +kernel
theorem dX6_append_31 : decode cX6_append 31 = .ok (.ireturn, 1) := by decide +kernel
theorem dX6_empty_0 : decode cX6_empty 0 = .ok (.aload_n 0, 1) := by decide +kernel
theorem dX6_empty_1 : decode cX6_empty 1 = .ok (.iconst 0, 1) := by decide +kernel
theorem dX6_empty_2 : decode cX6_empty 2 = .ok (.putfield 13, 3) := by decide +kernel
theorem dX6_empty_5 : decode cX6_empty 5 = .ok (.return_, 1) := by decide +kernel
theorem dX6_faultNumber_0 : decode cX6_faultNumber 0 = .ok (.aload_n 0, 1) := by decide +kernel
theorem dX6_faultNumber_1 : decode cX6_faultNumber 1 = .ok (.getfield 21, 3) := by decide +kernel
theorem dX6_faultNumber_4 : decode cX6_faultNumber 4 = .ok (.ireturn, 1) := by decide +kernel
theorem dX6_faultPlace_0 : decode cX6_faultPlace 0 = .ok (.aload_n 0, 1) := by decide +kernel
theorem dX6_faultPlace_1 : decode cX6_faultPlace 1 = .ok (.getfield 24, 3) := by decide +kernel
theorem dX6_faultPlace_4 : decode cX6_faultPlace 4 = .ok (.ireturn, 1) := by decide +kernel
theorem dX6_read_0 : decode cX6_read 0 = .ok (.aload_n 0, 1) := by decide +kernel
theorem dX6_read_1 : decode cX6_read 1 = .ok (.iconst 0, 1) := by decide +kernel
theorem dX6_read_2 : decode cX6_read 2 = .ok (.putfield 24, 3) := by decide +kernel
theorem dX6_read_5 : decode cX6_read 5 = .ok (.aload_n 0, 1) := by decide +kernel
theorem dX6_read_6 : decode cX6_read 6 = .ok (.iconst 0, 1) := by decide +kernel
theorem dX6_read_7 : decode cX6_read 7 = .ok (.putfield 21, 3) := by decide +kernel
theorem dX6_read_10 : decode cX6_read 10 = .ok (.aload_n 1, 1) := by decide +kernel
theorem dX6_read_11 : decode cX6_read 11 = .ok (.iconst 0, 1) := by decide +kernel
theorem dX6_read_12 : decode cX6_read 12 = .ok (.putfield 27, 3) := by decide +kernel
theorem dX6_read_15 : decode cX6_read 15 = .ok (.aload_n 1, 1) := by decide +kernel
theorem dX6_read_16 : decode cX6_read 16 = .ok (.iconst 0, 1) := by decide +kernel
theorem dX6_read_17 : decode cX6_read 17 = .ok (.putfield 32, 3) := by decide +kernel
theorem dX6_read_20 : decode cX6_read 20 = .ok (.aload_n 1, 1) := by decide +kernel
theorem dX6_read_21 : decode cX6_read 21 = .ok (.iconst 0, 1) := by decide +kernel
theorem dX6_read_22 : decode cX6_read 22 = .ok (.putfield 35, 3) := by decide +kernel
theorem dX6_read_25 : decode cX6_read 25 = .ok (.aload_n 2, 1) := by decide +kernel
theorem dX6_read_26 : decode cX6_read 26 = .ok (.invokevirtual 38, 3) := by decide +kernel
theorem dX6_read_29 : decode cX6_read 29 = .ok (.aload_n 0, 1) := by decide +kernel
theorem dX6_read_30 : decode cX6_read 30 = .ok (.aload_n 1, 1) := by decide +kernel
theorem dX6_read_31 : decode cX6_read 31 = .ok (.invokevirtual 43, 3) := by decide +kernel
theorem dX6_read_34 : decode cX6_read 34 = .ok (.ifCond .eq 40, 3) := by decide +kernel
theorem dX6_read_37 : decode cX6_read 37 = .ok (.aload_n 0, 1) := by decide +kernel
theorem dX6_read_38 : decode cX6_read 38 = .ok (.aload_n 1, 1) := by decide +kernel
theorem dX6_read_39 : decode cX6_read 39 = .ok (.invokevirtual 47, 3) := by decide +kernel
theorem dX6_read_42 : decode cX6_read 42 = .ok (.ifCond .eq 32, 3) := by decide +kernel
theorem dX6_read_45 : decode cX6_read 45 = .ok (.aload_n 0, 1) := by decide +kernel
theorem dX6_read_46 : decode cX6_read 46 = .ok (.aload_n 1, 1) := by decide +kernel
theorem dX6_read_47 : decode cX6_read 47 = .ok (.aload_n 2, 1) := by decide +kernel
theorem dX6_read_48 : decode cX6_read 48 = .ok (.invokevirtual 50, 3) := by decide +kernel
theorem dX6_read_51 : decode cX6_read 51 = .ok (.ifCond .eq 23, 3) := by decide +kernel
theorem dX6_read_54 : decode cX6_read 54 = .ok (.aload_n 0, 1) := by decide +kernel
theorem dX6_read_55 : decode cX6_read 55 = .ok (.aload_n 1, 1) := by decide +kernel
theorem dX6_read_56 : decode cX6_read 56 = .ok (.aload_n 2, 1) := by decide +kernel
theorem dX6_read_57 : decode cX6_read 57 = .ok (.invokevirtual 54, 3) := by decide +kernel
theorem dX6_read_60 : decode cX6_read 60 = .ok (.ifCond .eq 14, 3) := by decide +kernel
theorem dX6_read_63 : decode cX6_read 63 = .ok (.aload_n 0, 1) := by decide +kernel
theorem dX6_read_64 : decode cX6_read 64 = .ok (.invokevirtual 57, 3) := by decide +kernel
theorem dX6_read_67 : decode cX6_read 67 = .ok (.ifCond .eq 7, 3) := by decide +kernel
theorem dX6_read_70 : decode cX6_read 70 = .ok (.iconst 1, 1) := by decide +kernel
theorem dX6_read_71 : decode cX6_read 71 = .ok (.goto 4, 3) := by decide +kernel
theorem dX6_read_74 : decode cX6_read 74 = .ok (.iconst 0, 1) := by decide +kernel
theorem dX6_read_75 : decode cX6_read 75 = .ok (.ireturn, 1) := by decide +kernel
theorem dX6_readBar_0 : decode cX6_readBar 0 = .ok (.aload_n 0, 1) := by decide +kernel
theorem dX6_readBar_1 : decode cX6_readBar 1 = .ok (.bipush 98, 2) := by decide +kernel
theorem dX6_readBar_3 : decode cX6_readBar 3 = .ok (.invokevirtual 60, 3) := by decide +kernel
theorem dX6_readBar_6 : decode cX6_readBar 6 = .ok (.ifCond .eq 14, 3) := by decide +kernel
theorem dX6_readBar_9 : decode cX6_readBar 9 = .ok (.aload_n 0, 1) := by decide +kernel
theorem dX6_readBar_10 : decode cX6_readBar 10 = .ok (.bipush 60, 2) := by decide +kernel
theorem dX6_readBar_12 : decode cX6_readBar 12 = .ok (.bipush 9, 2) := by decide +kernel
theorem dX6_readBar_14 : decode cX6_readBar 14 = .ok (.invokevirtual 64, 3) := by decide +kernel
theorem dX6_readBar_17 : decode cX6_readBar 17 = .ok (.ifCond .ne 5, 3) := by decide +kernel
theorem dX6_readBar_20 : decode cX6_readBar 20 = .ok (.iconst 0, 1) := by decide +kernel
theorem dX6_readBar_21 : decode cX6_readBar 21 = .ok (.ireturn, 1) := by decide +kernel
theorem dX6_readBar_22 : decode cX6_readBar 22 = .ok (.aload_n 1, 1) := by decide +kernel
theorem dX6_readBar_23 : decode cX6_readBar 23 = .ok (.aload_n 0, 1) := by decide +kernel
theorem dX6_readBar_24 : decode cX6_readBar 24 = .ok (.getfield 68, 3) := by decide +kernel
theorem dX6_readBar_27 : decode cX6_readBar 27 = .ok (.putfield 71, 3) := by decide +kernel
theorem dX6_readBar_30 : decode cX6_readBar 30 = .ok (.aload_n 1, 1) := by decide +kernel
theorem dX6_readBar_31 : decode cX6_readBar 31 = .ok (.aload_n 0, 1) := by decide +kernel
theorem dX6_readBar_32 : decode cX6_readBar 32 = .ok (.getfield 74, 3) := by decide +kernel
theorem dX6_readBar_35 : decode cX6_readBar 35 = .ok (.putfield 77, 3) := by decide +kernel
theorem dX6_readBar_38 : decode cX6_readBar 38 = .ok (.iconst 1, 1) := by decide +kernel
theorem dX6_readBar_39 : decode cX6_readBar 39 = .ok (.ireturn, 1) := by decide +kernel
theorem dX6_readSwells_0 : decode cX6_readSwells 0 = .ok (.iconst 0, 1) := by decide +kernel
theorem dX6_readSwells_1 : decode cX6_readSwells 1 = .ok (.istore_n 2, 1) := by decide +kernel
theorem dX6_readSwells_2 : decode cX6_readSwells 2 = .ok (.iload_n 2, 1) := by decide +kernel
theorem dX6_readSwells_3 : decode cX6_readSwells 3 = .ok (.bipush 20, 2) := by decide +kernel
theorem dX6_readSwells_5 : decode cX6_readSwells 5 = .ok (.if_icmp .gt 93, 3) := by decide +kernel
theorem dX6_readSwells_8 : decode cX6_readSwells 8 = .ok (.aload_n 0, 1) := by decide +kernel
theorem dX6_readSwells_9 : decode cX6_readSwells 9 = .ok (.aload_n 0, 1) := by decide +kernel
theorem dX6_readSwells_10 : decode cX6_readSwells 10 = .ok (.getfield 24, 3) := by decide +kernel
theorem dX6_readSwells_13 : decode cX6_readSwells 13 = .ok (.invokevirtual 80, 3) := by decide +kernel
theorem dX6_readSwells_16 : decode cX6_readSwells 16 = .ok (.invokestatic 84, 3) := by decide +kernel
theorem dX6_readSwells_19 : decode cX6_readSwells 19 = .ok (.iconst (-1), 1) := by decide +kernel
theorem dX6_readSwells_20 : decode cX6_readSwells 20 = .ok (.if_icmp .eq 78, 3) := by decide +kernel
theorem dX6_readSwells_23 : decode cX6_readSwells 23 = .ok (.iload_n 2, 1) := by decide +kernel
theorem dX6_readSwells_24 : decode cX6_readSwells 24 = .ok (.bipush 20, 2) := by decide +kernel
theorem dX6_readSwells_26 : decode cX6_readSwells 26 = .ok (.if_icmp .ne 9, 3) := by decide +kernel
theorem dX6_readSwells_29 : decode cX6_readSwells 29 = .ok (.aload_n 0, 1) := by decide +kernel
theorem dX6_readSwells_30 : decode cX6_readSwells 30 = .ok (.iconst 3, 1) := by decide +kernel
theorem dX6_readSwells_31 : decode cX6_readSwells 31 = .ok (.invokevirtual 89, 3) := by decide +kernel
theorem dX6_readSwells_34 : decode cX6_readSwells 34 = .ok (.ireturn, 1) := by decide +kernel
theorem dX6_readSwells_35 : decode cX6_readSwells 35 = .ok (.aload_n 1, 1) := by decide +kernel
theorem dX6_readSwells_36 : decode cX6_readSwells 36 = .ok (.getfield 92, 3) := by decide +kernel
theorem dX6_readSwells_39 : decode cX6_readSwells 39 = .ok (.iload_n 2, 1) := by decide +kernel
theorem dX6_readSwells_40 : decode cX6_readSwells 40 = .ok (.aload_n 0, 1) := by decide +kernel
theorem dX6_readSwells_41 : decode cX6_readSwells 41 = .ok (.aload_n 0, 1) := by decide +kernel
theorem dX6_readSwells_42 : decode cX6_readSwells 42 = .ok (.getfield 24, 3) := by decide +kernel
theorem dX6_readSwells_45 : decode cX6_readSwells 45 = .ok (.invokevirtual 80, 3) := by decide +kernel
theorem dX6_readSwells_48 : decode cX6_readSwells 48 = .ok (.invokestatic 84, 3) := by decide +kernel
theorem dX6_readSwells_51 : decode cX6_readSwells 51 = .ok (.iastore, 1) := by decide +kernel
theorem dX6_readSwells_52 : decode cX6_readSwells 52 = .ok (.aload_n 0, 1) := by decide +kernel
theorem dX6_readSwells_53 : decode cX6_readSwells 53 = .ok (.dup, 1) := by decide +kernel
theorem dX6_readSwells_54 : decode cX6_readSwells 54 = .ok (.getfield 24, 3) := by decide +kernel
theorem dX6_readSwells_57 : decode cX6_readSwells 57 = .ok (.iconst 1, 1) := by decide +kernel
theorem dX6_readSwells_58 : decode cX6_readSwells 58 = .ok (.iadd, 1) := by decide +kernel
theorem dX6_readSwells_59 : decode cX6_readSwells 59 = .ok (.putfield 24, 3) := by decide +kernel
theorem dX6_readSwells_62 : decode cX6_readSwells 62 = .ok (.aload_n 1, 1) := by decide +kernel
theorem dX6_readSwells_63 : decode cX6_readSwells 63 = .ok (.getfield 95, 3) := by decide +kernel
theorem dX6_readSwells_66 : decode cX6_readSwells 66 = .ok (.iload_n 2, 1) := by decide +kernel
theorem dX6_readSwells_67 : decode cX6_readSwells 67 = .ok (.aload_n 0, 1) := by decide +kernel
theorem dX6_readSwells_68 : decode cX6_readSwells 68 = .ok (.bipush 30, 2) := by decide +kernel
theorem dX6_readSwells_70 : decode cX6_readSwells 70 = .ok (.invokevirtual 98, 3) := by decide +kernel
theorem dX6_readSwells_73 : decode cX6_readSwells 73 = .ok (.iastore, 1) := by decide +kernel
theorem dX6_readSwells_74 : decode cX6_readSwells 74 = .ok (.aload_n 0, 1) := by decide +kernel
theorem dX6_readSwells_75 : decode cX6_readSwells 75 = .ok (.bipush 59, 2) := by decide +kernel
theorem dX6_readSwells_77 : decode cX6_readSwells 77 = .ok (.invokevirtual 60, 3) := by decide +kernel
theorem dX6_readSwells_80 : decode cX6_readSwells 80 = .ok (.ifCond .ne 5, 3) := by decide +kernel
theorem dX6_readSwells_83 : decode cX6_readSwells 83 = .ok (.iconst 0, 1) := by decide +kernel
theorem dX6_readSwells_84 : decode cX6_readSwells 84 = .ok (.ireturn, 1) := by decide +kernel
theorem dX6_readSwells_85 : decode cX6_readSwells 85 = .ok (.aload_n 1, 1) := by decide +kernel
theorem dX6_readSwells_86 : decode cX6_readSwells 86 = .ok (.iload_n 2, 1) := by decide +kernel
theorem dX6_readSwells_87 : decode cX6_readSwells 87 = .ok (.iconst 1, 1) := by decide +kernel
theorem dX6_readSwells_88 : decode cX6_readSwells 88 = .ok (.iadd, 1) := by decide +kernel
theorem dX6_readSwells_89 : decode cX6_readSwells 89 = .ok (.putfield 27, 3) := by decide +kernel
theorem dX6_readSwells_92 : decode cX6_readSwells 92 = .ok (.iinc 2 1, 3) := by decide +kernel
theorem dX6_readSwells_95 : decode cX6_readSwells 95 = .ok (.goto (-93), 3) := by decide +kernel
theorem dX6_readSwells_98 : decode cX6_readSwells 98 = .ok (.aload_n 1, 1) := by decide +kernel
theorem dX6_readSwells_99 : decode cX6_readSwells 99 = .ok (.getfield 27, 3) := by decide +kernel
theorem dX6_readSwells_102 : decode cX6_readSwells 102 = .ok (.ifCond .gt 11, 3) := by decide +kernel
theorem dX6_readSwells_105 : decode cX6_readSwells 105 = .ok (.aload_n 0, 1) := by decide +kernel
theorem dX6_readSwells_106 : decode cX6_readSwells 106 = .ok (.iconst 1, 1) := by decide +kernel
theorem dX6_readSwells_107 : decode cX6_readSwells 107 = .ok (.invokevirtual 89, 3) := by decide +kernel
theorem dX6_readSwells_110 : decode cX6_readSwells 110 = .ok (.ifCond .eq 7, 3) := by decide +kernel
theorem dX6_readSwells_113 : decode cX6_readSwells 113 = .ok (.iconst 1, 1) := by decide +kernel
theorem dX6_readSwells_114 : decode cX6_readSwells 114 = .ok (.goto 4, 3) := by decide +kernel
theorem dX6_readSwells_117 : decode cX6_readSwells 117 = .ok (.iconst 0, 1) := by decide +kernel
theorem dX6_readSwells_118 : decode cX6_readSwells 118 = .ok (.ireturn, 1) := by decide +kernel
theorem dX6_readTowers_0 : decode cX6_readTowers 0 = .ok (.iconst 0, 1) := by decide +kernel
theorem dX6_readTowers_1 : decode cX6_readTowers 1 = .ok (.istore_n 3, 1) := by decide +kernel
theorem dX6_readTowers_2 : decode cX6_readTowers 2 = .ok (.iload_n 3, 1) := by decide +kernel
theorem dX6_readTowers_3 : decode cX6_readTowers 3 = .ok (.iconst 3, 1) := by decide +kernel
theorem dX6_readTowers_4 : decode cX6_readTowers 4 = .ok (.if_icmp .gt 83, 3) := by decide +kernel
theorem dX6_readTowers_7 : decode cX6_readTowers 7 = .ok (.aload_n 0, 1) := by decide +kernel
theorem dX6_readTowers_8 : decode cX6_readTowers 8 = .ok (.aload_n 0, 1) := by decide +kernel
theorem dX6_readTowers_9 : decode cX6_readTowers 9 = .ok (.getfield 24, 3) := by decide +kernel
theorem dX6_readTowers_12 : decode cX6_readTowers 12 = .ok (.invokevirtual 80, 3) := by decide +kernel
theorem dX6_readTowers_15 : decode cX6_readTowers 15 = .ok (.bipush 116, 2) := by decide +kernel
theorem dX6_readTowers_17 : decode cX6_readTowers 17 = .ok (.if_icmp .ne 70, 3) := by decide +kernel
theorem dX6_readTowers_20 : decode cX6_readTowers 20 = .ok (.iload_n 3, 1) := by decide +kernel
theorem dX6_readTowers_21 : decode cX6_readTowers 21 = .ok (.iconst 3, 1) := by decide +kernel
theorem dX6_readTowers_22 : decode cX6_readTowers 22 = .ok (.if_icmp .ne 9, 3) := by decide +kernel
theorem dX6_readTowers_25 : decode cX6_readTowers 25 = .ok (.aload_n 0, 1) := by decide +kernel
theorem dX6_readTowers_26 : decode cX6_readTowers 26 = .ok (.iconst 3, 1) := by decide +kernel
theorem dX6_readTowers_27 : decode cX6_readTowers 27 = .ok (.invokevirtual 89, 3) := by decide +kernel
theorem dX6_readTowers_30 : decode cX6_readTowers 30 = .ok (.ireturn, 1) := by decide +kernel
theorem dX6_readTowers_31 : decode cX6_readTowers 31 = .ok (.aload_n 0, 1) := by decide +kernel
theorem dX6_readTowers_32 : decode cX6_readTowers 32 = .ok (.dup, 1) := by decide +kernel
theorem dX6_readTowers_33 : decode cX6_readTowers 33 = .ok (.getfield 24, 3) := by decide +kernel
theorem dX6_readTowers_36 : decode cX6_readTowers 36 = .ok (.iconst 1, 1) := by decide +kernel
theorem dX6_readTowers_37 : decode cX6_readTowers 37 = .ok (.iadd, 1) := by decide +kernel
theorem dX6_readTowers_38 : decode cX6_readTowers 38 = .ok (.putfield 24, 3) := by decide +kernel
theorem dX6_readTowers_41 : decode cX6_readTowers 41 = .ok (.aload_n 0, 1) := by decide +kernel
theorem dX6_readTowers_42 : decode cX6_readTowers 42 = .ok (.bipush 7, 2) := by decide +kernel
theorem dX6_readTowers_44 : decode cX6_readTowers 44 = .ok (.bipush 8, 2) := by decide +kernel
theorem dX6_readTowers_46 : decode cX6_readTowers 46 = .ok (.invokevirtual 64, 3) := by decide +kernel
theorem dX6_readTowers_49 : decode cX6_readTowers 49 = .ok (.ifCond .ne 5, 3) := by decide +kernel
theorem dX6_readTowers_52 : decode cX6_readTowers 52 = .ok (.iconst 0, 1) := by decide +kernel
theorem dX6_readTowers_53 : decode cX6_readTowers 53 = .ok (.ireturn, 1) := by decide +kernel
theorem dX6_readTowers_54 : decode cX6_readTowers 54 = .ok (.aload_n 1, 1) := by decide +kernel
theorem dX6_readTowers_55 : decode cX6_readTowers 55 = .ok (.getfield 101, 3) := by decide +kernel
theorem dX6_readTowers_58 : decode cX6_readTowers 58 = .ok (.iload_n 3, 1) := by decide +kernel
theorem dX6_readTowers_59 : decode cX6_readTowers 59 = .ok (.aload_n 0, 1) := by decide +kernel
theorem dX6_readTowers_60 : decode cX6_readTowers 60 = .ok (.getfield 68, 3) := by decide +kernel
theorem dX6_readTowers_63 : decode cX6_readTowers 63 = .ok (.iastore, 1) := by decide +kernel
theorem dX6_readTowers_64 : decode cX6_readTowers 64 = .ok (.aload_n 2, 1) := by decide +kernel
theorem dX6_readTowers_65 : decode cX6_readTowers 65 = .ok (.getfield 104, 3) := by decide +kernel
theorem dX6_readTowers_68 : decode cX6_readTowers 68 = .ok (.iload_n 3, 1) := by decide +kernel
theorem dX6_readTowers_69 : decode cX6_readTowers 69 = .ok (.aload_n 0, 1) := by decide +kernel
theorem dX6_readTowers_70 : decode cX6_readTowers 70 = .ok (.getfield 74, 3) := by decide +kernel
theorem dX6_readTowers_73 : decode cX6_readTowers 73 = .ok (.iastore, 1) := by decide +kernel
theorem dX6_readTowers_74 : decode cX6_readTowers 74 = .ok (.aload_n 1, 1) := by decide +kernel
theorem dX6_readTowers_75 : decode cX6_readTowers 75 = .ok (.iload_n 3, 1) := by decide +kernel
theorem dX6_readTowers_76 : decode cX6_readTowers 76 = .ok (.iconst 1, 1) := by decide +kernel
theorem dX6_readTowers_77 : decode cX6_readTowers 77 = .ok (.iadd, 1) := by decide +kernel
theorem dX6_readTowers_78 : decode cX6_readTowers 78 = .ok (.putfield 32, 3) := by decide +kernel
theorem dX6_readTowers_81 : decode cX6_readTowers 81 = .ok (.iinc 3 1, 3) := by decide +kernel
theorem dX6_readTowers_84 : decode cX6_readTowers 84 = .ok (.goto (-82), 3) := by decide +kernel
theorem dX6_readTowers_87 : decode cX6_readTowers 87 = .ok (.aload_n 1, 1) := by decide +kernel
theorem dX6_readTowers_88 : decode cX6_readTowers 88 = .ok (.getfield 32, 3) := by decide +kernel
theorem dX6_readTowers_91 : decode cX6_readTowers 91 = .ok (.ifCond .gt 11, 3) := by decide +kernel
theorem dX6_readTowers_94 : decode cX6_readTowers 94 = .ok (.aload_n 0, 1) := by decide +kernel
theorem dX6_readTowers_95 : decode cX6_readTowers 95 = .ok (.iconst 1, 1) := by decide +kernel
theorem dX6_readTowers_96 : decode cX6_readTowers 96 = .ok (.invokevirtual 89, 3) := by decide +kernel
theorem dX6_readTowers_99 : decode cX6_readTowers 99 = .ok (.ifCond .eq 7, 3) := by decide +kernel
theorem dX6_readTowers_102 : decode cX6_readTowers 102 = .ok (.iconst 1, 1) := by decide +kernel
theorem dX6_readTowers_103 : decode cX6_readTowers 103 = .ok (.goto 4, 3) := by decide +kernel
theorem dX6_readTowers_106 : decode cX6_readTowers 106 = .ok (.iconst 0, 1) := by decide +kernel
theorem dX6_readTowers_107 : decode cX6_readTowers 107 = .ok (.ireturn, 1) := by decide +kernel
theorem dX6_readShips_0 : decode cX6_readShips 0 = .ok (.iconst 0, 1) := by decide +kernel
theorem dX6_readShips_1 : decode cX6_readShips 1 = .ok (.istore_n 3, 1) := by decide +kernel
theorem dX6_readShips_2 : decode cX6_readShips 2 = .ok (.iload_n 3, 1) := by decide +kernel
theorem dX6_readShips_3 : decode cX6_readShips 3 = .ok (.bipush 6, 2) := by decide +kernel
theorem dX6_readShips_5 : decode cX6_readShips 5 = .ok (.if_icmp .gt 88, 3) := by decide +kernel
theorem dX6_readShips_8 : decode cX6_readShips 8 = .ok (.aload_n 0, 1) := by decide +kernel
theorem dX6_readShips_9 : decode cX6_readShips 9 = .ok (.aload_n 0, 1) := by decide +kernel
theorem dX6_readShips_10 : decode cX6_readShips 10 = .ok (.getfield 24, 3) := by decide +kernel
theorem dX6_readShips_13 : decode cX6_readShips 13 = .ok (.invokevirtual 80, 3) := by decide +kernel
theorem dX6_readShips_16 : decode cX6_readShips 16 = .ok (.bipush 104, 2) := by decide +kernel
theorem dX6_readShips_18 : decode cX6_readShips 18 = .ok (.if_icmp .ne 75, 3) := by decide +kernel
theorem dX6_readShips_21 : decode cX6_readShips 21 = .ok (.iload_n 3, 1) := by decide +kernel
theorem dX6_readShips_22 : decode cX6_readShips 22 = .ok (.bipush 6, 2) := by decide +kernel
theorem dX6_readShips_24 : decode cX6_readShips 24 = .ok (.if_icmp .ne 9, 3) := by decide +kernel
theorem dX6_readShips_27 : decode cX6_readShips 27 = .ok (.aload_n 0, 1) := by decide +kernel
theorem dX6_readShips_28 : decode cX6_readShips 28 = .ok (.iconst 3, 1) := by decide +kernel
theorem dX6_readShips_29 : decode cX6_readShips 29 = .ok (.invokevirtual 89, 3) := by decide +kernel
theorem dX6_readShips_32 : decode cX6_readShips 32 = .ok (.ireturn, 1) := by decide +kernel
theorem dX6_readShips_33 : decode cX6_readShips 33 = .ok (.aload_n 0, 1) := by decide +kernel
theorem dX6_readShips_34 : decode cX6_readShips 34 = .ok (.dup, 1) := by decide +kernel
theorem dX6_readShips_35 : decode cX6_readShips 35 = .ok (.getfield 24, 3) := by decide +kernel
theorem dX6_readShips_38 : decode cX6_readShips 38 = .ok (.iconst 1, 1) := by decide +kernel
theorem dX6_readShips_39 : decode cX6_readShips 39 = .ok (.iadd, 1) := by decide +kernel
theorem dX6_readShips_40 : decode cX6_readShips 40 = .ok (.putfield 24, 3) := by decide +kernel
theorem dX6_readShips_43 : decode cX6_readShips 43 = .ok (.aload_n 0, 1) := by decide +kernel
theorem dX6_readShips_44 : decode cX6_readShips 44 = .ok (.bipush 99, 2) := by decide +kernel
theorem dX6_readShips_46 : decode cX6_readShips 46 = .ok (.aload_n 1, 1) := by decide +kernel
theorem dX6_readShips_47 : decode cX6_readShips 47 = .ok (.getfield 32, 3) := by decide +kernel
theorem dX6_readShips_50 : decode cX6_readShips 50 = .ok (.iconst 1, 1) := by decide +kernel
theorem dX6_readShips_51 : decode cX6_readShips 51 = .ok (.isub, 1) := by decide +kernel
theorem dX6_readShips_52 : decode cX6_readShips 52 = .ok (.invokevirtual 64, 3) := by decide +kernel
theorem dX6_readShips_55 : decode cX6_readShips 55 = .ok (.ifCond .ne 5, 3) := by decide +kernel
theorem dX6_readShips_58 : decode cX6_readShips 58 = .ok (.iconst 0, 1) := by decide +kernel
theorem dX6_readShips_59 : decode cX6_readShips 59 = .ok (.ireturn, 1) := by decide +kernel
theorem dX6_readShips_60 : decode cX6_readShips 60 = .ok (.aload_n 1, 1) := by decide +kernel
theorem dX6_readShips_61 : decode cX6_readShips 61 = .ok (.getfield 107, 3) := by decide +kernel
theorem dX6_readShips_64 : decode cX6_readShips 64 = .ok (.iload_n 3, 1) := by decide +kernel
theorem dX6_readShips_65 : decode cX6_readShips 65 = .ok (.aload_n 0, 1) := by decide +kernel
theorem dX6_readShips_66 : decode cX6_readShips 66 = .ok (.getfield 68, 3) := by decide +kernel
theorem dX6_readShips_69 : decode cX6_readShips 69 = .ok (.iastore, 1) := by decide +kernel
theorem dX6_readShips_70 : decode cX6_readShips 70 = .ok (.aload_n 2, 1) := by decide +kernel
theorem dX6_readShips_71 : decode cX6_readShips 71 = .ok (.getfield 110, 3) := by decide +kernel
theorem dX6_readShips_74 : decode cX6_readShips 74 = .ok (.iload_n 3, 1) := by decide +kernel
theorem dX6_readShips_75 : decode cX6_readShips 75 = .ok (.aload_n 0, 1) := by decide +kernel
theorem dX6_readShips_76 : decode cX6_readShips 76 = .ok (.getfield 74, 3) := by decide +kernel
theorem dX6_readShips_79 : decode cX6_readShips 79 = .ok (.iastore, 1) := by decide +kernel
theorem dX6_readShips_80 : decode cX6_readShips 80 = .ok (.aload_n 1, 1) := by decide +kernel
theorem dX6_readShips_81 : decode cX6_readShips 81 = .ok (.iload_n 3, 1) := by decide +kernel
theorem dX6_readShips_82 : decode cX6_readShips 82 = .ok (.iconst 1, 1) := by decide +kernel
theorem dX6_readShips_83 : decode cX6_readShips 83 = .ok (.iadd, 1) := by decide +kernel
theorem dX6_readShips_84 : decode cX6_readShips 84 = .ok (.putfield 35, 3) := by decide +kernel
theorem dX6_readShips_87 : decode cX6_readShips 87 = .ok (.iinc 3 1, 3) := by decide +kernel
theorem dX6_readShips_90 : decode cX6_readShips 90 = .ok (.goto (-88), 3) := by decide +kernel
theorem dX6_readShips_93 : decode cX6_readShips 93 = .ok (.iconst 1, 1) := by decide +kernel
theorem dX6_readShips_94 : decode cX6_readShips 94 = .ok (.ireturn, 1) := by decide +kernel
theorem dX6_readPair_0 : decode cX6_readPair 0 = .ok (.aload_n 0, 1) := by decide +kernel
theorem dX6_readPair_1 : decode cX6_readPair 1 = .ok (.aload_n 0, 1) := by decide +kernel
theorem dX6_readPair_2 : decode cX6_readPair 2 = .ok (.iload_n 1, 1) := by decide +kernel
theorem dX6_readPair_3 : decode cX6_readPair 3 = .ok (.invokevirtual 98, 3) := by decide +kernel
theorem dX6_readPair_6 : decode cX6_readPair 6 = .ok (.putfield 68, 3) := by decide +kernel
theorem dX6_readPair_9 : decode cX6_readPair 9 = .ok (.aload_n 0, 1) := by decide +kernel
theorem dX6_readPair_10 : decode cX6_readPair 10 = .ok (.bipush 44, 2) := by decide +kernel
theorem dX6_readPair_12 : decode cX6_readPair 12 = .ok (.invokevirtual 60, 3) := by decide +kernel
theorem dX6_readPair_15 : decode cX6_readPair 15 = .ok (.ifCond .ne 5, 3) := by decide +kernel
theorem dX6_readPair_18 : decode cX6_readPair 18 = .ok (.iconst 0, 1) := by decide +kernel
theorem dX6_readPair_19 : decode cX6_readPair 19 = .ok (.ireturn, 1) := by decide +kernel
theorem dX6_readPair_20 : decode cX6_readPair 20 = .ok (.aload_n 0, 1) := by decide +kernel
theorem dX6_readPair_21 : decode cX6_readPair 21 = .ok (.aload_n 0, 1) := by decide +kernel
theorem dX6_readPair_22 : decode cX6_readPair 22 = .ok (.iload_n 2, 1) := by decide +kernel
theorem dX6_readPair_23 : decode cX6_readPair 23 = .ok (.invokevirtual 98, 3) := by decide +kernel
theorem dX6_readPair_26 : decode cX6_readPair 26 = .ok (.putfield 74, 3) := by decide +kernel
theorem dX6_readPair_29 : decode cX6_readPair 29 = .ok (.aload_n 0, 1) := by decide +kernel
theorem dX6_readPair_30 : decode cX6_readPair 30 = .ok (.bipush 59, 2) := by decide +kernel
theorem dX6_readPair_32 : decode cX6_readPair 32 = .ok (.invokevirtual 60, 3) := by decide +kernel
theorem dX6_readPair_35 : decode cX6_readPair 35 = .ok (.ireturn, 1) := by decide +kernel
theorem dX6_isAtEnd_0 : decode cX6_isAtEnd 0 = .ok (.aload_n 0, 1) := by decide +kernel
theorem dX6_isAtEnd_1 : decode cX6_isAtEnd 1 = .ok (.aload_n 0, 1) := by decide +kernel
theorem dX6_isAtEnd_2 : decode cX6_isAtEnd 2 = .ok (.getfield 24, 3) := by decide +kernel
theorem dX6_isAtEnd_5 : decode cX6_isAtEnd 5 = .ok (.invokevirtual 80, 3) := by decide +kernel
theorem dX6_isAtEnd_8 : decode cX6_isAtEnd 8 = .ok (.iconst (-1), 1) := by decide +kernel
theorem dX6_isAtEnd_9 : decode cX6_isAtEnd 9 = .ok (.if_icmp .eq 11, 3) := by decide +kernel
theorem dX6_isAtEnd_12 : decode cX6_isAtEnd 12 = .ok (.aload_n 0, 1) := by decide +kernel
theorem dX6_isAtEnd_13 : decode cX6_isAtEnd 13 = .ok (.iconst 1, 1) := by decide +kernel
theorem dX6_isAtEnd_14 : decode cX6_isAtEnd 14 = .ok (.invokevirtual 89, 3) := by decide +kernel
theorem dX6_isAtEnd_17 : decode cX6_isAtEnd 17 = .ok (.ifCond .eq 7, 3) := by decide +kernel
theorem dX6_isAtEnd_20 : decode cX6_isAtEnd 20 = .ok (.iconst 1, 1) := by decide +kernel
theorem dX6_isAtEnd_21 : decode cX6_isAtEnd 21 = .ok (.goto 4, 3) := by decide +kernel
theorem dX6_isAtEnd_24 : decode cX6_isAtEnd 24 = .ok (.iconst 0, 1) := by decide +kernel
theorem dX6_isAtEnd_25 : decode cX6_isAtEnd 25 = .ok (.ireturn, 1) := by decide +kernel
theorem dX6_at_0 : decode cX6_at 0 = .ok (.iload_n 1, 1) := by decide +kernel
theorem dX6_at_1 : decode cX6_at 1 = .ok (.ifCond .lt 20, 3) := by decide +kernel
theorem dX6_at_4 : decode cX6_at 4 = .ok (.iload_n 1, 1) := by decide +kernel
theorem dX6_at_5 : decode cX6_at 5 = .ok (.aload_n 0, 1) := by decide +kernel
theorem dX6_at_6 : decode cX6_at 6 = .ok (.getfield 13, 3) := by decide +kernel
theorem dX6_at_9 : decode cX6_at 9 = .ok (.if_icmp .ge 12, 3) := by decide +kernel
theorem dX6_at_12 : decode cX6_at 12 = .ok (.aload_n 0, 1) := by decide +kernel
theorem dX6_at_13 : decode cX6_at 13 = .ok (.getfield 9, 3) := by decide +kernel
theorem dX6_at_16 : decode cX6_at 16 = .ok (.iload_n 1, 1) := by decide +kernel
theorem dX6_at_17 : decode cX6_at 17 = .ok (.iaload, 1) := by decide +kernel
theorem dX6_at_18 : decode cX6_at 18 = .ok (.goto 4, 3) := by decide +kernel
theorem dX6_at_21 : decode cX6_at 21 = .ok (.iconst (-1), 1) := by decide +kernel
theorem dX6_at_22 : decode cX6_at 22 = .ok (.ireturn, 1) := by decide +kernel
theorem dX6_fails_0 : decode cX6_fails 0 = .ok (.aload_n 0, 1) := by decide +kernel
theorem dX6_fails_1 : decode cX6_fails 1 = .ok (.getfield 21, 3) := by decide +kernel
theorem dX6_fails_4 : decode cX6_fails 4 = .ok (.ifCond .ne 8, 3) := by decide +kernel
theorem dX6_fails_7 : decode cX6_fails 7 = .ok (.aload_n 0, 1) := by decide +kernel
theorem dX6_fails_8 : decode cX6_fails 8 = .ok (.iload_n 1, 1) := by decide +kernel
theorem dX6_fails_9 : decode cX6_fails 9 = .ok (.putfield 21, 3) := by decide +kernel
theorem dX6_fails_12 : decode cX6_fails 12 = .ok (.iconst 0, 1) := by decide +kernel
theorem dX6_fails_13 : decode cX6_fails 13 = .ok (.ireturn, 1) := by decide +kernel
theorem dX6_passes_0 : decode cX6_passes 0 = .ok (.aload_n 0, 1) := by decide +kernel
theorem dX6_passes_1 : decode cX6_passes 1 = .ok (.getfield 21, 3) := by decide +kernel
theorem dX6_passes_4 : decode cX6_passes 4 = .ok (.ifCond .eq 5, 3) := by decide +kernel
theorem dX6_passes_7 : decode cX6_passes 7 = .ok (.iconst 0, 1) := by decide +kernel
theorem dX6_passes_8 : decode cX6_passes 8 = .ok (.ireturn, 1) := by decide +kernel
theorem dX6_passes_9 : decode cX6_passes 9 = .ok (.aload_n 0, 1) := by decide +kernel
theorem dX6_passes_10 : decode cX6_passes 10 = .ok (.aload_n 0, 1) := by decide +kernel
theorem dX6_passes_11 : decode cX6_passes 11 = .ok (.getfield 24, 3) := by decide +kernel
theorem dX6_passes_14 : decode cX6_passes 14 = .ok (.invokevirtual 80, 3) := by decide +kernel
theorem dX6_passes_17 : decode cX6_passes 17 = .ok (.iload_n 1, 1) := by decide +kernel
theorem dX6_passes_18 : decode cX6_passes 18 = .ok (.if_icmp .eq 9, 3) := by decide +kernel
theorem dX6_passes_21 : decode cX6_passes 21 = .ok (.aload_n 0, 1) := by decide +kernel
theorem dX6_passes_22 : decode cX6_passes 22 = .ok (.iconst 1, 1) := by decide +kernel
theorem dX6_passes_23 : decode cX6_passes 23 = .ok (.invokevirtual 89, 3) := by decide +kernel
theorem dX6_passes_26 : decode cX6_passes 26 = .ok (.ireturn, 1) := by decide +kernel
theorem dX6_passes_27 : decode cX6_passes 27 = .ok (.aload_n 0, 1) := by decide +kernel
theorem dX6_passes_28 : decode cX6_passes 28 = .ok (.dup, 1) := by decide +kernel
theorem dX6_passes_29 : decode cX6_passes 29 = .ok (.getfield 24, 3) := by decide +kernel
theorem dX6_passes_32 : decode cX6_passes 32 = .ok (.iconst 1, 1) := by decide +kernel
theorem dX6_passes_33 : decode cX6_passes 33 = .ok (.iadd, 1) := by decide +kernel
theorem dX6_passes_34 : decode cX6_passes 34 = .ok (.putfield 24, 3) := by decide +kernel
theorem dX6_passes_37 : decode cX6_passes 37 = .ok (.iconst 1, 1) := by decide +kernel
theorem dX6_passes_38 : decode cX6_passes 38 = .ok (.ireturn, 1) := by decide +kernel
theorem dX6_number_0 : decode cX6_number 0 = .ok (.iconst 0, 1) := by decide +kernel
theorem dX6_number_1 : decode cX6_number 1 = .ok (.istore_n 2, 1) := by decide +kernel
theorem dX6_number_2 : decode cX6_number 2 = .ok (.iconst 0, 1) := by decide +kernel
theorem dX6_number_3 : decode cX6_number 3 = .ok (.istore_n 3, 1) := by decide +kernel
theorem dX6_number_4 : decode cX6_number 4 = .ok (.iload_n 2, 1) := by decide +kernel
theorem dX6_number_5 : decode cX6_number 5 = .ok (.iconst 3, 1) := by decide +kernel
theorem dX6_number_6 : decode cX6_number 6 = .ok (.if_icmp .ge 44, 3) := by decide +kernel
theorem dX6_number_9 : decode cX6_number 9 = .ok (.aload_n 0, 1) := by decide +kernel
theorem dX6_number_10 : decode cX6_number 10 = .ok (.aload_n 0, 1) := by decide +kernel
theorem dX6_number_11 : decode cX6_number 11 = .ok (.getfield 24, 3) := by decide +kernel
theorem dX6_number_14 : decode cX6_number 14 = .ok (.iload_n 2, 1) := by decide +kernel
theorem dX6_number_15 : decode cX6_number 15 = .ok (.iadd, 1) := by decide +kernel
theorem dX6_number_16 : decode cX6_number 16 = .ok (.invokevirtual 80, 3) := by decide +kernel
theorem dX6_number_19 : decode cX6_number 19 = .ok (.invokestatic 113, 3) := by decide +kernel
theorem dX6_number_22 : decode cX6_number 22 = .ok (.ifCond .eq 28, 3) := by decide +kernel
theorem dX6_number_25 : decode cX6_number 25 = .ok (.bipush 10, 2) := by decide +kernel
theorem dX6_number_27 : decode cX6_number 27 = .ok (.iload_n 3, 1) := by decide +kernel
theorem dX6_number_28 : decode cX6_number 28 = .ok (.imul, 1) := by decide +kernel
theorem dX6_number_29 : decode cX6_number 29 = .ok (.aload_n 0, 1) := by decide +kernel
theorem dX6_number_30 : decode cX6_number 30 = .ok (.aload_n 0, 1) := by decide +kernel
theorem dX6_number_31 : decode cX6_number 31 = .ok (.getfield 24, 3) := by decide +kernel
theorem dX6_number_34 : decode cX6_number 34 = .ok (.iload_n 2, 1) := by decide +kernel
theorem dX6_number_35 : decode cX6_number 35 = .ok (.iadd, 1) := by decide +kernel
theorem dX6_number_36 : decode cX6_number 36 = .ok (.invokevirtual 80, 3) := by decide +kernel
theorem dX6_number_39 : decode cX6_number 39 = .ok (.iadd, 1) := by decide +kernel
theorem dX6_number_40 : decode cX6_number 40 = .ok (.bipush 48, 2) := by decide +kernel
theorem dX6_number_42 : decode cX6_number 42 = .ok (.isub, 1) := by decide +kernel
theorem dX6_number_43 : decode cX6_number 43 = .ok (.istore_n 3, 1) := by decide +kernel
theorem dX6_number_44 : decode cX6_number 44 = .ok (.iinc 2 1, 3) := by decide +kernel
theorem dX6_number_47 : decode cX6_number 47 = .ok (.goto (-43), 3) := by decide +kernel
theorem dX6_number_50 : decode cX6_number 50 = .ok (.iload_n 2, 1) := by decide +kernel
theorem dX6_number_51 : decode cX6_number 51 = .ok (.ifCond .eq 8, 3) := by decide +kernel
theorem dX6_number_54 : decode cX6_number 54 = .ok (.iload_n 2, 1) := by decide +kernel
theorem dX6_number_55 : decode cX6_number 55 = .ok (.iconst 2, 1) := by decide +kernel
theorem dX6_number_56 : decode cX6_number 56 = .ok (.if_icmp .le 11, 3) := by decide +kernel
theorem dX6_number_59 : decode cX6_number 59 = .ok (.aload_n 0, 1) := by decide +kernel
theorem dX6_number_60 : decode cX6_number 60 = .ok (.iconst 1, 1) := by decide +kernel
theorem dX6_number_61 : decode cX6_number 61 = .ok (.invokevirtual 89, 3) := by decide +kernel
theorem dX6_number_64 : decode cX6_number 64 = .ok (.pop, 1) := by decide +kernel
theorem dX6_number_65 : decode cX6_number 65 = .ok (.iconst 0, 1) := by decide +kernel
theorem dX6_number_66 : decode cX6_number 66 = .ok (.ireturn, 1) := by decide +kernel
theorem dX6_number_67 : decode cX6_number 67 = .ok (.iload_n 3, 1) := by decide +kernel
theorem dX6_number_68 : decode cX6_number 68 = .ok (.iload_n 1, 1) := by decide +kernel
theorem dX6_number_69 : decode cX6_number 69 = .ok (.if_icmp .le 11, 3) := by decide +kernel
theorem dX6_number_72 : decode cX6_number 72 = .ok (.aload_n 0, 1) := by decide +kernel
theorem dX6_number_73 : decode cX6_number 73 = .ok (.iconst 2, 1) := by decide +kernel
theorem dX6_number_74 : decode cX6_number 74 = .ok (.invokevirtual 89, 3) := by decide +kernel
theorem dX6_number_77 : decode cX6_number 77 = .ok (.pop, 1) := by decide +kernel
theorem dX6_number_78 : decode cX6_number 78 = .ok (.iconst 0, 1) := by decide +kernel
theorem dX6_number_79 : decode cX6_number 79 = .ok (.ireturn, 1) := by decide +kernel
theorem dX6_number_80 : decode cX6_number 80 = .ok (.aload_n 0, 1) := by decide +kernel
theorem dX6_number_81 : decode cX6_number 81 = .ok (.dup, 1) := by decide +kernel
theorem dX6_number_82 : decode cX6_number 82 = .ok (.getfield 24, 3) := by decide +kernel
theorem dX6_number_85 : decode cX6_number 85 = .ok (.iload_n 2, 1) := by decide +kernel
theorem dX6_number_86 : decode cX6_number 86 = .ok (.iadd, 1) := by decide +kernel
theorem dX6_number_87 : decode cX6_number 87 = .ok (.putfield 24, 3) := by decide +kernel
theorem dX6_number_90 : decode cX6_number 90 = .ok (.iload_n 3, 1) := by decide +kernel
theorem dX6_number_91 : decode cX6_number 91 = .ok (.ireturn, 1) := by decide +kernel
theorem dX6_isFigure_0 : decode cX6_isFigure 0 = .ok (.iload_n 0, 1) := by decide +kernel
theorem dX6_isFigure_1 : decode cX6_isFigure 1 = .ok (.bipush 48, 2) := by decide +kernel
theorem dX6_isFigure_3 : decode cX6_isFigure 3 = .ok (.if_icmp .lt 13, 3) := by decide +kernel
theorem dX6_isFigure_6 : decode cX6_isFigure 6 = .ok (.iload_n 0, 1) := by decide +kernel
theorem dX6_isFigure_7 : decode cX6_isFigure 7 = .ok (.bipush 57, 2) := by decide +kernel
theorem dX6_isFigure_9 : decode cX6_isFigure 9 = .ok (.if_icmp .gt 7, 3) := by decide +kernel
theorem dX6_isFigure_12 : decode cX6_isFigure 12 = .ok (.iconst 1, 1) := by decide +kernel
theorem dX6_isFigure_13 : decode cX6_isFigure 13 = .ok (.goto 4, 3) := by decide +kernel
theorem dX6_isFigure_16 : decode cX6_isFigure 16 = .ok (.iconst 0, 1) := by decide +kernel
theorem dX6_isFigure_17 : decode cX6_isFigure 17 = .ok (.ireturn, 1) := by decide +kernel
theorem dX7_init_0 : decode cX7_init 0 = .ok (.aload_n 0, 1) := by decide +kernel
theorem dX7_init_1 : decode cX7_init 1 = .ok (.invokespecial 3, 3) := by decide +kernel
theorem dX7_init_4 : decode cX7_init 4 = .ok (.aload_n 0, 1) := by decide +kernel
theorem dX7_init_5 : decode cX7_init 5 = .ok (.bipush 8, 2) := by decide +kernel
theorem dX7_init_7 : decode cX7_init 7 = .ok (.newarray .int, 2) := by decide +kernel
theorem dX7_init_9 : decode cX7_init 9 = .ok (.putfield 11, 3) := by decide +kernel
theorem dX7_init_12 : decode cX7_init 12 = .ok (.aload_n 0, 1) := by decide +kernel
theorem dX7_init_13 : decode cX7_init 13 = .ok (.bipush 8, 2) := by decide +kernel
theorem dX7_init_15 : decode cX7_init 15 = .ok (.newarray .int, 2) := by decide +kernel
theorem dX7_init_17 : decode cX7_init 17 = .ok (.putfield 15, 3) := by decide +kernel
theorem dX7_init_20 : decode cX7_init 20 = .ok (.aload_n 0, 1) := by decide +kernel
theorem dX7_init_21 : decode cX7_init 21 = .ok (.bipush 8, 2) := by decide +kernel
theorem dX7_init_23 : decode cX7_init 23 = .ok (.bipush 40, 2) := by decide +kernel
theorem dX7_init_25 : decode cX7_init 25 = .ok (.multianewarray 18 2, 4) := by decide +kernel
theorem dX7_init_29 : decode cX7_init 29 = .ok (.putfield 20, 3) := by decide +kernel
theorem dX7_init_32 : decode cX7_init 32 = .ok (.iconst 0, 1) := by decide +kernel
theorem dX7_init_33 : decode cX7_init 33 = .ok (.istore_n 1, 1) := by decide +kernel
theorem dX7_init_34 : decode cX7_init 34 = .ok (.iload_n 1, 1) := by decide +kernel
theorem dX7_init_35 : decode cX7_init 35 = .ok (.bipush 8, 2) := by decide +kernel
theorem dX7_init_37 : decode cX7_init 37 = .ok (.if_icmp .ge 16, 3) := by decide +kernel
theorem dX7_init_40 : decode cX7_init 40 = .ok (.aload_n 0, 1) := by decide +kernel
theorem dX7_init_41 : decode cX7_init 41 = .ok (.getfield 15, 3) := by decide +kernel
theorem dX7_init_44 : decode cX7_init 44 = .ok (.iload_n 1, 1) := by decide +kernel
theorem dX7_init_45 : decode cX7_init 45 = .ok (.iconst (-1), 1) := by decide +kernel
theorem dX7_init_46 : decode cX7_init 46 = .ok (.iastore, 1) := by decide +kernel
theorem dX7_init_47 : decode cX7_init 47 = .ok (.iinc 1 1, 3) := by decide +kernel
theorem dX7_init_50 : decode cX7_init 50 = .ok (.goto (-16), 3) := by decide +kernel
theorem dX7_init_53 : decode cX7_init 53 = .ok (.return_, 1) := by decide +kernel
theorem dX7_isMissing_0 : decode cX7_isMissing 0 = .ok (.aload_n 0, 1) := by decide +kernel
theorem dX7_isMissing_1 : decode cX7_isMissing 1 = .ok (.getfield 15, 3) := by decide +kernel
theorem dX7_isMissing_4 : decode cX7_isMissing 4 = .ok (.iload_n 1, 1) := by decide +kernel
theorem dX7_isMissing_5 : decode cX7_isMissing 5 = .ok (.iaload, 1) := by decide +kernel
theorem dX7_isMissing_6 : decode cX7_isMissing 6 = .ok (.iconst (-1), 1) := by decide +kernel
theorem dX7_isMissing_7 : decode cX7_isMissing 7 = .ok (.if_icmp .ne 7, 3) := by decide +kernel
theorem dX7_isMissing_10 : decode cX7_isMissing 10 = .ok (.iconst 1, 1) := by decide +kernel
theorem dX7_isMissing_11 : decode cX7_isMissing 11 = .ok (.goto 4, 3) := by decide +kernel
theorem dX7_isMissing_14 : decode cX7_isMissing 14 = .ok (.iconst 0, 1) := by decide +kernel
theorem dX7_isMissing_15 : decode cX7_isMissing 15 = .ok (.ireturn, 1) := by decide +kernel
theorem dX7_alike_0 : decode cX7_alike 0 = .ok (.aload_n 0, 1) := by decide +kernel
theorem dX7_alike_1 : decode cX7_alike 1 = .ok (.getfield 11, 3) := by decide +kernel
theorem dX7_alike_4 : decode cX7_alike 4 = .ok (.iload_n 1, 1) := by decide +kernel
theorem dX7_alike_5 : decode cX7_alike 5 = .ok (.iaload, 1) := by decide +kernel
theorem dX7_alike_6 : decode cX7_alike 6 = .ok (.aload_n 0, 1) := by decide +kernel
theorem dX7_alike_7 : decode cX7_alike 7 = .ok (.getfield 11, 3) := by decide +kernel
theorem dX7_alike_10 : decode cX7_alike 10 = .ok (.iload_n 2, 1) := by decide +kernel
theorem dX7_alike_11 : decode cX7_alike 11 = .ok (.iaload, 1) := by decide +kernel
theorem dX7_alike_12 : decode cX7_alike 12 = .ok (.if_icmp .ne 7, 3) := by decide +kernel
theorem dX7_alike_15 : decode cX7_alike 15 = .ok (.iconst 1, 1) := by decide +kernel
theorem dX7_alike_16 : decode cX7_alike 16 = .ok (.goto 4, 3) := by decide +kernel
theorem dX7_alike_19 : decode cX7_alike 19 = .ok (.iconst 0, 1) := by decide +kernel
theorem dX7_alike_20 : decode cX7_alike 20 = .ok (.ireturn, 1) := by decide +kernel
theorem dX7_hasPlaces_0 : decode cX7_hasPlaces 0 = .ok (.iload_n 2, 1) := by decide +kernel
theorem dX7_hasPlaces_1 : decode cX7_hasPlaces 1 = .ok (.ifCond .lt 23, 3) := by decide +kernel
theorem dX7_hasPlaces_4 : decode cX7_hasPlaces 4 = .ok (.iload_n 3, 1) := by decide +kernel
theorem dX7_hasPlaces_5 : decode cX7_hasPlaces 5 = .ok (.ifCond .lt 19, 3) := by decide +kernel
theorem dX7_hasPlaces_8 : decode cX7_hasPlaces 8 = .ok (.iload_n 2, 1) := by decide +kernel
theorem dX7_hasPlaces_9 : decode cX7_hasPlaces 9 = .ok (.aload_n 0, 1) := by decide +kernel
theorem dX7_hasPlaces_10 : decode cX7_hasPlaces 10 = .ok (.getfield 15, 3) := by decide +kernel
theorem dX7_hasPlaces_13 : decode cX7_hasPlaces 13 = .ok (.iload_n 1, 1) := by decide +kernel
theorem dX7_hasPlaces_14 : decode cX7_hasPlaces 14 = .ok (.iaload, 1) := by decide +kernel
theorem dX7_hasPlaces_15 : decode cX7_hasPlaces 15 = .ok (.iload_n 3, 1) := by decide +kernel
theorem dX7_hasPlaces_16 : decode cX7_hasPlaces 16 = .ok (.isub, 1) := by decide +kernel
theorem dX7_hasPlaces_17 : decode cX7_hasPlaces 17 = .ok (.if_icmp .gt 7, 3) := by decide +kernel
theorem dX7_hasPlaces_20 : decode cX7_hasPlaces 20 = .ok (.iconst 1, 1) := by decide +kernel
theorem dX7_hasPlaces_21 : decode cX7_hasPlaces 21 = .ok (.goto 4, 3) := by decide +kernel
theorem dX7_hasPlaces_24 : decode cX7_hasPlaces 24 = .ok (.iconst 0, 1) := by decide +kernel
theorem dX7_hasPlaces_25 : decode cX7_hasPlaces 25 = .ok (.ireturn, 1) := by decide +kernel
theorem dX7_make_0 : decode cX7_make 0 = .ok (.aload_n 0, 1) := by decide +kernel
theorem dX7_make_1 : decode cX7_make 1 = .ok (.getfield 11, 3) := by decide +kernel
theorem dX7_make_4 : decode cX7_make 4 = .ok (.iload_n 1, 1) := by decide +kernel
theorem dX7_make_5 : decode cX7_make 5 = .ok (.iload_n 2, 1) := by decide +kernel
theorem dX7_make_6 : decode cX7_make 6 = .ok (.iastore, 1) := by decide +kernel
theorem dX7_make_7 : decode cX7_make 7 = .ok (.aload_n 0, 1) := by decide +kernel
theorem dX7_make_8 : decode cX7_make 8 = .ok (.getfield 15, 3) := by decide +kernel
theorem dX7_make_11 : decode cX7_make 11 = .ok (.iload_n 1, 1) := by decide +kernel
theorem dX7_make_12 : decode cX7_make 12 = .ok (.iload_n 3, 1) := by decide +kernel
theorem dX7_make_13 : decode cX7_make 13 = .ok (.iastore, 1) := by decide +kernel
theorem dX7_make_14 : decode cX7_make 14 = .ok (.iconst 0, 1) := by decide +kernel
theorem dX7_make_15 : decode cX7_make 15 = .ok (.istore 4, 2) := by decide +kernel
theorem dX7_make_17 : decode cX7_make 17 = .ok (.iload 4, 2) := by decide +kernel
theorem dX7_make_19 : decode cX7_make 19 = .ok (.iload_n 3, 1) := by decide +kernel
theorem dX7_make_20 : decode cX7_make 20 = .ok (.if_icmp .ge 19, 3) := by decide +kernel
theorem dX7_make_23 : decode cX7_make 23 = .ok (.aload_n 0, 1) := by decide +kernel
theorem dX7_make_24 : decode cX7_make 24 = .ok (.getfield 20, 3) := by decide +kernel
theorem dX7_make_27 : decode cX7_make 27 = .ok (.iload_n 1, 1) := by decide +kernel
theorem dX7_make_28 : decode cX7_make 28 = .ok (.aaload, 1) := by decide +kernel
theorem dX7_make_29 : decode cX7_make 29 = .ok (.iload 4, 2) := by decide +kernel
theorem dX7_make_31 : decode cX7_make 31 = .ok (.iconst 0, 1) := by decide +kernel
theorem dX7_make_32 : decode cX7_make 32 = .ok (.iastore, 1) := by decide +kernel
theorem dX7_make_33 : decode cX7_make 33 = .ok (.iinc 4 1, 3) := by decide +kernel
theorem dX7_make_36 : decode cX7_make 36 = .ok (.goto (-19), 3) := by decide +kernel
theorem dX7_make_39 : decode cX7_make 39 = .ok (.return_, 1) := by decide +kernel
theorem dX7_put_0 : decode cX7_put 0 = .ok (.aload_n 0, 1) := by decide +kernel
theorem dX7_put_1 : decode cX7_put 1 = .ok (.getfield 11, 3) := by decide +kernel
theorem dX7_put_4 : decode cX7_put 4 = .ok (.iload_n 1, 1) := by decide +kernel
theorem dX7_put_5 : decode cX7_put 5 = .ok (.iaload, 1) := by decide +kernel
theorem dX7_put_6 : decode cX7_put 6 = .ok (.ifCond .ne 8, 3) := by decide +kernel
theorem dX7_put_9 : decode cX7_put 9 = .ok (.iload_n 3, 1) := by decide +kernel
theorem dX7_put_10 : decode cX7_put 10 = .ok (.i2b, 1) := by decide +kernel
theorem dX7_put_11 : decode cX7_put 11 = .ok (.goto 19, 3) := by decide +kernel
theorem dX7_put_14 : decode cX7_put 14 = .ok (.aload_n 0, 1) := by decide +kernel
theorem dX7_put_15 : decode cX7_put 15 = .ok (.getfield 11, 3) := by decide +kernel
theorem dX7_put_18 : decode cX7_put 18 = .ok (.iload_n 1, 1) := by decide +kernel
theorem dX7_put_19 : decode cX7_put 19 = .ok (.iaload, 1) := by decide +kernel
theorem dX7_put_20 : decode cX7_put 20 = .ok (.iconst 1, 1) := by decide +kernel
theorem dX7_put_21 : decode cX7_put 21 = .ok (.if_icmp .ne 8, 3) := by decide +kernel
theorem dX7_put_24 : decode cX7_put 24 = .ok (.iload_n 3, 1) := by decide +kernel
theorem dX7_put_25 : decode cX7_put 25 = .ok (.i2s, 1) := by decide +kernel
theorem dX7_put_26 : decode cX7_put 26 = .ok (.goto 4, 3) := by decide +kernel
theorem dX7_put_29 : decode cX7_put 29 = .ok (.iload_n 3, 1) := by decide +kernel
theorem dX7_put_30 : decode cX7_put 30 = .ok (.istore 4, 2) := by decide +kernel
theorem dX7_put_32 : decode cX7_put 32 = .ok (.aload_n 0, 1) := by decide +kernel
theorem dX7_put_33 : decode cX7_put 33 = .ok (.getfield 20, 3) := by decide +kernel
theorem dX7_put_36 : decode cX7_put 36 = .ok (.iload_n 1, 1) := by decide +kernel
theorem dX7_put_37 : decode cX7_put 37 = .ok (.aaload, 1) := by decide +kernel
theorem dX7_put_38 : decode cX7_put 38 = .ok (.iload_n 2, 1) := by decide +kernel
theorem dX7_put_39 : decode cX7_put 39 = .ok (.iload 4, 2) := by decide +kernel
theorem dX7_put_41 : decode cX7_put 41 = .ok (.iastore, 1) := by decide +kernel
theorem dX7_put_42 : decode cX7_put 42 = .ok (.iload 4, 2) := by decide +kernel
theorem dX7_put_44 : decode cX7_put 44 = .ok (.ireturn, 1) := by decide +kernel
theorem dX7_move_0 : decode cX7_move 0 = .ok (.aload_n 0, 1) := by decide +kernel
theorem dX7_move_1 : decode cX7_move 1 = .ok (.getfield 20, 3) := by decide +kernel
theorem dX7_move_4 : decode cX7_move 4 = .ok (.iload_n 1, 1) := by decide +kernel
theorem dX7_move_5 : decode cX7_move 5 = .ok (.aaload, 1) := by decide +kernel
theorem dX7_move_6 : decode cX7_move 6 = .ok (.iload_n 2, 1) := by decide +kernel
theorem dX7_move_7 : decode cX7_move 7 = .ok (.aload_n 0, 1) := by decide +kernel
theorem dX7_move_8 : decode cX7_move 8 = .ok (.getfield 20, 3) := by decide +kernel
theorem dX7_move_11 : decode cX7_move 11 = .ok (.iload_n 3, 1) := by decide +kernel
theorem dX7_move_12 : decode cX7_move 12 = .ok (.aaload, 1) := by decide +kernel
theorem dX7_move_13 : decode cX7_move 13 = .ok (.iload 4, 2) := by decide +kernel
theorem dX7_move_15 : decode cX7_move 15 = .ok (.iload 5, 2) := by decide +kernel
theorem dX7_move_17 : decode cX7_move 17 = .ok (.invokestatic 23, 3) := by decide +kernel
theorem dX7_move_20 : decode cX7_move 20 = .ok (.return_, 1) := by decide +kernel
theorem dX7_lose_0 : decode cX7_lose 0 = .ok (.aload_n 0, 1) := by decide +kernel
theorem dX7_lose_1 : decode cX7_lose 1 = .ok (.getfield 15, 3) := by decide +kernel
theorem dX7_lose_4 : decode cX7_lose 4 = .ok (.iload_n 1, 1) := by decide +kernel
theorem dX7_lose_5 : decode cX7_lose 5 = .ok (.iaload, 1) := by decide +kernel
theorem dX7_lose_6 : decode cX7_lose 6 = .ok (.istore_n 2, 1) := by decide +kernel
theorem dX7_lose_7 : decode cX7_lose 7 = .ok (.aload_n 0, 1) := by decide +kernel
theorem dX7_lose_8 : decode cX7_lose 8 = .ok (.getfield 15, 3) := by decide +kernel
theorem dX7_lose_11 : decode cX7_lose 11 = .ok (.iload_n 1, 1) := by decide +kernel
theorem dX7_lose_12 : decode cX7_lose 12 = .ok (.iconst (-1), 1) := by decide +kernel
theorem dX7_lose_13 : decode cX7_lose 13 = .ok (.iastore, 1) := by decide +kernel
theorem dX7_lose_14 : decode cX7_lose 14 = .ok (.iload_n 2, 1) := by decide +kernel
theorem dX7_lose_15 : decode cX7_lose 15 = .ok (.ireturn, 1) := by decide +kernel
theorem dX7_item_0 : decode cX7_item 0 = .ok (.aload_n 0, 1) := by decide +kernel
theorem dX7_item_1 : decode cX7_item 1 = .ok (.iload_n 1, 1) := by decide +kernel
theorem dX7_item_2 : decode cX7_item 2 = .ok (.iload_n 2, 1) := by decide +kernel
theorem dX7_item_3 : decode cX7_item 3 = .ok (.iconst 1, 1) := by decide +kernel
theorem dX7_item_4 : decode cX7_item 4 = .ok (.invokevirtual 29, 3) := by decide +kernel
theorem dX7_item_7 : decode cX7_item 7 = .ok (.ifCond .eq 14, 3) := by decide +kernel
theorem dX7_item_10 : decode cX7_item 10 = .ok (.aload_n 0, 1) := by decide +kernel
theorem dX7_item_11 : decode cX7_item 11 = .ok (.getfield 20, 3) := by decide +kernel
theorem dX7_item_14 : decode cX7_item 14 = .ok (.iload_n 1, 1) := by decide +kernel
theorem dX7_item_15 : decode cX7_item 15 = .ok (.aaload, 1) := by decide +kernel
theorem dX7_item_16 : decode cX7_item 16 = .ok (.iload_n 2, 1) := by decide +kernel
theorem dX7_item_17 : decode cX7_item 17 = .ok (.iaload, 1) := by decide +kernel
theorem dX7_item_18 : decode cX7_item 18 = .ok (.goto 5, 3) := by decide +kernel
theorem dX7_item_21 : decode cX7_item 21 = .ok (.ldc 33, 2) := by decide +kernel
theorem dX7_item_23 : decode cX7_item 23 = .ok (.ireturn, 1) := by decide +kernel
theorem dX7_rises_0 : decode cX7_rises 0 = .ok (.iconst (-1), 1) := by decide +kernel
theorem dX7_rises_1 : decode cX7_rises 1 = .ok (.istore 5, 2) := by decide +kernel
theorem dX7_rises_3 : decode cX7_rises 3 = .ok (.iload_n 2, 1) := by decide +kernel
theorem dX7_rises_4 : decode cX7_rises 4 = .ok (.istore 6, 2) := by decide +kernel
theorem dX7_rises_6 : decode cX7_rises 6 = .ok (.iload 6, 2) := by decide +kernel
theorem dX7_rises_8 : decode cX7_rises 8 = .ok (.iload_n 2, 1) := by decide +kernel
theorem dX7_rises_9 : decode cX7_rises 9 = .ok (.iload_n 3, 1) := by decide +kernel
theorem dX7_rises_10 : decode cX7_rises 10 = .ok (.iadd, 1) := by decide +kernel
theorem dX7_rises_11 : decode cX7_rises 11 = .ok (.if_icmp .ge 40, 3) := by decide +kernel
theorem dX7_rises_14 : decode cX7_rises 14 = .ok (.aload_n 0, 1) := by decide +kernel
theorem dX7_rises_15 : decode cX7_rises 15 = .ok (.getfield 20, 3) := by decide +kernel
theorem dX7_rises_18 : decode cX7_rises 18 = .ok (.iload_n 1, 1) := by decide +kernel
theorem dX7_rises_19 : decode cX7_rises 19 = .ok (.aaload, 1) := by decide +kernel
theorem dX7_rises_20 : decode cX7_rises 20 = .ok (.iload 6, 2) := by decide +kernel
theorem dX7_rises_22 : decode cX7_rises 22 = .ok (.iaload, 1) := by decide +kernel
theorem dX7_rises_23 : decode cX7_rises 23 = .ok (.istore 7, 2) := by decide +kernel
theorem dX7_rises_25 : decode cX7_rises 25 = .ok (.iload 7, 2) := by decide +kernel
theorem dX7_rises_27 : decode cX7_rises 27 = .ok (.iload 5, 2) := by decide +kernel
theorem dX7_rises_29 : decode cX7_rises 29 = .ok (.if_icmp .le 10, 3) := by decide +kernel
theorem dX7_rises_32 : decode cX7_rises 32 = .ok (.iload 7, 2) := by decide +kernel
theorem dX7_rises_34 : decode cX7_rises 34 = .ok (.iload 4, 2) := by decide +kernel
theorem dX7_rises_36 : decode cX7_rises 36 = .ok (.if_icmp .le 5, 3) := by decide +kernel
theorem dX7_rises_39 : decode cX7_rises 39 = .ok (.iconst 0, 1) := by decide +kernel
theorem dX7_rises_40 : decode cX7_rises 40 = .ok (.ireturn, 1) := by decide +kernel
theorem dX7_rises_41 : decode cX7_rises 41 = .ok (.iload 7, 2) := by decide +kernel
theorem dX7_rises_43 : decode cX7_rises 43 = .ok (.istore 5, 2) := by decide +kernel
theorem dX7_rises_45 : decode cX7_rises 45 = .ok (.iinc 6 1, 3) := by decide +kernel
theorem dX7_rises_48 : decode cX7_rises 48 = .ok (.goto (-42), 3) := by decide +kernel
theorem dX7_rises_51 : decode cX7_rises 51 = .ok (.iconst 1, 1) := by decide +kernel
theorem dX7_rises_52 : decode cX7_rises 52 = .ok (.ireturn, 1) := by decide +kernel
theorem dX7_howManyThere_0 : decode cX7_howManyThere 0 = .ok (.iconst 0, 1) := by decide +kernel
theorem dX7_howManyThere_1 : decode cX7_howManyThere 1 = .ok (.istore_n 1, 1) := by decide +kernel
theorem dX7_howManyThere_2 : decode cX7_howManyThere 2 = .ok (.iconst 0, 1) := by decide +kernel
theorem dX7_howManyThere_3 : decode cX7_howManyThere 3 = .ok (.istore_n 2, 1) := by decide +kernel
theorem dX7_howManyThere_4 : decode cX7_howManyThere 4 = .ok (.iload_n 2, 1) := by decide +kernel
theorem dX7_howManyThere_5 : decode cX7_howManyThere 5 = .ok (.bipush 8, 2) := by decide +kernel
theorem dX7_howManyThere_7 : decode cX7_howManyThere 7 = .ok (.if_icmp .ge 25, 3) := by decide +kernel
theorem dX7_howManyThere_10 : decode cX7_howManyThere 10 = .ok (.iload_n 1, 1) := by decide +kernel
theorem dX7_howManyThere_11 : decode cX7_howManyThere 11 = .ok (.aload_n 0, 1) := by decide +kernel
theorem dX7_howManyThere_12 : decode cX7_howManyThere 12 = .ok (.iload_n 2, 1) := by decide +kernel
theorem dX7_howManyThere_13 : decode cX7_howManyThere 13 = .ok (.invokevirtual 34, 3) := by decide +kernel
theorem dX7_howManyThere_16 : decode cX7_howManyThere 16 = .ok (.ifCond .eq 7, 3) := by decide +kernel
theorem dX7_howManyThere_19 : decode cX7_howManyThere 19 = .ok (.iconst 0, 1) := by decide +kernel
theorem dX7_howManyThere_20 : decode cX7_howManyThere 20 = .ok (.goto 4, 3) := by decide +kernel
theorem dX7_howManyThere_23 : decode cX7_howManyThere 23 = .ok (.iconst 1, 1) := by decide +kernel
theorem dX7_howManyThere_24 : decode cX7_howManyThere 24 = .ok (.iadd, 1) := by decide +kernel
theorem dX7_howManyThere_25 : decode cX7_howManyThere 25 = .ok (.istore_n 1, 1) := by decide +kernel
theorem dX7_howManyThere_26 : decode cX7_howManyThere 26 = .ok (.iinc 2 1, 3) := by decide +kernel
theorem dX7_howManyThere_29 : decode cX7_howManyThere 29 = .ok (.goto (-25), 3) := by decide +kernel
theorem dX7_howManyThere_32 : decode cX7_howManyThere 32 = .ok (.iload_n 1, 1) := by decide +kernel
theorem dX7_howManyThere_33 : decode cX7_howManyThere 33 = .ok (.ireturn, 1) := by decide +kernel
theorem dX8_init_0 : decode cX8_init 0 = .ok (.aload_n 0, 1) := by decide +kernel
theorem dX8_init_1 : decode cX8_init 1 = .ok (.invokespecial 3, 3) := by decide +kernel
theorem dX8_init_4 : decode cX8_init 4 = .ok (.aload_n 0, 1) := by decide +kernel
theorem dX8_init_5 : decode cX8_init 5 = .ok (.bipush 9, 2) := by decide +kernel
theorem dX8_init_7 : decode cX8_init 7 = .ok (.putfield 9, 3) := by decide +kernel
theorem dX8_init_10 : decode cX8_init 10 = .ok (.aload_n 0, 1) := by decide +kernel
theorem dX8_init_11 : decode cX8_init 11 = .ok (.iconst 3, 1) := by decide +kernel
theorem dX8_init_12 : decode cX8_init 12 = .ok (.newarray .int, 2) := by decide +kernel
theorem dX8_init_14 : decode cX8_init 14 = .ok (.putfield 17, 3) := by decide +kernel
theorem dX8_init_17 : decode cX8_init 17 = .ok (.aload_n 0, 1) := by decide +kernel
theorem dX8_init_18 : decode cX8_init 18 = .ok (.bipush 6, 2) := by decide +kernel
theorem dX8_init_20 : decode cX8_init 20 = .ok (.newarray .int, 2) := by decide +kernel
theorem dX8_init_22 : decode cX8_init 22 = .ok (.putfield 21, 3) := by decide +kernel
theorem dX8_init_25 : decode cX8_init 25 = .ok (.aload_n 0, 1) := by decide +kernel
theorem dX8_init_26 : decode cX8_init 26 = .ok (.bipush 6, 2) := by decide +kernel
theorem dX8_init_28 : decode cX8_init 28 = .ok (.newarray .int, 2) := by decide +kernel
theorem dX8_init_30 : decode cX8_init 30 = .ok (.putfield 24, 3) := by decide +kernel
theorem dX8_init_33 : decode cX8_init 33 = .ok (.aload_n 0, 1) := by decide +kernel
theorem dX8_init_34 : decode cX8_init 34 = .ok (.bipush 6, 2) := by decide +kernel
theorem dX8_init_36 : decode cX8_init 36 = .ok (.newarray .int, 2) := by decide +kernel
theorem dX8_init_38 : decode cX8_init 38 = .ok (.putfield 27, 3) := by decide +kernel
theorem dX8_init_41 : decode cX8_init 41 = .ok (.aload_n 0, 1) := by decide +kernel
theorem dX8_init_42 : decode cX8_init 42 = .ok (.bipush 6, 2) := by decide +kernel
theorem dX8_init_44 : decode cX8_init 44 = .ok (.newarray .int, 2) := by decide +kernel
theorem dX8_init_46 : decode cX8_init 46 = .ok (.putfield 30, 3) := by decide +kernel
theorem dX8_init_49 : decode cX8_init 49 = .ok (.return_, 1) := by decide +kernel
theorem dX8_begin_0 : decode cX8_begin 0 = .ok (.aload_n 0, 1) := by decide +kernel
theorem dX8_begin_1 : decode cX8_begin 1 = .ok (.iconst 0, 1) := by decide +kernel
theorem dX8_begin_2 : decode cX8_begin 2 = .ok (.putfield 33, 3) := by decide +kernel
theorem dX8_begin_5 : decode cX8_begin 5 = .ok (.aload_n 0, 1) := by decide +kernel
theorem dX8_begin_6 : decode cX8_begin 6 = .ok (.bipush 9, 2) := by decide +kernel
theorem dX8_begin_8 : decode cX8_begin 8 = .ok (.putfield 9, 3) := by decide +kernel
theorem dX8_begin_11 : decode cX8_begin 11 = .ok (.iconst 0, 1) := by decide +kernel
theorem dX8_begin_12 : decode cX8_begin 12 = .ok (.istore_n 1, 1) := by decide +kernel
theorem dX8_begin_13 : decode cX8_begin 13 = .ok (.iload_n 1, 1) := by decide +kernel
theorem dX8_begin_14 : decode cX8_begin 14 = .ok (.bipush 6, 2) := by decide +kernel
theorem dX8_begin_16 : decode cX8_begin 16 = .ok (.if_icmp .ge 31, 3) := by decide +kernel
theorem dX8_begin_19 : decode cX8_begin 19 = .ok (.aload_n 0, 1) := by decide +kernel
theorem dX8_begin_20 : decode cX8_begin 20 = .ok (.getfield 21, 3) := by decide +kernel
theorem dX8_begin_23 : decode cX8_begin 23 = .ok (.iload_n 1, 1) := by decide +kernel
theorem dX8_begin_24 : decode cX8_begin 24 = .ok (.iload_n 1, 1) := by decide +kernel
theorem dX8_begin_25 : decode cX8_begin 25 = .ok (.iastore, 1) := by decide +kernel
theorem dX8_begin_26 : decode cX8_begin 26 = .ok (.aload_n 0, 1) := by decide +kernel
theorem dX8_begin_27 : decode cX8_begin 27 = .ok (.getfield 27, 3) := by decide +kernel
theorem dX8_begin_30 : decode cX8_begin 30 = .ok (.iload_n 1, 1) := by decide +kernel
theorem dX8_begin_31 : decode cX8_begin 31 = .ok (.iconst 0, 1) := by decide +kernel
theorem dX8_begin_32 : decode cX8_begin 32 = .ok (.iastore, 1) := by decide +kernel
theorem dX8_begin_33 : decode cX8_begin 33 = .ok (.aload_n 0, 1) := by decide +kernel
theorem dX8_begin_34 : decode cX8_begin 34 = .ok (.getfield 30, 3) := by decide +kernel
theorem dX8_begin_37 : decode cX8_begin 37 = .ok (.iload_n 1, 1) := by decide +kernel
theorem dX8_begin_38 : decode cX8_begin 38 = .ok (.ldc 36, 2) := by decide +kernel
theorem dX8_begin_40 : decode cX8_begin 40 = .ok (.iastore, 1) := by decide +kernel
theorem dX8_begin_41 : decode cX8_begin 41 = .ok (.iinc 1 1, 3) := by decide +kernel
theorem dX8_begin_44 : decode cX8_begin 44 = .ok (.goto (-31), 3) := by decide +kernel
theorem dX8_begin_47 : decode cX8_begin 47 = .ok (.return_, 1) := by decide +kernel
theorem dX8_become_0 : decode cX8_become 0 = .ok (.aload_n 0, 1) := by decide +kernel
theorem dX8_become_1 : decode cX8_become 1 = .ok (.aload_n 1, 1) := by decide +kernel
theorem dX8_become_2 : decode cX8_become 2 = .ok (.getfield 33, 3) := by decide +kernel
theorem dX8_become_5 : decode cX8_become 5 = .ok (.putfield 33, 3) := by decide +kernel
theorem dX8_become_8 : decode cX8_become 8 = .ok (.aload_n 0, 1) := by decide +kernel
theorem dX8_become_9 : decode cX8_become 9 = .ok (.aload_n 1, 1) := by decide +kernel
theorem dX8_become_10 : decode cX8_become 10 = .ok (.getfield 9, 3) := by decide +kernel
theorem dX8_become_13 : decode cX8_become 13 = .ok (.putfield 9, 3) := by decide +kernel
theorem dX8_become_16 : decode cX8_become 16 = .ok (.aload_n 1, 1) := by decide +kernel
theorem dX8_become_17 : decode cX8_become 17 = .ok (.getfield 17, 3) := by decide +kernel
theorem dX8_become_20 : decode cX8_become 20 = .ok (.iconst 0, 1) := by decide +kernel
theorem dX8_become_21 : decode cX8_become 21 = .ok (.aload_n 0, 1) := by decide +kernel
theorem dX8_become_22 : decode cX8_become 22 = .ok (.getfield 17, 3) := by decide +kernel
theorem dX8_become_25 : decode cX8_become 25 = .ok (.iconst 0, 1) := by decide +kernel
theorem dX8_become_26 : decode cX8_become 26 = .ok (.iconst 3, 1) := by decide +kernel
theorem dX8_become_27 : decode cX8_become 27 = .ok (.invokestatic 37, 3) := by decide +kernel
theorem dX8_become_30 : decode cX8_become 30 = .ok (.aload_n 1, 1) := by decide +kernel
theorem dX8_become_31 : decode cX8_become 31 = .ok (.getfield 21, 3) := by decide +kernel
theorem dX8_become_34 : decode cX8_become 34 = .ok (.iconst 0, 1) := by decide +kernel
theorem dX8_become_35 : decode cX8_become 35 = .ok (.aload_n 0, 1) := by decide +kernel
theorem dX8_become_36 : decode cX8_become 36 = .ok (.getfield 21, 3) := by decide +kernel
theorem dX8_become_39 : decode cX8_become 39 = .ok (.iconst 0, 1) := by decide +kernel
theorem dX8_become_40 : decode cX8_become 40 = .ok (.bipush 6, 2) := by decide +kernel
theorem dX8_become_42 : decode cX8_become 42 = .ok (.invokestatic 37, 3) := by decide +kernel
theorem dX8_become_45 : decode cX8_become 45 = .ok (.aload_n 1, 1) := by decide +kernel
theorem dX8_become_46 : decode cX8_become 46 = .ok (.getfield 24, 3) := by decide +kernel
theorem dX8_become_49 : decode cX8_become 49 = .ok (.iconst 0, 1) := by decide +kernel
theorem dX8_become_50 : decode cX8_become 50 = .ok (.aload_n 0, 1) := by decide +kernel
theorem dX8_become_51 : decode cX8_become 51 = .ok (.getfield 24, 3) := by decide +kernel
theorem dX8_become_54 : decode cX8_become 54 = .ok (.iconst 0, 1) := by decide +kernel
theorem dX8_become_55 : decode cX8_become 55 = .ok (.bipush 6, 2) := by decide +kernel
theorem dX8_become_57 : decode cX8_become 57 = .ok (.invokestatic 37, 3) := by decide +kernel
theorem dX8_become_60 : decode cX8_become 60 = .ok (.aload_n 1, 1) := by decide +kernel
theorem dX8_become_61 : decode cX8_become 61 = .ok (.getfield 27, 3) := by decide +kernel
theorem dX8_become_64 : decode cX8_become 64 = .ok (.iconst 0, 1) := by decide +kernel
theorem dX8_become_65 : decode cX8_become 65 = .ok (.aload_n 0, 1) := by decide +kernel
theorem dX8_become_66 : decode cX8_become 66 = .ok (.getfield 27, 3) := by decide +kernel
theorem dX8_become_69 : decode cX8_become 69 = .ok (.iconst 0, 1) := by decide +kernel
theorem dX8_become_70 : decode cX8_become 70 = .ok (.bipush 6, 2) := by decide +kernel
theorem dX8_become_72 : decode cX8_become 72 = .ok (.invokestatic 37, 3) := by decide +kernel
theorem dX8_become_75 : decode cX8_become 75 = .ok (.aload_n 1, 1) := by decide +kernel
theorem dX8_become_76 : decode cX8_become 76 = .ok (.getfield 30, 3) := by decide +kernel
theorem dX8_become_79 : decode cX8_become 79 = .ok (.iconst 0, 1) := by decide +kernel
theorem dX8_become_80 : decode cX8_become 80 = .ok (.aload_n 0, 1) := by decide +kernel
theorem dX8_become_81 : decode cX8_become 81 = .ok (.getfield 30, 3) := by decide +kernel
theorem dX8_become_84 : decode cX8_become 84 = .ok (.iconst 0, 1) := by decide +kernel
theorem dX8_become_85 : decode cX8_become 85 = .ok (.bipush 6, 2) := by decide +kernel
theorem dX8_become_87 : decode cX8_become 87 = .ok (.invokestatic 37, 3) := by decide +kernel
theorem dX8_become_90 : decode cX8_become 90 = .ok (.return_, 1) := by decide +kernel
theorem dX8_pass_0 : decode cX8_pass 0 = .ok (.iconst 0, 1) := by decide +kernel
theorem dX8_pass_1 : decode cX8_pass 1 = .ok (.istore_n 3, 1) := by decide +kernel
theorem dX8_pass_2 : decode cX8_pass 2 = .ok (.iload_n 3, 1) := by decide +kernel
theorem dX8_pass_3 : decode cX8_pass 3 = .ok (.iload_n 2, 1) := by decide +kernel
theorem dX8_pass_4 : decode cX8_pass 4 = .ok (.if_icmp .ge 15, 3) := by decide +kernel
theorem dX8_pass_7 : decode cX8_pass 7 = .ok (.aload_n 0, 1) := by decide +kernel
theorem dX8_pass_8 : decode cX8_pass 8 = .ok (.aload_n 1, 1) := by decide +kernel
theorem dX8_pass_9 : decode cX8_pass 9 = .ok (.invokevirtual 43, 3) := by decide +kernel
theorem dX8_pass_12 : decode cX8_pass 12 = .ok (.pop, 1) := by decide +kernel
theorem dX8_pass_13 : decode cX8_pass 13 = .ok (.iinc 3 1, 3) := by decide +kernel
theorem dX8_pass_16 : decode cX8_pass 16 = .ok (.goto (-14), 3) := by decide +kernel
theorem dX8_pass_19 : decode cX8_pass 19 = .ok (.return_, 1) := by decide +kernel
theorem dX8_comeInBy_0 : decode cX8_comeInBy 0 = .ok (.aload_n 0, 1) := by decide +kernel
theorem dX8_comeInBy_1 : decode cX8_comeInBy 1 = .ok (.aload_n 1, 1) := by decide +kernel
theorem dX8_comeInBy_2 : decode cX8_comeInBy 2 = .ok (.aload_n 1, 1) := by decide +kernel
theorem dX8_comeInBy_3 : decode cX8_comeInBy 3 = .ok (.aload_n 0, 1) := by decide +kernel
theorem dX8_comeInBy_4 : decode cX8_comeInBy 4 = .ok (.getfield 33, 3) := by decide +kernel
theorem dX8_comeInBy_7 : decode cX8_comeInBy 7 = .ok (.invokevirtual 47, 3) := by decide +kernel
theorem dX8_comeInBy_10 : decode cX8_comeInBy 10 = .ok (.aload_n 1, 1) := by decide +kernel
theorem dX8_comeInBy_11 : decode cX8_comeInBy 11 = .ok (.aload_n 0, 1) := by decide +kernel
theorem dX8_comeInBy_12 : decode cX8_comeInBy 12 = .ok (.getfield 33, 3) := by decide +kernel
theorem dX8_comeInBy_15 : decode cX8_comeInBy 15 = .ok (.invokevirtual 51, 3) := by decide +kernel
theorem dX8_comeInBy_18 : decode cX8_comeInBy 18 = .ok (.invokevirtual 54, 3) := by decide +kernel
theorem dX8_comeInBy_21 : decode cX8_comeInBy 21 = .ok (.ireturn, 1) := by decide +kernel
theorem dX8_comeIn_0 : decode cX8_comeIn 0 = .ok (.iconst 0, 1) := by decide +kernel
theorem dX8_comeIn_1 : decode cX8_comeIn 1 = .ok (.istore 4, 2) := by decide +kernel
theorem dX8_comeIn_3 : decode cX8_comeIn 3 = .ok (.iconst 0, 1) := by decide +kernel
theorem dX8_comeIn_4 : decode cX8_comeIn 4 = .ok (.istore 5, 2) := by decide +kernel
theorem dX8_comeIn_6 : decode cX8_comeIn 6 = .ok (.iload 5, 2) := by decide +kernel
theorem dX8_comeIn_8 : decode cX8_comeIn 8 = .ok (.aload_n 1, 1) := by decide +kernel
theorem dX8_comeIn_9 : decode cX8_comeIn 9 = .ok (.getfield 58, 3) := by decide +kernel
theorem dX8_comeIn_12 : decode cX8_comeIn 12 = .ok (.if_icmp .ge 60, 3) := by decide +kernel
theorem dX8_comeIn_15 : decode cX8_comeIn 15 = .ok (.aload_n 1, 1) := by decide +kernel
theorem dX8_comeIn_16 : decode cX8_comeIn 16 = .ok (.iload 5, 2) := by decide +kernel
theorem dX8_comeIn_18 : decode cX8_comeIn 18 = .ok (.iload_n 2, 1) := by decide +kernel
theorem dX8_comeIn_19 : decode cX8_comeIn 19 = .ok (.invokevirtual 61, 3) := by decide +kernel
theorem dX8_comeIn_22 : decode cX8_comeIn 22 = .ok (.istore 6, 2) := by decide +kernel
theorem dX8_comeIn_24 : decode cX8_comeIn 24 = .ok (.aload_n 0, 1) := by decide +kernel
theorem dX8_comeIn_25 : decode cX8_comeIn 25 = .ok (.getfield 17, 3) := by decide +kernel
theorem dX8_comeIn_28 : decode cX8_comeIn 28 = .ok (.iload 5, 2) := by decide +kernel
theorem dX8_comeIn_30 : decode cX8_comeIn 30 = .ok (.iaload, 1) := by decide +kernel
theorem dX8_comeIn_31 : decode cX8_comeIn 31 = .ok (.iload 6, 2) := by decide +kernel
theorem dX8_comeIn_33 : decode cX8_comeIn 33 = .ok (.aload_n 0, 1) := by decide +kernel
theorem dX8_comeIn_34 : decode cX8_comeIn 34 = .ok (.getfield 9, 3) := by decide +kernel
theorem dX8_comeIn_37 : decode cX8_comeIn 37 = .ok (.invokestatic 65, 3) := by decide +kernel
theorem dX8_comeIn_40 : decode cX8_comeIn 40 = .ok (.ifCond .eq 14, 3) := by decide +kernel
theorem dX8_comeIn_43 : decode cX8_comeIn 43 = .ok (.iinc 4 1, 3) := by decide +kernel
theorem dX8_comeIn_46 : decode cX8_comeIn 46 = .ok (.aload_n 0, 1) := by decide +kernel
theorem dX8_comeIn_47 : decode cX8_comeIn 47 = .ok (.aload_n 1, 1) := by decide +kernel
theorem dX8_comeIn_48 : decode cX8_comeIn 48 = .ok (.iload 5, 2) := by decide +kernel
theorem dX8_comeIn_50 : decode cX8_comeIn 50 = .ok (.iload_n 3, 1) := by decide +kernel
theorem dX8_comeIn_51 : decode cX8_comeIn 51 = .ok (.invokevirtual 69, 3) := by decide +kernel
theorem dX8_comeIn_54 : decode cX8_comeIn 54 = .ok (.aload_n 0, 1) := by decide +kernel
theorem dX8_comeIn_55 : decode cX8_comeIn 55 = .ok (.getfield 17, 3) := by decide +kernel
theorem dX8_comeIn_58 : decode cX8_comeIn 58 = .ok (.iload 5, 2) := by decide +kernel
theorem dX8_comeIn_60 : decode cX8_comeIn 60 = .ok (.dup2, 1) := by decide +kernel
theorem dX8_comeIn_61 : decode cX8_comeIn 61 = .ok (.iaload, 1) := by decide +kernel
theorem dX8_comeIn_62 : decode cX8_comeIn 62 = .ok (.iload 6, 2) := by decide +kernel
theorem dX8_comeIn_64 : decode cX8_comeIn 64 = .ok (.iadd, 1) := by decide +kernel
theorem dX8_comeIn_65 : decode cX8_comeIn 65 = .ok (.iastore, 1) := by decide +kernel
theorem dX8_comeIn_66 : decode cX8_comeIn 66 = .ok (.iinc 5 1, 3) := by decide +kernel
theorem dX8_comeIn_69 : decode cX8_comeIn 69 = .ok (.goto (-63), 3) := by decide +kernel
theorem dX8_comeIn_72 : decode cX8_comeIn 72 = .ok (.aload_n 0, 1) := by decide +kernel
theorem dX8_comeIn_73 : decode cX8_comeIn 73 = .ok (.dup, 1) := by decide +kernel
theorem dX8_comeIn_74 : decode cX8_comeIn 74 = .ok (.getfield 33, 3) := by decide +kernel
theorem dX8_comeIn_77 : decode cX8_comeIn 77 = .ok (.iconst 1, 1) := by decide +kernel
theorem dX8_comeIn_78 : decode cX8_comeIn 78 = .ok (.iadd, 1) := by decide +kernel
theorem dX8_comeIn_79 : decode cX8_comeIn 79 = .ok (.putfield 33, 3) := by decide +kernel
theorem dX8_comeIn_82 : decode cX8_comeIn 82 = .ok (.iload 4, 2) := by decide +kernel
theorem dX8_comeIn_84 : decode cX8_comeIn 84 = .ok (.ireturn, 1) := by decide +kernel
theorem dX8_cross_0 : decode cX8_cross 0 = .ok (.iconst 0, 1) := by decide +kernel
theorem dX8_cross_1 : decode cX8_cross 1 = .ok (.istore 4, 2) := by decide +kernel
theorem dX8_cross_3 : decode cX8_cross 3 = .ok (.iload 4, 2) := by decide +kernel
theorem dX8_cross_5 : decode cX8_cross 5 = .ok (.aload_n 1, 1) := by decide +kernel
theorem dX8_cross_6 : decode cX8_cross 6 = .ok (.getfield 73, 3) := by decide +kernel
theorem dX8_cross_9 : decode cX8_cross 9 = .ok (.if_icmp .ge 74, 3) := by decide +kernel
theorem dX8_cross_12 : decode cX8_cross 12 = .ok (.aload_n 0, 1) := by decide +kernel
theorem dX8_cross_13 : decode cX8_cross 13 = .ok (.getfield 21, 3) := by decide +kernel
theorem dX8_cross_16 : decode cX8_cross 16 = .ok (.iload 4, 2) := by decide +kernel
theorem dX8_cross_18 : decode cX8_cross 18 = .ok (.iaload, 1) := by decide +kernel
theorem dX8_cross_19 : decode cX8_cross 19 = .ok (.istore 5, 2) := by decide +kernel
theorem dX8_cross_21 : decode cX8_cross 21 = .ok (.aload_n 0, 1) := by decide +kernel
theorem dX8_cross_22 : decode cX8_cross 22 = .ok (.getfield 27, 3) := by decide +kernel
theorem dX8_cross_25 : decode cX8_cross 25 = .ok (.iload 5, 2) := by decide +kernel
theorem dX8_cross_27 : decode cX8_cross 27 = .ok (.iaload, 1) := by decide +kernel
theorem dX8_cross_28 : decode cX8_cross 28 = .ok (.ifCond .ne 49, 3) := by decide +kernel
theorem dX8_cross_31 : decode cX8_cross 31 = .ok (.aload_n 0, 1) := by decide +kernel
theorem dX8_cross_32 : decode cX8_cross 32 = .ok (.getfield 24, 3) := by decide +kernel
theorem dX8_cross_35 : decode cX8_cross 35 = .ok (.iload 5, 2) := by decide +kernel
theorem dX8_cross_37 : decode cX8_cross 37 = .ok (.iaload, 1) := by decide +kernel
theorem dX8_cross_38 : decode cX8_cross 38 = .ok (.iload_n 2, 1) := by decide +kernel
theorem dX8_cross_39 : decode cX8_cross 39 = .ok (.if_icmp .ne 38, 3) := by decide +kernel
theorem dX8_cross_42 : decode cX8_cross 42 = .ok (.aload_n 0, 1) := by decide +kernel
theorem dX8_cross_43 : decode cX8_cross 43 = .ok (.getfield 27, 3) := by decide +kernel
theorem dX8_cross_46 : decode cX8_cross 46 = .ok (.iload 5, 2) := by decide +kernel
theorem dX8_cross_48 : decode cX8_cross 48 = .ok (.iload_n 3, 1) := by decide +kernel
theorem dX8_cross_49 : decode cX8_cross 49 = .ok (.aload_n 1, 1) := by decide +kernel
theorem dX8_cross_50 : decode cX8_cross 50 = .ok (.getfield 76, 3) := by decide +kernel
theorem dX8_cross_53 : decode cX8_cross 53 = .ok (.iload 5, 2) := by decide +kernel
theorem dX8_cross_55 : decode cX8_cross 55 = .ok (.iaload, 1) := by decide +kernel
theorem dX8_cross_56 : decode cX8_cross 56 = .ok (.if_icmp .lt 7, 3) := by decide +kernel
theorem dX8_cross_59 : decode cX8_cross 59 = .ok (.iconst 1, 1) := by decide +kernel
theorem dX8_cross_60 : decode cX8_cross 60 = .ok (.goto 4, 3) := by decide +kernel
theorem dX8_cross_63 : decode cX8_cross 63 = .ok (.iconst 2, 1) := by decide +kernel
theorem dX8_cross_64 : decode cX8_cross 64 = .ok (.iastore, 1) := by decide +kernel
theorem dX8_cross_65 : decode cX8_cross 65 = .ok (.aload_n 0, 1) := by decide +kernel
theorem dX8_cross_66 : decode cX8_cross 66 = .ok (.getfield 30, 3) := by decide +kernel
theorem dX8_cross_69 : decode cX8_cross 69 = .ok (.iload 5, 2) := by decide +kernel
theorem dX8_cross_71 : decode cX8_cross 71 = .ok (.aload_n 0, 1) := by decide +kernel
theorem dX8_cross_72 : decode cX8_cross 72 = .ok (.getfield 33, 3) := by decide +kernel
theorem dX8_cross_75 : decode cX8_cross 75 = .ok (.iastore, 1) := by decide +kernel
theorem dX8_cross_76 : decode cX8_cross 76 = .ok (.return_, 1) := by decide +kernel
theorem dX8_cross_77 : decode cX8_cross 77 = .ok (.iinc 4 1, 3) := by decide +kernel
theorem dX8_cross_80 : decode cX8_cross 80 = .ok (.goto (-77), 3) := by decide +kernel
theorem dX8_cross_83 : decode cX8_cross 83 = .ok (.return_, 1) := by decide +kernel
theorem dX8_slipBy_0 : decode cX8_slipBy 0 = .ok (.aload_n 0, 1) := by decide +kernel
theorem dX8_slipBy_1 : decode cX8_slipBy 1 = .ok (.getfield 17, 3) := by decide +kernel
theorem dX8_slipBy_4 : decode cX8_slipBy 4 = .ok (.iload_n 1, 1) := by decide +kernel
theorem dX8_slipBy_5 : decode cX8_slipBy 5 = .ok (.iconst 0, 1) := by decide +kernel
theorem dX8_slipBy_6 : decode cX8_slipBy 6 = .ok (.aload_n 0, 1) := by decide +kernel
theorem dX8_slipBy_7 : decode cX8_slipBy 7 = .ok (.getfield 17, 3) := by decide +kernel
theorem dX8_slipBy_10 : decode cX8_slipBy 10 = .ok (.iload_n 1, 1) := by decide +kernel
theorem dX8_slipBy_11 : decode cX8_slipBy 11 = .ok (.iaload, 1) := by decide +kernel
theorem dX8_slipBy_12 : decode cX8_slipBy 12 = .ok (.iload_n 2, 1) := by decide +kernel
theorem dX8_slipBy_13 : decode cX8_slipBy 13 = .ok (.iadd, 1) := by decide +kernel
theorem dX8_slipBy_14 : decode cX8_slipBy 14 = .ok (.invokestatic 79, 3) := by decide +kernel
theorem dX8_slipBy_17 : decode cX8_slipBy 17 = .ok (.iastore, 1) := by decide +kernel
theorem dX8_slipBy_18 : decode cX8_slipBy 18 = .ok (.aload_n 0, 1) := by decide +kernel
theorem dX8_slipBy_19 : decode cX8_slipBy 19 = .ok (.getfield 17, 3) := by decide +kernel
theorem dX8_slipBy_22 : decode cX8_slipBy 22 = .ok (.iload_n 1, 1) := by decide +kernel
theorem dX8_slipBy_23 : decode cX8_slipBy 23 = .ok (.iaload, 1) := by decide +kernel
theorem dX8_slipBy_24 : decode cX8_slipBy 24 = .ok (.ireturn, 1) := by decide +kernel
theorem dX8_waits_0 : decode cX8_waits 0 = .ok (.aload_n 0, 1) := by decide +kernel
theorem dX8_waits_1 : decode cX8_waits 1 = .ok (.getfield 27, 3) := by decide +kernel
theorem dX8_waits_4 : decode cX8_waits 4 = .ok (.iload_n 1, 1) := by decide +kernel
theorem dX8_waits_5 : decode cX8_waits 5 = .ok (.iaload, 1) := by decide +kernel
theorem dX8_waits_6 : decode cX8_waits 6 = .ok (.ifCond .ne 7, 3) := by decide +kernel
theorem dX8_waits_9 : decode cX8_waits 9 = .ok (.iconst 1, 1) := by decide +kernel
theorem dX8_waits_10 : decode cX8_waits 10 = .ok (.goto 4, 3) := by decide +kernel
theorem dX8_waits_13 : decode cX8_waits 13 = .ok (.iconst 0, 1) := by decide +kernel
theorem dX8_waits_14 : decode cX8_waits 14 = .ok (.ireturn, 1) := by decide +kernel
theorem dX8_isOverAheadOf_0 : decode cX8_isOverAheadOf 0 = .ok (.aload_n 0, 1) := by decide +kernel
theorem dX8_isOverAheadOf_1 : decode cX8_isOverAheadOf 1 = .ok (.getfield 27, 3) := by decide +kernel
theorem dX8_isOverAheadOf_4 : decode cX8_isOverAheadOf 4 = .ok (.iload_n 1, 1) := by decide +kernel
theorem dX8_isOverAheadOf_5 : decode cX8_isOverAheadOf 5 = .ok (.iaload, 1) := by decide +kernel
theorem dX8_isOverAheadOf_6 : decode cX8_isOverAheadOf 6 = .ok (.iconst 1, 1) := by decide +kernel
theorem dX8_isOverAheadOf_7 : decode cX8_isOverAheadOf 7 = .ok (.if_icmp .ne 23, 3) := by decide +kernel
theorem dX8_isOverAheadOf_10 : decode cX8_isOverAheadOf 10 = .ok (.iload_n 2, 1) := by decide +kernel
theorem dX8_isOverAheadOf_11 : decode cX8_isOverAheadOf 11 = .ok (.ldc 36, 2) := by decide +kernel
theorem dX8_isOverAheadOf_13 : decode cX8_isOverAheadOf 13 = .ok (.if_icmp .eq 13, 3) := by decide +kernel
theorem dX8_isOverAheadOf_16 : decode cX8_isOverAheadOf 16 = .ok (.aload_n 0, 1) := by decide +kernel
theorem dX8_isOverAheadOf_17 : decode cX8_isOverAheadOf 17 = .ok (.getfield 30, 3) := by decide +kernel
theorem dX8_isOverAheadOf_20 : decode cX8_isOverAheadOf 20 = .ok (.iload_n 1, 1) := by decide +kernel
theorem dX8_isOverAheadOf_21 : decode cX8_isOverAheadOf 21 = .ok (.iaload, 1) := by decide +kernel
theorem dX8_isOverAheadOf_22 : decode cX8_isOverAheadOf 22 = .ok (.iload_n 2, 1) := by decide +kernel
theorem dX8_isOverAheadOf_23 : decode cX8_isOverAheadOf 23 = .ok (.if_icmp .ge 7, 3) := by decide +kernel
theorem dX8_isOverAheadOf_26 : decode cX8_isOverAheadOf 26 = .ok (.iconst 1, 1) := by decide +kernel
theorem dX8_isOverAheadOf_27 : decode cX8_isOverAheadOf 27 = .ok (.goto 4, 3) := by decide +kernel
theorem dX8_isOverAheadOf_30 : decode cX8_isOverAheadOf 30 = .ok (.iconst 0, 1) := by decide +kernel
theorem dX8_isOverAheadOf_31 : decode cX8_isOverAheadOf 31 = .ok (.ireturn, 1) := by decide +kernel
theorem dX8_placeOf_0 : decode cX8_placeOf 0 = .ok (.iconst 0, 1) := by decide +kernel
theorem dX8_placeOf_1 : decode cX8_placeOf 1 = .ok (.istore_n 2, 1) := by decide +kernel
theorem dX8_placeOf_2 : decode cX8_placeOf 2 = .ok (.iload_n 2, 1) := by decide +kernel
theorem dX8_placeOf_3 : decode cX8_placeOf 3 = .ok (.bipush 6, 2) := by decide +kernel
theorem dX8_placeOf_5 : decode cX8_placeOf 5 = .ok (.if_icmp .ge 21, 3) := by decide +kernel
theorem dX8_placeOf_8 : decode cX8_placeOf 8 = .ok (.aload_n 0, 1) := by decide +kernel
theorem dX8_placeOf_9 : decode cX8_placeOf 9 = .ok (.getfield 21, 3) := by decide +kernel
theorem dX8_placeOf_12 : decode cX8_placeOf 12 = .ok (.iload_n 2, 1) := by decide +kernel
theorem dX8_placeOf_13 : decode cX8_placeOf 13 = .ok (.iaload, 1) := by decide +kernel
theorem dX8_placeOf_14 : decode cX8_placeOf 14 = .ok (.iload_n 1, 1) := by decide +kernel
theorem dX8_placeOf_15 : decode cX8_placeOf 15 = .ok (.if_icmp .ne 5, 3) := by decide +kernel
theorem dX8_placeOf_18 : decode cX8_placeOf 18 = .ok (.iload_n 2, 1) := by decide +kernel
theorem dX8_placeOf_19 : decode cX8_placeOf 19 = .ok (.ireturn, 1) := by decide +kernel
theorem dX8_placeOf_20 : decode cX8_placeOf 20 = .ok (.iinc 2 1, 3) := by decide +kernel
theorem dX8_placeOf_23 : decode cX8_placeOf 23 = .ok (.goto (-21), 3) := by decide +kernel
theorem dX8_placeOf_26 : decode cX8_placeOf 26 = .ok (.iconst 0, 1) := by decide +kernel
theorem dX8_placeOf_27 : decode cX8_placeOf 27 = .ok (.ireturn, 1) := by decide +kernel
theorem dX8_howMany_0 : decode cX8_howMany 0 = .ok (.iconst 0, 1) := by decide +kernel
theorem dX8_howMany_1 : decode cX8_howMany 1 = .ok (.istore_n 3, 1) := by decide +kernel
theorem dX8_howMany_2 : decode cX8_howMany 2 = .ok (.iconst 0, 1) := by decide +kernel
theorem dX8_howMany_3 : decode cX8_howMany 3 = .ok (.istore 4, 2) := by decide +kernel
theorem dX8_howMany_5 : decode cX8_howMany 5 = .ok (.iload 4, 2) := by decide +kernel
theorem dX8_howMany_7 : decode cX8_howMany 7 = .ok (.aload_n 1, 1) := by decide +kernel
theorem dX8_howMany_8 : decode cX8_howMany 8 = .ok (.getfield 73, 3) := by decide +kernel
theorem dX8_howMany_11 : decode cX8_howMany 11 = .ok (.if_icmp .ge 28, 3) := by decide +kernel
theorem dX8_howMany_14 : decode cX8_howMany 14 = .ok (.iload_n 3, 1) := by decide +kernel
theorem dX8_howMany_15 : decode cX8_howMany 15 = .ok (.aload_n 0, 1) := by decide +kernel
theorem dX8_howMany_16 : decode cX8_howMany 16 = .ok (.getfield 27, 3) := by decide +kernel
theorem dX8_howMany_19 : decode cX8_howMany 19 = .ok (.iload 4, 2) := by decide +kernel
theorem dX8_howMany_21 : decode cX8_howMany 21 = .ok (.iaload, 1) := by decide +kernel
theorem dX8_howMany_22 : decode cX8_howMany 22 = .ok (.iload_n 2, 1) := by decide +kernel
theorem dX8_howMany_23 : decode cX8_howMany 23 = .ok (.if_icmp .ne 7, 3) := by decide +kernel
theorem dX8_howMany_26 : decode cX8_howMany 26 = .ok (.iconst 1, 1) := by decide +kernel
theorem dX8_howMany_27 : decode cX8_howMany 27 = .ok (.goto 4, 3) := by decide +kernel
theorem dX8_howMany_30 : decode cX8_howMany 30 = .ok (.iconst 0, 1) := by decide +kernel
theorem dX8_howMany_31 : decode cX8_howMany 31 = .ok (.iadd, 1) := by decide +kernel
theorem dX8_howMany_32 : decode cX8_howMany 32 = .ok (.istore_n 3, 1) := by decide +kernel
theorem dX8_howMany_33 : decode cX8_howMany 33 = .ok (.iinc 4 1, 3) := by decide +kernel
theorem dX8_howMany_36 : decode cX8_howMany 36 = .ok (.goto (-31), 3) := by decide +kernel
theorem dX8_howMany_39 : decode cX8_howMany 39 = .ok (.iload_n 3, 1) := by decide +kernel
theorem dX8_howMany_40 : decode cX8_howMany 40 = .ok (.ireturn, 1) := by decide +kernel
theorem dX8_howManyWaitFor_0 : decode cX8_howManyWaitFor 0 = .ok (.iconst 0, 1) := by decide +kernel
theorem dX8_howManyWaitFor_1 : decode cX8_howManyWaitFor 1 = .ok (.istore_n 3, 1) := by decide +kernel
theorem dX8_howManyWaitFor_2 : decode cX8_howManyWaitFor 2 = .ok (.iconst 0, 1) := by decide +kernel
theorem dX8_howManyWaitFor_3 : decode cX8_howManyWaitFor 3 = .ok (.istore 4, 2) := by decide +kernel
theorem dX8_howManyWaitFor_5 : decode cX8_howManyWaitFor 5 = .ok (.iload 4, 2) := by decide +kernel
theorem dX8_howManyWaitFor_7 : decode cX8_howManyWaitFor 7 = .ok (.aload_n 1, 1) := by decide +kernel
theorem dX8_howManyWaitFor_8 : decode cX8_howManyWaitFor 8 = .ok (.getfield 73, 3) := by decide +kernel
theorem dX8_howManyWaitFor_11 : decode cX8_howManyWaitFor 11 = .ok (.if_icmp .ge 38, 3) := by decide +kernel
theorem dX8_howManyWaitFor_14 : decode cX8_howManyWaitFor 14 = .ok (.iload_n 3, 1) := by decide +kernel
theorem dX8_howManyWaitFor_15 : decode cX8_howManyWaitFor 15 = .ok (.aload_n 0, 1) := by decide +kernel
theorem dX8_howManyWaitFor_16 : decode cX8_howManyWaitFor 16 = .ok (.getfield 27, 3) := by decide +kernel
theorem dX8_howManyWaitFor_19 : decode cX8_howManyWaitFor 19 = .ok (.iload 4, 2) := by decide +kernel
theorem dX8_howManyWaitFor_21 : decode cX8_howManyWaitFor 21 = .ok (.iaload, 1) := by decide +kernel
theorem dX8_howManyWaitFor_22 : decode cX8_howManyWaitFor 22 = .ok (.ifCond .ne 18, 3) := by decide +kernel
theorem dX8_howManyWaitFor_25 : decode cX8_howManyWaitFor 25 = .ok (.aload_n 0, 1) := by decide +kernel
theorem dX8_howManyWaitFor_26 : decode cX8_howManyWaitFor 26 = .ok (.getfield 24, 3) := by decide +kernel
theorem dX8_howManyWaitFor_29 : decode cX8_howManyWaitFor 29 = .ok (.iload 4, 2) := by decide +kernel
theorem dX8_howManyWaitFor_31 : decode cX8_howManyWaitFor 31 = .ok (.iaload, 1) := by decide +kernel
theorem dX8_howManyWaitFor_32 : decode cX8_howManyWaitFor 32 = .ok (.iload_n 2, 1) := by decide +kernel
theorem dX8_howManyWaitFor_33 : decode cX8_howManyWaitFor 33 = .ok (.if_icmp .ne 7, 3) := by decide +kernel
theorem dX8_howManyWaitFor_36 : decode cX8_howManyWaitFor 36 = .ok (.iconst 1, 1) := by decide +kernel
theorem dX8_howManyWaitFor_37 : decode cX8_howManyWaitFor 37 = .ok (.goto 4, 3) := by decide +kernel
theorem dX8_howManyWaitFor_40 : decode cX8_howManyWaitFor 40 = .ok (.iconst 0, 1) := by decide +kernel
theorem dX8_howManyWaitFor_41 : decode cX8_howManyWaitFor 41 = .ok (.iadd, 1) := by decide +kernel
theorem dX8_howManyWaitFor_42 : decode cX8_howManyWaitFor 42 = .ok (.istore_n 3, 1) := by decide +kernel
theorem dX8_howManyWaitFor_43 : decode cX8_howManyWaitFor 43 = .ok (.iinc 4 1, 3) := by decide +kernel
theorem dX8_howManyWaitFor_46 : decode cX8_howManyWaitFor 46 = .ok (.goto (-41), 3) := by decide +kernel
theorem dX8_howManyWaitFor_49 : decode cX8_howManyWaitFor 49 = .ok (.iload_n 3, 1) := by decide +kernel
theorem dX8_howManyWaitFor_50 : decode cX8_howManyWaitFor 50 = .ok (.ireturn, 1) := by decide +kernel
theorem dX9_init_0 : decode cX9_init 0 = .ok (.aload_n 0, 1) := by decide +kernel
theorem dX9_init_1 : decode cX9_init 1 = .ok (.invokespecial 1, 3) := by decide +kernel
theorem dX9_init_4 : decode cX9_init 4 = .ok (.aload_n 0, 1) := by decide +kernel
theorem dX9_init_5 : decode cX9_init 5 = .ok (.new 7, 3) := by decide +kernel
theorem dX9_init_8 : decode cX9_init 8 = .ok (.dup, 1) := by decide +kernel
theorem dX9_init_9 : decode cX9_init 9 = .ok (.invokespecial 9, 3) := by decide +kernel
theorem dX9_init_12 : decode cX9_init 12 = .ok (.putfield 10, 3) := by decide +kernel
theorem dX9_init_15 : decode cX9_init 15 = .ok (.aload_n 0, 1) := by decide +kernel
theorem dX9_init_16 : decode cX9_init 16 = .ok (.new 16, 3) := by decide +kernel
theorem dX9_init_19 : decode cX9_init 19 = .ok (.dup, 1) := by decide +kernel
theorem dX9_init_20 : decode cX9_init 20 = .ok (.invokespecial 18, 3) := by decide +kernel
theorem dX9_init_23 : decode cX9_init 23 = .ok (.putfield 19, 3) := by decide +kernel
theorem dX9_init_26 : decode cX9_init 26 = .ok (.aload_n 0, 1) := by decide +kernel
theorem dX9_init_27 : decode cX9_init 27 = .ok (.new 23, 3) := by decide +kernel
theorem dX9_init_30 : decode cX9_init 30 = .ok (.dup, 1) := by decide +kernel
theorem dX9_init_31 : decode cX9_init 31 = .ok (.invokespecial 25, 3) := by decide +kernel
theorem dX9_init_34 : decode cX9_init 34 = .ok (.putfield 26, 3) := by decide +kernel
theorem dX9_init_37 : decode cX9_init 37 = .ok (.aload_n 0, 1) := by decide +kernel
theorem dX9_init_38 : decode cX9_init 38 = .ok (.new 23, 3) := by decide +kernel
theorem dX9_init_41 : decode cX9_init 41 = .ok (.dup, 1) := by decide +kernel
theorem dX9_init_42 : decode cX9_init 42 = .ok (.invokespecial 25, 3) := by decide +kernel
theorem dX9_init_45 : decode cX9_init 45 = .ok (.putfield 30, 3) := by decide +kernel
theorem dX9_init_48 : decode cX9_init 48 = .ok (.aload_n 0, 1) := by decide +kernel
theorem dX9_init_49 : decode cX9_init 49 = .ok (.new 33, 3) := by decide +kernel
theorem dX9_init_52 : decode cX9_init 52 = .ok (.dup, 1) := by decide +kernel
theorem dX9_init_53 : decode cX9_init 53 = .ok (.invokespecial 35, 3) := by decide +kernel
theorem dX9_init_56 : decode cX9_init 56 = .ok (.putfield 36, 3) := by decide +kernel
theorem dX9_init_59 : decode cX9_init 59 = .ok (.aload_n 0, 1) := by decide +kernel
theorem dX9_init_60 : decode cX9_init 60 = .ok (.new 33, 3) := by decide +kernel
theorem dX9_init_63 : decode cX9_init 63 = .ok (.dup, 1) := by decide +kernel
theorem dX9_init_64 : decode cX9_init 64 = .ok (.invokespecial 35, 3) := by decide +kernel
theorem dX9_init_67 : decode cX9_init 67 = .ok (.putfield 40, 3) := by decide +kernel
theorem dX9_init_70 : decode cX9_init 70 = .ok (.aload_n 0, 1) := by decide +kernel
theorem dX9_init_71 : decode cX9_init 71 = .ok (.new 43, 3) := by decide +kernel
theorem dX9_init_74 : decode cX9_init 74 = .ok (.dup, 1) := by decide +kernel
theorem dX9_init_75 : decode cX9_init 75 = .ok (.invokespecial 45, 3) := by decide +kernel
theorem dX9_init_78 : decode cX9_init 78 = .ok (.putfield 46, 3) := by decide +kernel
theorem dX9_init_81 : decode cX9_init 81 = .ok (.aload_n 0, 1) := by decide +kernel
theorem dX9_init_82 : decode cX9_init 82 = .ok (.new 50, 3) := by decide +kernel
theorem dX9_init_85 : decode cX9_init 85 = .ok (.dup, 1) := by decide +kernel
theorem dX9_init_86 : decode cX9_init 86 = .ok (.invokespecial 52, 3) := by decide +kernel
theorem dX9_init_89 : decode cX9_init 89 = .ok (.putfield 53, 3) := by decide +kernel
theorem dX9_init_92 : decode cX9_init 92 = .ok (.aload_n 0, 1) := by decide +kernel
theorem dX9_init_93 : decode cX9_init 93 = .ok (.new 57, 3) := by decide +kernel
theorem dX9_init_96 : decode cX9_init 96 = .ok (.dup, 1) := by decide +kernel
theorem dX9_init_97 : decode cX9_init 97 = .ok (.invokespecial 59, 3) := by decide +kernel
theorem dX9_init_100 : decode cX9_init 100 = .ok (.putfield 60, 3) := by decide +kernel
theorem dX9_init_103 : decode cX9_init 103 = .ok (.aload_n 0, 1) := by decide +kernel
theorem dX9_init_104 : decode cX9_init 104 = .ok (.iconst 2, 1) := by decide +kernel
theorem dX9_init_105 : decode cX9_init 105 = .ok (.anewarray 64, 3) := by decide +kernel
theorem dX9_init_108 : decode cX9_init 108 = .ok (.putfield 66, 3) := by decide +kernel
theorem dX9_init_111 : decode cX9_init 111 = .ok (.iconst 0, 1) := by decide +kernel
theorem dX9_init_112 : decode cX9_init 112 = .ok (.istore_n 1, 1) := by decide +kernel
theorem dX9_init_113 : decode cX9_init 113 = .ok (.iload_n 1, 1) := by decide +kernel
theorem dX9_init_114 : decode cX9_init 114 = .ok (.iconst 2, 1) := by decide +kernel
theorem dX9_init_115 : decode cX9_init 115 = .ok (.if_icmp .ge 22, 3) := by decide +kernel
theorem dX9_init_118 : decode cX9_init 118 = .ok (.aload_n 0, 1) := by decide +kernel
theorem dX9_init_119 : decode cX9_init 119 = .ok (.getfield 66, 3) := by decide +kernel
theorem dX9_init_122 : decode cX9_init 122 = .ok (.iload_n 1, 1) := by decide +kernel
theorem dX9_init_123 : decode cX9_init 123 = .ok (.new 64, 3) := by decide +kernel
theorem dX9_init_126 : decode cX9_init 126 = .ok (.dup, 1) := by decide +kernel
theorem dX9_init_127 : decode cX9_init 127 = .ok (.invokespecial 70, 3) := by decide +kernel
theorem dX9_init_130 : decode cX9_init 130 = .ok (.aastore, 1) := by decide +kernel
theorem dX9_init_131 : decode cX9_init 131 = .ok (.iinc 1 1, 3) := by decide +kernel
theorem dX9_init_134 : decode cX9_init 134 = .ok (.goto (-21), 3) := by decide +kernel
theorem dX9_init_137 : decode cX9_init 137 = .ok (.return_, 1) := by decide +kernel
theorem dX9_row_0 : decode cX9_row 0 = .ok (.aload_n 0, 1) := by decide +kernel
theorem dX9_row_1 : decode cX9_row 1 = .ok (.iload_n 1, 1) := by decide +kernel
theorem dX9_row_2 : decode cX9_row 2 = .ok (.invokevirtual 71, 3) := by decide +kernel
theorem dX9_row_5 : decode cX9_row 5 = .ok (.ifCond .eq 18, 3) := by decide +kernel
theorem dX9_row_8 : decode cX9_row 8 = .ok (.iload_n 2, 1) := by decide +kernel
theorem dX9_row_9 : decode cX9_row 9 = .ok (.iconst 0, 1) := by decide +kernel
theorem dX9_row_10 : decode cX9_row 10 = .ok (.iconst 2, 1) := by decide +kernel
theorem dX9_row_11 : decode cX9_row 11 = .ok (.invokestatic 75, 3) := by decide +kernel
theorem dX9_row_14 : decode cX9_row 14 = .ok (.ifCond .eq 9, 3) := by decide +kernel
theorem dX9_row_17 : decode cX9_row 17 = .ok (.iload_n 3, 1) := by decide +kernel
theorem dX9_row_18 : decode cX9_row 18 = .ok (.bipush 40, 2) := by decide +kernel
theorem dX9_row_20 : decode cX9_row 20 = .ok (.if_icmp .le 6, 3) := by decide +kernel
theorem dX9_row_23 : decode cX9_row 23 = .ok (.ldc 79, 2) := by decide +kernel
theorem dX9_row_25 : decode cX9_row 25 = .ok (.ireturn, 1) := by decide +kernel
theorem dX9_row_26 : decode cX9_row 26 = .ok (.iload_n 3, 1) := by decide +kernel
theorem dX9_row_27 : decode cX9_row 27 = .ok (.ifCond .ge 9, 3) := by decide +kernel
theorem dX9_row_30 : decode cX9_row 30 = .ok (.aload_n 0, 1) := by decide +kernel
theorem dX9_row_31 : decode cX9_row 31 = .ok (.iconst 4, 1) := by decide +kernel
theorem dX9_row_32 : decode cX9_row 32 = .ok (.invokevirtual 80, 3) := by decide +kernel
theorem dX9_row_35 : decode cX9_row 35 = .ok (.ireturn, 1) := by decide +kernel
theorem dX9_row_36 : decode cX9_row 36 = .ok (.aload_n 0, 1) := by decide +kernel
theorem dX9_row_37 : decode cX9_row 37 = .ok (.getfield 10, 3) := by decide +kernel
theorem dX9_row_40 : decode cX9_row 40 = .ok (.iload_n 1, 1) := by decide +kernel
theorem dX9_row_41 : decode cX9_row 41 = .ok (.iload_n 2, 1) := by decide +kernel
theorem dX9_row_42 : decode cX9_row 42 = .ok (.iload_n 3, 1) := by decide +kernel
theorem dX9_row_43 : decode cX9_row 43 = .ok (.invokevirtual 84, 3) := by decide +kernel
theorem dX9_row_46 : decode cX9_row 46 = .ok (.aload_n 0, 1) := by decide +kernel
theorem dX9_row_47 : decode cX9_row 47 = .ok (.iload_n 3, 1) := by decide +kernel
theorem dX9_row_48 : decode cX9_row 48 = .ok (.invokevirtual 88, 3) := by decide +kernel
theorem dX9_row_51 : decode cX9_row 51 = .ok (.ireturn, 1) := by decide +kernel
theorem dX9_set_0 : decode cX9_set 0 = .ok (.aload_n 0, 1) := by decide +kernel
theorem dX9_set_1 : decode cX9_set 1 = .ok (.iload_n 1, 1) := by decide +kernel
theorem dX9_set_2 : decode cX9_set 2 = .ok (.invokevirtual 71, 3) := by decide +kernel
theorem dX9_set_5 : decode cX9_set 5 = .ok (.ifCond .ne 6, 3) := by decide +kernel
theorem dX9_set_8 : decode cX9_set 8 = .ok (.ldc 79, 2) := by decide +kernel
theorem dX9_set_10 : decode cX9_set 10 = .ok (.ireturn, 1) := by decide +kernel
theorem dX9_set_11 : decode cX9_set 11 = .ok (.aload_n 0, 1) := by decide +kernel
theorem dX9_set_12 : decode cX9_set 12 = .ok (.getfield 10, 3) := by decide +kernel
theorem dX9_set_15 : decode cX9_set 15 = .ok (.iload_n 1, 1) := by decide +kernel
theorem dX9_set_16 : decode cX9_set 16 = .ok (.invokevirtual 91, 3) := by decide +kernel
theorem dX9_set_19 : decode cX9_set 19 = .ok (.ifCond .eq 9, 3) := by decide +kernel
theorem dX9_set_22 : decode cX9_set 22 = .ok (.aload_n 0, 1) := by decide +kernel
theorem dX9_set_23 : decode cX9_set 23 = .ok (.iconst 1, 1) := by decide +kernel
theorem dX9_set_24 : decode cX9_set 24 = .ok (.invokevirtual 80, 3) := by decide +kernel
theorem dX9_set_27 : decode cX9_set 27 = .ok (.ireturn, 1) := by decide +kernel
theorem dX9_set_28 : decode cX9_set 28 = .ok (.aload_n 0, 1) := by decide +kernel
theorem dX9_set_29 : decode cX9_set 29 = .ok (.getfield 10, 3) := by decide +kernel
theorem dX9_set_32 : decode cX9_set 32 = .ok (.iload_n 1, 1) := by decide +kernel
theorem dX9_set_33 : decode cX9_set 33 = .ok (.iload_n 2, 1) := by decide +kernel
theorem dX9_set_34 : decode cX9_set 34 = .ok (.iconst 1, 1) := by decide +kernel
theorem dX9_set_35 : decode cX9_set 35 = .ok (.invokevirtual 94, 3) := by decide +kernel
theorem dX9_set_38 : decode cX9_set 38 = .ok (.ifCond .ne 9, 3) := by decide +kernel
theorem dX9_set_41 : decode cX9_set 41 = .ok (.aload_n 0, 1) := by decide +kernel
theorem dX9_set_42 : decode cX9_set 42 = .ok (.iconst 2, 1) := by decide +kernel
theorem dX9_set_43 : decode cX9_set 43 = .ok (.invokevirtual 80, 3) := by decide +kernel
theorem dX9_set_46 : decode cX9_set 46 = .ok (.ireturn, 1) := by decide +kernel
theorem dX9_set_47 : decode cX9_set 47 = .ok (.aload_n 0, 1) := by decide +kernel
theorem dX9_set_48 : decode cX9_set 48 = .ok (.aload_n 0, 1) := by decide +kernel
theorem dX9_set_49 : decode cX9_set 49 = .ok (.getfield 10, 3) := by decide +kernel
theorem dX9_set_52 : decode cX9_set 52 = .ok (.iload_n 1, 1) := by decide +kernel
theorem dX9_set_53 : decode cX9_set 53 = .ok (.iload_n 2, 1) := by decide +kernel
theorem dX9_set_54 : decode cX9_set 54 = .ok (.iload_n 3, 1) := by decide +kernel
theorem dX9_set_55 : decode cX9_set 55 = .ok (.invokevirtual 97, 3) := by decide +kernel
theorem dX9_set_58 : decode cX9_set 58 = .ok (.invokevirtual 88, 3) := by decide +kernel
theorem dX9_set_61 : decode cX9_set 61 = .ok (.ireturn, 1) := by decide +kernel
theorem dX9_copy_0 : decode cX9_copy 0 = .ok (.aload_n 0, 1) := by decide +kernel
theorem dX9_copy_1 : decode cX9_copy 1 = .ok (.iload_n 1, 1) := by decide +kernel
theorem dX9_copy_2 : decode cX9_copy 2 = .ok (.invokevirtual 71, 3) := by decide +kernel
theorem dX9_copy_5 : decode cX9_copy 5 = .ok (.ifCond .eq 11, 3) := by decide +kernel
theorem dX9_copy_8 : decode cX9_copy 8 = .ok (.aload_n 0, 1) := by decide +kernel
theorem dX9_copy_9 : decode cX9_copy 9 = .ok (.iload_n 3, 1) := by decide +kernel
theorem dX9_copy_10 : decode cX9_copy 10 = .ok (.invokevirtual 71, 3) := by decide +kernel
theorem dX9_copy_13 : decode cX9_copy 13 = .ok (.ifCond .ne 6, 3) := by decide +kernel
theorem dX9_copy_16 : decode cX9_copy 16 = .ok (.ldc 79, 2) := by decide +kernel
theorem dX9_copy_18 : decode cX9_copy 18 = .ok (.ireturn, 1) := by decide +kernel
theorem dX9_copy_19 : decode cX9_copy 19 = .ok (.aload_n 0, 1) := by decide +kernel
theorem dX9_copy_20 : decode cX9_copy 20 = .ok (.getfield 10, 3) := by decide +kernel
theorem dX9_copy_23 : decode cX9_copy 23 = .ok (.iload_n 1, 1) := by decide +kernel
theorem dX9_copy_24 : decode cX9_copy 24 = .ok (.invokevirtual 91, 3) := by decide +kernel
theorem dX9_copy_27 : decode cX9_copy 27 = .ok (.ifCond .ne 14, 3) := by decide +kernel
theorem dX9_copy_30 : decode cX9_copy 30 = .ok (.aload_n 0, 1) := by decide +kernel
theorem dX9_copy_31 : decode cX9_copy 31 = .ok (.getfield 10, 3) := by decide +kernel
theorem dX9_copy_34 : decode cX9_copy 34 = .ok (.iload_n 3, 1) := by decide +kernel
theorem dX9_copy_35 : decode cX9_copy 35 = .ok (.invokevirtual 91, 3) := by decide +kernel
theorem dX9_copy_38 : decode cX9_copy 38 = .ok (.ifCond .eq 9, 3) := by decide +kernel
theorem dX9_copy_41 : decode cX9_copy 41 = .ok (.aload_n 0, 1) := by decide +kernel
theorem dX9_copy_42 : decode cX9_copy 42 = .ok (.iconst 1, 1) := by decide +kernel
theorem dX9_copy_43 : decode cX9_copy 43 = .ok (.invokevirtual 80, 3) := by decide +kernel
theorem dX9_copy_46 : decode cX9_copy 46 = .ok (.ireturn, 1) := by decide +kernel
theorem dX9_copy_47 : decode cX9_copy 47 = .ok (.aload_n 0, 1) := by decide +kernel
theorem dX9_copy_48 : decode cX9_copy 48 = .ok (.getfield 10, 3) := by decide +kernel
theorem dX9_copy_51 : decode cX9_copy 51 = .ok (.iload_n 1, 1) := by decide +kernel
theorem dX9_copy_52 : decode cX9_copy 52 = .ok (.iload_n 3, 1) := by decide +kernel
theorem dX9_copy_53 : decode cX9_copy 53 = .ok (.invokevirtual 101, 3) := by decide +kernel
theorem dX9_copy_56 : decode cX9_copy 56 = .ok (.ifCond .ne 9, 3) := by decide +kernel
theorem dX9_copy_59 : decode cX9_copy 59 = .ok (.aload_n 0, 1) := by decide +kernel
theorem dX9_copy_60 : decode cX9_copy 60 = .ok (.iconst 5, 1) := by decide +kernel
theorem dX9_copy_61 : decode cX9_copy 61 = .ok (.invokevirtual 80, 3) := by decide +kernel
theorem dX9_copy_64 : decode cX9_copy 64 = .ok (.ireturn, 1) := by decide +kernel
theorem dX9_copy_65 : decode cX9_copy 65 = .ok (.aload_n 0, 1) := by decide +kernel
theorem dX9_copy_66 : decode cX9_copy 66 = .ok (.getfield 10, 3) := by decide +kernel
theorem dX9_copy_69 : decode cX9_copy 69 = .ok (.iload_n 1, 1) := by decide +kernel
theorem dX9_copy_70 : decode cX9_copy 70 = .ok (.iload_n 2, 1) := by decide +kernel
theorem dX9_copy_71 : decode cX9_copy 71 = .ok (.iload 5, 2) := by decide +kernel
theorem dX9_copy_73 : decode cX9_copy 73 = .ok (.invokevirtual 94, 3) := by decide +kernel
theorem dX9_copy_76 : decode cX9_copy 76 = .ok (.ifCond .eq 18, 3) := by decide +kernel
theorem dX9_copy_79 : decode cX9_copy 79 = .ok (.aload_n 0, 1) := by decide +kernel
theorem dX9_copy_80 : decode cX9_copy 80 = .ok (.getfield 10, 3) := by decide +kernel
theorem dX9_copy_83 : decode cX9_copy 83 = .ok (.iload_n 3, 1) := by decide +kernel
theorem dX9_copy_84 : decode cX9_copy 84 = .ok (.iload 4, 2) := by decide +kernel
theorem dX9_copy_86 : decode cX9_copy 86 = .ok (.iload 5, 2) := by decide +kernel
theorem dX9_copy_88 : decode cX9_copy 88 = .ok (.invokevirtual 94, 3) := by decide +kernel
theorem dX9_copy_91 : decode cX9_copy 91 = .ok (.ifCond .ne 9, 3) := by decide +kernel
theorem dX9_copy_94 : decode cX9_copy 94 = .ok (.aload_n 0, 1) := by decide +kernel
theorem dX9_copy_95 : decode cX9_copy 95 = .ok (.iconst 2, 1) := by decide +kernel
theorem dX9_copy_96 : decode cX9_copy 96 = .ok (.invokevirtual 80, 3) := by decide +kernel
theorem dX9_copy_99 : decode cX9_copy 99 = .ok (.ireturn, 1) := by decide +kernel
theorem dX9_copy_100 : decode cX9_copy 100 = .ok (.aload_n 0, 1) := by decide +kernel
theorem dX9_copy_101 : decode cX9_copy 101 = .ok (.getfield 10, 3) := by decide +kernel
theorem dX9_copy_104 : decode cX9_copy 104 = .ok (.iload_n 1, 1) := by decide +kernel
theorem dX9_copy_105 : decode cX9_copy 105 = .ok (.iload_n 2, 1) := by decide +kernel
theorem dX9_copy_106 : decode cX9_copy 106 = .ok (.iload_n 3, 1) := by decide +kernel
theorem dX9_copy_107 : decode cX9_copy 107 = .ok (.iload 4, 2) := by decide +kernel
theorem dX9_copy_109 : decode cX9_copy 109 = .ok (.iload 5, 2) := by decide +kernel
theorem dX9_copy_111 : decode cX9_copy 111 = .ok (.invokevirtual 105, 3) := by decide +kernel
theorem dX9_copy_114 : decode cX9_copy 114 = .ok (.aload_n 0, 1) := by decide +kernel
theorem dX9_copy_115 : decode cX9_copy 115 = .ok (.iload 5, 2) := by decide +kernel
theorem dX9_copy_117 : decode cX9_copy 117 = .ok (.invokevirtual 88, 3) := by decide +kernel
theorem dX9_copy_120 : decode cX9_copy 120 = .ok (.ireturn, 1) := by decide +kernel
theorem dX9_drop_0 : decode cX9_drop 0 = .ok (.aload_n 0, 1) := by decide +kernel
theorem dX9_drop_1 : decode cX9_drop 1 = .ok (.iload_n 1, 1) := by decide +kernel
theorem dX9_drop_2 : decode cX9_drop 2 = .ok (.invokevirtual 71, 3) := by decide +kernel
theorem dX9_drop_5 : decode cX9_drop 5 = .ok (.ifCond .ne 6, 3) := by decide +kernel
theorem dX9_drop_8 : decode cX9_drop 8 = .ok (.ldc 79, 2) := by decide +kernel
theorem dX9_drop_10 : decode cX9_drop 10 = .ok (.ireturn, 1) := by decide +kernel
theorem dX9_drop_11 : decode cX9_drop 11 = .ok (.aload_n 0, 1) := by decide +kernel
theorem dX9_drop_12 : decode cX9_drop 12 = .ok (.getfield 10, 3) := by decide +kernel
theorem dX9_drop_15 : decode cX9_drop 15 = .ok (.iload_n 1, 1) := by decide +kernel
theorem dX9_drop_16 : decode cX9_drop 16 = .ok (.invokevirtual 91, 3) := by decide +kernel
theorem dX9_drop_19 : decode cX9_drop 19 = .ok (.ifCond .eq 9, 3) := by decide +kernel
theorem dX9_drop_22 : decode cX9_drop 22 = .ok (.aload_n 0, 1) := by decide +kernel
theorem dX9_drop_23 : decode cX9_drop 23 = .ok (.iconst 1, 1) := by decide +kernel
theorem dX9_drop_24 : decode cX9_drop 24 = .ok (.invokevirtual 80, 3) := by decide +kernel
theorem dX9_drop_27 : decode cX9_drop 27 = .ok (.ireturn, 1) := by decide +kernel
theorem dX9_drop_28 : decode cX9_drop 28 = .ok (.aload_n 0, 1) := by decide +kernel
theorem dX9_drop_29 : decode cX9_drop 29 = .ok (.aload_n 0, 1) := by decide +kernel
theorem dX9_drop_30 : decode cX9_drop 30 = .ok (.getfield 10, 3) := by decide +kernel
theorem dX9_drop_33 : decode cX9_drop 33 = .ok (.iload_n 1, 1) := by decide +kernel
theorem dX9_drop_34 : decode cX9_drop 34 = .ok (.invokevirtual 109, 3) := by decide +kernel
theorem dX9_drop_37 : decode cX9_drop 37 = .ok (.invokevirtual 88, 3) := by decide +kernel
theorem dX9_drop_40 : decode cX9_drop 40 = .ok (.ireturn, 1) := by decide +kernel
theorem dX9_feed_0 : decode cX9_feed 0 = .ok (.iload_n 1, 1) := by decide +kernel
theorem dX9_feed_1 : decode cX9_feed 1 = .ok (.iconst 0, 1) := by decide +kernel
theorem dX9_feed_2 : decode cX9_feed 2 = .ok (.sipush 255, 3) := by decide +kernel
theorem dX9_feed_5 : decode cX9_feed 5 = .ok (.invokestatic 75, 3) := by decide +kernel
theorem dX9_feed_8 : decode cX9_feed 8 = .ok (.ifCond .ne 6, 3) := by decide +kernel
theorem dX9_feed_11 : decode cX9_feed 11 = .ok (.ldc 79, 2) := by decide +kernel
theorem dX9_feed_13 : decode cX9_feed 13 = .ok (.ireturn, 1) := by decide +kernel
theorem dX9_feed_14 : decode cX9_feed 14 = .ok (.aload_n 0, 1) := by decide +kernel
theorem dX9_feed_15 : decode cX9_feed 15 = .ok (.getfield 19, 3) := by decide +kernel
theorem dX9_feed_18 : decode cX9_feed 18 = .ok (.invokevirtual 112, 3) := by decide +kernel
theorem dX9_feed_21 : decode cX9_feed 21 = .ok (.ifCond .eq 6, 3) := by decide +kernel
theorem dX9_feed_24 : decode cX9_feed 24 = .ok (.ldc 116, 2) := by decide +kernel
theorem dX9_feed_26 : decode cX9_feed 26 = .ok (.ireturn, 1) := by decide +kernel
theorem dX9_feed_27 : decode cX9_feed 27 = .ok (.aload_n 0, 1) := by decide +kernel
theorem dX9_feed_28 : decode cX9_feed 28 = .ok (.getfield 19, 3) := by decide +kernel
theorem dX9_feed_31 : decode cX9_feed 31 = .ok (.iload_n 1, 1) := by decide +kernel
theorem dX9_feed_32 : decode cX9_feed 32 = .ok (.invokevirtual 117, 3) := by decide +kernel
theorem dX9_feed_35 : decode cX9_feed 35 = .ok (.ireturn, 1) := by decide +kernel
theorem dX9_sea_0 : decode cX9_sea 0 = .ok (.aload_n 0, 1) := by decide +kernel
theorem dX9_sea_1 : decode cX9_sea 1 = .ok (.getfield 19, 3) := by decide +kernel
theorem dX9_sea_4 : decode cX9_sea 4 = .ok (.aload_n 0, 1) := by decide +kernel
theorem dX9_sea_5 : decode cX9_sea 5 = .ok (.getfield 30, 3) := by decide +kernel
theorem dX9_sea_8 : decode cX9_sea 8 = .ok (.aload_n 0, 1) := by decide +kernel
theorem dX9_sea_9 : decode cX9_sea 9 = .ok (.getfield 40, 3) := by decide +kernel
theorem dX9_sea_12 : decode cX9_sea 12 = .ok (.invokevirtual 120, 3) := by decide +kernel
theorem dX9_sea_15 : decode cX9_sea 15 = .ok (.istore_n 1, 1) := by decide +kernel
theorem dX9_sea_16 : decode cX9_sea 16 = .ok (.aload_n 0, 1) := by decide +kernel
theorem dX9_sea_17 : decode cX9_sea 17 = .ok (.getfield 19, 3) := by decide +kernel
theorem dX9_sea_20 : decode cX9_sea 20 = .ok (.invokevirtual 124, 3) := by decide +kernel
theorem dX9_sea_23 : decode cX9_sea 23 = .ok (.iload_n 1, 1) := by decide +kernel
theorem dX9_sea_24 : decode cX9_sea 24 = .ok (.ifCond .ne 25, 3) := by decide +kernel
theorem dX9_sea_27 : decode cX9_sea 27 = .ok (.aload_n 0, 1) := by decide +kernel
theorem dX9_sea_28 : decode cX9_sea 28 = .ok (.aload_n 0, 1) := by decide +kernel
theorem dX9_sea_29 : decode cX9_sea 29 = .ok (.getfield 19, 3) := by decide +kernel
theorem dX9_sea_32 : decode cX9_sea 32 = .ok (.invokevirtual 127, 3) := by decide +kernel
theorem dX9_sea_35 : decode cX9_sea 35 = .ok (.putfield 131, 3) := by decide +kernel
theorem dX9_sea_38 : decode cX9_sea 38 = .ok (.ldc 135, 2) := by decide +kernel
theorem dX9_sea_40 : decode cX9_sea 40 = .ok (.aload_n 0, 1) := by decide +kernel
theorem dX9_sea_41 : decode cX9_sea 41 = .ok (.getfield 19, 3) := by decide +kernel
theorem dX9_sea_44 : decode cX9_sea 44 = .ok (.invokevirtual 136, 3) := by decide +kernel
theorem dX9_sea_47 : decode cX9_sea 47 = .ok (.isub, 1) := by decide +kernel
theorem dX9_sea_48 : decode cX9_sea 48 = .ok (.ireturn, 1) := by decide +kernel
theorem dX9_sea_49 : decode cX9_sea 49 = .ok (.aload_n 0, 1) := by decide +kernel
theorem dX9_sea_50 : decode cX9_sea 50 = .ok (.getfield 26, 3) := by decide +kernel
theorem dX9_sea_53 : decode cX9_sea 53 = .ok (.aload_n 0, 1) := by decide +kernel
theorem dX9_sea_54 : decode cX9_sea 54 = .ok (.getfield 30, 3) := by decide +kernel
theorem dX9_sea_57 : decode cX9_sea 57 = .ok (.invokevirtual 139, 3) := by decide +kernel
theorem dX9_sea_60 : decode cX9_sea 60 = .ok (.aload_n 0, 1) := by decide +kernel
theorem dX9_sea_61 : decode cX9_sea 61 = .ok (.getfield 36, 3) := by decide +kernel
theorem dX9_sea_64 : decode cX9_sea 64 = .ok (.aload_n 0, 1) := by decide +kernel
theorem dX9_sea_65 : decode cX9_sea 65 = .ok (.getfield 40, 3) := by decide +kernel
theorem dX9_sea_68 : decode cX9_sea 68 = .ok (.invokevirtual 143, 3) := by decide +kernel
theorem dX9_sea_71 : decode cX9_sea 71 = .ok (.aload_n 0, 1) := by decide +kernel
theorem dX9_sea_72 : decode cX9_sea 72 = .ok (.getfield 46, 3) := by decide +kernel
theorem dX9_sea_75 : decode cX9_sea 75 = .ok (.invokevirtual 146, 3) := by decide +kernel
theorem dX9_sea_78 : decode cX9_sea 78 = .ok (.aload_n 0, 1) := by decide +kernel
theorem dX9_sea_79 : decode cX9_sea 79 = .ok (.iconst 1, 1) := by decide +kernel
theorem dX9_sea_80 : decode cX9_sea 80 = .ok (.putfield 149, 3) := by decide +kernel
theorem dX9_sea_83 : decode cX9_sea 83 = .ok (.aload_n 0, 1) := by decide +kernel
theorem dX9_sea_84 : decode cX9_sea 84 = .ok (.getfield 26, 3) := by decide +kernel
theorem dX9_sea_87 : decode cX9_sea 87 = .ok (.getfield 153, 3) := by decide +kernel
theorem dX9_sea_90 : decode cX9_sea 90 = .ok (.ireturn, 1) := by decide +kernel
theorem dX9_fault_0 : decode cX9_fault 0 = .ok (.aload_n 0, 1) := by decide +kernel
theorem dX9_fault_1 : decode cX9_fault 1 = .ok (.getfield 131, 3) := by decide +kernel
theorem dX9_fault_4 : decode cX9_fault 4 = .ok (.ireturn, 1) := by decide +kernel
theorem dX9_waves_0 : decode cX9_waves 0 = .ok (.aload_n 0, 1) := by decide +kernel
theorem dX9_waves_1 : decode cX9_waves 1 = .ok (.getfield 149, 3) := by decide +kernel
theorem dX9_waves_4 : decode cX9_waves 4 = .ok (.ifCond .ne 6, 3) := by decide +kernel
theorem dX9_waves_7 : decode cX9_waves 7 = .ok (.ldc 156, 2) := by decide +kernel
theorem dX9_waves_9 : decode cX9_waves 9 = .ok (.ireturn, 1) := by decide +kernel
theorem dX9_waves_10 : decode cX9_waves 10 = .ok (.iload_n 1, 1) := by decide +kernel
theorem dX9_waves_11 : decode cX9_waves 11 = .ok (.iconst 1, 1) := by decide +kernel
theorem dX9_waves_12 : decode cX9_waves 12 = .ok (.bipush 24, 2) := by decide +kernel
theorem dX9_waves_14 : decode cX9_waves 14 = .ok (.invokestatic 75, 3) := by decide +kernel
theorem dX9_waves_17 : decode cX9_waves 17 = .ok (.ifCond .ne 6, 3) := by decide +kernel
theorem dX9_waves_20 : decode cX9_waves 20 = .ok (.ldc 79, 2) := by decide +kernel
theorem dX9_waves_22 : decode cX9_waves 22 = .ok (.ireturn, 1) := by decide +kernel
theorem dX9_waves_23 : decode cX9_waves 23 = .ok (.aload_n 0, 1) := by decide +kernel
theorem dX9_waves_24 : decode cX9_waves 24 = .ok (.getfield 36, 3) := by decide +kernel
theorem dX9_waves_27 : decode cX9_waves 27 = .ok (.getfield 157, 3) := by decide +kernel
theorem dX9_waves_30 : decode cX9_waves 30 = .ok (.iload_n 1, 1) := by decide +kernel
theorem dX9_waves_31 : decode cX9_waves 31 = .ok (.iadd, 1) := by decide +kernel
theorem dX9_waves_32 : decode cX9_waves 32 = .ok (.sipush 999, 3) := by decide +kernel
theorem dX9_waves_35 : decode cX9_waves 35 = .ok (.if_icmp .le 6, 3) := by decide +kernel
theorem dX9_waves_38 : decode cX9_waves 38 = .ok (.ldc 116, 2) := by decide +kernel
theorem dX9_waves_40 : decode cX9_waves 40 = .ok (.ireturn, 1) := by decide +kernel
theorem dX9_waves_41 : decode cX9_waves 41 = .ok (.iconst 0, 1) := by decide +kernel
theorem dX9_waves_42 : decode cX9_waves 42 = .ok (.istore_n 2, 1) := by decide +kernel
theorem dX9_waves_43 : decode cX9_waves 43 = .ok (.iload_n 2, 1) := by decide +kernel
theorem dX9_waves_44 : decode cX9_waves 44 = .ok (.iload_n 1, 1) := by decide +kernel
theorem dX9_waves_45 : decode cX9_waves 45 = .ok (.if_icmp .ge 32, 3) := by decide +kernel
theorem dX9_waves_48 : decode cX9_waves 48 = .ok (.aload_n 0, 1) := by decide +kernel
theorem dX9_waves_49 : decode cX9_waves 49 = .ok (.getfield 46, 3) := by decide +kernel
theorem dX9_waves_52 : decode cX9_waves 52 = .ok (.aload_n 0, 1) := by decide +kernel
theorem dX9_waves_53 : decode cX9_waves 53 = .ok (.getfield 36, 3) := by decide +kernel
theorem dX9_waves_56 : decode cX9_waves 56 = .ok (.invokevirtual 160, 3) := by decide +kernel
theorem dX9_waves_59 : decode cX9_waves 59 = .ok (.aload_n 0, 1) := by decide +kernel
theorem dX9_waves_60 : decode cX9_waves 60 = .ok (.getfield 36, 3) := by decide +kernel
theorem dX9_waves_63 : decode cX9_waves 63 = .ok (.aload_n 0, 1) := by decide +kernel
theorem dX9_waves_64 : decode cX9_waves 64 = .ok (.getfield 26, 3) := by decide +kernel
theorem dX9_waves_67 : decode cX9_waves 67 = .ok (.invokevirtual 163, 3) := by decide +kernel
theorem dX9_waves_70 : decode cX9_waves 70 = .ok (.pop, 1) := by decide +kernel
theorem dX9_waves_71 : decode cX9_waves 71 = .ok (.iinc 2 1, 3) := by decide +kernel
theorem dX9_waves_74 : decode cX9_waves 74 = .ok (.goto (-31), 3) := by decide +kernel
theorem dX9_waves_77 : decode cX9_waves 77 = .ok (.aload_n 0, 1) := by decide +kernel
theorem dX9_waves_78 : decode cX9_waves 78 = .ok (.getfield 36, 3) := by decide +kernel
theorem dX9_waves_81 : decode cX9_waves 81 = .ok (.getfield 157, 3) := by decide +kernel
theorem dX9_waves_84 : decode cX9_waves 84 = .ok (.ireturn, 1) := by decide +kernel
theorem dX9_slip_0 : decode cX9_slip 0 = .ok (.aload_n 0, 1) := by decide +kernel
theorem dX9_slip_1 : decode cX9_slip 1 = .ok (.iload_n 1, 1) := by decide +kernel
theorem dX9_slip_2 : decode cX9_slip 2 = .ok (.invokevirtual 167, 3) := by decide +kernel
theorem dX9_slip_5 : decode cX9_slip 5 = .ok (.ifCond .eq 14, 3) := by decide +kernel
theorem dX9_slip_8 : decode cX9_slip 8 = .ok (.iload_n 2, 1) := by decide +kernel
theorem dX9_slip_9 : decode cX9_slip 9 = .ok (.bipush (-9), 2) := by decide +kernel
theorem dX9_slip_11 : decode cX9_slip 11 = .ok (.bipush 9, 2) := by decide +kernel
theorem dX9_slip_13 : decode cX9_slip 13 = .ok (.invokestatic 75, 3) := by decide +kernel
theorem dX9_slip_16 : decode cX9_slip 16 = .ok (.ifCond .ne 6, 3) := by decide +kernel
theorem dX9_slip_19 : decode cX9_slip 19 = .ok (.ldc 79, 2) := by decide +kernel
theorem dX9_slip_21 : decode cX9_slip 21 = .ok (.ireturn, 1) := by decide +kernel
theorem dX9_slip_22 : decode cX9_slip 22 = .ok (.aload_n 0, 1) := by decide +kernel
theorem dX9_slip_23 : decode cX9_slip 23 = .ok (.getfield 46, 3) := by decide +kernel
theorem dX9_slip_26 : decode cX9_slip 26 = .ok (.aload_n 0, 1) := by decide +kernel
theorem dX9_slip_27 : decode cX9_slip 27 = .ok (.getfield 36, 3) := by decide +kernel
theorem dX9_slip_30 : decode cX9_slip 30 = .ok (.invokevirtual 160, 3) := by decide +kernel
theorem dX9_slip_33 : decode cX9_slip 33 = .ok (.aload_n 0, 1) := by decide +kernel
theorem dX9_slip_34 : decode cX9_slip 34 = .ok (.getfield 36, 3) := by decide +kernel
theorem dX9_slip_37 : decode cX9_slip 37 = .ok (.iload_n 1, 1) := by decide +kernel
theorem dX9_slip_38 : decode cX9_slip 38 = .ok (.iload_n 2, 1) := by decide +kernel
theorem dX9_slip_39 : decode cX9_slip 39 = .ok (.invokevirtual 170, 3) := by decide +kernel
theorem dX9_slip_42 : decode cX9_slip 42 = .ok (.ireturn, 1) := by decide +kernel
theorem dX9_law_0 : decode cX9_law 0 = .ok (.aload_n 0, 1) := by decide +kernel
theorem dX9_law_1 : decode cX9_law 1 = .ok (.getfield 149, 3) := by decide +kernel
theorem dX9_law_4 : decode cX9_law 4 = .ok (.ifCond .ne 6, 3) := by decide +kernel
theorem dX9_law_7 : decode cX9_law 7 = .ok (.ldc 156, 2) := by decide +kernel
theorem dX9_law_9 : decode cX9_law 9 = .ok (.ireturn, 1) := by decide +kernel
theorem dX9_law_10 : decode cX9_law 10 = .ok (.iload_n 1, 1) := by decide +kernel
theorem dX9_law_11 : decode cX9_law 11 = .ok (.iconst 2, 1) := by decide +kernel
theorem dX9_law_12 : decode cX9_law 12 = .ok (.bipush 12, 2) := by decide +kernel
theorem dX9_law_14 : decode cX9_law 14 = .ok (.invokestatic 75, 3) := by decide +kernel
theorem dX9_law_17 : decode cX9_law 17 = .ok (.ifCond .ne 6, 3) := by decide +kernel
theorem dX9_law_20 : decode cX9_law 20 = .ok (.ldc 79, 2) := by decide +kernel
theorem dX9_law_22 : decode cX9_law 22 = .ok (.ireturn, 1) := by decide +kernel
theorem dX9_law_23 : decode cX9_law 23 = .ok (.aload_n 0, 1) := by decide +kernel
theorem dX9_law_24 : decode cX9_law 24 = .ok (.getfield 36, 3) := by decide +kernel
theorem dX9_law_27 : decode cX9_law 27 = .ok (.getfield 174, 3) := by decide +kernel
theorem dX9_law_30 : decode cX9_law 30 = .ok (.istore_n 2, 1) := by decide +kernel
theorem dX9_law_31 : decode cX9_law 31 = .ok (.aload_n 0, 1) := by decide +kernel
theorem dX9_law_32 : decode cX9_law 32 = .ok (.getfield 46, 3) := by decide +kernel
theorem dX9_law_35 : decode cX9_law 35 = .ok (.aload_n 0, 1) := by decide +kernel
theorem dX9_law_36 : decode cX9_law 36 = .ok (.getfield 36, 3) := by decide +kernel
theorem dX9_law_39 : decode cX9_law 39 = .ok (.invokevirtual 160, 3) := by decide +kernel
theorem dX9_law_42 : decode cX9_law 42 = .ok (.aload_n 0, 1) := by decide +kernel
theorem dX9_law_43 : decode cX9_law 43 = .ok (.getfield 36, 3) := by decide +kernel
theorem dX9_law_46 : decode cX9_law 46 = .ok (.iload_n 1, 1) := by decide +kernel
theorem dX9_law_47 : decode cX9_law 47 = .ok (.putfield 174, 3) := by decide +kernel
theorem dX9_law_50 : decode cX9_law 50 = .ok (.iload_n 2, 1) := by decide +kernel
theorem dX9_law_51 : decode cX9_law 51 = .ok (.ireturn, 1) := by decide +kernel
theorem dX9_change_0 : decode cX9_change 0 = .ok (.aload_n 0, 1) := by decide +kernel
theorem dX9_change_1 : decode cX9_change 1 = .ok (.iload_n 1, 1) := by decide +kernel
theorem dX9_change_2 : decode cX9_change 2 = .ok (.invokevirtual 177, 3) := by decide +kernel
theorem dX9_change_5 : decode cX9_change 5 = .ok (.ifCond .eq 16, 3) := by decide +kernel
theorem dX9_change_8 : decode cX9_change 8 = .ok (.aload_n 0, 1) := by decide +kernel
theorem dX9_change_9 : decode cX9_change 9 = .ok (.iload_n 2, 1) := by decide +kernel
theorem dX9_change_10 : decode cX9_change 10 = .ok (.invokevirtual 177, 3) := by decide +kernel
theorem dX9_change_13 : decode cX9_change 13 = .ok (.ifCond .eq 8, 3) := by decide +kernel
theorem dX9_change_16 : decode cX9_change 16 = .ok (.iload_n 1, 1) := by decide +kernel
theorem dX9_change_17 : decode cX9_change 17 = .ok (.iload_n 2, 1) := by decide +kernel
theorem dX9_change_18 : decode cX9_change 18 = .ok (.if_icmp .ne 6, 3) := by decide +kernel
theorem dX9_change_21 : decode cX9_change 21 = .ok (.ldc 79, 2) := by decide +kernel
theorem dX9_change_23 : decode cX9_change 23 = .ok (.ireturn, 1) := by decide +kernel
theorem dX9_change_24 : decode cX9_change 24 = .ok (.aload_n 0, 1) := by decide +kernel
theorem dX9_change_25 : decode cX9_change 25 = .ok (.getfield 46, 3) := by decide +kernel
theorem dX9_change_28 : decode cX9_change 28 = .ok (.aload_n 0, 1) := by decide +kernel
theorem dX9_change_29 : decode cX9_change 29 = .ok (.getfield 36, 3) := by decide +kernel
theorem dX9_change_32 : decode cX9_change 32 = .ok (.invokevirtual 160, 3) := by decide +kernel
theorem dX9_change_35 : decode cX9_change 35 = .ok (.aload_n 0, 1) := by decide +kernel
theorem dX9_change_36 : decode cX9_change 36 = .ok (.getfield 36, 3) := by decide +kernel
theorem dX9_change_39 : decode cX9_change 39 = .ok (.iload_n 1, 1) := by decide +kernel
theorem dX9_change_40 : decode cX9_change 40 = .ok (.invokevirtual 180, 3) := by decide +kernel
theorem dX9_change_43 : decode cX9_change 43 = .ok (.istore_n 3, 1) := by decide +kernel
theorem dX9_change_44 : decode cX9_change 44 = .ok (.aload_n 0, 1) := by decide +kernel
theorem dX9_change_45 : decode cX9_change 45 = .ok (.getfield 36, 3) := by decide +kernel
theorem dX9_change_48 : decode cX9_change 48 = .ok (.iload_n 2, 1) := by decide +kernel
theorem dX9_change_49 : decode cX9_change 49 = .ok (.invokevirtual 180, 3) := by decide +kernel
theorem dX9_change_52 : decode cX9_change 52 = .ok (.istore 4, 2) := by decide +kernel
theorem dX9_change_54 : decode cX9_change 54 = .ok (.aload_n 0, 1) := by decide +kernel
theorem dX9_change_55 : decode cX9_change 55 = .ok (.getfield 36, 3) := by decide +kernel
theorem dX9_change_58 : decode cX9_change 58 = .ok (.getfield 183, 3) := by decide +kernel
theorem dX9_change_61 : decode cX9_change 61 = .ok (.iload_n 3, 1) := by decide +kernel
theorem dX9_change_62 : decode cX9_change 62 = .ok (.iload_n 2, 1) := by decide +kernel
theorem dX9_change_63 : decode cX9_change 63 = .ok (.iastore, 1) := by decide +kernel
theorem dX9_change_64 : decode cX9_change 64 = .ok (.aload_n 0, 1) := by decide +kernel
theorem dX9_change_65 : decode cX9_change 65 = .ok (.getfield 36, 3) := by decide +kernel
theorem dX9_change_68 : decode cX9_change 68 = .ok (.getfield 183, 3) := by decide +kernel
theorem dX9_change_71 : decode cX9_change 71 = .ok (.iload 4, 2) := by decide +kernel
theorem dX9_change_73 : decode cX9_change 73 = .ok (.iload_n 1, 1) := by decide +kernel
theorem dX9_change_74 : decode cX9_change 74 = .ok (.iastore, 1) := by decide +kernel
theorem dX9_change_75 : decode cX9_change 75 = .ok (.iload 4, 2) := by decide +kernel
theorem dX9_change_77 : decode cX9_change 77 = .ok (.ireturn, 1) := by decide +kernel
theorem dX9_heeds_0 : decode cX9_heeds 0 = .ok (.aload_n 0, 1) := by decide +kernel
theorem dX9_heeds_1 : decode cX9_heeds 1 = .ok (.iload_n 1, 1) := by decide +kernel
theorem dX9_heeds_2 : decode cX9_heeds 2 = .ok (.invokevirtual 177, 3) := by decide +kernel
theorem dX9_heeds_5 : decode cX9_heeds 5 = .ok (.ifCond .eq 11, 3) := by decide +kernel
theorem dX9_heeds_8 : decode cX9_heeds 8 = .ok (.aload_n 0, 1) := by decide +kernel
theorem dX9_heeds_9 : decode cX9_heeds 9 = .ok (.iload_n 2, 1) := by decide +kernel
theorem dX9_heeds_10 : decode cX9_heeds 10 = .ok (.invokevirtual 167, 3) := by decide +kernel
theorem dX9_heeds_13 : decode cX9_heeds 13 = .ok (.ifCond .ne 6, 3) := by decide +kernel
theorem dX9_heeds_16 : decode cX9_heeds 16 = .ok (.ldc 79, 2) := by decide +kernel
theorem dX9_heeds_18 : decode cX9_heeds 18 = .ok (.ireturn, 1) := by decide +kernel
theorem dX9_heeds_19 : decode cX9_heeds 19 = .ok (.aload_n 0, 1) := by decide +kernel
theorem dX9_heeds_20 : decode cX9_heeds 20 = .ok (.getfield 36, 3) := by decide +kernel
theorem dX9_heeds_23 : decode cX9_heeds 23 = .ok (.iload_n 1, 1) := by decide +kernel
theorem dX9_heeds_24 : decode cX9_heeds 24 = .ok (.invokevirtual 187, 3) := by decide +kernel
theorem dX9_heeds_27 : decode cX9_heeds 27 = .ok (.ifCond .ne 6, 3) := by decide +kernel
theorem dX9_heeds_30 : decode cX9_heeds 30 = .ok (.ldc 156, 2) := by decide +kernel
theorem dX9_heeds_32 : decode cX9_heeds 32 = .ok (.ireturn, 1) := by decide +kernel
theorem dX9_heeds_33 : decode cX9_heeds 33 = .ok (.aload_n 0, 1) := by decide +kernel
theorem dX9_heeds_34 : decode cX9_heeds 34 = .ok (.getfield 36, 3) := by decide +kernel
theorem dX9_heeds_37 : decode cX9_heeds 37 = .ok (.getfield 190, 3) := by decide +kernel
theorem dX9_heeds_40 : decode cX9_heeds 40 = .ok (.iload_n 1, 1) := by decide +kernel
theorem dX9_heeds_41 : decode cX9_heeds 41 = .ok (.iaload, 1) := by decide +kernel
theorem dX9_heeds_42 : decode cX9_heeds 42 = .ok (.istore_n 3, 1) := by decide +kernel
theorem dX9_heeds_43 : decode cX9_heeds 43 = .ok (.aload_n 0, 1) := by decide +kernel
theorem dX9_heeds_44 : decode cX9_heeds 44 = .ok (.getfield 46, 3) := by decide +kernel
theorem dX9_heeds_47 : decode cX9_heeds 47 = .ok (.aload_n 0, 1) := by decide +kernel
theorem dX9_heeds_48 : decode cX9_heeds 48 = .ok (.getfield 36, 3) := by decide +kernel
theorem dX9_heeds_51 : decode cX9_heeds 51 = .ok (.invokevirtual 160, 3) := by decide +kernel
theorem dX9_heeds_54 : decode cX9_heeds 54 = .ok (.aload_n 0, 1) := by decide +kernel
theorem dX9_heeds_55 : decode cX9_heeds 55 = .ok (.getfield 36, 3) := by decide +kernel
theorem dX9_heeds_58 : decode cX9_heeds 58 = .ok (.getfield 190, 3) := by decide +kernel
theorem dX9_heeds_61 : decode cX9_heeds 61 = .ok (.iload_n 1, 1) := by decide +kernel
theorem dX9_heeds_62 : decode cX9_heeds 62 = .ok (.iload_n 2, 1) := by decide +kernel
theorem dX9_heeds_63 : decode cX9_heeds 63 = .ok (.iastore, 1) := by decide +kernel
theorem dX9_heeds_64 : decode cX9_heeds 64 = .ok (.iload_n 3, 1) := by decide +kernel
theorem dX9_heeds_65 : decode cX9_heeds 65 = .ok (.ireturn, 1) := by decide +kernel
theorem dX9_undo_0 : decode cX9_undo 0 = .ok (.aload_n 0, 1) := by decide +kernel
theorem dX9_undo_1 : decode cX9_undo 1 = .ok (.getfield 46, 3) := by decide +kernel
theorem dX9_undo_4 : decode cX9_undo 4 = .ok (.getfield 193, 3) := by decide +kernel
theorem dX9_undo_7 : decode cX9_undo 7 = .ok (.ifCond .ne 6, 3) := by decide +kernel
theorem dX9_undo_10 : decode cX9_undo 10 = .ok (.ldc 156, 2) := by decide +kernel
theorem dX9_undo_12 : decode cX9_undo 12 = .ok (.ireturn, 1) := by decide +kernel
theorem dX9_undo_13 : decode cX9_undo 13 = .ok (.aload_n 0, 1) := by decide +kernel
theorem dX9_undo_14 : decode cX9_undo 14 = .ok (.getfield 46, 3) := by decide +kernel
theorem dX9_undo_17 : decode cX9_undo 17 = .ok (.aload_n 0, 1) := by decide +kernel
theorem dX9_undo_18 : decode cX9_undo 18 = .ok (.getfield 36, 3) := by decide +kernel
theorem dX9_undo_21 : decode cX9_undo 21 = .ok (.invokevirtual 196, 3) := by decide +kernel
theorem dX9_undo_24 : decode cX9_undo 24 = .ok (.aload_n 0, 1) := by decide +kernel
theorem dX9_undo_25 : decode cX9_undo 25 = .ok (.getfield 46, 3) := by decide +kernel
theorem dX9_undo_28 : decode cX9_undo 28 = .ok (.getfield 193, 3) := by decide +kernel
theorem dX9_undo_31 : decode cX9_undo 31 = .ok (.ireturn, 1) := by decide +kernel
theorem dX9_ship_0 : decode cX9_ship 0 = .ok (.aload_n 0, 1) := by decide +kernel
theorem dX9_ship_1 : decode cX9_ship 1 = .ok (.iload_n 1, 1) := by decide +kernel
theorem dX9_ship_2 : decode cX9_ship 2 = .ok (.invokevirtual 177, 3) := by decide +kernel
theorem dX9_ship_5 : decode cX9_ship 5 = .ok (.ifCond .ne 6, 3) := by decide +kernel
theorem dX9_ship_8 : decode cX9_ship 8 = .ok (.ldc 79, 2) := by decide +kernel
theorem dX9_ship_10 : decode cX9_ship 10 = .ok (.ireturn, 1) := by decide +kernel
theorem dX9_ship_11 : decode cX9_ship 11 = .ok (.iload_n 2, 1) := by decide +kernel
theorem dX9_ship_12 : decode cX9_ship 12 = .ok (.tableswitch 85 0 4 #[36, 46, 56, 65, 75], 36) := by decide +kernel
theorem dX9_ship_48 : decode cX9_ship 48 = .ok (.aload_n 0, 1) := by decide +kernel
theorem dX9_ship_49 : decode cX9_ship 49 = .ok (.getfield 26, 3) := by decide +kernel
theorem dX9_ship_52 : decode cX9_ship 52 = .ok (.getfield 199, 3) := by decide +kernel
theorem dX9_ship_55 : decode cX9_ship 55 = .ok (.iload_n 1, 1) := by decide +kernel
theorem dX9_ship_56 : decode cX9_ship 56 = .ok (.iaload, 1) := by decide +kernel
theorem dX9_ship_57 : decode cX9_ship 57 = .ok (.ireturn, 1) := by decide +kernel
theorem dX9_ship_58 : decode cX9_ship 58 = .ok (.aload_n 0, 1) := by decide +kernel
theorem dX9_ship_59 : decode cX9_ship 59 = .ok (.getfield 36, 3) := by decide +kernel
theorem dX9_ship_62 : decode cX9_ship 62 = .ok (.getfield 190, 3) := by decide +kernel
theorem dX9_ship_65 : decode cX9_ship 65 = .ok (.iload_n 1, 1) := by decide +kernel
theorem dX9_ship_66 : decode cX9_ship 66 = .ok (.iaload, 1) := by decide +kernel
theorem dX9_ship_67 : decode cX9_ship 67 = .ok (.ireturn, 1) := by decide +kernel
theorem dX9_ship_68 : decode cX9_ship 68 = .ok (.aload_n 0, 1) := by decide +kernel
theorem dX9_ship_69 : decode cX9_ship 69 = .ok (.getfield 36, 3) := by decide +kernel
theorem dX9_ship_72 : decode cX9_ship 72 = .ok (.iload_n 1, 1) := by decide +kernel
theorem dX9_ship_73 : decode cX9_ship 73 = .ok (.invokevirtual 180, 3) := by decide +kernel
theorem dX9_ship_76 : decode cX9_ship 76 = .ok (.ireturn, 1) := by decide +kernel
theorem dX9_ship_77 : decode cX9_ship 77 = .ok (.aload_n 0, 1) := by decide +kernel
theorem dX9_ship_78 : decode cX9_ship 78 = .ok (.getfield 36, 3) := by decide +kernel
theorem dX9_ship_81 : decode cX9_ship 81 = .ok (.getfield 202, 3) := by decide +kernel
theorem dX9_ship_84 : decode cX9_ship 84 = .ok (.iload_n 1, 1) := by decide +kernel
theorem dX9_ship_85 : decode cX9_ship 85 = .ok (.iaload, 1) := by decide +kernel
theorem dX9_ship_86 : decode cX9_ship 86 = .ok (.ireturn, 1) := by decide +kernel
theorem dX9_ship_87 : decode cX9_ship 87 = .ok (.aload_n 0, 1) := by decide +kernel
theorem dX9_ship_88 : decode cX9_ship 88 = .ok (.getfield 36, 3) := by decide +kernel
theorem dX9_ship_91 : decode cX9_ship 91 = .ok (.getfield 205, 3) := by decide +kernel
theorem dX9_ship_94 : decode cX9_ship 94 = .ok (.iload_n 1, 1) := by decide +kernel
theorem dX9_ship_95 : decode cX9_ship 95 = .ok (.iaload, 1) := by decide +kernel
theorem dX9_ship_96 : decode cX9_ship 96 = .ok (.ireturn, 1) := by decide +kernel
theorem dX9_ship_97 : decode cX9_ship 97 = .ok (.ldc 79, 2) := by decide +kernel
theorem dX9_ship_99 : decode cX9_ship 99 = .ok (.ireturn, 1) := by decide +kernel
theorem dX9_tower_0 : decode cX9_tower 0 = .ok (.aload_n 0, 1) := by decide +kernel
theorem dX9_tower_1 : decode cX9_tower 1 = .ok (.iload_n 1, 1) := by decide +kernel
theorem dX9_tower_2 : decode cX9_tower 2 = .ok (.invokevirtual 167, 3) := by decide +kernel
theorem dX9_tower_5 : decode cX9_tower 5 = .ok (.ifCond .ne 6, 3) := by decide +kernel
theorem dX9_tower_8 : decode cX9_tower 8 = .ok (.ldc 79, 2) := by decide +kernel
theorem dX9_tower_10 : decode cX9_tower 10 = .ok (.ireturn, 1) := by decide +kernel
theorem dX9_tower_11 : decode cX9_tower 11 = .ok (.iload_n 2, 1) := by decide +kernel
theorem dX9_tower_12 : decode cX9_tower 12 = .ok (.tableswitch 61 0 2 #[28, 38, 48], 28) := by decide +kernel
theorem dX9_tower_40 : decode cX9_tower 40 = .ok (.aload_n 0, 1) := by decide +kernel
theorem dX9_tower_41 : decode cX9_tower 41 = .ok (.getfield 26, 3) := by decide +kernel
theorem dX9_tower_44 : decode cX9_tower 44 = .ok (.getfield 208, 3) := by decide +kernel
theorem dX9_tower_47 : decode cX9_tower 47 = .ok (.iload_n 1, 1) := by decide +kernel
theorem dX9_tower_48 : decode cX9_tower 48 = .ok (.iaload, 1) := by decide +kernel
theorem dX9_tower_49 : decode cX9_tower 49 = .ok (.ireturn, 1) := by decide +kernel
theorem dX9_tower_50 : decode cX9_tower 50 = .ok (.aload_n 0, 1) := by decide +kernel
theorem dX9_tower_51 : decode cX9_tower 51 = .ok (.getfield 36, 3) := by decide +kernel
theorem dX9_tower_54 : decode cX9_tower 54 = .ok (.getfield 211, 3) := by decide +kernel
theorem dX9_tower_57 : decode cX9_tower 57 = .ok (.iload_n 1, 1) := by decide +kernel
theorem dX9_tower_58 : decode cX9_tower 58 = .ok (.iaload, 1) := by decide +kernel
theorem dX9_tower_59 : decode cX9_tower 59 = .ok (.ireturn, 1) := by decide +kernel
theorem dX9_tower_60 : decode cX9_tower 60 = .ok (.aload_n 0, 1) := by decide +kernel
theorem dX9_tower_61 : decode cX9_tower 61 = .ok (.getfield 36, 3) := by decide +kernel
theorem dX9_tower_64 : decode cX9_tower 64 = .ok (.aload_n 0, 1) := by decide +kernel
theorem dX9_tower_65 : decode cX9_tower 65 = .ok (.getfield 26, 3) := by decide +kernel
theorem dX9_tower_68 : decode cX9_tower 68 = .ok (.iload_n 1, 1) := by decide +kernel
theorem dX9_tower_69 : decode cX9_tower 69 = .ok (.invokevirtual 214, 3) := by decide +kernel
theorem dX9_tower_72 : decode cX9_tower 72 = .ok (.ireturn, 1) := by decide +kernel
theorem dX9_tower_73 : decode cX9_tower 73 = .ok (.ldc 79, 2) := by decide +kernel
theorem dX9_tower_75 : decode cX9_tower 75 = .ok (.ireturn, 1) := by decide +kernel
theorem dX9_wave_0 : decode cX9_wave 0 = .ok (.aload_n 0, 1) := by decide +kernel
theorem dX9_wave_1 : decode cX9_wave 1 = .ok (.getfield 149, 3) := by decide +kernel
theorem dX9_wave_4 : decode cX9_wave 4 = .ok (.ifCond .ne 6, 3) := by decide +kernel
theorem dX9_wave_7 : decode cX9_wave 7 = .ok (.ldc 156, 2) := by decide +kernel
theorem dX9_wave_9 : decode cX9_wave 9 = .ok (.ireturn, 1) := by decide +kernel
theorem dX9_wave_10 : decode cX9_wave 10 = .ok (.iload_n 1, 1) := by decide +kernel
theorem dX9_wave_11 : decode cX9_wave 11 = .ok (.iconst 0, 1) := by decide +kernel
theorem dX9_wave_12 : decode cX9_wave 12 = .ok (.sipush 1199, 3) := by decide +kernel
theorem dX9_wave_15 : decode cX9_wave 15 = .ok (.invokestatic 75, 3) := by decide +kernel
theorem dX9_wave_18 : decode cX9_wave 18 = .ok (.ifCond .ne 6, 3) := by decide +kernel
theorem dX9_wave_21 : decode cX9_wave 21 = .ok (.ldc 79, 2) := by decide +kernel
theorem dX9_wave_23 : decode cX9_wave 23 = .ok (.ireturn, 1) := by decide +kernel
theorem dX9_wave_24 : decode cX9_wave 24 = .ok (.aload_n 0, 1) := by decide +kernel
theorem dX9_wave_25 : decode cX9_wave 25 = .ok (.getfield 26, 3) := by decide +kernel
theorem dX9_wave_28 : decode cX9_wave 28 = .ok (.iload_n 1, 1) := by decide +kernel
theorem dX9_wave_29 : decode cX9_wave 29 = .ok (.invokevirtual 218, 3) := by decide +kernel
theorem dX9_wave_32 : decode cX9_wave 32 = .ok (.istore_n 3, 1) := by decide +kernel
theorem dX9_wave_33 : decode cX9_wave 33 = .ok (.iload_n 2, 1) := by decide +kernel
theorem dX9_wave_34 : decode cX9_wave 34 = .ok (.tableswitch 68 0 3 #[30, 40, 49, 58], 30) := by decide +kernel
theorem dX9_wave_64 : decode cX9_wave 64 = .ok (.aload_n 0, 1) := by decide +kernel
theorem dX9_wave_65 : decode cX9_wave 65 = .ok (.getfield 26, 3) := by decide +kernel
theorem dX9_wave_68 : decode cX9_wave 68 = .ok (.getfield 221, 3) := by decide +kernel
theorem dX9_wave_71 : decode cX9_wave 71 = .ok (.iload_n 3, 1) := by decide +kernel
theorem dX9_wave_72 : decode cX9_wave 72 = .ok (.iaload, 1) := by decide +kernel
theorem dX9_wave_73 : decode cX9_wave 73 = .ok (.ireturn, 1) := by decide +kernel
theorem dX9_wave_74 : decode cX9_wave 74 = .ok (.aload_n 0, 1) := by decide +kernel
theorem dX9_wave_75 : decode cX9_wave 75 = .ok (.getfield 26, 3) := by decide +kernel
theorem dX9_wave_78 : decode cX9_wave 78 = .ok (.iload_n 3, 1) := by decide +kernel
theorem dX9_wave_79 : decode cX9_wave 79 = .ok (.invokevirtual 224, 3) := by decide +kernel
theorem dX9_wave_82 : decode cX9_wave 82 = .ok (.ireturn, 1) := by decide +kernel
theorem dX9_wave_83 : decode cX9_wave 83 = .ok (.aload_n 0, 1) := by decide +kernel
theorem dX9_wave_84 : decode cX9_wave 84 = .ok (.getfield 26, 3) := by decide +kernel
theorem dX9_wave_87 : decode cX9_wave 87 = .ok (.iload_n 1, 1) := by decide +kernel
theorem dX9_wave_88 : decode cX9_wave 88 = .ok (.invokevirtual 227, 3) := by decide +kernel
theorem dX9_wave_91 : decode cX9_wave 91 = .ok (.ireturn, 1) := by decide +kernel
theorem dX9_wave_92 : decode cX9_wave 92 = .ok (.aload_n 0, 1) := by decide +kernel
theorem dX9_wave_93 : decode cX9_wave 93 = .ok (.getfield 26, 3) := by decide +kernel
theorem dX9_wave_96 : decode cX9_wave 96 = .ok (.getfield 230, 3) := by decide +kernel
theorem dX9_wave_99 : decode cX9_wave 99 = .ok (.iload_n 3, 1) := by decide +kernel
theorem dX9_wave_100 : decode cX9_wave 100 = .ok (.iaload, 1) := by decide +kernel
theorem dX9_wave_101 : decode cX9_wave 101 = .ok (.ireturn, 1) := by decide +kernel
theorem dX9_wave_102 : decode cX9_wave 102 = .ok (.ldc 79, 2) := by decide +kernel
theorem dX9_wave_104 : decode cX9_wave 104 = .ok (.ireturn, 1) := by decide +kernel
theorem dX9_ahead_0 : decode cX9_ahead 0 = .ok (.aload_n 0, 1) := by decide +kernel
theorem dX9_ahead_1 : decode cX9_ahead 1 = .ok (.getfield 149, 3) := by decide +kernel
theorem dX9_ahead_4 : decode cX9_ahead 4 = .ok (.ifCond .ne 6, 3) := by decide +kernel
theorem dX9_ahead_7 : decode cX9_ahead 7 = .ok (.ldc 156, 2) := by decide +kernel
theorem dX9_ahead_9 : decode cX9_ahead 9 = .ok (.ireturn, 1) := by decide +kernel
theorem dX9_ahead_10 : decode cX9_ahead 10 = .ok (.iload_n 1, 1) := by decide +kernel
theorem dX9_ahead_11 : decode cX9_ahead 11 = .ok (.iconst 0, 1) := by decide +kernel
theorem dX9_ahead_12 : decode cX9_ahead 12 = .ok (.sipush 200, 3) := by decide +kernel
theorem dX9_ahead_15 : decode cX9_ahead 15 = .ok (.invokestatic 75, 3) := by decide +kernel
theorem dX9_ahead_18 : decode cX9_ahead 18 = .ok (.ifCond .eq 12, 3) := by decide +kernel
theorem dX9_ahead_21 : decode cX9_ahead 21 = .ok (.iload_n 2, 1) := by decide +kernel
theorem dX9_ahead_22 : decode cX9_ahead 22 = .ok (.iconst 0, 1) := by decide +kernel
theorem dX9_ahead_23 : decode cX9_ahead 23 = .ok (.iconst 1, 1) := by decide +kernel
theorem dX9_ahead_24 : decode cX9_ahead 24 = .ok (.invokestatic 75, 3) := by decide +kernel
theorem dX9_ahead_27 : decode cX9_ahead 27 = .ok (.ifCond .ne 6, 3) := by decide +kernel
theorem dX9_ahead_30 : decode cX9_ahead 30 = .ok (.ldc 79, 2) := by decide +kernel
theorem dX9_ahead_32 : decode cX9_ahead 32 = .ok (.ireturn, 1) := by decide +kernel
theorem dX9_ahead_33 : decode cX9_ahead 33 = .ok (.aload_n 0, 1) := by decide +kernel
theorem dX9_ahead_34 : decode cX9_ahead 34 = .ok (.iload_n 1, 1) := by decide +kernel
theorem dX9_ahead_35 : decode cX9_ahead 35 = .ok (.invokevirtual 233, 3) := by decide +kernel
theorem dX9_ahead_38 : decode cX9_ahead 38 = .ok (.aload_n 0, 1) := by decide +kernel
theorem dX9_ahead_39 : decode cX9_ahead 39 = .ok (.getfield 40, 3) := by decide +kernel
theorem dX9_ahead_42 : decode cX9_ahead 42 = .ok (.aload_n 0, 1) := by decide +kernel
theorem dX9_ahead_43 : decode cX9_ahead 43 = .ok (.getfield 26, 3) := by decide +kernel
theorem dX9_ahead_46 : decode cX9_ahead 46 = .ok (.iload_n 2, 1) := by decide +kernel
theorem dX9_ahead_47 : decode cX9_ahead 47 = .ok (.ifCond .ne 7, 3) := by decide +kernel
theorem dX9_ahead_50 : decode cX9_ahead 50 = .ok (.iconst 1, 1) := by decide +kernel
theorem dX9_ahead_51 : decode cX9_ahead 51 = .ok (.goto 4, 3) := by decide +kernel
theorem dX9_ahead_54 : decode cX9_ahead 54 = .ok (.iconst 2, 1) := by decide +kernel
theorem dX9_ahead_55 : decode cX9_ahead 55 = .ok (.invokevirtual 237, 3) := by decide +kernel
theorem dX9_ahead_58 : decode cX9_ahead 58 = .ok (.ireturn, 1) := by decide +kernel
theorem dX9_shipAhead_0 : decode cX9_shipAhead 0 = .ok (.aload_n 0, 1) := by decide +kernel
theorem dX9_shipAhead_1 : decode cX9_shipAhead 1 = .ok (.iload_n 1, 1) := by decide +kernel
theorem dX9_shipAhead_2 : decode cX9_shipAhead 2 = .ok (.invokevirtual 177, 3) := by decide +kernel
theorem dX9_shipAhead_5 : decode cX9_shipAhead 5 = .ok (.ifCond .eq 23, 3) := by decide +kernel
theorem dX9_shipAhead_8 : decode cX9_shipAhead 8 = .ok (.iload_n 2, 1) := by decide +kernel
theorem dX9_shipAhead_9 : decode cX9_shipAhead 9 = .ok (.iconst 0, 1) := by decide +kernel
theorem dX9_shipAhead_10 : decode cX9_shipAhead 10 = .ok (.sipush 200, 3) := by decide +kernel
theorem dX9_shipAhead_13 : decode cX9_shipAhead 13 = .ok (.invokestatic 75, 3) := by decide +kernel
theorem dX9_shipAhead_16 : decode cX9_shipAhead 16 = .ok (.ifCond .eq 12, 3) := by decide +kernel
theorem dX9_shipAhead_19 : decode cX9_shipAhead 19 = .ok (.iload_n 3, 1) := by decide +kernel
theorem dX9_shipAhead_20 : decode cX9_shipAhead 20 = .ok (.iconst 0, 1) := by decide +kernel
theorem dX9_shipAhead_21 : decode cX9_shipAhead 21 = .ok (.iconst 1, 1) := by decide +kernel
theorem dX9_shipAhead_22 : decode cX9_shipAhead 22 = .ok (.invokestatic 75, 3) := by decide +kernel
theorem dX9_shipAhead_25 : decode cX9_shipAhead 25 = .ok (.ifCond .ne 6, 3) := by decide +kernel
theorem dX9_shipAhead_28 : decode cX9_shipAhead 28 = .ok (.ldc 79, 2) := by decide +kernel
theorem dX9_shipAhead_30 : decode cX9_shipAhead 30 = .ok (.ireturn, 1) := by decide +kernel
theorem dX9_shipAhead_31 : decode cX9_shipAhead 31 = .ok (.aload_n 0, 1) := by decide +kernel
theorem dX9_shipAhead_32 : decode cX9_shipAhead 32 = .ok (.iload_n 2, 1) := by decide +kernel
theorem dX9_shipAhead_33 : decode cX9_shipAhead 33 = .ok (.invokevirtual 233, 3) := by decide +kernel
theorem dX9_shipAhead_36 : decode cX9_shipAhead 36 = .ok (.iload_n 3, 1) := by decide +kernel
theorem dX9_shipAhead_37 : decode cX9_shipAhead 37 = .ok (.ifCond .ne 15, 3) := by decide +kernel
theorem dX9_shipAhead_40 : decode cX9_shipAhead 40 = .ok (.aload_n 0, 1) := by decide +kernel
theorem dX9_shipAhead_41 : decode cX9_shipAhead 41 = .ok (.getfield 40, 3) := by decide +kernel
theorem dX9_shipAhead_44 : decode cX9_shipAhead 44 = .ok (.getfield 202, 3) := by decide +kernel
theorem dX9_shipAhead_47 : decode cX9_shipAhead 47 = .ok (.iload_n 1, 1) := by decide +kernel
theorem dX9_shipAhead_48 : decode cX9_shipAhead 48 = .ok (.iaload, 1) := by decide +kernel
theorem dX9_shipAhead_49 : decode cX9_shipAhead 49 = .ok (.goto 12, 3) := by decide +kernel
theorem dX9_shipAhead_52 : decode cX9_shipAhead 52 = .ok (.aload_n 0, 1) := by decide +kernel
theorem dX9_shipAhead_53 : decode cX9_shipAhead 53 = .ok (.getfield 40, 3) := by decide +kernel
theorem dX9_shipAhead_56 : decode cX9_shipAhead 56 = .ok (.getfield 205, 3) := by decide +kernel
theorem dX9_shipAhead_59 : decode cX9_shipAhead 59 = .ok (.iload_n 1, 1) := by decide +kernel
theorem dX9_shipAhead_60 : decode cX9_shipAhead 60 = .ok (.iaload, 1) := by decide +kernel
theorem dX9_shipAhead_61 : decode cX9_shipAhead 61 = .ok (.ireturn, 1) := by decide +kernel
theorem dX9_towerAhead_0 : decode cX9_towerAhead 0 = .ok (.aload_n 0, 1) := by decide +kernel
theorem dX9_towerAhead_1 : decode cX9_towerAhead 1 = .ok (.iload_n 1, 1) := by decide +kernel
theorem dX9_towerAhead_2 : decode cX9_towerAhead 2 = .ok (.invokevirtual 167, 3) := by decide +kernel
theorem dX9_towerAhead_5 : decode cX9_towerAhead 5 = .ok (.ifCond .eq 14, 3) := by decide +kernel
theorem dX9_towerAhead_8 : decode cX9_towerAhead 8 = .ok (.iload_n 2, 1) := by decide +kernel
theorem dX9_towerAhead_9 : decode cX9_towerAhead 9 = .ok (.iconst 0, 1) := by decide +kernel
theorem dX9_towerAhead_10 : decode cX9_towerAhead 10 = .ok (.sipush 200, 3) := by decide +kernel
theorem dX9_towerAhead_13 : decode cX9_towerAhead 13 = .ok (.invokestatic 75, 3) := by decide +kernel
theorem dX9_towerAhead_16 : decode cX9_towerAhead 16 = .ok (.ifCond .ne 6, 3) := by decide +kernel
theorem dX9_towerAhead_19 : decode cX9_towerAhead 19 = .ok (.ldc 79, 2) := by decide +kernel
theorem dX9_towerAhead_21 : decode cX9_towerAhead 21 = .ok (.ireturn, 1) := by decide +kernel
theorem dX9_towerAhead_22 : decode cX9_towerAhead 22 = .ok (.aload_n 0, 1) := by decide +kernel
theorem dX9_towerAhead_23 : decode cX9_towerAhead 23 = .ok (.iload_n 2, 1) := by decide +kernel
theorem dX9_towerAhead_24 : decode cX9_towerAhead 24 = .ok (.invokevirtual 233, 3) := by decide +kernel
theorem dX9_towerAhead_27 : decode cX9_towerAhead 27 = .ok (.aload_n 0, 1) := by decide +kernel
theorem dX9_towerAhead_28 : decode cX9_towerAhead 28 = .ok (.getfield 40, 3) := by decide +kernel
theorem dX9_towerAhead_31 : decode cX9_towerAhead 31 = .ok (.getfield 211, 3) := by decide +kernel
theorem dX9_towerAhead_34 : decode cX9_towerAhead 34 = .ok (.iload_n 1, 1) := by decide +kernel
theorem dX9_towerAhead_35 : decode cX9_towerAhead 35 = .ok (.iaload, 1) := by decide +kernel
theorem dX9_towerAhead_36 : decode cX9_towerAhead 36 = .ok (.ireturn, 1) := by decide +kernel
theorem dX9_called_0 : decode cX9_called 0 = .ok (.aload_n 0, 1) := by decide +kernel
theorem dX9_called_1 : decode cX9_called 1 = .ok (.iload_n 1, 1) := by decide +kernel
theorem dX9_called_2 : decode cX9_called 2 = .ok (.invokevirtual 167, 3) := by decide +kernel
theorem dX9_called_5 : decode cX9_called 5 = .ok (.ifCond .eq 7, 3) := by decide +kernel
theorem dX9_called_8 : decode cX9_called 8 = .ok (.iload_n 2, 1) := by decide +kernel
theorem dX9_called_9 : decode cX9_called 9 = .ok (.ifCond .ge 6, 3) := by decide +kernel
theorem dX9_called_12 : decode cX9_called 12 = .ok (.ldc 79, 2) := by decide +kernel
theorem dX9_called_14 : decode cX9_called 14 = .ok (.ireturn, 1) := by decide +kernel
theorem dX9_called_15 : decode cX9_called 15 = .ok (.aload_n 0, 1) := by decide +kernel
theorem dX9_called_16 : decode cX9_called 16 = .ok (.getfield 36, 3) := by decide +kernel
theorem dX9_called_19 : decode cX9_called 19 = .ok (.getfield 211, 3) := by decide +kernel
theorem dX9_called_22 : decode cX9_called 22 = .ok (.iload_n 1, 1) := by decide +kernel
theorem dX9_called_23 : decode cX9_called 23 = .ok (.iaload, 1) := by decide +kernel
theorem dX9_called_24 : decode cX9_called 24 = .ok (.istore_n 3, 1) := by decide +kernel
theorem dX9_called_25 : decode cX9_called 25 = .ok (.iload_n 2, 1) := by decide +kernel
theorem dX9_called_26 : decode cX9_called 26 = .ok (.istore 4, 2) := by decide +kernel
theorem dX9_called_28 : decode cX9_called 28 = .ok (.aload_n 0, 1) := by decide +kernel
theorem dX9_called_29 : decode cX9_called 29 = .ok (.getfield 36, 3) := by decide +kernel
theorem dX9_called_32 : decode cX9_called 32 = .ok (.getfield 157, 3) := by decide +kernel
theorem dX9_called_35 : decode cX9_called 35 = .ok (.istore 5, 2) := by decide +kernel
theorem dX9_called_37 : decode cX9_called 37 = .ok (.iload 5, 2) := by decide +kernel
theorem dX9_called_39 : decode cX9_called 39 = .ok (.aload_n 0, 1) := by decide +kernel
theorem dX9_called_40 : decode cX9_called 40 = .ok (.getfield 36, 3) := by decide +kernel
theorem dX9_called_43 : decode cX9_called 43 = .ok (.getfield 157, 3) := by decide +kernel
theorem dX9_called_46 : decode cX9_called 46 = .ok (.sipush 200, 3) := by decide +kernel
theorem dX9_called_49 : decode cX9_called 49 = .ok (.iadd, 1) := by decide +kernel
theorem dX9_called_50 : decode cX9_called 50 = .ok (.if_icmp .ge 60, 3) := by decide +kernel
theorem dX9_called_53 : decode cX9_called 53 = .ok (.aload_n 0, 1) := by decide +kernel
theorem dX9_called_54 : decode cX9_called 54 = .ok (.getfield 26, 3) := by decide +kernel
theorem dX9_called_57 : decode cX9_called 57 = .ok (.iload_n 1, 1) := by decide +kernel
theorem dX9_called_58 : decode cX9_called 58 = .ok (.aload_n 0, 1) := by decide +kernel
theorem dX9_called_59 : decode cX9_called 59 = .ok (.getfield 26, 3) := by decide +kernel
theorem dX9_called_62 : decode cX9_called 62 = .ok (.iload 5, 2) := by decide +kernel
theorem dX9_called_64 : decode cX9_called 64 = .ok (.invokevirtual 240, 3) := by decide +kernel
theorem dX9_called_67 : decode cX9_called 67 = .ok (.invokevirtual 243, 3) := by decide +kernel
theorem dX9_called_70 : decode cX9_called 70 = .ok (.istore 6, 2) := by decide +kernel
theorem dX9_called_72 : decode cX9_called 72 = .ok (.iload_n 3, 1) := by decide +kernel
theorem dX9_called_73 : decode cX9_called 73 = .ok (.iload 6, 2) := by decide +kernel
theorem dX9_called_75 : decode cX9_called 75 = .ok (.aload_n 0, 1) := by decide +kernel
theorem dX9_called_76 : decode cX9_called 76 = .ok (.getfield 36, 3) := by decide +kernel
theorem dX9_called_79 : decode cX9_called 79 = .ok (.getfield 174, 3) := by decide +kernel
theorem dX9_called_82 : decode cX9_called 82 = .ok (.invokestatic 246, 3) := by decide +kernel
theorem dX9_called_85 : decode cX9_called 85 = .ok (.ifCond .eq 14, 3) := by decide +kernel
theorem dX9_called_88 : decode cX9_called 88 = .ok (.iload 4, 2) := by decide +kernel
theorem dX9_called_90 : decode cX9_called 90 = .ok (.ifCond .ne 6, 3) := by decide +kernel
theorem dX9_called_93 : decode cX9_called 93 = .ok (.iload 5, 2) := by decide +kernel
theorem dX9_called_95 : decode cX9_called 95 = .ok (.ireturn, 1) := by decide +kernel
theorem dX9_called_96 : decode cX9_called 96 = .ok (.iinc 4 (-1), 3) := by decide +kernel
theorem dX9_called_99 : decode cX9_called 99 = .ok (.iload_n 3, 1) := by decide +kernel
theorem dX9_called_100 : decode cX9_called 100 = .ok (.iload 6, 2) := by decide +kernel
theorem dX9_called_102 : decode cX9_called 102 = .ok (.iadd, 1) := by decide +kernel
theorem dX9_called_103 : decode cX9_called 103 = .ok (.istore_n 3, 1) := by decide +kernel
theorem dX9_called_104 : decode cX9_called 104 = .ok (.iinc 5 1, 3) := by decide +kernel
theorem dX9_called_107 : decode cX9_called 107 = .ok (.goto (-70), 3) := by decide +kernel
theorem dX9_called_110 : decode cX9_called 110 = .ok (.ldc 249, 2) := by decide +kernel
theorem dX9_called_112 : decode cX9_called 112 = .ok (.ireturn, 1) := by decide +kernel
theorem dX9_fit_0 : decode cX9_fit 0 = .ok (.aload_n 0, 1) := by decide +kernel
theorem dX9_fit_1 : decode cX9_fit 1 = .ok (.iload_n 1, 1) := by decide +kernel
theorem dX9_fit_2 : decode cX9_fit 2 = .ok (.invokevirtual 177, 3) := by decide +kernel
theorem dX9_fit_5 : decode cX9_fit 5 = .ok (.ifCond .eq 7, 3) := by decide +kernel
theorem dX9_fit_8 : decode cX9_fit 8 = .ok (.iload_n 2, 1) := by decide +kernel
theorem dX9_fit_9 : decode cX9_fit 9 = .ok (.ifCond .ge 6, 3) := by decide +kernel
theorem dX9_fit_12 : decode cX9_fit 12 = .ok (.ldc 79, 2) := by decide +kernel
theorem dX9_fit_14 : decode cX9_fit 14 = .ok (.ireturn, 1) := by decide +kernel
theorem dX9_fit_15 : decode cX9_fit 15 = .ok (.iload_n 2, 1) := by decide +kernel
theorem dX9_fit_16 : decode cX9_fit 16 = .ok (.istore_n 3, 1) := by decide +kernel
theorem dX9_fit_17 : decode cX9_fit 17 = .ok (.aload_n 0, 1) := by decide +kernel
theorem dX9_fit_18 : decode cX9_fit 18 = .ok (.getfield 36, 3) := by decide +kernel
theorem dX9_fit_21 : decode cX9_fit 21 = .ok (.getfield 157, 3) := by decide +kernel
theorem dX9_fit_24 : decode cX9_fit 24 = .ok (.istore 4, 2) := by decide +kernel
theorem dX9_fit_26 : decode cX9_fit 26 = .ok (.iload 4, 2) := by decide +kernel
theorem dX9_fit_28 : decode cX9_fit 28 = .ok (.aload_n 0, 1) := by decide +kernel
theorem dX9_fit_29 : decode cX9_fit 29 = .ok (.getfield 36, 3) := by decide +kernel
theorem dX9_fit_32 : decode cX9_fit 32 = .ok (.getfield 157, 3) := by decide +kernel
theorem dX9_fit_35 : decode cX9_fit 35 = .ok (.bipush 100, 2) := by decide +kernel
theorem dX9_fit_37 : decode cX9_fit 37 = .ok (.iadd, 1) := by decide +kernel
theorem dX9_fit_38 : decode cX9_fit 38 = .ok (.if_icmp .ge 40, 3) := by decide +kernel
theorem dX9_fit_41 : decode cX9_fit 41 = .ok (.aload_n 0, 1) := by decide +kernel
theorem dX9_fit_42 : decode cX9_fit 42 = .ok (.getfield 26, 3) := by decide +kernel
theorem dX9_fit_45 : decode cX9_fit 45 = .ok (.iload 4, 2) := by decide +kernel
theorem dX9_fit_47 : decode cX9_fit 47 = .ok (.invokevirtual 227, 3) := by decide +kernel
theorem dX9_fit_50 : decode cX9_fit 50 = .ok (.aload_n 0, 1) := by decide +kernel
theorem dX9_fit_51 : decode cX9_fit 51 = .ok (.getfield 26, 3) := by decide +kernel
theorem dX9_fit_54 : decode cX9_fit 54 = .ok (.getfield 199, 3) := by decide +kernel
theorem dX9_fit_57 : decode cX9_fit 57 = .ok (.iload_n 1, 1) := by decide +kernel
theorem dX9_fit_58 : decode cX9_fit 58 = .ok (.iaload, 1) := by decide +kernel
theorem dX9_fit_59 : decode cX9_fit 59 = .ok (.if_icmp .lt 13, 3) := by decide +kernel
theorem dX9_fit_62 : decode cX9_fit 62 = .ok (.iload_n 3, 1) := by decide +kernel
theorem dX9_fit_63 : decode cX9_fit 63 = .ok (.ifCond .ne 6, 3) := by decide +kernel
theorem dX9_fit_66 : decode cX9_fit 66 = .ok (.iload 4, 2) := by decide +kernel
theorem dX9_fit_68 : decode cX9_fit 68 = .ok (.ireturn, 1) := by decide +kernel
theorem dX9_fit_69 : decode cX9_fit 69 = .ok (.iinc 3 (-1), 3) := by decide +kernel
theorem dX9_fit_72 : decode cX9_fit 72 = .ok (.iinc 4 1, 3) := by decide +kernel
theorem dX9_fit_75 : decode cX9_fit 75 = .ok (.goto (-49), 3) := by decide +kernel
theorem dX9_fit_78 : decode cX9_fit 78 = .ok (.ldc 249, 2) := by decide +kernel
theorem dX9_fit_80 : decode cX9_fit 80 = .ok (.ireturn, 1) := by decide +kernel
theorem dX9_highest_0 : decode cX9_highest 0 = .ok (.aload_n 0, 1) := by decide +kernel
theorem dX9_highest_1 : decode cX9_highest 1 = .ok (.getfield 149, 3) := by decide +kernel
theorem dX9_highest_4 : decode cX9_highest 4 = .ok (.ifCond .ne 6, 3) := by decide +kernel
theorem dX9_highest_7 : decode cX9_highest 7 = .ok (.ldc 156, 2) := by decide +kernel
theorem dX9_highest_9 : decode cX9_highest 9 = .ok (.ireturn, 1) := by decide +kernel
theorem dX9_highest_10 : decode cX9_highest 10 = .ok (.iload_n 1, 1) := by decide +kernel
theorem dX9_highest_11 : decode cX9_highest 11 = .ok (.iconst 1, 1) := by decide +kernel
theorem dX9_highest_12 : decode cX9_highest 12 = .ok (.bipush 100, 2) := by decide +kernel
theorem dX9_highest_14 : decode cX9_highest 14 = .ok (.invokestatic 75, 3) := by decide +kernel
theorem dX9_highest_17 : decode cX9_highest 17 = .ok (.ifCond .eq 12, 3) := by decide +kernel
theorem dX9_highest_20 : decode cX9_highest 20 = .ok (.iload_n 2, 1) := by decide +kernel
theorem dX9_highest_21 : decode cX9_highest 21 = .ok (.iconst 0, 1) := by decide +kernel
theorem dX9_highest_22 : decode cX9_highest 22 = .ok (.iconst 1, 1) := by decide +kernel
theorem dX9_highest_23 : decode cX9_highest 23 = .ok (.invokestatic 75, 3) := by decide +kernel
theorem dX9_highest_26 : decode cX9_highest 26 = .ok (.ifCond .ne 6, 3) := by decide +kernel
theorem dX9_highest_29 : decode cX9_highest 29 = .ok (.ldc 79, 2) := by decide +kernel
theorem dX9_highest_31 : decode cX9_highest 31 = .ok (.ireturn, 1) := by decide +kernel
theorem dX9_highest_32 : decode cX9_highest 32 = .ok (.aload_n 0, 1) := by decide +kernel
theorem dX9_highest_33 : decode cX9_highest 33 = .ok (.getfield 36, 3) := by decide +kernel
theorem dX9_highest_36 : decode cX9_highest 36 = .ok (.getfield 157, 3) := by decide +kernel
theorem dX9_highest_39 : decode cX9_highest 39 = .ok (.istore_n 3, 1) := by decide +kernel
theorem dX9_highest_40 : decode cX9_highest 40 = .ok (.aload_n 0, 1) := by decide +kernel
theorem dX9_highest_41 : decode cX9_highest 41 = .ok (.getfield 26, 3) := by decide +kernel
theorem dX9_highest_44 : decode cX9_highest 44 = .ok (.iload_n 3, 1) := by decide +kernel
theorem dX9_highest_45 : decode cX9_highest 45 = .ok (.invokevirtual 227, 3) := by decide +kernel
theorem dX9_highest_48 : decode cX9_highest 48 = .ok (.istore 4, 2) := by decide +kernel
theorem dX9_highest_50 : decode cX9_highest 50 = .ok (.aload_n 0, 1) := by decide +kernel
theorem dX9_highest_51 : decode cX9_highest 51 = .ok (.getfield 36, 3) := by decide +kernel
theorem dX9_highest_54 : decode cX9_highest 54 = .ok (.getfield 157, 3) := by decide +kernel
theorem dX9_highest_57 : decode cX9_highest 57 = .ok (.iconst 1, 1) := by decide +kernel
theorem dX9_highest_58 : decode cX9_highest 58 = .ok (.iadd, 1) := by decide +kernel
theorem dX9_highest_59 : decode cX9_highest 59 = .ok (.istore 5, 2) := by decide +kernel
theorem dX9_highest_61 : decode cX9_highest 61 = .ok (.iload 5, 2) := by decide +kernel
theorem dX9_highest_63 : decode cX9_highest 63 = .ok (.aload_n 0, 1) := by decide +kernel
theorem dX9_highest_64 : decode cX9_highest 64 = .ok (.getfield 36, 3) := by decide +kernel
theorem dX9_highest_67 : decode cX9_highest 67 = .ok (.getfield 157, 3) := by decide +kernel
theorem dX9_highest_70 : decode cX9_highest 70 = .ok (.iload_n 1, 1) := by decide +kernel
theorem dX9_highest_71 : decode cX9_highest 71 = .ok (.iadd, 1) := by decide +kernel
theorem dX9_highest_72 : decode cX9_highest 72 = .ok (.if_icmp .ge 34, 3) := by decide +kernel
theorem dX9_highest_75 : decode cX9_highest 75 = .ok (.aload_n 0, 1) := by decide +kernel
theorem dX9_highest_76 : decode cX9_highest 76 = .ok (.getfield 26, 3) := by decide +kernel
theorem dX9_highest_79 : decode cX9_highest 79 = .ok (.iload 5, 2) := by decide +kernel
theorem dX9_highest_81 : decode cX9_highest 81 = .ok (.invokevirtual 227, 3) := by decide +kernel
theorem dX9_highest_84 : decode cX9_highest 84 = .ok (.istore 6, 2) := by decide +kernel
theorem dX9_highest_86 : decode cX9_highest 86 = .ok (.iload 6, 2) := by decide +kernel
theorem dX9_highest_88 : decode cX9_highest 88 = .ok (.iload 4, 2) := by decide +kernel
theorem dX9_highest_90 : decode cX9_highest 90 = .ok (.if_icmp .le 10, 3) := by decide +kernel
theorem dX9_highest_93 : decode cX9_highest 93 = .ok (.iload 5, 2) := by decide +kernel
theorem dX9_highest_95 : decode cX9_highest 95 = .ok (.istore_n 3, 1) := by decide +kernel
theorem dX9_highest_96 : decode cX9_highest 96 = .ok (.iload 6, 2) := by decide +kernel
theorem dX9_highest_98 : decode cX9_highest 98 = .ok (.istore 4, 2) := by decide +kernel
theorem dX9_highest_100 : decode cX9_highest 100 = .ok (.iinc 5 1, 3) := by decide +kernel
theorem dX9_highest_103 : decode cX9_highest 103 = .ok (.goto (-42), 3) := by decide +kernel
theorem dX9_highest_106 : decode cX9_highest 106 = .ok (.iload_n 2, 1) := by decide +kernel
theorem dX9_highest_107 : decode cX9_highest 107 = .ok (.ifCond .ne 7, 3) := by decide +kernel
theorem dX9_highest_110 : decode cX9_highest 110 = .ok (.iload_n 3, 1) := by decide +kernel
theorem dX9_highest_111 : decode cX9_highest 111 = .ok (.goto 5, 3) := by decide +kernel
theorem dX9_highest_114 : decode cX9_highest 114 = .ok (.iload 4, 2) := by decide +kernel
theorem dX9_highest_116 : decode cX9_highest 116 = .ok (.ireturn, 1) := by decide +kernel
theorem dX9_order_0 : decode cX9_order 0 = .ok (.aload_n 0, 1) := by decide +kernel
theorem dX9_order_1 : decode cX9_order 1 = .ok (.getfield 149, 3) := by decide +kernel
theorem dX9_order_4 : decode cX9_order 4 = .ok (.ifCond .ne 6, 3) := by decide +kernel
theorem dX9_order_7 : decode cX9_order 7 = .ok (.ldc 156, 2) := by decide +kernel
theorem dX9_order_9 : decode cX9_order 9 = .ok (.ireturn, 1) := by decide +kernel
theorem dX9_order_10 : decode cX9_order 10 = .ok (.iload_n 1, 1) := by decide +kernel
theorem dX9_order_11 : decode cX9_order 11 = .ok (.iconst 1, 1) := by decide +kernel
theorem dX9_order_12 : decode cX9_order 12 = .ok (.bipush 60, 2) := by decide +kernel
theorem dX9_order_14 : decode cX9_order 14 = .ok (.invokestatic 75, 3) := by decide +kernel
theorem dX9_order_17 : decode cX9_order 17 = .ok (.ifCond .eq 20, 3) := by decide +kernel
theorem dX9_order_20 : decode cX9_order 20 = .ok (.iload_n 2, 1) := by decide +kernel
theorem dX9_order_21 : decode cX9_order 21 = .ok (.iconst (-1), 1) := by decide +kernel
theorem dX9_order_22 : decode cX9_order 22 = .ok (.aload_n 0, 1) := by decide +kernel
theorem dX9_order_23 : decode cX9_order 23 = .ok (.getfield 26, 3) := by decide +kernel
theorem dX9_order_26 : decode cX9_order 26 = .ok (.getfield 250, 3) := by decide +kernel
theorem dX9_order_29 : decode cX9_order 29 = .ok (.iconst 1, 1) := by decide +kernel
theorem dX9_order_30 : decode cX9_order 30 = .ok (.isub, 1) := by decide +kernel
theorem dX9_order_31 : decode cX9_order 31 = .ok (.invokestatic 75, 3) := by decide +kernel
theorem dX9_order_34 : decode cX9_order 34 = .ok (.ifCond .ne 6, 3) := by decide +kernel
theorem dX9_order_37 : decode cX9_order 37 = .ok (.ldc 79, 2) := by decide +kernel
theorem dX9_order_39 : decode cX9_order 39 = .ok (.ireturn, 1) := by decide +kernel
theorem dX9_order_40 : decode cX9_order 40 = .ok (.aload_n 0, 1) := by decide +kernel
theorem dX9_order_41 : decode cX9_order 41 = .ok (.getfield 53, 3) := by decide +kernel
theorem dX9_order_44 : decode cX9_order 44 = .ok (.aload_n 0, 1) := by decide +kernel
theorem dX9_order_45 : decode cX9_order 45 = .ok (.getfield 26, 3) := by decide +kernel
theorem dX9_order_48 : decode cX9_order 48 = .ok (.aload_n 0, 1) := by decide +kernel
theorem dX9_order_49 : decode cX9_order 49 = .ok (.getfield 36, 3) := by decide +kernel
theorem dX9_order_52 : decode cX9_order 52 = .ok (.iload_n 1, 1) := by decide +kernel
theorem dX9_order_53 : decode cX9_order 53 = .ok (.invokevirtual 253, 3) := by decide +kernel
theorem dX9_order_56 : decode cX9_order 56 = .ok (.aload_n 0, 1) := by decide +kernel
theorem dX9_order_57 : decode cX9_order 57 = .ok (.getfield 53, 3) := by decide +kernel
theorem dX9_order_60 : decode cX9_order 60 = .ok (.aload_n 0, 1) := by decide +kernel
theorem dX9_order_61 : decode cX9_order 61 = .ok (.getfield 26, 3) := by decide +kernel
theorem dX9_order_64 : decode cX9_order 64 = .ok (.aload_n 0, 1) := by decide +kernel
theorem dX9_order_65 : decode cX9_order 65 = .ok (.getfield 36, 3) := by decide +kernel
theorem dX9_order_68 : decode cX9_order 68 = .ok (.invokevirtual 257, 3) := by decide +kernel
theorem dX9_order_71 : decode cX9_order 71 = .ok (.iload_n 2, 1) := by decide +kernel
theorem dX9_order_72 : decode cX9_order 72 = .ok (.ifCond .lt 15, 3) := by decide +kernel
theorem dX9_order_75 : decode cX9_order 75 = .ok (.aload_n 0, 1) := by decide +kernel
theorem dX9_order_76 : decode cX9_order 76 = .ok (.getfield 53, 3) := by decide +kernel
theorem dX9_order_79 : decode cX9_order 79 = .ok (.getfield 261, 3) := by decide +kernel
theorem dX9_order_82 : decode cX9_order 82 = .ok (.iload_n 2, 1) := by decide +kernel
theorem dX9_order_83 : decode cX9_order 83 = .ok (.iaload, 1) := by decide +kernel
theorem dX9_order_84 : decode cX9_order 84 = .ok (.goto 23, 3) := by decide +kernel
theorem dX9_order_87 : decode cX9_order 87 = .ok (.aload_n 0, 1) := by decide +kernel
theorem dX9_order_88 : decode cX9_order 88 = .ok (.getfield 53, 3) := by decide +kernel
theorem dX9_order_91 : decode cX9_order 91 = .ok (.getfield 264, 3) := by decide +kernel
theorem dX9_order_94 : decode cX9_order 94 = .ok (.aload_n 0, 1) := by decide +kernel
theorem dX9_order_95 : decode cX9_order 95 = .ok (.getfield 36, 3) := by decide +kernel
theorem dX9_order_98 : decode cX9_order 98 = .ok (.aload_n 0, 1) := by decide +kernel
theorem dX9_order_99 : decode cX9_order 99 = .ok (.getfield 26, 3) := by decide +kernel
theorem dX9_order_102 : decode cX9_order 102 = .ok (.iconst 1, 1) := by decide +kernel
theorem dX9_order_103 : decode cX9_order 103 = .ok (.invokevirtual 237, 3) := by decide +kernel
theorem dX9_order_106 : decode cX9_order 106 = .ok (.iadd, 1) := by decide +kernel
theorem dX9_order_107 : decode cX9_order 107 = .ok (.ireturn, 1) := by decide +kernel
theorem dX9_laws_0 : decode cX9_laws 0 = .ok (.aload_n 0, 1) := by decide +kernel
theorem dX9_laws_1 : decode cX9_laws 1 = .ok (.getfield 149, 3) := by decide +kernel
theorem dX9_laws_4 : decode cX9_laws 4 = .ok (.ifCond .ne 6, 3) := by decide +kernel
theorem dX9_laws_7 : decode cX9_laws 7 = .ok (.ldc 156, 2) := by decide +kernel
theorem dX9_laws_9 : decode cX9_laws 9 = .ok (.ireturn, 1) := by decide +kernel
theorem dX9_laws_10 : decode cX9_laws 10 = .ok (.iload_n 1, 1) := by decide +kernel
theorem dX9_laws_11 : decode cX9_laws 11 = .ok (.iconst 1, 1) := by decide +kernel
theorem dX9_laws_12 : decode cX9_laws 12 = .ok (.sipush 200, 3) := by decide +kernel
theorem dX9_laws_15 : decode cX9_laws 15 = .ok (.invokestatic 75, 3) := by decide +kernel
theorem dX9_laws_18 : decode cX9_laws 18 = .ok (.ifCond .eq 12, 3) := by decide +kernel
theorem dX9_laws_21 : decode cX9_laws 21 = .ok (.iload_n 2, 1) := by decide +kernel
theorem dX9_laws_22 : decode cX9_laws 22 = .ok (.iconst 0, 1) := by decide +kernel
theorem dX9_laws_23 : decode cX9_laws 23 = .ok (.iconst 1, 1) := by decide +kernel
theorem dX9_laws_24 : decode cX9_laws 24 = .ok (.invokestatic 75, 3) := by decide +kernel
theorem dX9_laws_27 : decode cX9_laws 27 = .ok (.ifCond .ne 6, 3) := by decide +kernel
theorem dX9_laws_30 : decode cX9_laws 30 = .ok (.ldc 79, 2) := by decide +kernel
theorem dX9_laws_32 : decode cX9_laws 32 = .ok (.ireturn, 1) := by decide +kernel
theorem dX9_laws_33 : decode cX9_laws 33 = .ok (.iconst 2, 1) := by decide +kernel
theorem dX9_laws_34 : decode cX9_laws 34 = .ok (.istore_n 3, 1) := by decide +kernel
theorem dX9_laws_35 : decode cX9_laws 35 = .ok (.iconst (-1), 1) := by decide +kernel
theorem dX9_laws_36 : decode cX9_laws 36 = .ok (.istore 4, 2) := by decide +kernel
theorem dX9_laws_38 : decode cX9_laws 38 = .ok (.iconst 2, 1) := by decide +kernel
theorem dX9_laws_39 : decode cX9_laws 39 = .ok (.istore 5, 2) := by decide +kernel
theorem dX9_laws_41 : decode cX9_laws 41 = .ok (.iload 5, 2) := by decide +kernel
theorem dX9_laws_43 : decode cX9_laws 43 = .ok (.bipush 12, 2) := by decide +kernel
theorem dX9_laws_45 : decode cX9_laws 45 = .ok (.if_icmp .gt 69, 3) := by decide +kernel
theorem dX9_laws_48 : decode cX9_laws 48 = .ok (.aload_n 0, 1) := by decide +kernel
theorem dX9_laws_49 : decode cX9_laws 49 = .ok (.getfield 40, 3) := by decide +kernel
theorem dX9_laws_52 : decode cX9_laws 52 = .ok (.aload_n 0, 1) := by decide +kernel
theorem dX9_laws_53 : decode cX9_laws 53 = .ok (.getfield 36, 3) := by decide +kernel
theorem dX9_laws_56 : decode cX9_laws 56 = .ok (.invokevirtual 143, 3) := by decide +kernel
theorem dX9_laws_59 : decode cX9_laws 59 = .ok (.aload_n 0, 1) := by decide +kernel
theorem dX9_laws_60 : decode cX9_laws 60 = .ok (.getfield 40, 3) := by decide +kernel
theorem dX9_laws_63 : decode cX9_laws 63 = .ok (.iload 5, 2) := by decide +kernel
theorem dX9_laws_65 : decode cX9_laws 65 = .ok (.putfield 174, 3) := by decide +kernel
theorem dX9_laws_68 : decode cX9_laws 68 = .ok (.aload_n 0, 1) := by decide +kernel
theorem dX9_laws_69 : decode cX9_laws 69 = .ok (.getfield 40, 3) := by decide +kernel
theorem dX9_laws_72 : decode cX9_laws 72 = .ok (.aload_n 0, 1) := by decide +kernel
theorem dX9_laws_73 : decode cX9_laws 73 = .ok (.getfield 26, 3) := by decide +kernel
theorem dX9_laws_76 : decode cX9_laws 76 = .ok (.iload_n 1, 1) := by decide +kernel
theorem dX9_laws_77 : decode cX9_laws 77 = .ok (.invokevirtual 267, 3) := by decide +kernel
theorem dX9_laws_80 : decode cX9_laws 80 = .ok (.aload_n 0, 1) := by decide +kernel
theorem dX9_laws_81 : decode cX9_laws 81 = .ok (.getfield 40, 3) := by decide +kernel
theorem dX9_laws_84 : decode cX9_laws 84 = .ok (.aload_n 0, 1) := by decide +kernel
theorem dX9_laws_85 : decode cX9_laws 85 = .ok (.getfield 26, 3) := by decide +kernel
theorem dX9_laws_88 : decode cX9_laws 88 = .ok (.iconst 1, 1) := by decide +kernel
theorem dX9_laws_89 : decode cX9_laws 89 = .ok (.invokevirtual 237, 3) := by decide +kernel
theorem dX9_laws_92 : decode cX9_laws 92 = .ok (.istore 6, 2) := by decide +kernel
theorem dX9_laws_94 : decode cX9_laws 94 = .ok (.iload 6, 2) := by decide +kernel
theorem dX9_laws_96 : decode cX9_laws 96 = .ok (.iload 4, 2) := by decide +kernel
theorem dX9_laws_98 : decode cX9_laws 98 = .ok (.if_icmp .le 10, 3) := by decide +kernel
theorem dX9_laws_101 : decode cX9_laws 101 = .ok (.iload 5, 2) := by decide +kernel
theorem dX9_laws_103 : decode cX9_laws 103 = .ok (.istore_n 3, 1) := by decide +kernel
theorem dX9_laws_104 : decode cX9_laws 104 = .ok (.iload 6, 2) := by decide +kernel
theorem dX9_laws_106 : decode cX9_laws 106 = .ok (.istore 4, 2) := by decide +kernel
theorem dX9_laws_108 : decode cX9_laws 108 = .ok (.iinc 5 1, 3) := by decide +kernel
theorem dX9_laws_111 : decode cX9_laws 111 = .ok (.goto (-70), 3) := by decide +kernel
theorem dX9_laws_114 : decode cX9_laws 114 = .ok (.iload_n 2, 1) := by decide +kernel
theorem dX9_laws_115 : decode cX9_laws 115 = .ok (.ifCond .ne 7, 3) := by decide +kernel
theorem dX9_laws_118 : decode cX9_laws 118 = .ok (.iload_n 3, 1) := by decide +kernel
theorem dX9_laws_119 : decode cX9_laws 119 = .ok (.goto 5, 3) := by decide +kernel
theorem dX9_laws_122 : decode cX9_laws 122 = .ok (.iload 4, 2) := by decide +kernel
theorem dX9_laws_124 : decode cX9_laws 124 = .ok (.ireturn, 1) := by decide +kernel
theorem dX9_bribe_0 : decode cX9_bribe 0 = .ok (.aload_n 0, 1) := by decide +kernel
theorem dX9_bribe_1 : decode cX9_bribe 1 = .ok (.iload_n 1, 1) := by decide +kernel
theorem dX9_bribe_2 : decode cX9_bribe 2 = .ok (.invokevirtual 177, 3) := by decide +kernel
theorem dX9_bribe_5 : decode cX9_bribe 5 = .ok (.ifCond .eq 12, 3) := by decide +kernel
theorem dX9_bribe_8 : decode cX9_bribe 8 = .ok (.iload_n 2, 1) := by decide +kernel
theorem dX9_bribe_9 : decode cX9_bribe 9 = .ok (.iconst 0, 1) := by decide +kernel
theorem dX9_bribe_10 : decode cX9_bribe 10 = .ok (.iconst 2, 1) := by decide +kernel
theorem dX9_bribe_11 : decode cX9_bribe 11 = .ok (.invokestatic 75, 3) := by decide +kernel
theorem dX9_bribe_14 : decode cX9_bribe 14 = .ok (.ifCond .ne 6, 3) := by decide +kernel
theorem dX9_bribe_17 : decode cX9_bribe 17 = .ok (.ldc 79, 2) := by decide +kernel
theorem dX9_bribe_19 : decode cX9_bribe 19 = .ok (.ireturn, 1) := by decide +kernel
theorem dX9_bribe_20 : decode cX9_bribe 20 = .ok (.aload_n 0, 1) := by decide +kernel
theorem dX9_bribe_21 : decode cX9_bribe 21 = .ok (.getfield 36, 3) := by decide +kernel
theorem dX9_bribe_24 : decode cX9_bribe 24 = .ok (.iload_n 1, 1) := by decide +kernel
theorem dX9_bribe_25 : decode cX9_bribe 25 = .ok (.invokevirtual 187, 3) := by decide +kernel
theorem dX9_bribe_28 : decode cX9_bribe 28 = .ok (.ifCond .ne 6, 3) := by decide +kernel
theorem dX9_bribe_31 : decode cX9_bribe 31 = .ok (.ldc 156, 2) := by decide +kernel
theorem dX9_bribe_33 : decode cX9_bribe 33 = .ok (.ireturn, 1) := by decide +kernel
theorem dX9_bribe_34 : decode cX9_bribe 34 = .ok (.ldc 249, 2) := by decide +kernel
theorem dX9_bribe_36 : decode cX9_bribe 36 = .ok (.istore_n 3, 1) := by decide +kernel
theorem dX9_bribe_37 : decode cX9_bribe 37 = .ok (.ldc 249, 2) := by decide +kernel
theorem dX9_bribe_39 : decode cX9_bribe 39 = .ok (.istore 4, 2) := by decide +kernel
theorem dX9_bribe_41 : decode cX9_bribe 41 = .ok (.ldc 249, 2) := by decide +kernel
theorem dX9_bribe_43 : decode cX9_bribe 43 = .ok (.istore 5, 2) := by decide +kernel
theorem dX9_bribe_45 : decode cX9_bribe 45 = .ok (.bipush (-4), 2) := by decide +kernel
theorem dX9_bribe_47 : decode cX9_bribe 47 = .ok (.istore 6, 2) := by decide +kernel
theorem dX9_bribe_49 : decode cX9_bribe 49 = .ok (.iload 6, 2) := by decide +kernel
theorem dX9_bribe_51 : decode cX9_bribe 51 = .ok (.iconst 4, 1) := by decide +kernel
theorem dX9_bribe_52 : decode cX9_bribe 52 = .ok (.if_icmp .gt 94, 3) := by decide +kernel
theorem dX9_bribe_55 : decode cX9_bribe 55 = .ok (.aload_n 0, 1) := by decide +kernel
theorem dX9_bribe_56 : decode cX9_bribe 56 = .ok (.getfield 40, 3) := by decide +kernel
theorem dX9_bribe_59 : decode cX9_bribe 59 = .ok (.aload_n 0, 1) := by decide +kernel
theorem dX9_bribe_60 : decode cX9_bribe 60 = .ok (.getfield 36, 3) := by decide +kernel
theorem dX9_bribe_63 : decode cX9_bribe 63 = .ok (.invokevirtual 143, 3) := by decide +kernel
theorem dX9_bribe_66 : decode cX9_bribe 66 = .ok (.aload_n 0, 1) := by decide +kernel
theorem dX9_bribe_67 : decode cX9_bribe 67 = .ok (.getfield 40, 3) := by decide +kernel
theorem dX9_bribe_70 : decode cX9_bribe 70 = .ok (.aload_n 0, 1) := by decide +kernel
theorem dX9_bribe_71 : decode cX9_bribe 71 = .ok (.getfield 36, 3) := by decide +kernel
theorem dX9_bribe_74 : decode cX9_bribe 74 = .ok (.getfield 190, 3) := by decide +kernel
theorem dX9_bribe_77 : decode cX9_bribe 77 = .ok (.iload_n 1, 1) := by decide +kernel
theorem dX9_bribe_78 : decode cX9_bribe 78 = .ok (.iaload, 1) := by decide +kernel
theorem dX9_bribe_79 : decode cX9_bribe 79 = .ok (.iload 6, 2) := by decide +kernel
theorem dX9_bribe_81 : decode cX9_bribe 81 = .ok (.invokevirtual 170, 3) := by decide +kernel
theorem dX9_bribe_84 : decode cX9_bribe 84 = .ok (.pop, 1) := by decide +kernel
theorem dX9_bribe_85 : decode cX9_bribe 85 = .ok (.aload_n 0, 1) := by decide +kernel
theorem dX9_bribe_86 : decode cX9_bribe 86 = .ok (.getfield 40, 3) := by decide +kernel
theorem dX9_bribe_89 : decode cX9_bribe 89 = .ok (.aload_n 0, 1) := by decide +kernel
theorem dX9_bribe_90 : decode cX9_bribe 90 = .ok (.getfield 26, 3) := by decide +kernel
theorem dX9_bribe_93 : decode cX9_bribe 93 = .ok (.sipush 200, 3) := by decide +kernel
theorem dX9_bribe_96 : decode cX9_bribe 96 = .ok (.invokevirtual 267, 3) := by decide +kernel
theorem dX9_bribe_99 : decode cX9_bribe 99 = .ok (.aload_n 0, 1) := by decide +kernel
theorem dX9_bribe_100 : decode cX9_bribe 100 = .ok (.getfield 40, 3) := by decide +kernel
theorem dX9_bribe_103 : decode cX9_bribe 103 = .ok (.iload_n 1, 1) := by decide +kernel
theorem dX9_bribe_104 : decode cX9_bribe 104 = .ok (.iload 4, 2) := by decide +kernel
theorem dX9_bribe_106 : decode cX9_bribe 106 = .ok (.invokevirtual 271, 3) := by decide +kernel
theorem dX9_bribe_109 : decode cX9_bribe 109 = .ok (.ifCond .eq 31, 3) := by decide +kernel
theorem dX9_bribe_112 : decode cX9_bribe 112 = .ok (.iload 6, 2) := by decide +kernel
theorem dX9_bribe_114 : decode cX9_bribe 114 = .ok (.istore_n 3, 1) := by decide +kernel
theorem dX9_bribe_115 : decode cX9_bribe 115 = .ok (.aload_n 0, 1) := by decide +kernel
theorem dX9_bribe_116 : decode cX9_bribe 116 = .ok (.getfield 40, 3) := by decide +kernel
theorem dX9_bribe_119 : decode cX9_bribe 119 = .ok (.getfield 205, 3) := by decide +kernel
theorem dX9_bribe_122 : decode cX9_bribe 122 = .ok (.iload_n 1, 1) := by decide +kernel
theorem dX9_bribe_123 : decode cX9_bribe 123 = .ok (.iaload, 1) := by decide +kernel
theorem dX9_bribe_124 : decode cX9_bribe 124 = .ok (.istore 4, 2) := by decide +kernel
theorem dX9_bribe_126 : decode cX9_bribe 126 = .ok (.aload_n 0, 1) := by decide +kernel
theorem dX9_bribe_127 : decode cX9_bribe 127 = .ok (.getfield 40, 3) := by decide +kernel
theorem dX9_bribe_130 : decode cX9_bribe 130 = .ok (.aload_n 0, 1) := by decide +kernel
theorem dX9_bribe_131 : decode cX9_bribe 131 = .ok (.getfield 26, 3) := by decide +kernel
theorem dX9_bribe_134 : decode cX9_bribe 134 = .ok (.iconst 2, 1) := by decide +kernel
theorem dX9_bribe_135 : decode cX9_bribe 135 = .ok (.invokevirtual 237, 3) := by decide +kernel
theorem dX9_bribe_138 : decode cX9_bribe 138 = .ok (.istore 5, 2) := by decide +kernel
theorem dX9_bribe_140 : decode cX9_bribe 140 = .ok (.iinc 6 1, 3) := by decide +kernel
theorem dX9_bribe_143 : decode cX9_bribe 143 = .ok (.goto (-94), 3) := by decide +kernel
theorem dX9_bribe_146 : decode cX9_bribe 146 = .ok (.iload_n 2, 1) := by decide +kernel
theorem dX9_bribe_147 : decode cX9_bribe 147 = .ok (.ifCond .ne 7, 3) := by decide +kernel
theorem dX9_bribe_150 : decode cX9_bribe 150 = .ok (.iload_n 3, 1) := by decide +kernel
theorem dX9_bribe_151 : decode cX9_bribe 151 = .ok (.goto 15, 3) := by decide +kernel
theorem dX9_bribe_154 : decode cX9_bribe 154 = .ok (.iload_n 2, 1) := by decide +kernel
theorem dX9_bribe_155 : decode cX9_bribe 155 = .ok (.iconst 1, 1) := by decide +kernel
theorem dX9_bribe_156 : decode cX9_bribe 156 = .ok (.if_icmp .ne 8, 3) := by decide +kernel
theorem dX9_bribe_159 : decode cX9_bribe 159 = .ok (.iload 4, 2) := by decide +kernel
theorem dX9_bribe_161 : decode cX9_bribe 161 = .ok (.goto 5, 3) := by decide +kernel
theorem dX9_bribe_164 : decode cX9_bribe 164 = .ok (.iload 5, 2) := by decide +kernel
theorem dX9_bribe_166 : decode cX9_bribe 166 = .ok (.ireturn, 1) := by decide +kernel
theorem dX9_heed_0 : decode cX9_heed 0 = .ok (.aload_n 0, 1) := by decide +kernel
theorem dX9_heed_1 : decode cX9_heed 1 = .ok (.iload_n 1, 1) := by decide +kernel
theorem dX9_heed_2 : decode cX9_heed 2 = .ok (.invokevirtual 177, 3) := by decide +kernel
theorem dX9_heed_5 : decode cX9_heed 5 = .ok (.ifCond .ne 6, 3) := by decide +kernel
theorem dX9_heed_8 : decode cX9_heed 8 = .ok (.ldc 79, 2) := by decide +kernel
theorem dX9_heed_10 : decode cX9_heed 10 = .ok (.ireturn, 1) := by decide +kernel
theorem dX9_heed_11 : decode cX9_heed 11 = .ok (.aload_n 0, 1) := by decide +kernel
theorem dX9_heed_12 : decode cX9_heed 12 = .ok (.getfield 36, 3) := by decide +kernel
theorem dX9_heed_15 : decode cX9_heed 15 = .ok (.iload_n 1, 1) := by decide +kernel
theorem dX9_heed_16 : decode cX9_heed 16 = .ok (.invokevirtual 187, 3) := by decide +kernel
theorem dX9_heed_19 : decode cX9_heed 19 = .ok (.ifCond .ne 6, 3) := by decide +kernel
theorem dX9_heed_22 : decode cX9_heed 22 = .ok (.ldc 156, 2) := by decide +kernel
theorem dX9_heed_24 : decode cX9_heed 24 = .ok (.ireturn, 1) := by decide +kernel
theorem dX9_heed_25 : decode cX9_heed 25 = .ok (.ldc 249, 2) := by decide +kernel
theorem dX9_heed_27 : decode cX9_heed 27 = .ok (.istore_n 2, 1) := by decide +kernel
theorem dX9_heed_28 : decode cX9_heed 28 = .ok (.ldc 249, 2) := by decide +kernel
theorem dX9_heed_30 : decode cX9_heed 30 = .ok (.istore_n 3, 1) := by decide +kernel
theorem dX9_heed_31 : decode cX9_heed 31 = .ok (.iconst 0, 1) := by decide +kernel
theorem dX9_heed_32 : decode cX9_heed 32 = .ok (.istore 4, 2) := by decide +kernel
theorem dX9_heed_34 : decode cX9_heed 34 = .ok (.iload 4, 2) := by decide +kernel
theorem dX9_heed_36 : decode cX9_heed 36 = .ok (.aload_n 0, 1) := by decide +kernel
theorem dX9_heed_37 : decode cX9_heed 37 = .ok (.getfield 26, 3) := by decide +kernel
theorem dX9_heed_40 : decode cX9_heed 40 = .ok (.getfield 274, 3) := by decide +kernel
theorem dX9_heed_43 : decode cX9_heed 43 = .ok (.if_icmp .ge 70, 3) := by decide +kernel
theorem dX9_heed_46 : decode cX9_heed 46 = .ok (.aload_n 0, 1) := by decide +kernel
theorem dX9_heed_47 : decode cX9_heed 47 = .ok (.getfield 40, 3) := by decide +kernel
theorem dX9_heed_50 : decode cX9_heed 50 = .ok (.aload_n 0, 1) := by decide +kernel
theorem dX9_heed_51 : decode cX9_heed 51 = .ok (.getfield 36, 3) := by decide +kernel
theorem dX9_heed_54 : decode cX9_heed 54 = .ok (.invokevirtual 143, 3) := by decide +kernel
theorem dX9_heed_57 : decode cX9_heed 57 = .ok (.aload_n 0, 1) := by decide +kernel
theorem dX9_heed_58 : decode cX9_heed 58 = .ok (.getfield 40, 3) := by decide +kernel
theorem dX9_heed_61 : decode cX9_heed 61 = .ok (.getfield 190, 3) := by decide +kernel
theorem dX9_heed_64 : decode cX9_heed 64 = .ok (.iload_n 1, 1) := by decide +kernel
theorem dX9_heed_65 : decode cX9_heed 65 = .ok (.iload 4, 2) := by decide +kernel
theorem dX9_heed_67 : decode cX9_heed 67 = .ok (.iastore, 1) := by decide +kernel
theorem dX9_heed_68 : decode cX9_heed 68 = .ok (.aload_n 0, 1) := by decide +kernel
theorem dX9_heed_69 : decode cX9_heed 69 = .ok (.getfield 40, 3) := by decide +kernel
theorem dX9_heed_72 : decode cX9_heed 72 = .ok (.aload_n 0, 1) := by decide +kernel
theorem dX9_heed_73 : decode cX9_heed 73 = .ok (.getfield 26, 3) := by decide +kernel
theorem dX9_heed_76 : decode cX9_heed 76 = .ok (.sipush 200, 3) := by decide +kernel
theorem dX9_heed_79 : decode cX9_heed 79 = .ok (.invokevirtual 267, 3) := by decide +kernel
theorem dX9_heed_82 : decode cX9_heed 82 = .ok (.aload_n 0, 1) := by decide +kernel
theorem dX9_heed_83 : decode cX9_heed 83 = .ok (.getfield 40, 3) := by decide +kernel
theorem dX9_heed_86 : decode cX9_heed 86 = .ok (.iload_n 1, 1) := by decide +kernel
theorem dX9_heed_87 : decode cX9_heed 87 = .ok (.iload_n 3, 1) := by decide +kernel
theorem dX9_heed_88 : decode cX9_heed 88 = .ok (.invokevirtual 271, 3) := by decide +kernel
theorem dX9_heed_91 : decode cX9_heed 91 = .ok (.ifCond .eq 16, 3) := by decide +kernel
theorem dX9_heed_94 : decode cX9_heed 94 = .ok (.iload 4, 2) := by decide +kernel
theorem dX9_heed_96 : decode cX9_heed 96 = .ok (.istore_n 2, 1) := by decide +kernel
theorem dX9_heed_97 : decode cX9_heed 97 = .ok (.aload_n 0, 1) := by decide +kernel
theorem dX9_heed_98 : decode cX9_heed 98 = .ok (.getfield 40, 3) := by decide +kernel
theorem dX9_heed_101 : decode cX9_heed 101 = .ok (.getfield 205, 3) := by decide +kernel
theorem dX9_heed_104 : decode cX9_heed 104 = .ok (.iload_n 1, 1) := by decide +kernel
theorem dX9_heed_105 : decode cX9_heed 105 = .ok (.iaload, 1) := by decide +kernel
theorem dX9_heed_106 : decode cX9_heed 106 = .ok (.istore_n 3, 1) := by decide +kernel
theorem dX9_heed_107 : decode cX9_heed 107 = .ok (.iinc 4 1, 3) := by decide +kernel
theorem dX9_heed_110 : decode cX9_heed 110 = .ok (.goto (-76), 3) := by decide +kernel
theorem dX9_heed_113 : decode cX9_heed 113 = .ok (.iload_n 2, 1) := by decide +kernel
theorem dX9_heed_114 : decode cX9_heed 114 = .ok (.ireturn, 1) := by decide +kernel
theorem dX9_agreed_0 : decode cX9_agreed 0 = .ok (.aload_n 0, 1) := by decide +kernel
theorem dX9_agreed_1 : decode cX9_agreed 1 = .ok (.getfield 149, 3) := by decide +kernel
theorem dX9_agreed_4 : decode cX9_agreed 4 = .ok (.ifCond .ne 6, 3) := by decide +kernel
theorem dX9_agreed_7 : decode cX9_agreed 7 = .ok (.ldc 156, 2) := by decide +kernel
theorem dX9_agreed_9 : decode cX9_agreed 9 = .ok (.ireturn, 1) := by decide +kernel
theorem dX9_agreed_10 : decode cX9_agreed 10 = .ok (.iload_n 1, 1) := by decide +kernel
theorem dX9_agreed_11 : decode cX9_agreed 11 = .ok (.iconst 1, 1) := by decide +kernel
theorem dX9_agreed_12 : decode cX9_agreed 12 = .ok (.bipush 100, 2) := by decide +kernel
theorem dX9_agreed_14 : decode cX9_agreed 14 = .ok (.invokestatic 75, 3) := by decide +kernel
theorem dX9_agreed_17 : decode cX9_agreed 17 = .ok (.ifCond .eq 12, 3) := by decide +kernel
theorem dX9_agreed_20 : decode cX9_agreed 20 = .ok (.iload_n 2, 1) := by decide +kernel
theorem dX9_agreed_21 : decode cX9_agreed 21 = .ok (.iconst 0, 1) := by decide +kernel
theorem dX9_agreed_22 : decode cX9_agreed 22 = .ok (.iconst 1, 1) := by decide +kernel
theorem dX9_agreed_23 : decode cX9_agreed 23 = .ok (.invokestatic 75, 3) := by decide +kernel
theorem dX9_agreed_26 : decode cX9_agreed 26 = .ok (.ifCond .ne 6, 3) := by decide +kernel
theorem dX9_agreed_29 : decode cX9_agreed 29 = .ok (.ldc 79, 2) := by decide +kernel
theorem dX9_agreed_31 : decode cX9_agreed 31 = .ok (.ireturn, 1) := by decide +kernel
theorem dX9_agreed_32 : decode cX9_agreed 32 = .ok (.iconst 0, 1) := by decide +kernel
theorem dX9_agreed_33 : decode cX9_agreed 33 = .ok (.istore_n 3, 1) := by decide +kernel
theorem dX9_agreed_34 : decode cX9_agreed 34 = .ok (.ldc 249, 2) := by decide +kernel
theorem dX9_agreed_36 : decode cX9_agreed 36 = .ok (.istore 4, 2) := by decide +kernel
theorem dX9_agreed_38 : decode cX9_agreed 38 = .ok (.aload_n 0, 1) := by decide +kernel
theorem dX9_agreed_39 : decode cX9_agreed 39 = .ok (.getfield 40, 3) := by decide +kernel
theorem dX9_agreed_42 : decode cX9_agreed 42 = .ok (.aload_n 0, 1) := by decide +kernel
theorem dX9_agreed_43 : decode cX9_agreed 43 = .ok (.getfield 36, 3) := by decide +kernel
theorem dX9_agreed_46 : decode cX9_agreed 46 = .ok (.invokevirtual 143, 3) := by decide +kernel
theorem dX9_agreed_49 : decode cX9_agreed 49 = .ok (.aload_n 0, 1) := by decide +kernel
theorem dX9_agreed_50 : decode cX9_agreed 50 = .ok (.getfield 36, 3) := by decide +kernel
theorem dX9_agreed_53 : decode cX9_agreed 53 = .ok (.getfield 157, 3) := by decide +kernel
theorem dX9_agreed_56 : decode cX9_agreed 56 = .ok (.istore 5, 2) := by decide +kernel
theorem dX9_agreed_58 : decode cX9_agreed 58 = .ok (.iload 5, 2) := by decide +kernel
theorem dX9_agreed_60 : decode cX9_agreed 60 = .ok (.aload_n 0, 1) := by decide +kernel
theorem dX9_agreed_61 : decode cX9_agreed 61 = .ok (.getfield 36, 3) := by decide +kernel
theorem dX9_agreed_64 : decode cX9_agreed 64 = .ok (.getfield 157, 3) := by decide +kernel
theorem dX9_agreed_67 : decode cX9_agreed 67 = .ok (.iload_n 1, 1) := by decide +kernel
theorem dX9_agreed_68 : decode cX9_agreed 68 = .ok (.iadd, 1) := by decide +kernel
theorem dX9_agreed_69 : decode cX9_agreed 69 = .ok (.if_icmp .ge 40, 3) := by decide +kernel
theorem dX9_agreed_72 : decode cX9_agreed 72 = .ok (.aload_n 0, 1) := by decide +kernel
theorem dX9_agreed_73 : decode cX9_agreed 73 = .ok (.getfield 40, 3) := by decide +kernel
theorem dX9_agreed_76 : decode cX9_agreed 76 = .ok (.aload_n 0, 1) := by decide +kernel
theorem dX9_agreed_77 : decode cX9_agreed 77 = .ok (.getfield 26, 3) := by decide +kernel
theorem dX9_agreed_80 : decode cX9_agreed 80 = .ok (.invokevirtual 163, 3) := by decide +kernel
theorem dX9_agreed_83 : decode cX9_agreed 83 = .ok (.iconst 2, 1) := by decide +kernel
theorem dX9_agreed_84 : decode cX9_agreed 84 = .ok (.if_icmp .lt 19, 3) := by decide +kernel
theorem dX9_agreed_87 : decode cX9_agreed 87 = .ok (.iload_n 3, 1) := by decide +kernel
theorem dX9_agreed_88 : decode cX9_agreed 88 = .ok (.ifCond .ne 8, 3) := by decide +kernel
theorem dX9_agreed_91 : decode cX9_agreed 91 = .ok (.iload 5, 2) := by decide +kernel
theorem dX9_agreed_93 : decode cX9_agreed 93 = .ok (.goto 5, 3) := by decide +kernel
theorem dX9_agreed_96 : decode cX9_agreed 96 = .ok (.iload 4, 2) := by decide +kernel
theorem dX9_agreed_98 : decode cX9_agreed 98 = .ok (.istore 4, 2) := by decide +kernel
theorem dX9_agreed_100 : decode cX9_agreed 100 = .ok (.iinc 3 1, 3) := by decide +kernel
theorem dX9_agreed_103 : decode cX9_agreed 103 = .ok (.iinc 5 1, 3) := by decide +kernel
theorem dX9_agreed_106 : decode cX9_agreed 106 = .ok (.goto (-48), 3) := by decide +kernel
theorem dX9_agreed_109 : decode cX9_agreed 109 = .ok (.iload_n 2, 1) := by decide +kernel
theorem dX9_agreed_110 : decode cX9_agreed 110 = .ok (.ifCond .ne 7, 3) := by decide +kernel
theorem dX9_agreed_113 : decode cX9_agreed 113 = .ok (.iload_n 3, 1) := by decide +kernel
theorem dX9_agreed_114 : decode cX9_agreed 114 = .ok (.goto 5, 3) := by decide +kernel
theorem dX9_agreed_117 : decode cX9_agreed 117 = .ok (.iload 4, 2) := by decide +kernel
theorem dX9_agreed_119 : decode cX9_agreed 119 = .ok (.ireturn, 1) := by decide +kernel
theorem dX9_log_0 : decode cX9_log 0 = .ok (.aload_n 0, 1) := by decide +kernel
theorem dX9_log_1 : decode cX9_log 1 = .ok (.getfield 149, 3) := by decide +kernel
theorem dX9_log_4 : decode cX9_log 4 = .ok (.ifCond .ne 6, 3) := by decide +kernel
theorem dX9_log_7 : decode cX9_log 7 = .ok (.ldc 156, 2) := by decide +kernel
theorem dX9_log_9 : decode cX9_log 9 = .ok (.ireturn, 1) := by decide +kernel
theorem dX9_log_10 : decode cX9_log 10 = .ok (.aload_n 0, 1) := by decide +kernel
theorem dX9_log_11 : decode cX9_log 11 = .ok (.iload_n 1, 1) := by decide +kernel
theorem dX9_log_12 : decode cX9_log 12 = .ok (.invokevirtual 71, 3) := by decide +kernel
theorem dX9_log_15 : decode cX9_log 15 = .ok (.ifCond .eq 23, 3) := by decide +kernel
theorem dX9_log_18 : decode cX9_log 18 = .ok (.iload_n 3, 1) := by decide +kernel
theorem dX9_log_19 : decode cX9_log 19 = .ok (.iconst 1, 1) := by decide +kernel
theorem dX9_log_20 : decode cX9_log 20 = .ok (.bipush 20, 2) := by decide +kernel
theorem dX9_log_22 : decode cX9_log 22 = .ok (.invokestatic 75, 3) := by decide +kernel
theorem dX9_log_25 : decode cX9_log 25 = .ok (.ifCond .eq 13, 3) := by decide +kernel
theorem dX9_log_28 : decode cX9_log 28 = .ok (.iload 4, 2) := by decide +kernel
theorem dX9_log_30 : decode cX9_log 30 = .ok (.iconst 0, 1) := by decide +kernel
theorem dX9_log_31 : decode cX9_log 31 = .ok (.iconst 1, 1) := by decide +kernel
theorem dX9_log_32 : decode cX9_log 32 = .ok (.invokestatic 75, 3) := by decide +kernel
theorem dX9_log_35 : decode cX9_log 35 = .ok (.ifCond .ne 6, 3) := by decide +kernel
theorem dX9_log_38 : decode cX9_log 38 = .ok (.ldc 79, 2) := by decide +kernel
theorem dX9_log_40 : decode cX9_log 40 = .ok (.ireturn, 1) := by decide +kernel
theorem dX9_log_41 : decode cX9_log 41 = .ok (.aload_n 0, 1) := by decide +kernel
theorem dX9_log_42 : decode cX9_log 42 = .ok (.getfield 10, 3) := by decide +kernel
theorem dX9_log_45 : decode cX9_log 45 = .ok (.iload_n 1, 1) := by decide +kernel
theorem dX9_log_46 : decode cX9_log 46 = .ok (.invokevirtual 91, 3) := by decide +kernel
theorem dX9_log_49 : decode cX9_log 49 = .ok (.ifCond .eq 9, 3) := by decide +kernel
theorem dX9_log_52 : decode cX9_log 52 = .ok (.aload_n 0, 1) := by decide +kernel
theorem dX9_log_53 : decode cX9_log 53 = .ok (.iconst 1, 1) := by decide +kernel
theorem dX9_log_54 : decode cX9_log 54 = .ok (.invokevirtual 80, 3) := by decide +kernel
theorem dX9_log_57 : decode cX9_log 57 = .ok (.ireturn, 1) := by decide +kernel
theorem dX9_log_58 : decode cX9_log 58 = .ok (.aload_n 0, 1) := by decide +kernel
theorem dX9_log_59 : decode cX9_log 59 = .ok (.getfield 10, 3) := by decide +kernel
theorem dX9_log_62 : decode cX9_log 62 = .ok (.iload_n 1, 1) := by decide +kernel
theorem dX9_log_63 : decode cX9_log 63 = .ok (.iload_n 2, 1) := by decide +kernel
theorem dX9_log_64 : decode cX9_log 64 = .ok (.iload_n 3, 1) := by decide +kernel
theorem dX9_log_65 : decode cX9_log 65 = .ok (.invokevirtual 94, 3) := by decide +kernel
theorem dX9_log_68 : decode cX9_log 68 = .ok (.ifCond .ne 9, 3) := by decide +kernel
theorem dX9_log_71 : decode cX9_log 71 = .ok (.aload_n 0, 1) := by decide +kernel
theorem dX9_log_72 : decode cX9_log 72 = .ok (.iconst 2, 1) := by decide +kernel
theorem dX9_log_73 : decode cX9_log 73 = .ok (.invokevirtual 80, 3) := by decide +kernel
theorem dX9_log_76 : decode cX9_log 76 = .ok (.ireturn, 1) := by decide +kernel
theorem dX9_log_77 : decode cX9_log 77 = .ok (.aload_n 0, 1) := by decide +kernel
theorem dX9_log_78 : decode cX9_log 78 = .ok (.getfield 10, 3) := by decide +kernel
theorem dX9_log_81 : decode cX9_log 81 = .ok (.iload_n 1, 1) := by decide +kernel
theorem dX9_log_82 : decode cX9_log 82 = .ok (.iload_n 2, 1) := by decide +kernel
theorem dX9_log_83 : decode cX9_log 83 = .ok (.iload_n 3, 1) := by decide +kernel
theorem dX9_log_84 : decode cX9_log 84 = .ok (.sipush 399, 3) := by decide +kernel
theorem dX9_log_87 : decode cX9_log 87 = .ok (.invokevirtual 277, 3) := by decide +kernel
theorem dX9_log_90 : decode cX9_log 90 = .ok (.ifCond .ne 6, 3) := by decide +kernel
theorem dX9_log_93 : decode cX9_log 93 = .ok (.ldc 79, 2) := by decide +kernel
theorem dX9_log_95 : decode cX9_log 95 = .ok (.ireturn, 1) := by decide +kernel
theorem dX9_log_96 : decode cX9_log 96 = .ok (.iconst 0, 1) := by decide +kernel
theorem dX9_log_97 : decode cX9_log 97 = .ok (.istore 5, 2) := by decide +kernel
theorem dX9_log_99 : decode cX9_log 99 = .ok (.ldc 249, 2) := by decide +kernel
theorem dX9_log_101 : decode cX9_log 101 = .ok (.istore 6, 2) := by decide +kernel
theorem dX9_log_103 : decode cX9_log 103 = .ok (.iconst 0, 1) := by decide +kernel
theorem dX9_log_104 : decode cX9_log 104 = .ok (.istore 7, 2) := by decide +kernel
theorem dX9_log_106 : decode cX9_log 106 = .ok (.iload 7, 2) := by decide +kernel
theorem dX9_log_108 : decode cX9_log 108 = .ok (.bipush 72, 2) := by decide +kernel
theorem dX9_log_110 : decode cX9_log 110 = .ok (.if_icmp .ge 38, 3) := by decide +kernel
theorem dX9_log_113 : decode cX9_log 113 = .ok (.aload_n 0, 1) := by decide +kernel
theorem dX9_log_114 : decode cX9_log 114 = .ok (.iload 7, 2) := by decide +kernel
theorem dX9_log_116 : decode cX9_log 116 = .ok (.iload_n 1, 1) := by decide +kernel
theorem dX9_log_117 : decode cX9_log 117 = .ok (.iload_n 2, 1) := by decide +kernel
theorem dX9_log_118 : decode cX9_log 118 = .ok (.iload_n 3, 1) := by decide +kernel
theorem dX9_log_119 : decode cX9_log 119 = .ok (.invokevirtual 281, 3) := by decide +kernel
theorem dX9_log_122 : decode cX9_log 122 = .ok (.ifCond .eq 20, 3) := by decide +kernel
theorem dX9_log_125 : decode cX9_log 125 = .ok (.iload 5, 2) := by decide +kernel
theorem dX9_log_127 : decode cX9_log 127 = .ok (.ifCond .ne 8, 3) := by decide +kernel
theorem dX9_log_130 : decode cX9_log 130 = .ok (.iload 7, 2) := by decide +kernel
theorem dX9_log_132 : decode cX9_log 132 = .ok (.goto 5, 3) := by decide +kernel
theorem dX9_log_135 : decode cX9_log 135 = .ok (.iload 6, 2) := by decide +kernel
theorem dX9_log_137 : decode cX9_log 137 = .ok (.istore 6, 2) := by decide +kernel
theorem dX9_log_139 : decode cX9_log 139 = .ok (.iinc 5 1, 3) := by decide +kernel
theorem dX9_log_142 : decode cX9_log 142 = .ok (.iinc 7 1, 3) := by decide +kernel
theorem dX9_log_145 : decode cX9_log 145 = .ok (.goto (-39), 3) := by decide +kernel
theorem dX9_log_148 : decode cX9_log 148 = .ok (.aload_n 0, 1) := by decide +kernel
theorem dX9_log_149 : decode cX9_log 149 = .ok (.iload 4, 2) := by decide +kernel
theorem dX9_log_151 : decode cX9_log 151 = .ok (.ifCond .ne 8, 3) := by decide +kernel
theorem dX9_log_154 : decode cX9_log 154 = .ok (.iload 5, 2) := by decide +kernel
theorem dX9_log_156 : decode cX9_log 156 = .ok (.goto 5, 3) := by decide +kernel
theorem dX9_log_159 : decode cX9_log 159 = .ok (.iload 6, 2) := by decide +kernel
theorem dX9_log_161 : decode cX9_log 161 = .ok (.invokevirtual 88, 3) := by decide +kernel
theorem dX9_log_164 : decode cX9_log 164 = .ok (.ireturn, 1) := by decide +kernel
theorem dX9_wreck_0 : decode cX9_wreck 0 = .ok (.aload_n 0, 1) := by decide +kernel
theorem dX9_wreck_1 : decode cX9_wreck 1 = .ok (.getfield 149, 3) := by decide +kernel
theorem dX9_wreck_4 : decode cX9_wreck 4 = .ok (.ifCond .ne 6, 3) := by decide +kernel
theorem dX9_wreck_7 : decode cX9_wreck 7 = .ok (.ldc 156, 2) := by decide +kernel
theorem dX9_wreck_9 : decode cX9_wreck 9 = .ok (.ireturn, 1) := by decide +kernel
theorem dX9_wreck_10 : decode cX9_wreck 10 = .ok (.iload_n 1, 1) := by decide +kernel
theorem dX9_wreck_11 : decode cX9_wreck 11 = .ok (.iconst 0, 1) := by decide +kernel
theorem dX9_wreck_12 : decode cX9_wreck 12 = .ok (.bipush 99, 2) := by decide +kernel
theorem dX9_wreck_14 : decode cX9_wreck 14 = .ok (.invokestatic 75, 3) := by decide +kernel
theorem dX9_wreck_17 : decode cX9_wreck 17 = .ok (.ifCond .eq 33, 3) := by decide +kernel
theorem dX9_wreck_20 : decode cX9_wreck 20 = .ok (.iload_n 2, 1) := by decide +kernel
theorem dX9_wreck_21 : decode cX9_wreck 21 = .ok (.iconst 1, 1) := by decide +kernel
theorem dX9_wreck_22 : decode cX9_wreck 22 = .ok (.bipush 99, 2) := by decide +kernel
theorem dX9_wreck_24 : decode cX9_wreck 24 = .ok (.invokestatic 75, 3) := by decide +kernel
theorem dX9_wreck_27 : decode cX9_wreck 27 = .ok (.ifCond .eq 23, 3) := by decide +kernel
theorem dX9_wreck_30 : decode cX9_wreck 30 = .ok (.iload_n 3, 1) := by decide +kernel
theorem dX9_wreck_31 : decode cX9_wreck 31 = .ok (.iconst 1, 1) := by decide +kernel
theorem dX9_wreck_32 : decode cX9_wreck 32 = .ok (.bipush 100, 2) := by decide +kernel
theorem dX9_wreck_34 : decode cX9_wreck 34 = .ok (.invokestatic 75, 3) := by decide +kernel
theorem dX9_wreck_37 : decode cX9_wreck 37 = .ok (.ifCond .eq 13, 3) := by decide +kernel
theorem dX9_wreck_40 : decode cX9_wreck 40 = .ok (.iload 4, 2) := by decide +kernel
theorem dX9_wreck_42 : decode cX9_wreck 42 = .ok (.iconst 0, 1) := by decide +kernel
theorem dX9_wreck_43 : decode cX9_wreck 43 = .ok (.iconst 1, 1) := by decide +kernel
theorem dX9_wreck_44 : decode cX9_wreck 44 = .ok (.invokestatic 75, 3) := by decide +kernel
theorem dX9_wreck_47 : decode cX9_wreck 47 = .ok (.ifCond .ne 6, 3) := by decide +kernel
theorem dX9_wreck_50 : decode cX9_wreck 50 = .ok (.ldc 79, 2) := by decide +kernel
theorem dX9_wreck_52 : decode cX9_wreck 52 = .ok (.ireturn, 1) := by decide +kernel
theorem dX9_wreck_53 : decode cX9_wreck 53 = .ok (.iconst 0, 1) := by decide +kernel
theorem dX9_wreck_54 : decode cX9_wreck 54 = .ok (.istore 5, 2) := by decide +kernel
theorem dX9_wreck_56 : decode cX9_wreck 56 = .ok (.ldc 249, 2) := by decide +kernel
theorem dX9_wreck_58 : decode cX9_wreck 58 = .ok (.istore 6, 2) := by decide +kernel
theorem dX9_wreck_60 : decode cX9_wreck 60 = .ok (.aload_n 0, 1) := by decide +kernel
theorem dX9_wreck_61 : decode cX9_wreck 61 = .ok (.getfield 40, 3) := by decide +kernel
theorem dX9_wreck_64 : decode cX9_wreck 64 = .ok (.aload_n 0, 1) := by decide +kernel
theorem dX9_wreck_65 : decode cX9_wreck 65 = .ok (.getfield 36, 3) := by decide +kernel
theorem dX9_wreck_68 : decode cX9_wreck 68 = .ok (.invokevirtual 143, 3) := by decide +kernel
theorem dX9_wreck_71 : decode cX9_wreck 71 = .ok (.aload_n 0, 1) := by decide +kernel
theorem dX9_wreck_72 : decode cX9_wreck 72 = .ok (.getfield 36, 3) := by decide +kernel
theorem dX9_wreck_75 : decode cX9_wreck 75 = .ok (.getfield 157, 3) := by decide +kernel
theorem dX9_wreck_78 : decode cX9_wreck 78 = .ok (.istore 7, 2) := by decide +kernel
theorem dX9_wreck_80 : decode cX9_wreck 80 = .ok (.iload 7, 2) := by decide +kernel
theorem dX9_wreck_82 : decode cX9_wreck 82 = .ok (.aload_n 0, 1) := by decide +kernel
theorem dX9_wreck_83 : decode cX9_wreck 83 = .ok (.getfield 36, 3) := by decide +kernel
theorem dX9_wreck_86 : decode cX9_wreck 86 = .ok (.getfield 157, 3) := by decide +kernel
theorem dX9_wreck_89 : decode cX9_wreck 89 = .ok (.iload_n 3, 1) := by decide +kernel
theorem dX9_wreck_90 : decode cX9_wreck 90 = .ok (.iadd, 1) := by decide +kernel
theorem dX9_wreck_91 : decode cX9_wreck 91 = .ok (.if_icmp .ge 56, 3) := by decide +kernel
theorem dX9_wreck_94 : decode cX9_wreck 94 = .ok (.aload_n 0, 1) := by decide +kernel
theorem dX9_wreck_95 : decode cX9_wreck 95 = .ok (.getfield 40, 3) := by decide +kernel
theorem dX9_wreck_98 : decode cX9_wreck 98 = .ok (.aload_n 0, 1) := by decide +kernel
theorem dX9_wreck_99 : decode cX9_wreck 99 = .ok (.getfield 26, 3) := by decide +kernel
theorem dX9_wreck_102 : decode cX9_wreck 102 = .ok (.invokevirtual 163, 3) := by decide +kernel
theorem dX9_wreck_105 : decode cX9_wreck 105 = .ok (.iconst 1, 1) := by decide +kernel
theorem dX9_wreck_106 : decode cX9_wreck 106 = .ok (.if_icmp .lt 35, 3) := by decide +kernel
theorem dX9_wreck_109 : decode cX9_wreck 109 = .ok (.aload_n 0, 1) := by decide +kernel
theorem dX9_wreck_110 : decode cX9_wreck 110 = .ok (.getfield 26, 3) := by decide +kernel
theorem dX9_wreck_113 : decode cX9_wreck 113 = .ok (.iload 7, 2) := by decide +kernel
theorem dX9_wreck_115 : decode cX9_wreck 115 = .ok (.invokevirtual 227, 3) := by decide +kernel
theorem dX9_wreck_118 : decode cX9_wreck 118 = .ok (.iload_n 1, 1) := by decide +kernel
theorem dX9_wreck_119 : decode cX9_wreck 119 = .ok (.iload_n 2, 1) := by decide +kernel
theorem dX9_wreck_120 : decode cX9_wreck 120 = .ok (.isub, 1) := by decide +kernel
theorem dX9_wreck_121 : decode cX9_wreck 121 = .ok (.if_icmp .ne 20, 3) := by decide +kernel
theorem dX9_wreck_124 : decode cX9_wreck 124 = .ok (.iload 5, 2) := by decide +kernel
theorem dX9_wreck_126 : decode cX9_wreck 126 = .ok (.ifCond .ne 8, 3) := by decide +kernel
theorem dX9_wreck_129 : decode cX9_wreck 129 = .ok (.iload 7, 2) := by decide +kernel
theorem dX9_wreck_131 : decode cX9_wreck 131 = .ok (.goto 5, 3) := by decide +kernel
theorem dX9_wreck_134 : decode cX9_wreck 134 = .ok (.iload 6, 2) := by decide +kernel
theorem dX9_wreck_136 : decode cX9_wreck 136 = .ok (.istore 6, 2) := by decide +kernel
theorem dX9_wreck_138 : decode cX9_wreck 138 = .ok (.iinc 5 1, 3) := by decide +kernel
theorem dX9_wreck_141 : decode cX9_wreck 141 = .ok (.iinc 7 1, 3) := by decide +kernel
theorem dX9_wreck_144 : decode cX9_wreck 144 = .ok (.goto (-64), 3) := by decide +kernel
theorem dX9_wreck_147 : decode cX9_wreck 147 = .ok (.iload 4, 2) := by decide +kernel
theorem dX9_wreck_149 : decode cX9_wreck 149 = .ok (.ifCond .ne 8, 3) := by decide +kernel
theorem dX9_wreck_152 : decode cX9_wreck 152 = .ok (.iload 5, 2) := by decide +kernel
theorem dX9_wreck_154 : decode cX9_wreck 154 = .ok (.goto 5, 3) := by decide +kernel
theorem dX9_wreck_157 : decode cX9_wreck 157 = .ok (.iload 6, 2) := by decide +kernel
theorem dX9_wreck_159 : decode cX9_wreck 159 = .ok (.ireturn, 1) := by decide +kernel
theorem dX9_season_0 : decode cX9_season 0 = .ok (.aload_n 0, 1) := by decide +kernel
theorem dX9_season_1 : decode cX9_season 1 = .ok (.getfield 149, 3) := by decide +kernel
theorem dX9_season_4 : decode cX9_season 4 = .ok (.ifCond .ne 6, 3) := by decide +kernel
theorem dX9_season_7 : decode cX9_season 7 = .ok (.ldc 156, 2) := by decide +kernel
theorem dX9_season_9 : decode cX9_season 9 = .ok (.ireturn, 1) := by decide +kernel
theorem dX9_season_10 : decode cX9_season 10 = .ok (.iload_n 1, 1) := by decide +kernel
theorem dX9_season_11 : decode cX9_season 11 = .ok (.iconst 0, 1) := by decide +kernel
theorem dX9_season_12 : decode cX9_season 12 = .ok (.bipush 100, 2) := by decide +kernel
theorem dX9_season_14 : decode cX9_season 14 = .ok (.invokestatic 75, 3) := by decide +kernel
theorem dX9_season_17 : decode cX9_season 17 = .ok (.ifCond .eq 23, 3) := by decide +kernel
theorem dX9_season_20 : decode cX9_season 20 = .ok (.iload_n 2, 1) := by decide +kernel
theorem dX9_season_21 : decode cX9_season 21 = .ok (.iconst 1, 1) := by decide +kernel
theorem dX9_season_22 : decode cX9_season 22 = .ok (.ldc_w 284, 3) := by decide +kernel
theorem dX9_season_25 : decode cX9_season 25 = .ok (.invokestatic 75, 3) := by decide +kernel
theorem dX9_season_28 : decode cX9_season 28 = .ok (.ifCond .eq 12, 3) := by decide +kernel
theorem dX9_season_31 : decode cX9_season 31 = .ok (.iload_n 3, 1) := by decide +kernel
theorem dX9_season_32 : decode cX9_season 32 = .ok (.iconst 0, 1) := by decide +kernel
theorem dX9_season_33 : decode cX9_season 33 = .ok (.iconst 1, 1) := by decide +kernel
theorem dX9_season_34 : decode cX9_season 34 = .ok (.invokestatic 75, 3) := by decide +kernel
theorem dX9_season_37 : decode cX9_season 37 = .ok (.ifCond .ne 6, 3) := by decide +kernel
theorem dX9_season_40 : decode cX9_season 40 = .ok (.ldc 79, 2) := by decide +kernel
theorem dX9_season_42 : decode cX9_season 42 = .ok (.ireturn, 1) := by decide +kernel
theorem dX9_season_43 : decode cX9_season 43 = .ok (.aload_n 0, 1) := by decide +kernel
theorem dX9_season_44 : decode cX9_season 44 = .ok (.getfield 40, 3) := by decide +kernel
theorem dX9_season_47 : decode cX9_season 47 = .ok (.aload_n 0, 1) := by decide +kernel
theorem dX9_season_48 : decode cX9_season 48 = .ok (.getfield 36, 3) := by decide +kernel
theorem dX9_season_51 : decode cX9_season 51 = .ok (.invokevirtual 143, 3) := by decide +kernel
theorem dX9_season_54 : decode cX9_season 54 = .ok (.iload_n 2, 1) := by decide +kernel
theorem dX9_season_55 : decode cX9_season 55 = .ok (.i2l, 1) := by decide +kernel
theorem dX9_season_56 : decode cX9_season 56 = .ok (.lstore 4, 2) := by decide +kernel
theorem dX9_season_58 : decode cX9_season 58 = .ok (.iconst 0, 1) := by decide +kernel
theorem dX9_season_59 : decode cX9_season 59 = .ok (.istore 6, 2) := by decide +kernel
theorem dX9_season_61 : decode cX9_season 61 = .ok (.iload 6, 2) := by decide +kernel
theorem dX9_season_63 : decode cX9_season 63 = .ok (.iload_n 1, 1) := by decide +kernel
theorem dX9_season_64 : decode cX9_season 64 = .ok (.if_icmp .ge 81, 3) := by decide +kernel
theorem dX9_season_67 : decode cX9_season 67 = .ok (.lload 4, 2) := by decide +kernel
theorem dX9_season_69 : decode cX9_season 69 = .ok (.ldc2_w 285, 3) := by decide +kernel
theorem dX9_season_72 : decode cX9_season 72 = .ok (.lmul, 1) := by decide +kernel
theorem dX9_season_73 : decode cX9_season 73 = .ok (.ldc2_w 287, 3) := by decide +kernel
theorem dX9_season_76 : decode cX9_season 76 = .ok (.lrem, 1) := by decide +kernel
theorem dX9_season_77 : decode cX9_season 77 = .ok (.lstore 4, 2) := by decide +kernel
theorem dX9_season_79 : decode cX9_season 79 = .ok (.iconst 1, 1) := by decide +kernel
theorem dX9_season_80 : decode cX9_season 80 = .ok (.lload 4, 2) := by decide +kernel
theorem dX9_season_82 : decode cX9_season 82 = .ok (.ldc2_w 289, 3) := by decide +kernel
theorem dX9_season_85 : decode cX9_season 85 = .ok (.lrem, 1) := by decide +kernel
theorem dX9_season_86 : decode cX9_season 86 = .ok (.l2i, 1) := by decide +kernel
theorem dX9_season_87 : decode cX9_season 87 = .ok (.iadd, 1) := by decide +kernel
theorem dX9_season_88 : decode cX9_season 88 = .ok (.istore 7, 2) := by decide +kernel
theorem dX9_season_90 : decode cX9_season 90 = .ok (.lload 4, 2) := by decide +kernel
theorem dX9_season_92 : decode cX9_season 92 = .ok (.ldc2_w 289, 3) := by decide +kernel
theorem dX9_season_95 : decode cX9_season 95 = .ok (.ldiv, 1) := by decide +kernel
theorem dX9_season_96 : decode cX9_season 96 = .ok (.ldc2_w 291, 3) := by decide +kernel
theorem dX9_season_99 : decode cX9_season 99 = .ok (.lrem, 1) := by decide +kernel
theorem dX9_season_100 : decode cX9_season 100 = .ok (.l2i, 1) := by decide +kernel
theorem dX9_season_101 : decode cX9_season 101 = .ok (.istore 8, 2) := by decide +kernel
theorem dX9_season_103 : decode cX9_season 103 = .ok (.aload_n 0, 1) := by decide +kernel
theorem dX9_season_104 : decode cX9_season 104 = .ok (.getfield 40, 3) := by decide +kernel
theorem dX9_season_107 : decode cX9_season 107 = .ok (.aload_n 0, 1) := by decide +kernel
theorem dX9_season_108 : decode cX9_season 108 = .ok (.getfield 26, 3) := by decide +kernel
theorem dX9_season_111 : decode cX9_season 111 = .ok (.iload 7, 2) := by decide +kernel
theorem dX9_season_113 : decode cX9_season 113 = .ok (.aload_n 0, 1) := by decide +kernel
theorem dX9_season_114 : decode cX9_season 114 = .ok (.getfield 26, 3) := by decide +kernel
theorem dX9_season_117 : decode cX9_season 117 = .ok (.aload_n 0, 1) := by decide +kernel
theorem dX9_season_118 : decode cX9_season 118 = .ok (.getfield 40, 3) := by decide +kernel
theorem dX9_season_121 : decode cX9_season 121 = .ok (.getfield 157, 3) := by decide +kernel
theorem dX9_season_124 : decode cX9_season 124 = .ok (.invokevirtual 293, 3) := by decide +kernel
theorem dX9_season_127 : decode cX9_season 127 = .ok (.iload 7, 2) := by decide +kernel
theorem dX9_season_129 : decode cX9_season 129 = .ok (.iload 8, 2) := by decide +kernel
theorem dX9_season_131 : decode cX9_season 131 = .ok (.invokestatic 296, 3) := by decide +kernel
theorem dX9_season_134 : decode cX9_season 134 = .ok (.iadd, 1) := by decide +kernel
theorem dX9_season_135 : decode cX9_season 135 = .ok (.invokevirtual 299, 3) := by decide +kernel
theorem dX9_season_138 : decode cX9_season 138 = .ok (.pop, 1) := by decide +kernel
theorem dX9_season_139 : decode cX9_season 139 = .ok (.iinc 6 1, 3) := by decide +kernel
theorem dX9_season_142 : decode cX9_season 142 = .ok (.goto (-81), 3) := by decide +kernel
theorem dX9_season_145 : decode cX9_season 145 = .ok (.aload_n 0, 1) := by decide +kernel
theorem dX9_season_146 : decode cX9_season 146 = .ok (.getfield 40, 3) := by decide +kernel
theorem dX9_season_149 : decode cX9_season 149 = .ok (.aload_n 0, 1) := by decide +kernel
theorem dX9_season_150 : decode cX9_season 150 = .ok (.getfield 26, 3) := by decide +kernel
theorem dX9_season_153 : decode cX9_season 153 = .ok (.iload_n 3, 1) := by decide +kernel
theorem dX9_season_154 : decode cX9_season 154 = .ok (.ifCond .ne 7, 3) := by decide +kernel
theorem dX9_season_157 : decode cX9_season 157 = .ok (.iconst 1, 1) := by decide +kernel
theorem dX9_season_158 : decode cX9_season 158 = .ok (.goto 4, 3) := by decide +kernel
theorem dX9_season_161 : decode cX9_season 161 = .ok (.iconst 2, 1) := by decide +kernel
theorem dX9_season_162 : decode cX9_season 162 = .ok (.invokevirtual 237, 3) := by decide +kernel
theorem dX9_season_165 : decode cX9_season 165 = .ok (.ireturn, 1) := by decide +kernel
theorem dX9_image_0 : decode cX9_image 0 = .ok (.iload_n 1, 1) := by decide +kernel
theorem dX9_image_1 : decode cX9_image 1 = .ok (.iconst 0, 1) := by decide +kernel
theorem dX9_image_2 : decode cX9_image 2 = .ok (.iconst 1, 1) := by decide +kernel
theorem dX9_image_3 : decode cX9_image 3 = .ok (.invokestatic 75, 3) := by decide +kernel
theorem dX9_image_6 : decode cX9_image 6 = .ok (.ifCond .ne 6, 3) := by decide +kernel
theorem dX9_image_9 : decode cX9_image 9 = .ok (.ldc 79, 2) := by decide +kernel
theorem dX9_image_11 : decode cX9_image 11 = .ok (.ireturn, 1) := by decide +kernel
theorem dX9_image_12 : decode cX9_image 12 = .ok (.aload_n 0, 1) := by decide +kernel
theorem dX9_image_13 : decode cX9_image 13 = .ok (.getfield 149, 3) := by decide +kernel
theorem dX9_image_16 : decode cX9_image 16 = .ok (.ifCond .ne 6, 3) := by decide +kernel
theorem dX9_image_19 : decode cX9_image 19 = .ok (.ldc 156, 2) := by decide +kernel
theorem dX9_image_21 : decode cX9_image 21 = .ok (.ireturn, 1) := by decide +kernel
theorem dX9_image_22 : decode cX9_image 22 = .ok (.aload_n 0, 1) := by decide +kernel
theorem dX9_image_23 : decode cX9_image 23 = .ok (.getfield 66, 3) := by decide +kernel
theorem dX9_image_26 : decode cX9_image 26 = .ok (.iload_n 1, 1) := by decide +kernel
theorem dX9_image_27 : decode cX9_image 27 = .ok (.aaload, 1) := by decide +kernel
theorem dX9_image_28 : decode cX9_image 28 = .ok (.aload_n 0, 1) := by decide +kernel
theorem dX9_image_29 : decode cX9_image 29 = .ok (.getfield 26, 3) := by decide +kernel
theorem dX9_image_32 : decode cX9_image 32 = .ok (.aload_n 0, 1) := by decide +kernel
theorem dX9_image_33 : decode cX9_image 33 = .ok (.getfield 36, 3) := by decide +kernel
theorem dX9_image_36 : decode cX9_image 36 = .ok (.invokevirtual 303, 3) := by decide +kernel
theorem dX9_image_39 : decode cX9_image 39 = .ok (.iconst 1, 1) := by decide +kernel
theorem dX9_image_40 : decode cX9_image 40 = .ok (.ireturn, 1) := by decide +kernel
theorem dX9_restore_0 : decode cX9_restore 0 = .ok (.iload_n 1, 1) := by decide +kernel
theorem dX9_restore_1 : decode cX9_restore 1 = .ok (.iconst 0, 1) := by decide +kernel
theorem dX9_restore_2 : decode cX9_restore 2 = .ok (.iconst 1, 1) := by decide +kernel
theorem dX9_restore_3 : decode cX9_restore 3 = .ok (.invokestatic 75, 3) := by decide +kernel
theorem dX9_restore_6 : decode cX9_restore 6 = .ok (.ifCond .ne 6, 3) := by decide +kernel
theorem dX9_restore_9 : decode cX9_restore 9 = .ok (.ldc 79, 2) := by decide +kernel
theorem dX9_restore_11 : decode cX9_restore 11 = .ok (.ireturn, 1) := by decide +kernel
theorem dX9_restore_12 : decode cX9_restore 12 = .ok (.aload_n 0, 1) := by decide +kernel
theorem dX9_restore_13 : decode cX9_restore 13 = .ok (.getfield 66, 3) := by decide +kernel
theorem dX9_restore_16 : decode cX9_restore 16 = .ok (.iload_n 1, 1) := by decide +kernel
theorem dX9_restore_17 : decode cX9_restore 17 = .ok (.aaload, 1) := by decide +kernel
theorem dX9_restore_18 : decode cX9_restore 18 = .ok (.getfield 305, 3) := by decide +kernel
theorem dX9_restore_21 : decode cX9_restore 21 = .ok (.ifCond .ne 6, 3) := by decide +kernel
theorem dX9_restore_24 : decode cX9_restore 24 = .ok (.ldc 156, 2) := by decide +kernel
theorem dX9_restore_26 : decode cX9_restore 26 = .ok (.ireturn, 1) := by decide +kernel
theorem dX9_restore_27 : decode cX9_restore 27 = .ok (.aload_n 0, 1) := by decide +kernel
theorem dX9_restore_28 : decode cX9_restore 28 = .ok (.getfield 26, 3) := by decide +kernel
theorem dX9_restore_31 : decode cX9_restore 31 = .ok (.aload_n 0, 1) := by decide +kernel
theorem dX9_restore_32 : decode cX9_restore 32 = .ok (.getfield 66, 3) := by decide +kernel
theorem dX9_restore_35 : decode cX9_restore 35 = .ok (.iload_n 1, 1) := by decide +kernel
theorem dX9_restore_36 : decode cX9_restore 36 = .ok (.aaload, 1) := by decide +kernel
theorem dX9_restore_37 : decode cX9_restore 37 = .ok (.getfield 308, 3) := by decide +kernel
theorem dX9_restore_40 : decode cX9_restore 40 = .ok (.invokevirtual 139, 3) := by decide +kernel
theorem dX9_restore_43 : decode cX9_restore 43 = .ok (.aload_n 0, 1) := by decide +kernel
theorem dX9_restore_44 : decode cX9_restore 44 = .ok (.getfield 36, 3) := by decide +kernel
theorem dX9_restore_47 : decode cX9_restore 47 = .ok (.aload_n 0, 1) := by decide +kernel
theorem dX9_restore_48 : decode cX9_restore 48 = .ok (.getfield 66, 3) := by decide +kernel
theorem dX9_restore_51 : decode cX9_restore 51 = .ok (.iload_n 1, 1) := by decide +kernel
theorem dX9_restore_52 : decode cX9_restore 52 = .ok (.aaload, 1) := by decide +kernel
theorem dX9_restore_53 : decode cX9_restore 53 = .ok (.getfield 309, 3) := by decide +kernel
theorem dX9_restore_56 : decode cX9_restore 56 = .ok (.invokevirtual 143, 3) := by decide +kernel
theorem dX9_restore_59 : decode cX9_restore 59 = .ok (.aload_n 0, 1) := by decide +kernel
theorem dX9_restore_60 : decode cX9_restore 60 = .ok (.getfield 46, 3) := by decide +kernel
theorem dX9_restore_63 : decode cX9_restore 63 = .ok (.invokevirtual 146, 3) := by decide +kernel
theorem dX9_restore_66 : decode cX9_restore 66 = .ok (.iconst 1, 1) := by decide +kernel
theorem dX9_restore_67 : decode cX9_restore 67 = .ok (.ireturn, 1) := by decide +kernel
theorem dX9_kind_0 : decode cX9_kind 0 = .ok (.aload_n 0, 1) := by decide +kernel
theorem dX9_kind_1 : decode cX9_kind 1 = .ok (.iload_n 1, 1) := by decide +kernel
theorem dX9_kind_2 : decode cX9_kind 2 = .ok (.invokevirtual 312, 3) := by decide +kernel
theorem dX9_kind_5 : decode cX9_kind 5 = .ok (.ifCond .eq 15, 3) := by decide +kernel
theorem dX9_kind_8 : decode cX9_kind 8 = .ok (.aload_n 0, 1) := by decide +kernel
theorem dX9_kind_9 : decode cX9_kind 9 = .ok (.getfield 26, 3) := by decide +kernel
theorem dX9_kind_12 : decode cX9_kind 12 = .ok (.getfield 230, 3) := by decide +kernel
theorem dX9_kind_15 : decode cX9_kind 15 = .ok (.iload_n 1, 1) := by decide +kernel
theorem dX9_kind_16 : decode cX9_kind 16 = .ok (.iaload, 1) := by decide +kernel
theorem dX9_kind_17 : decode cX9_kind 17 = .ok (.goto 5, 3) := by decide +kernel
theorem dX9_kind_20 : decode cX9_kind 20 = .ok (.ldc 79, 2) := by decide +kernel
theorem dX9_kind_22 : decode cX9_kind 22 = .ok (.ireturn, 1) := by decide +kernel
theorem dX9_as_0 : decode cX9_as 0 = .ok (.aload_n 0, 1) := by decide +kernel
theorem dX9_as_1 : decode cX9_as 1 = .ok (.iload_n 1, 1) := by decide +kernel
theorem dX9_as_2 : decode cX9_as 2 = .ok (.invokevirtual 312, 3) := by decide +kernel
theorem dX9_as_5 : decode cX9_as 5 = .ok (.ifCond .eq 12, 3) := by decide +kernel
theorem dX9_as_8 : decode cX9_as 8 = .ok (.iload_n 2, 1) := by decide +kernel
theorem dX9_as_9 : decode cX9_as 9 = .ok (.iconst 0, 1) := by decide +kernel
theorem dX9_as_10 : decode cX9_as 10 = .ok (.iconst 5, 1) := by decide +kernel
theorem dX9_as_11 : decode cX9_as 11 = .ok (.invokestatic 75, 3) := by decide +kernel
theorem dX9_as_14 : decode cX9_as 14 = .ok (.ifCond .ne 6, 3) := by decide +kernel
theorem dX9_as_17 : decode cX9_as 17 = .ok (.ldc 79, 2) := by decide +kernel
theorem dX9_as_19 : decode cX9_as 19 = .ok (.ireturn, 1) := by decide +kernel
theorem dX9_as_20 : decode cX9_as 20 = .ok (.aload_n 0, 1) := by decide +kernel
theorem dX9_as_21 : decode cX9_as 21 = .ok (.getfield 26, 3) := by decide +kernel
theorem dX9_as_24 : decode cX9_as 24 = .ok (.getfield 230, 3) := by decide +kernel
theorem dX9_as_27 : decode cX9_as 27 = .ok (.iload_n 1, 1) := by decide +kernel
theorem dX9_as_28 : decode cX9_as 28 = .ok (.iaload, 1) := by decide +kernel
theorem dX9_as_29 : decode cX9_as 29 = .ok (.iload_n 2, 1) := by decide +kernel
theorem dX9_as_30 : decode cX9_as 30 = .ok (.invokestatic 317, 3) := by decide +kernel
theorem dX9_as_33 : decode cX9_as 33 = .ok (.ifCond .ne 9, 3) := by decide +kernel
theorem dX9_as_36 : decode cX9_as 36 = .ok (.aload_n 0, 1) := by decide +kernel
theorem dX9_as_37 : decode cX9_as 37 = .ok (.iconst 3, 1) := by decide +kernel
theorem dX9_as_38 : decode cX9_as 38 = .ok (.invokevirtual 80, 3) := by decide +kernel
theorem dX9_as_41 : decode cX9_as 41 = .ok (.ireturn, 1) := by decide +kernel
theorem dX9_as_42 : decode cX9_as 42 = .ok (.aload_n 0, 1) := by decide +kernel
theorem dX9_as_43 : decode cX9_as 43 = .ok (.iload_n 1, 1) := by decide +kernel
theorem dX9_as_44 : decode cX9_as 44 = .ok (.invokevirtual 88, 3) := by decide +kernel
theorem dX9_as_47 : decode cX9_as 47 = .ok (.ireturn, 1) := by decide +kernel
theorem dX9_ask_0 : decode cX9_ask 0 = .ok (.aload_n 0, 1) := by decide +kernel
theorem dX9_ask_1 : decode cX9_ask 1 = .ok (.iload_n 1, 1) := by decide +kernel
theorem dX9_ask_2 : decode cX9_ask 2 = .ok (.invokevirtual 312, 3) := by decide +kernel
theorem dX9_ask_5 : decode cX9_ask 5 = .ok (.ifCond .eq 12, 3) := by decide +kernel
theorem dX9_ask_8 : decode cX9_ask 8 = .ok (.iload_n 2, 1) := by decide +kernel
theorem dX9_ask_9 : decode cX9_ask 9 = .ok (.iconst 0, 1) := by decide +kernel
theorem dX9_ask_10 : decode cX9_ask 10 = .ok (.iconst 1, 1) := by decide +kernel
theorem dX9_ask_11 : decode cX9_ask 11 = .ok (.invokestatic 75, 3) := by decide +kernel
theorem dX9_ask_14 : decode cX9_ask 14 = .ok (.ifCond .ne 6, 3) := by decide +kernel
theorem dX9_ask_17 : decode cX9_ask 17 = .ok (.ldc 79, 2) := by decide +kernel
theorem dX9_ask_19 : decode cX9_ask 19 = .ok (.ireturn, 1) := by decide +kernel
theorem dX9_ask_20 : decode cX9_ask 20 = .ok (.aload_n 0, 1) := by decide +kernel
theorem dX9_ask_21 : decode cX9_ask 21 = .ok (.getfield 60, 3) := by decide +kernel
theorem dX9_ask_24 : decode cX9_ask 24 = .ok (.aload_n 0, 1) := by decide +kernel
theorem dX9_ask_25 : decode cX9_ask 25 = .ok (.getfield 26, 3) := by decide +kernel
theorem dX9_ask_28 : decode cX9_ask 28 = .ok (.iload_n 1, 1) := by decide +kernel
theorem dX9_ask_29 : decode cX9_ask 29 = .ok (.iload_n 2, 1) := by decide +kernel
theorem dX9_ask_30 : decode cX9_ask 30 = .ok (.invokevirtual 320, 3) := by decide +kernel
theorem dX9_ask_33 : decode cX9_ask 33 = .ok (.ireturn, 1) := by decide +kernel
theorem dX9_trace_0 : decode cX9_trace 0 = .ok (.iload_n 1, 1) := by decide +kernel
theorem dX9_trace_1 : decode cX9_trace 1 = .ok (.iconst 0, 1) := by decide +kernel
theorem dX9_trace_2 : decode cX9_trace 2 = .ok (.aload_n 0, 1) := by decide +kernel
theorem dX9_trace_3 : decode cX9_trace 3 = .ok (.getfield 60, 3) := by decide +kernel
theorem dX9_trace_6 : decode cX9_trace 6 = .ok (.getfield 323, 3) := by decide +kernel
theorem dX9_trace_9 : decode cX9_trace 9 = .ok (.iconst 1, 1) := by decide +kernel
theorem dX9_trace_10 : decode cX9_trace 10 = .ok (.isub, 1) := by decide +kernel
theorem dX9_trace_11 : decode cX9_trace 11 = .ok (.invokestatic 75, 3) := by decide +kernel
theorem dX9_trace_14 : decode cX9_trace 14 = .ok (.ifCond .eq 15, 3) := by decide +kernel
theorem dX9_trace_17 : decode cX9_trace 17 = .ok (.aload_n 0, 1) := by decide +kernel
theorem dX9_trace_18 : decode cX9_trace 18 = .ok (.getfield 60, 3) := by decide +kernel
theorem dX9_trace_21 : decode cX9_trace 21 = .ok (.getfield 326, 3) := by decide +kernel
theorem dX9_trace_24 : decode cX9_trace 24 = .ok (.iload_n 1, 1) := by decide +kernel
theorem dX9_trace_25 : decode cX9_trace 25 = .ok (.iaload, 1) := by decide +kernel
theorem dX9_trace_26 : decode cX9_trace 26 = .ok (.goto 5, 3) := by decide +kernel
theorem dX9_trace_29 : decode cX9_trace 29 = .ok (.ldc 249, 2) := by decide +kernel
theorem dX9_trace_31 : decode cX9_trace 31 = .ok (.ireturn, 1) := by decide +kernel
theorem dX9_count_0 : decode cX9_count 0 = .ok (.iload_n 1, 1) := by decide +kernel
theorem dX9_count_1 : decode cX9_count 1 = .ok (.tableswitch 139 0 8 #[51, 59, 67, 75, 83, 91, 110, 123, 131], 51) := by decide +kernel
theorem dX9_count_52 : decode cX9_count 52 = .ok (.aload_n 0, 1) := by decide +kernel
theorem dX9_count_53 : decode cX9_count 53 = .ok (.getfield 10, 3) := by decide +kernel
theorem dX9_count_56 : decode cX9_count 56 = .ok (.invokevirtual 329, 3) := by decide +kernel
theorem dX9_count_59 : decode cX9_count 59 = .ok (.ireturn, 1) := by decide +kernel
theorem dX9_count_60 : decode cX9_count 60 = .ok (.aload_n 0, 1) := by decide +kernel
theorem dX9_count_61 : decode cX9_count 61 = .ok (.getfield 26, 3) := by decide +kernel
theorem dX9_count_64 : decode cX9_count 64 = .ok (.getfield 153, 3) := by decide +kernel
theorem dX9_count_67 : decode cX9_count 67 = .ok (.ireturn, 1) := by decide +kernel
theorem dX9_count_68 : decode cX9_count 68 = .ok (.aload_n 0, 1) := by decide +kernel
theorem dX9_count_69 : decode cX9_count 69 = .ok (.getfield 26, 3) := by decide +kernel
theorem dX9_count_72 : decode cX9_count 72 = .ok (.getfield 274, 3) := by decide +kernel
theorem dX9_count_75 : decode cX9_count 75 = .ok (.ireturn, 1) := by decide +kernel
theorem dX9_count_76 : decode cX9_count 76 = .ok (.aload_n 0, 1) := by decide +kernel
theorem dX9_count_77 : decode cX9_count 77 = .ok (.getfield 26, 3) := by decide +kernel
theorem dX9_count_80 : decode cX9_count 80 = .ok (.getfield 250, 3) := by decide +kernel
theorem dX9_count_83 : decode cX9_count 83 = .ok (.ireturn, 1) := by decide +kernel
theorem dX9_count_84 : decode cX9_count 84 = .ok (.aload_n 0, 1) := by decide +kernel
theorem dX9_count_85 : decode cX9_count 85 = .ok (.getfield 36, 3) := by decide +kernel
theorem dX9_count_88 : decode cX9_count 88 = .ok (.getfield 157, 3) := by decide +kernel
theorem dX9_count_91 : decode cX9_count 91 = .ok (.ireturn, 1) := by decide +kernel
theorem dX9_count_92 : decode cX9_count 92 = .ok (.aload_n 0, 1) := by decide +kernel
theorem dX9_count_93 : decode cX9_count 93 = .ok (.getfield 149, 3) := by decide +kernel
theorem dX9_count_96 : decode cX9_count 96 = .ok (.ifCond .eq 13, 3) := by decide +kernel
theorem dX9_count_99 : decode cX9_count 99 = .ok (.aload_n 0, 1) := by decide +kernel
theorem dX9_count_100 : decode cX9_count 100 = .ok (.getfield 36, 3) := by decide +kernel
theorem dX9_count_103 : decode cX9_count 103 = .ok (.getfield 174, 3) := by decide +kernel
theorem dX9_count_106 : decode cX9_count 106 = .ok (.goto 4, 3) := by decide +kernel
theorem dX9_count_109 : decode cX9_count 109 = .ok (.iconst 0, 1) := by decide +kernel
theorem dX9_count_110 : decode cX9_count 110 = .ok (.ireturn, 1) := by decide +kernel
theorem dX9_count_111 : decode cX9_count 111 = .ok (.aload_n 0, 1) := by decide +kernel
theorem dX9_count_112 : decode cX9_count 112 = .ok (.getfield 36, 3) := by decide +kernel
theorem dX9_count_115 : decode cX9_count 115 = .ok (.aload_n 0, 1) := by decide +kernel
theorem dX9_count_116 : decode cX9_count 116 = .ok (.getfield 26, 3) := by decide +kernel
theorem dX9_count_119 : decode cX9_count 119 = .ok (.iconst 0, 1) := by decide +kernel
theorem dX9_count_120 : decode cX9_count 120 = .ok (.invokevirtual 237, 3) := by decide +kernel
theorem dX9_count_123 : decode cX9_count 123 = .ok (.ireturn, 1) := by decide +kernel
theorem dX9_count_124 : decode cX9_count 124 = .ok (.aload_n 0, 1) := by decide +kernel
theorem dX9_count_125 : decode cX9_count 125 = .ok (.getfield 46, 3) := by decide +kernel
theorem dX9_count_128 : decode cX9_count 128 = .ok (.getfield 193, 3) := by decide +kernel
theorem dX9_count_131 : decode cX9_count 131 = .ok (.ireturn, 1) := by decide +kernel
theorem dX9_count_132 : decode cX9_count 132 = .ok (.aload_n 0, 1) := by decide +kernel
theorem dX9_count_133 : decode cX9_count 133 = .ok (.getfield 19, 3) := by decide +kernel
theorem dX9_count_136 : decode cX9_count 136 = .ok (.getfield 332, 3) := by decide +kernel
theorem dX9_count_139 : decode cX9_count 139 = .ok (.ireturn, 1) := by decide +kernel
theorem dX9_count_140 : decode cX9_count 140 = .ok (.ldc 79, 2) := by decide +kernel
theorem dX9_count_142 : decode cX9_count 142 = .ok (.ireturn, 1) := by decide +kernel
theorem dX9_status_0 : decode cX9_status 0 = .ok (.aload_n 0, 1) := by decide +kernel
theorem dX9_status_1 : decode cX9_status 1 = .ok (.getfield 335, 3) := by decide +kernel
theorem dX9_status_4 : decode cX9_status 4 = .ok (.ireturn, 1) := by decide +kernel
theorem dX9_found_0 : decode cX9_found 0 = .ok (.aload_n 0, 1) := by decide +kernel
theorem dX9_found_1 : decode cX9_found 1 = .ok (.iload_n 1, 1) := by decide +kernel
theorem dX9_found_2 : decode cX9_found 2 = .ok (.putfield 335, 3) := by decide +kernel
theorem dX9_found_5 : decode cX9_found 5 = .ok (.ldc_w 338, 3) := by decide +kernel
theorem dX9_found_8 : decode cX9_found 8 = .ok (.iload_n 1, 1) := by decide +kernel
theorem dX9_found_9 : decode cX9_found 9 = .ok (.isub, 1) := by decide +kernel
theorem dX9_found_10 : decode cX9_found 10 = .ok (.ireturn, 1) := by decide +kernel
theorem dX9_fine_0 : decode cX9_fine 0 = .ok (.aload_n 0, 1) := by decide +kernel
theorem dX9_fine_1 : decode cX9_fine 1 = .ok (.iconst 0, 1) := by decide +kernel
theorem dX9_fine_2 : decode cX9_fine 2 = .ok (.putfield 335, 3) := by decide +kernel
theorem dX9_fine_5 : decode cX9_fine 5 = .ok (.iload_n 1, 1) := by decide +kernel
theorem dX9_fine_6 : decode cX9_fine 6 = .ok (.ireturn, 1) := by decide +kernel
theorem dX9_foretell_0 : decode cX9_foretell 0 = .ok (.aload_n 0, 1) := by decide +kernel
theorem dX9_foretell_1 : decode cX9_foretell 1 = .ok (.getfield 40, 3) := by decide +kernel
theorem dX9_foretell_4 : decode cX9_foretell 4 = .ok (.aload_n 0, 1) := by decide +kernel
theorem dX9_foretell_5 : decode cX9_foretell 5 = .ok (.getfield 36, 3) := by decide +kernel
theorem dX9_foretell_8 : decode cX9_foretell 8 = .ok (.invokevirtual 143, 3) := by decide +kernel
theorem dX9_foretell_11 : decode cX9_foretell 11 = .ok (.aload_n 0, 1) := by decide +kernel
theorem dX9_foretell_12 : decode cX9_foretell 12 = .ok (.getfield 40, 3) := by decide +kernel
theorem dX9_foretell_15 : decode cX9_foretell 15 = .ok (.aload_n 0, 1) := by decide +kernel
theorem dX9_foretell_16 : decode cX9_foretell 16 = .ok (.getfield 26, 3) := by decide +kernel
theorem dX9_foretell_19 : decode cX9_foretell 19 = .ok (.iload_n 1, 1) := by decide +kernel
theorem dX9_foretell_20 : decode cX9_foretell 20 = .ok (.invokevirtual 267, 3) := by decide +kernel
theorem dX9_foretell_23 : decode cX9_foretell 23 = .ok (.return_, 1) := by decide +kernel
theorem dX9_fitsLog_0 : decode cX9_fitsLog 0 = .ok (.iload_n 1, 1) := by decide +kernel
theorem dX9_fitsLog_1 : decode cX9_fitsLog 1 = .ok (.bipush 8, 2) := by decide +kernel
theorem dX9_fitsLog_3 : decode cX9_fitsLog 3 = .ok (.idiv, 1) := by decide +kernel
theorem dX9_fitsLog_4 : decode cX9_fitsLog 4 = .ok (.istore 5, 2) := by decide +kernel
theorem dX9_fitsLog_6 : decode cX9_fitsLog 6 = .ok (.iload_n 1, 1) := by decide +kernel
theorem dX9_fitsLog_7 : decode cX9_fitsLog 7 = .ok (.bipush 8, 2) := by decide +kernel
theorem dX9_fitsLog_9 : decode cX9_fitsLog 9 = .ok (.irem, 1) := by decide +kernel
theorem dX9_fitsLog_10 : decode cX9_fitsLog 10 = .ok (.istore 6, 2) := by decide +kernel
theorem dX9_fitsLog_12 : decode cX9_fitsLog 12 = .ok (.iload_n 3, 1) := by decide +kernel
theorem dX9_fitsLog_13 : decode cX9_fitsLog 13 = .ok (.istore 7, 2) := by decide +kernel
theorem dX9_fitsLog_15 : decode cX9_fitsLog 15 = .ok (.aload_n 0, 1) := by decide +kernel
theorem dX9_fitsLog_16 : decode cX9_fitsLog 16 = .ok (.getfield 10, 3) := by decide +kernel
theorem dX9_fitsLog_19 : decode cX9_fitsLog 19 = .ok (.iload_n 2, 1) := by decide +kernel
theorem dX9_fitsLog_20 : decode cX9_fitsLog 20 = .ok (.iload_n 3, 1) := by decide +kernel
theorem dX9_fitsLog_21 : decode cX9_fitsLog 21 = .ok (.iload 4, 2) := by decide +kernel
theorem dX9_fitsLog_23 : decode cX9_fitsLog 23 = .ok (.iadd, 1) := by decide +kernel
theorem dX9_fitsLog_24 : decode cX9_fitsLog 24 = .ok (.iconst 1, 1) := by decide +kernel
theorem dX9_fitsLog_25 : decode cX9_fitsLog 25 = .ok (.isub, 1) := by decide +kernel
theorem dX9_fitsLog_26 : decode cX9_fitsLog 26 = .ok (.invokevirtual 339, 3) := by decide +kernel
theorem dX9_fitsLog_29 : decode cX9_fitsLog 29 = .ok (.istore 8, 2) := by decide +kernel
theorem dX9_fitsLog_31 : decode cX9_fitsLog 31 = .ok (.iconst 0, 1) := by decide +kernel
theorem dX9_fitsLog_32 : decode cX9_fitsLog 32 = .ok (.istore 9, 2) := by decide +kernel
theorem dX9_fitsLog_34 : decode cX9_fitsLog 34 = .ok (.iload 9, 2) := by decide +kernel
theorem dX9_fitsLog_36 : decode cX9_fitsLog 36 = .ok (.iload 8, 2) := by decide +kernel
theorem dX9_fitsLog_38 : decode cX9_fitsLog 38 = .ok (.if_icmp .gt 90, 3) := by decide +kernel
theorem dX9_fitsLog_41 : decode cX9_fitsLog 41 = .ok (.iload 6, 2) := by decide +kernel
theorem dX9_fitsLog_43 : decode cX9_fitsLog 43 = .ok (.aload_n 0, 1) := by decide +kernel
theorem dX9_fitsLog_44 : decode cX9_fitsLog 44 = .ok (.getfield 26, 3) := by decide +kernel
theorem dX9_fitsLog_47 : decode cX9_fitsLog 47 = .ok (.iload 9, 2) := by decide +kernel
theorem dX9_fitsLog_49 : decode cX9_fitsLog 49 = .ok (.invokevirtual 240, 3) := by decide +kernel
theorem dX9_fitsLog_52 : decode cX9_fitsLog 52 = .ok (.invokestatic 342, 3) := by decide +kernel
theorem dX9_fitsLog_55 : decode cX9_fitsLog 55 = .ok (.istore 10, 2) := by decide +kernel
theorem dX9_fitsLog_57 : decode cX9_fitsLog 57 = .ok (.aload_n 0, 1) := by decide +kernel
theorem dX9_fitsLog_58 : decode cX9_fitsLog 58 = .ok (.getfield 10, 3) := by decide +kernel
theorem dX9_fitsLog_61 : decode cX9_fitsLog 61 = .ok (.iload_n 2, 1) := by decide +kernel
theorem dX9_fitsLog_62 : decode cX9_fitsLog 62 = .ok (.iload 7, 2) := by decide +kernel
theorem dX9_fitsLog_64 : decode cX9_fitsLog 64 = .ok (.invokevirtual 339, 3) := by decide +kernel
theorem dX9_fitsLog_67 : decode cX9_fitsLog 67 = .ok (.iload 9, 2) := by decide +kernel
theorem dX9_fitsLog_69 : decode cX9_fitsLog 69 = .ok (.if_icmp .ne 7, 3) := by decide +kernel
theorem dX9_fitsLog_72 : decode cX9_fitsLog 72 = .ok (.iconst 1, 1) := by decide +kernel
theorem dX9_fitsLog_73 : decode cX9_fitsLog 73 = .ok (.goto 4, 3) := by decide +kernel
theorem dX9_fitsLog_76 : decode cX9_fitsLog 76 = .ok (.iconst 0, 1) := by decide +kernel
theorem dX9_fitsLog_77 : decode cX9_fitsLog 77 = .ok (.istore 11, 2) := by decide +kernel
theorem dX9_fitsLog_79 : decode cX9_fitsLog 79 = .ok (.iload 5, 2) := by decide +kernel
theorem dX9_fitsLog_81 : decode cX9_fitsLog 81 = .ok (.iload 10, 2) := by decide +kernel
theorem dX9_fitsLog_83 : decode cX9_fitsLog 83 = .ok (.aload_n 0, 1) := by decide +kernel
theorem dX9_fitsLog_84 : decode cX9_fitsLog 84 = .ok (.getfield 36, 3) := by decide +kernel
theorem dX9_fitsLog_87 : decode cX9_fitsLog 87 = .ok (.getfield 174, 3) := by decide +kernel
theorem dX9_fitsLog_90 : decode cX9_fitsLog 90 = .ok (.invokestatic 246, 3) := by decide +kernel
theorem dX9_fitsLog_93 : decode cX9_fitsLog 93 = .ok (.iload 11, 2) := by decide +kernel
theorem dX9_fitsLog_95 : decode cX9_fitsLog 95 = .ok (.if_icmp .eq 5, 3) := by decide +kernel
theorem dX9_fitsLog_98 : decode cX9_fitsLog 98 = .ok (.iconst 0, 1) := by decide +kernel
theorem dX9_fitsLog_99 : decode cX9_fitsLog 99 = .ok (.ireturn, 1) := by decide +kernel
theorem dX9_fitsLog_100 : decode cX9_fitsLog 100 = .ok (.iload 7, 2) := by decide +kernel
theorem dX9_fitsLog_102 : decode cX9_fitsLog 102 = .ok (.iload 11, 2) := by decide +kernel
theorem dX9_fitsLog_104 : decode cX9_fitsLog 104 = .ok (.ifCond .eq 7, 3) := by decide +kernel
theorem dX9_fitsLog_107 : decode cX9_fitsLog 107 = .ok (.iconst 1, 1) := by decide +kernel
theorem dX9_fitsLog_108 : decode cX9_fitsLog 108 = .ok (.goto 4, 3) := by decide +kernel
theorem dX9_fitsLog_111 : decode cX9_fitsLog 111 = .ok (.iconst 0, 1) := by decide +kernel
theorem dX9_fitsLog_112 : decode cX9_fitsLog 112 = .ok (.iadd, 1) := by decide +kernel
theorem dX9_fitsLog_113 : decode cX9_fitsLog 113 = .ok (.istore 7, 2) := by decide +kernel
theorem dX9_fitsLog_115 : decode cX9_fitsLog 115 = .ok (.iload 5, 2) := by decide +kernel
theorem dX9_fitsLog_117 : decode cX9_fitsLog 117 = .ok (.iload 10, 2) := by decide +kernel
theorem dX9_fitsLog_119 : decode cX9_fitsLog 119 = .ok (.iadd, 1) := by decide +kernel
theorem dX9_fitsLog_120 : decode cX9_fitsLog 120 = .ok (.istore 5, 2) := by decide +kernel
theorem dX9_fitsLog_122 : decode cX9_fitsLog 122 = .ok (.iinc 9 1, 3) := by decide +kernel
theorem dX9_fitsLog_125 : decode cX9_fitsLog 125 = .ok (.goto (-91), 3) := by decide +kernel
theorem dX9_fitsLog_128 : decode cX9_fitsLog 128 = .ok (.iconst 1, 1) := by decide +kernel
theorem dX9_fitsLog_129 : decode cX9_fitsLog 129 = .ok (.ireturn, 1) := by decide +kernel
theorem dX9_isRow_0 : decode cX9_isRow 0 = .ok (.iload_n 1, 1) := by decide +kernel
theorem dX9_isRow_1 : decode cX9_isRow 1 = .ok (.iconst 0, 1) := by decide +kernel
theorem dX9_isRow_2 : decode cX9_isRow 2 = .ok (.bipush 7, 2) := by decide +kernel
theorem dX9_isRow_4 : decode cX9_isRow 4 = .ok (.invokestatic 75, 3) := by decide +kernel
theorem dX9_isRow_7 : decode cX9_isRow 7 = .ok (.ireturn, 1) := by decide +kernel
theorem dX9_isSwell_0 : decode cX9_isSwell 0 = .ok (.iload_n 1, 1) := by decide +kernel
theorem dX9_isSwell_1 : decode cX9_isSwell 1 = .ok (.iconst 0, 1) := by decide +kernel
theorem dX9_isSwell_2 : decode cX9_isSwell 2 = .ok (.aload_n 0, 1) := by decide +kernel
theorem dX9_isSwell_3 : decode cX9_isSwell 3 = .ok (.getfield 26, 3) := by decide +kernel
theorem dX9_isSwell_6 : decode cX9_isSwell 6 = .ok (.getfield 153, 3) := by decide +kernel
theorem dX9_isSwell_9 : decode cX9_isSwell 9 = .ok (.iconst 1, 1) := by decide +kernel
theorem dX9_isSwell_10 : decode cX9_isSwell 10 = .ok (.isub, 1) := by decide +kernel
theorem dX9_isSwell_11 : decode cX9_isSwell 11 = .ok (.invokestatic 75, 3) := by decide +kernel
theorem dX9_isSwell_14 : decode cX9_isSwell 14 = .ok (.ireturn, 1) := by decide +kernel
theorem dX9_isTower_0 : decode cX9_isTower 0 = .ok (.iload_n 1, 1) := by decide +kernel
theorem dX9_isTower_1 : decode cX9_isTower 1 = .ok (.iconst 0, 1) := by decide +kernel
theorem dX9_isTower_2 : decode cX9_isTower 2 = .ok (.aload_n 0, 1) := by decide +kernel
theorem dX9_isTower_3 : decode cX9_isTower 3 = .ok (.getfield 26, 3) := by decide +kernel
theorem dX9_isTower_6 : decode cX9_isTower 6 = .ok (.getfield 274, 3) := by decide +kernel
theorem dX9_isTower_9 : decode cX9_isTower 9 = .ok (.iconst 1, 1) := by decide +kernel
theorem dX9_isTower_10 : decode cX9_isTower 10 = .ok (.isub, 1) := by decide +kernel
theorem dX9_isTower_11 : decode cX9_isTower 11 = .ok (.invokestatic 75, 3) := by decide +kernel
theorem dX9_isTower_14 : decode cX9_isTower 14 = .ok (.ireturn, 1) := by decide +kernel
theorem dX9_isShip_0 : decode cX9_isShip 0 = .ok (.iload_n 1, 1) := by decide +kernel
theorem dX9_isShip_1 : decode cX9_isShip 1 = .ok (.iconst 0, 1) := by decide +kernel
theorem dX9_isShip_2 : decode cX9_isShip 2 = .ok (.aload_n 0, 1) := by decide +kernel
theorem dX9_isShip_3 : decode cX9_isShip 3 = .ok (.getfield 26, 3) := by decide +kernel
theorem dX9_isShip_6 : decode cX9_isShip 6 = .ok (.getfield 250, 3) := by decide +kernel
theorem dX9_isShip_9 : decode cX9_isShip 9 = .ok (.iconst 1, 1) := by decide +kernel
theorem dX9_isShip_10 : decode cX9_isShip 10 = .ok (.isub, 1) := by decide +kernel
theorem dX9_isShip_11 : decode cX9_isShip 11 = .ok (.invokestatic 75, 3) := by decide +kernel
theorem dX9_isShip_14 : decode cX9_isShip 14 = .ok (.ireturn, 1) := by decide +kernel
theorem dX9_within_0 : decode cX9_within 0 = .ok (.iload_n 0, 1) := by decide +kernel
theorem dX9_within_1 : decode cX9_within 1 = .ok (.iload_n 1, 1) := by decide +kernel
theorem dX9_within_2 : decode cX9_within 2 = .ok (.if_icmp .lt 12, 3) := by decide +kernel
theorem dX9_within_5 : decode cX9_within 5 = .ok (.iload_n 0, 1) := by decide +kernel
theorem dX9_within_6 : decode cX9_within 6 = .ok (.iload_n 2, 1) := by decide +kernel
theorem dX9_within_7 : decode cX9_within 7 = .ok (.if_icmp .gt 7, 3) := by decide +kernel
theorem dX9_within_10 : decode cX9_within 10 = .ok (.iconst 1, 1) := by decide +kernel
theorem dX9_within_11 : decode cX9_within 11 = .ok (.goto 4, 3) := by decide +kernel
theorem dX9_within_14 : decode cX9_within 14 = .ok (.iconst 0, 1) := by decide +kernel
theorem dX9_within_15 : decode cX9_within 15 = .ok (.ireturn, 1) := by decide +kernel
theorem dX9_calls_0 : decode cX9_calls 0 = .ok (.iload_n 2, 1) := by decide +kernel
theorem dX9_calls_1 : decode cX9_calls 1 = .ok (.ifCond .le 18, 3) := by decide +kernel
theorem dX9_calls_4 : decode cX9_calls 4 = .ok (.iload_n 0, 1) := by decide +kernel
theorem dX9_calls_5 : decode cX9_calls 5 = .ok (.iload_n 1, 1) := by decide +kernel
theorem dX9_calls_6 : decode cX9_calls 6 = .ok (.iadd, 1) := by decide +kernel
theorem dX9_calls_7 : decode cX9_calls 7 = .ok (.iload_n 2, 1) := by decide +kernel
theorem dX9_calls_8 : decode cX9_calls 8 = .ok (.idiv, 1) := by decide +kernel
theorem dX9_calls_9 : decode cX9_calls 9 = .ok (.iload_n 0, 1) := by decide +kernel
theorem dX9_calls_10 : decode cX9_calls 10 = .ok (.iload_n 2, 1) := by decide +kernel
theorem dX9_calls_11 : decode cX9_calls 11 = .ok (.idiv, 1) := by decide +kernel
theorem dX9_calls_12 : decode cX9_calls 12 = .ok (.if_icmp .le 7, 3) := by decide +kernel
theorem dX9_calls_15 : decode cX9_calls 15 = .ok (.iconst 1, 1) := by decide +kernel
theorem dX9_calls_16 : decode cX9_calls 16 = .ok (.goto 4, 3) := by decide +kernel
theorem dX9_calls_19 : decode cX9_calls 19 = .ok (.iconst 0, 1) := by decide +kernel
theorem dX9_calls_20 : decode cX9_calls 20 = .ok (.ireturn, 1) := by decide +kernel
