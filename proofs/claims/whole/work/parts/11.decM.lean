theorem dX10_in_0 : decode cX10_in 0 = .ok (.lload_n 0, 1) := by decide +kernel
theorem dX10_in_1 : decode cX10_in 1 = .ok (.lload_n 2, 1) := by decide +kernel
theorem dX10_in_2 : decode cX10_in 2 = .ok (.lcmp, 1) := by decide +kernel
theorem dX10_in_3 : decode cX10_in 3 = .ok (.ifCond .lt 14, 3) := by decide +kernel
theorem dX10_in_6 : decode cX10_in 6 = .ok (.lload_n 0, 1) := by decide +kernel
theorem dX10_in_7 : decode cX10_in 7 = .ok (.lload 4, 2) := by decide +kernel
theorem dX10_in_9 : decode cX10_in 9 = .ok (.lcmp, 1) := by decide +kernel
theorem dX10_in_10 : decode cX10_in 10 = .ok (.ifCond .gt 7, 3) := by decide +kernel
theorem dX10_in_13 : decode cX10_in 13 = .ok (.iconst 1, 1) := by decide +kernel
theorem dX10_in_14 : decode cX10_in 14 = .ok (.goto 4, 3) := by decide +kernel
theorem dX10_in_17 : decode cX10_in 17 = .ok (.iconst 0, 1) := by decide +kernel
theorem dX10_in_18 : decode cX10_in 18 = .ok (.ireturn, 1) := by decide +kernel
theorem dX10_most_0 : decode cX10_most 0 = .ok (.iload_n 0, 1) := by decide +kernel
theorem dX10_most_1 : decode cX10_most 1 = .ok (.iload_n 1, 1) := by decide +kernel
theorem dX10_most_2 : decode cX10_most 2 = .ok (.if_icmp .le 7, 3) := by decide +kernel
theorem dX10_most_5 : decode cX10_most 5 = .ok (.iload_n 0, 1) := by decide +kernel
theorem dX10_most_6 : decode cX10_most 6 = .ok (.goto 4, 3) := by decide +kernel
theorem dX10_most_9 : decode cX10_most 9 = .ok (.iload_n 1, 1) := by decide +kernel
theorem dX10_most_10 : decode cX10_most 10 = .ok (.ireturn, 1) := by decide +kernel
theorem dX10_init_0 : decode cX10_init 0 = .ok (.aload_n 0, 1) := by decide +kernel
theorem dX10_init_1 : decode cX10_init 1 = .ok (.invokespecial 1, 3) := by decide +kernel
theorem dX10_init_4 : decode cX10_init 4 = .ok (.aload_n 0, 1) := by decide +kernel
theorem dX10_init_5 : decode cX10_init 5 = .ok (.bipush 8, 2) := by decide +kernel
theorem dX10_init_7 : decode cX10_init 7 = .ok (.newarray .int, 2) := by decide +kernel
theorem dX10_init_9 : decode cX10_init 9 = .ok (.putfield 7, 3) := by decide +kernel
theorem dX10_init_12 : decode cX10_init 12 = .ok (.aload_n 0, 1) := by decide +kernel
theorem dX10_init_13 : decode cX10_init 13 = .ok (.bipush 8, 2) := by decide +kernel
theorem dX10_init_15 : decode cX10_init 15 = .ok (.newarray .int, 2) := by decide +kernel
theorem dX10_init_17 : decode cX10_init 17 = .ok (.putfield 13, 3) := by decide +kernel
theorem dX10_init_20 : decode cX10_init 20 = .ok (.aload_n 0, 1) := by decide +kernel
theorem dX10_init_21 : decode cX10_init 21 = .ok (.sipush 320, 3) := by decide +kernel
theorem dX10_init_24 : decode cX10_init 24 = .ok (.newarray .int, 2) := by decide +kernel
theorem dX10_init_26 : decode cX10_init 26 = .ok (.putfield 16, 3) := by decide +kernel
theorem dX10_init_29 : decode cX10_init 29 = .ok (.aload_n 0, 1) := by decide +kernel
theorem dX10_init_30 : decode cX10_init 30 = .ok (.bipush 40, 2) := by decide +kernel
theorem dX10_init_32 : decode cX10_init 32 = .ok (.newarray .int, 2) := by decide +kernel
theorem dX10_init_34 : decode cX10_init 34 = .ok (.putfield 19, 3) := by decide +kernel
theorem dX10_init_37 : decode cX10_init 37 = .ok (.aload_n 0, 1) := by decide +kernel
theorem dX10_init_38 : decode cX10_init 38 = .ok (.sipush 160, 3) := by decide +kernel
theorem dX10_init_41 : decode cX10_init 41 = .ok (.newarray .int, 2) := by decide +kernel
theorem dX10_init_43 : decode cX10_init 43 = .ok (.putfield 22, 3) := by decide +kernel
theorem dX10_init_46 : decode cX10_init 46 = .ok (.aload_n 0, 1) := by decide +kernel
theorem dX10_init_47 : decode cX10_init 47 = .ok (.bipush 55, 2) := by decide +kernel
theorem dX10_init_49 : decode cX10_init 49 = .ok (.newarray .int, 2) := by decide +kernel
theorem dX10_init_51 : decode cX10_init 51 = .ok (.putfield 25, 3) := by decide +kernel
theorem dX10_init_54 : decode cX10_init 54 = .ok (.aload_n 0, 1) := by decide +kernel
theorem dX10_init_55 : decode cX10_init 55 = .ok (.bipush 29, 2) := by decide +kernel
theorem dX10_init_57 : decode cX10_init 57 = .ok (.newarray .int, 2) := by decide +kernel
theorem dX10_init_59 : decode cX10_init 59 = .ok (.putfield 28, 3) := by decide +kernel
theorem dX10_init_62 : decode cX10_init 62 = .ok (.aload_n 0, 1) := by decide +kernel
theorem dX10_init_63 : decode cX10_init 63 = .ok (.bipush 55, 2) := by decide +kernel
theorem dX10_init_65 : decode cX10_init 65 = .ok (.newarray .int, 2) := by decide +kernel
theorem dX10_init_67 : decode cX10_init 67 = .ok (.putfield 31, 3) := by decide +kernel
theorem dX10_init_70 : decode cX10_init 70 = .ok (.aload_n 0, 1) := by decide +kernel
theorem dX10_init_71 : decode cX10_init 71 = .ok (.sipush 168, 3) := by decide +kernel
theorem dX10_init_74 : decode cX10_init 74 = .ok (.newarray .int, 2) := by decide +kernel
theorem dX10_init_76 : decode cX10_init 76 = .ok (.putfield 34, 3) := by decide +kernel
theorem dX10_init_79 : decode cX10_init 79 = .ok (.aload_n 0, 1) := by decide +kernel
theorem dX10_init_80 : decode cX10_init 80 = .ok (.iconst 2, 1) := by decide +kernel
theorem dX10_init_81 : decode cX10_init 81 = .ok (.newarray .boolean, 2) := by decide +kernel
theorem dX10_init_83 : decode cX10_init 83 = .ok (.putfield 37, 3) := by decide +kernel
theorem dX10_init_86 : decode cX10_init 86 = .ok (.aload_n 0, 1) := by decide +kernel
theorem dX10_init_87 : decode cX10_init 87 = .ok (.sipush 696, 3) := by decide +kernel
theorem dX10_init_90 : decode cX10_init 90 = .ok (.newarray .int, 2) := by decide +kernel
theorem dX10_init_92 : decode cX10_init 92 = .ok (.putfield 41, 3) := by decide +kernel
theorem dX10_init_95 : decode cX10_init 95 = .ok (.aload_n 0, 1) := by decide +kernel
theorem dX10_init_96 : decode cX10_init 96 = .ok (.iconst 3, 1) := by decide +kernel
theorem dX10_init_97 : decode cX10_init 97 = .ok (.newarray .int, 2) := by decide +kernel
theorem dX10_init_99 : decode cX10_init 99 = .ok (.putfield 44, 3) := by decide +kernel
theorem dX10_init_102 : decode cX10_init 102 = .ok (.aload_n 0, 1) := by decide +kernel
theorem dX10_init_103 : decode cX10_init 103 = .ok (.bipush 6, 2) := by decide +kernel
theorem dX10_init_105 : decode cX10_init 105 = .ok (.newarray .int, 2) := by decide +kernel
theorem dX10_init_107 : decode cX10_init 107 = .ok (.putfield 47, 3) := by decide +kernel
theorem dX10_init_110 : decode cX10_init 110 = .ok (.aload_n 0, 1) := by decide +kernel
theorem dX10_init_111 : decode cX10_init 111 = .ok (.bipush 29, 2) := by decide +kernel
theorem dX10_init_113 : decode cX10_init 113 = .ok (.newarray .int, 2) := by decide +kernel
theorem dX10_init_115 : decode cX10_init 115 = .ok (.putfield 50, 3) := by decide +kernel
theorem dX10_init_118 : decode cX10_init 118 = .ok (.aload_n 0, 1) := by decide +kernel
theorem dX10_init_119 : decode cX10_init 119 = .ok (.bipush 6, 2) := by decide +kernel
theorem dX10_init_121 : decode cX10_init 121 = .ok (.newarray .int, 2) := by decide +kernel
theorem dX10_init_123 : decode cX10_init 123 = .ok (.putfield 53, 3) := by decide +kernel
theorem dX10_init_126 : decode cX10_init 126 = .ok (.aload_n 0, 1) := by decide +kernel
theorem dX10_init_127 : decode cX10_init 127 = .ok (.bipush 6, 2) := by decide +kernel
theorem dX10_init_129 : decode cX10_init 129 = .ok (.newarray .int, 2) := by decide +kernel
theorem dX10_init_131 : decode cX10_init 131 = .ok (.putfield 56, 3) := by decide +kernel
theorem dX10_init_134 : decode cX10_init 134 = .ok (.aload_n 0, 1) := by decide +kernel
theorem dX10_init_135 : decode cX10_init 135 = .ok (.bipush 16, 2) := by decide +kernel
theorem dX10_init_137 : decode cX10_init 137 = .ok (.newarray .int, 2) := by decide +kernel
theorem dX10_init_139 : decode cX10_init 139 = .ok (.putfield 59, 3) := by decide +kernel
theorem dX10_init_142 : decode cX10_init 142 = .ok (.iconst 0, 1) := by decide +kernel
theorem dX10_init_143 : decode cX10_init 143 = .ok (.istore_n 1, 1) := by decide +kernel
theorem dX10_init_144 : decode cX10_init 144 = .ok (.iload_n 1, 1) := by decide +kernel
theorem dX10_init_145 : decode cX10_init 145 = .ok (.bipush 8, 2) := by decide +kernel
theorem dX10_init_147 : decode cX10_init 147 = .ok (.if_icmp .ge 16, 3) := by decide +kernel
theorem dX10_init_150 : decode cX10_init 150 = .ok (.aload_n 0, 1) := by decide +kernel
theorem dX10_init_151 : decode cX10_init 151 = .ok (.getfield 7, 3) := by decide +kernel
theorem dX10_init_154 : decode cX10_init 154 = .ok (.iload_n 1, 1) := by decide +kernel
theorem dX10_init_155 : decode cX10_init 155 = .ok (.iconst (-1), 1) := by decide +kernel
theorem dX10_init_156 : decode cX10_init 156 = .ok (.iastore, 1) := by decide +kernel
theorem dX10_init_157 : decode cX10_init 157 = .ok (.iinc 1 1, 3) := by decide +kernel
theorem dX10_init_160 : decode cX10_init 160 = .ok (.goto (-16), 3) := by decide +kernel
theorem dX10_init_163 : decode cX10_init 163 = .ok (.return_, 1) := by decide +kernel
theorem dX10_isRow_0 : decode cX10_isRow 0 = .ok (.iload_n 0, 1) := by decide +kernel
theorem dX10_isRow_1 : decode cX10_isRow 1 = .ok (.i2l, 1) := by decide +kernel
theorem dX10_isRow_2 : decode cX10_isRow 2 = .ok (.lconst 0, 1) := by decide +kernel
theorem dX10_isRow_3 : decode cX10_isRow 3 = .ok (.ldc2_w 62, 3) := by decide +kernel
theorem dX10_isRow_6 : decode cX10_isRow 6 = .ok (.invokestatic 64, 3) := by decide +kernel
theorem dX10_isRow_9 : decode cX10_isRow 9 = .ok (.ireturn, 1) := by decide +kernel
theorem dX10_finds_0 : decode cX10_finds 0 = .ok (.aload_n 0, 1) := by decide +kernel
theorem dX10_finds_1 : decode cX10_finds 1 = .ok (.iload_n 1, 1) := by decide +kernel
theorem dX10_finds_2 : decode cX10_finds 2 = .ok (.putfield 68, 3) := by decide +kernel
theorem dX10_finds_5 : decode cX10_finds 5 = .ok (.ldc 72, 2) := by decide +kernel
theorem dX10_finds_7 : decode cX10_finds 7 = .ok (.iload_n 1, 1) := by decide +kernel
theorem dX10_finds_8 : decode cX10_finds 8 = .ok (.isub, 1) := by decide +kernel
theorem dX10_finds_9 : decode cX10_finds 9 = .ok (.ireturn, 1) := by decide +kernel
theorem dX10_well_0 : decode cX10_well 0 = .ok (.aload_n 0, 1) := by decide +kernel
theorem dX10_well_1 : decode cX10_well 1 = .ok (.iconst 0, 1) := by decide +kernel
theorem dX10_well_2 : decode cX10_well 2 = .ok (.putfield 68, 3) := by decide +kernel
theorem dX10_well_5 : decode cX10_well 5 = .ok (.iload_n 1, 1) := by decide +kernel
theorem dX10_well_6 : decode cX10_well 6 = .ok (.ireturn, 1) := by decide +kernel
theorem dX10_row_0 : decode cX10_row 0 = .ok (.iload_n 1, 1) := by decide +kernel
theorem dX10_row_1 : decode cX10_row 1 = .ok (.invokestatic 73, 3) := by decide +kernel
theorem dX10_row_4 : decode cX10_row 4 = .ok (.ifCond .eq 21, 3) := by decide +kernel
theorem dX10_row_7 : decode cX10_row 7 = .ok (.iload_n 2, 1) := by decide +kernel
theorem dX10_row_8 : decode cX10_row 8 = .ok (.i2l, 1) := by decide +kernel
theorem dX10_row_9 : decode cX10_row 9 = .ok (.lconst 0, 1) := by decide +kernel
theorem dX10_row_10 : decode cX10_row 10 = .ok (.ldc2_w 77, 3) := by decide +kernel
theorem dX10_row_13 : decode cX10_row 13 = .ok (.invokestatic 64, 3) := by decide +kernel
theorem dX10_row_16 : decode cX10_row 16 = .ok (.ifCond .eq 9, 3) := by decide +kernel
theorem dX10_row_19 : decode cX10_row 19 = .ok (.iload_n 3, 1) := by decide +kernel
theorem dX10_row_20 : decode cX10_row 20 = .ok (.bipush 40, 2) := by decide +kernel
theorem dX10_row_22 : decode cX10_row 22 = .ok (.if_icmp .le 6, 3) := by decide +kernel
theorem dX10_row_25 : decode cX10_row 25 = .ok (.ldc 79, 2) := by decide +kernel
theorem dX10_row_27 : decode cX10_row 27 = .ok (.ireturn, 1) := by decide +kernel
theorem dX10_row_28 : decode cX10_row 28 = .ok (.iload_n 3, 1) := by decide +kernel
theorem dX10_row_29 : decode cX10_row 29 = .ok (.ifCond .ge 9, 3) := by decide +kernel
theorem dX10_row_32 : decode cX10_row 32 = .ok (.aload_n 0, 1) := by decide +kernel
theorem dX10_row_33 : decode cX10_row 33 = .ok (.iconst 4, 1) := by decide +kernel
theorem dX10_row_34 : decode cX10_row 34 = .ok (.invokevirtual 80, 3) := by decide +kernel
theorem dX10_row_37 : decode cX10_row 37 = .ok (.ireturn, 1) := by decide +kernel
theorem dX10_row_38 : decode cX10_row 38 = .ok (.aload_n 0, 1) := by decide +kernel
theorem dX10_row_39 : decode cX10_row 39 = .ok (.getfield 7, 3) := by decide +kernel
theorem dX10_row_42 : decode cX10_row 42 = .ok (.iload_n 1, 1) := by decide +kernel
theorem dX10_row_43 : decode cX10_row 43 = .ok (.iload_n 2, 1) := by decide +kernel
theorem dX10_row_44 : decode cX10_row 44 = .ok (.iastore, 1) := by decide +kernel
theorem dX10_row_45 : decode cX10_row 45 = .ok (.aload_n 0, 1) := by decide +kernel
theorem dX10_row_46 : decode cX10_row 46 = .ok (.getfield 13, 3) := by decide +kernel
theorem dX10_row_49 : decode cX10_row 49 = .ok (.iload_n 1, 1) := by decide +kernel
theorem dX10_row_50 : decode cX10_row 50 = .ok (.iload_n 3, 1) := by decide +kernel
theorem dX10_row_51 : decode cX10_row 51 = .ok (.iastore, 1) := by decide +kernel
theorem dX10_row_52 : decode cX10_row 52 = .ok (.iconst 0, 1) := by decide +kernel
theorem dX10_row_53 : decode cX10_row 53 = .ok (.istore 4, 2) := by decide +kernel
theorem dX10_row_55 : decode cX10_row 55 = .ok (.iload 4, 2) := by decide +kernel
theorem dX10_row_57 : decode cX10_row 57 = .ok (.bipush 40, 2) := by decide +kernel
theorem dX10_row_59 : decode cX10_row 59 = .ok (.if_icmp .ge 22, 3) := by decide +kernel
theorem dX10_row_62 : decode cX10_row 62 = .ok (.aload_n 0, 1) := by decide +kernel
theorem dX10_row_63 : decode cX10_row 63 = .ok (.getfield 16, 3) := by decide +kernel
theorem dX10_row_66 : decode cX10_row 66 = .ok (.bipush 40, 2) := by decide +kernel
theorem dX10_row_68 : decode cX10_row 68 = .ok (.iload_n 1, 1) := by decide +kernel
theorem dX10_row_69 : decode cX10_row 69 = .ok (.imul, 1) := by decide +kernel
theorem dX10_row_70 : decode cX10_row 70 = .ok (.iload 4, 2) := by decide +kernel
theorem dX10_row_72 : decode cX10_row 72 = .ok (.iadd, 1) := by decide +kernel
theorem dX10_row_73 : decode cX10_row 73 = .ok (.iconst 0, 1) := by decide +kernel
theorem dX10_row_74 : decode cX10_row 74 = .ok (.iastore, 1) := by decide +kernel
theorem dX10_row_75 : decode cX10_row 75 = .ok (.iinc 4 1, 3) := by decide +kernel
theorem dX10_row_78 : decode cX10_row 78 = .ok (.goto (-23), 3) := by decide +kernel
theorem dX10_row_81 : decode cX10_row 81 = .ok (.aload_n 0, 1) := by decide +kernel
theorem dX10_row_82 : decode cX10_row 82 = .ok (.iload_n 3, 1) := by decide +kernel
theorem dX10_row_83 : decode cX10_row 83 = .ok (.invokevirtual 84, 3) := by decide +kernel
theorem dX10_row_86 : decode cX10_row 86 = .ok (.ireturn, 1) := by decide +kernel
theorem dX10_set_0 : decode cX10_set 0 = .ok (.iload_n 1, 1) := by decide +kernel
theorem dX10_set_1 : decode cX10_set 1 = .ok (.invokestatic 73, 3) := by decide +kernel
theorem dX10_set_4 : decode cX10_set 4 = .ok (.ifCond .ne 6, 3) := by decide +kernel
theorem dX10_set_7 : decode cX10_set 7 = .ok (.ldc 79, 2) := by decide +kernel
theorem dX10_set_9 : decode cX10_set 9 = .ok (.ireturn, 1) := by decide +kernel
theorem dX10_set_10 : decode cX10_set 10 = .ok (.aload_n 0, 1) := by decide +kernel
theorem dX10_set_11 : decode cX10_set 11 = .ok (.getfield 7, 3) := by decide +kernel
theorem dX10_set_14 : decode cX10_set 14 = .ok (.iload_n 1, 1) := by decide +kernel
theorem dX10_set_15 : decode cX10_set 15 = .ok (.iaload, 1) := by decide +kernel
theorem dX10_set_16 : decode cX10_set 16 = .ok (.ifCond .ge 9, 3) := by decide +kernel
theorem dX10_set_19 : decode cX10_set 19 = .ok (.aload_n 0, 1) := by decide +kernel
theorem dX10_set_20 : decode cX10_set 20 = .ok (.iconst 1, 1) := by decide +kernel
theorem dX10_set_21 : decode cX10_set 21 = .ok (.invokevirtual 80, 3) := by decide +kernel
theorem dX10_set_24 : decode cX10_set 24 = .ok (.ireturn, 1) := by decide +kernel
theorem dX10_set_25 : decode cX10_set 25 = .ok (.iload_n 2, 1) := by decide +kernel
theorem dX10_set_26 : decode cX10_set 26 = .ok (.i2l, 1) := by decide +kernel
theorem dX10_set_27 : decode cX10_set 27 = .ok (.lconst 0, 1) := by decide +kernel
theorem dX10_set_28 : decode cX10_set 28 = .ok (.aload_n 0, 1) := by decide +kernel
theorem dX10_set_29 : decode cX10_set 29 = .ok (.getfield 13, 3) := by decide +kernel
theorem dX10_set_32 : decode cX10_set 32 = .ok (.iload_n 1, 1) := by decide +kernel
theorem dX10_set_33 : decode cX10_set 33 = .ok (.iaload, 1) := by decide +kernel
theorem dX10_set_34 : decode cX10_set 34 = .ok (.iconst 1, 1) := by decide +kernel
theorem dX10_set_35 : decode cX10_set 35 = .ok (.isub, 1) := by decide +kernel
theorem dX10_set_36 : decode cX10_set 36 = .ok (.i2l, 1) := by decide +kernel
theorem dX10_set_37 : decode cX10_set 37 = .ok (.invokestatic 64, 3) := by decide +kernel
theorem dX10_set_40 : decode cX10_set 40 = .ok (.ifCond .ne 9, 3) := by decide +kernel
theorem dX10_set_43 : decode cX10_set 43 = .ok (.aload_n 0, 1) := by decide +kernel
theorem dX10_set_44 : decode cX10_set 44 = .ok (.iconst 2, 1) := by decide +kernel
theorem dX10_set_45 : decode cX10_set 45 = .ok (.invokevirtual 80, 3) := by decide +kernel
theorem dX10_set_48 : decode cX10_set 48 = .ok (.ireturn, 1) := by decide +kernel
theorem dX10_set_49 : decode cX10_set 49 = .ok (.aload_n 0, 1) := by decide +kernel
theorem dX10_set_50 : decode cX10_set 50 = .ok (.getfield 7, 3) := by decide +kernel
theorem dX10_set_53 : decode cX10_set 53 = .ok (.iload_n 1, 1) := by decide +kernel
theorem dX10_set_54 : decode cX10_set 54 = .ok (.iaload, 1) := by decide +kernel
theorem dX10_set_55 : decode cX10_set 55 = .ok (.ifCond .ne 8, 3) := by decide +kernel
theorem dX10_set_58 : decode cX10_set 58 = .ok (.iload_n 3, 1) := by decide +kernel
theorem dX10_set_59 : decode cX10_set 59 = .ok (.i2b, 1) := by decide +kernel
theorem dX10_set_60 : decode cX10_set 60 = .ok (.goto 19, 3) := by decide +kernel
theorem dX10_set_63 : decode cX10_set 63 = .ok (.aload_n 0, 1) := by decide +kernel
theorem dX10_set_64 : decode cX10_set 64 = .ok (.getfield 7, 3) := by decide +kernel
theorem dX10_set_67 : decode cX10_set 67 = .ok (.iload_n 1, 1) := by decide +kernel
theorem dX10_set_68 : decode cX10_set 68 = .ok (.iaload, 1) := by decide +kernel
theorem dX10_set_69 : decode cX10_set 69 = .ok (.iconst 1, 1) := by decide +kernel
theorem dX10_set_70 : decode cX10_set 70 = .ok (.if_icmp .ne 8, 3) := by decide +kernel
theorem dX10_set_73 : decode cX10_set 73 = .ok (.iload_n 3, 1) := by decide +kernel
theorem dX10_set_74 : decode cX10_set 74 = .ok (.i2s, 1) := by decide +kernel
theorem dX10_set_75 : decode cX10_set 75 = .ok (.goto 4, 3) := by decide +kernel
theorem dX10_set_78 : decode cX10_set 78 = .ok (.iload_n 3, 1) := by decide +kernel
theorem dX10_set_79 : decode cX10_set 79 = .ok (.istore 4, 2) := by decide +kernel
theorem dX10_set_81 : decode cX10_set 81 = .ok (.aload_n 0, 1) := by decide +kernel
theorem dX10_set_82 : decode cX10_set 82 = .ok (.getfield 16, 3) := by decide +kernel
theorem dX10_set_85 : decode cX10_set 85 = .ok (.bipush 40, 2) := by decide +kernel
theorem dX10_set_87 : decode cX10_set 87 = .ok (.iload_n 1, 1) := by decide +kernel
theorem dX10_set_88 : decode cX10_set 88 = .ok (.imul, 1) := by decide +kernel
theorem dX10_set_89 : decode cX10_set 89 = .ok (.iload_n 2, 1) := by decide +kernel
theorem dX10_set_90 : decode cX10_set 90 = .ok (.iadd, 1) := by decide +kernel
theorem dX10_set_91 : decode cX10_set 91 = .ok (.iload 4, 2) := by decide +kernel
theorem dX10_set_93 : decode cX10_set 93 = .ok (.iastore, 1) := by decide +kernel
theorem dX10_set_94 : decode cX10_set 94 = .ok (.aload_n 0, 1) := by decide +kernel
theorem dX10_set_95 : decode cX10_set 95 = .ok (.iload 4, 2) := by decide +kernel
theorem dX10_set_97 : decode cX10_set 97 = .ok (.invokevirtual 84, 3) := by decide +kernel
theorem dX10_set_100 : decode cX10_set 100 = .ok (.ireturn, 1) := by decide +kernel
theorem dX10_copy_0 : decode cX10_copy 0 = .ok (.iload_n 1, 1) := by decide +kernel
theorem dX10_copy_1 : decode cX10_copy 1 = .ok (.invokestatic 73, 3) := by decide +kernel
theorem dX10_copy_4 : decode cX10_copy 4 = .ok (.ifCond .eq 10, 3) := by decide +kernel
theorem dX10_copy_7 : decode cX10_copy 7 = .ok (.iload_n 3, 1) := by decide +kernel
theorem dX10_copy_8 : decode cX10_copy 8 = .ok (.invokestatic 73, 3) := by decide +kernel
theorem dX10_copy_11 : decode cX10_copy 11 = .ok (.ifCond .ne 6, 3) := by decide +kernel
theorem dX10_copy_14 : decode cX10_copy 14 = .ok (.ldc 79, 2) := by decide +kernel
theorem dX10_copy_16 : decode cX10_copy 16 = .ok (.ireturn, 1) := by decide +kernel
theorem dX10_copy_17 : decode cX10_copy 17 = .ok (.aload_n 0, 1) := by decide +kernel
theorem dX10_copy_18 : decode cX10_copy 18 = .ok (.getfield 7, 3) := by decide +kernel
theorem dX10_copy_21 : decode cX10_copy 21 = .ok (.iload_n 1, 1) := by decide +kernel
theorem dX10_copy_22 : decode cX10_copy 22 = .ok (.iaload, 1) := by decide +kernel
theorem dX10_copy_23 : decode cX10_copy 23 = .ok (.ifCond .lt 12, 3) := by decide +kernel
theorem dX10_copy_26 : decode cX10_copy 26 = .ok (.aload_n 0, 1) := by decide +kernel
theorem dX10_copy_27 : decode cX10_copy 27 = .ok (.getfield 7, 3) := by decide +kernel
theorem dX10_copy_30 : decode cX10_copy 30 = .ok (.iload_n 3, 1) := by decide +kernel
theorem dX10_copy_31 : decode cX10_copy 31 = .ok (.iaload, 1) := by decide +kernel
theorem dX10_copy_32 : decode cX10_copy 32 = .ok (.ifCond .ge 9, 3) := by decide +kernel
theorem dX10_copy_35 : decode cX10_copy 35 = .ok (.aload_n 0, 1) := by decide +kernel
theorem dX10_copy_36 : decode cX10_copy 36 = .ok (.iconst 1, 1) := by decide +kernel
theorem dX10_copy_37 : decode cX10_copy 37 = .ok (.invokevirtual 80, 3) := by decide +kernel
theorem dX10_copy_40 : decode cX10_copy 40 = .ok (.ireturn, 1) := by decide +kernel
theorem dX10_copy_41 : decode cX10_copy 41 = .ok (.aload_n 0, 1) := by decide +kernel
theorem dX10_copy_42 : decode cX10_copy 42 = .ok (.getfield 7, 3) := by decide +kernel
theorem dX10_copy_45 : decode cX10_copy 45 = .ok (.iload_n 1, 1) := by decide +kernel
theorem dX10_copy_46 : decode cX10_copy 46 = .ok (.iaload, 1) := by decide +kernel
theorem dX10_copy_47 : decode cX10_copy 47 = .ok (.aload_n 0, 1) := by decide +kernel
theorem dX10_copy_48 : decode cX10_copy 48 = .ok (.getfield 7, 3) := by decide +kernel
theorem dX10_copy_51 : decode cX10_copy 51 = .ok (.iload_n 3, 1) := by decide +kernel
theorem dX10_copy_52 : decode cX10_copy 52 = .ok (.iaload, 1) := by decide +kernel
theorem dX10_copy_53 : decode cX10_copy 53 = .ok (.if_icmp .eq 9, 3) := by decide +kernel
theorem dX10_copy_56 : decode cX10_copy 56 = .ok (.aload_n 0, 1) := by decide +kernel
theorem dX10_copy_57 : decode cX10_copy 57 = .ok (.iconst 5, 1) := by decide +kernel
theorem dX10_copy_58 : decode cX10_copy 58 = .ok (.invokevirtual 80, 3) := by decide +kernel
theorem dX10_copy_61 : decode cX10_copy 61 = .ok (.ireturn, 1) := by decide +kernel
theorem dX10_copy_62 : decode cX10_copy 62 = .ok (.iload_n 2, 1) := by decide +kernel
theorem dX10_copy_63 : decode cX10_copy 63 = .ok (.ifCond .lt 48, 3) := by decide +kernel
theorem dX10_copy_66 : decode cX10_copy 66 = .ok (.iload 4, 2) := by decide +kernel
theorem dX10_copy_68 : decode cX10_copy 68 = .ok (.ifCond .lt 43, 3) := by decide +kernel
theorem dX10_copy_71 : decode cX10_copy 71 = .ok (.iload 5, 2) := by decide +kernel
theorem dX10_copy_73 : decode cX10_copy 73 = .ok (.ifCond .lt 38, 3) := by decide +kernel
theorem dX10_copy_76 : decode cX10_copy 76 = .ok (.iload_n 2, 1) := by decide +kernel
theorem dX10_copy_77 : decode cX10_copy 77 = .ok (.i2l, 1) := by decide +kernel
theorem dX10_copy_78 : decode cX10_copy 78 = .ok (.iload 5, 2) := by decide +kernel
theorem dX10_copy_80 : decode cX10_copy 80 = .ok (.i2l, 1) := by decide +kernel
theorem dX10_copy_81 : decode cX10_copy 81 = .ok (.ladd, 1) := by decide +kernel
theorem dX10_copy_82 : decode cX10_copy 82 = .ok (.aload_n 0, 1) := by decide +kernel
theorem dX10_copy_83 : decode cX10_copy 83 = .ok (.getfield 13, 3) := by decide +kernel
theorem dX10_copy_86 : decode cX10_copy 86 = .ok (.iload_n 1, 1) := by decide +kernel
theorem dX10_copy_87 : decode cX10_copy 87 = .ok (.iaload, 1) := by decide +kernel
theorem dX10_copy_88 : decode cX10_copy 88 = .ok (.i2l, 1) := by decide +kernel
theorem dX10_copy_89 : decode cX10_copy 89 = .ok (.lcmp, 1) := by decide +kernel
theorem dX10_copy_90 : decode cX10_copy 90 = .ok (.ifCond .gt 21, 3) := by decide +kernel
theorem dX10_copy_93 : decode cX10_copy 93 = .ok (.iload 4, 2) := by decide +kernel
theorem dX10_copy_95 : decode cX10_copy 95 = .ok (.i2l, 1) := by decide +kernel
theorem dX10_copy_96 : decode cX10_copy 96 = .ok (.iload 5, 2) := by decide +kernel
theorem dX10_copy_98 : decode cX10_copy 98 = .ok (.i2l, 1) := by decide +kernel
theorem dX10_copy_99 : decode cX10_copy 99 = .ok (.ladd, 1) := by decide +kernel
theorem dX10_copy_100 : decode cX10_copy 100 = .ok (.aload_n 0, 1) := by decide +kernel
theorem dX10_copy_101 : decode cX10_copy 101 = .ok (.getfield 13, 3) := by decide +kernel
theorem dX10_copy_104 : decode cX10_copy 104 = .ok (.iload_n 3, 1) := by decide +kernel
theorem dX10_copy_105 : decode cX10_copy 105 = .ok (.iaload, 1) := by decide +kernel
theorem dX10_copy_106 : decode cX10_copy 106 = .ok (.i2l, 1) := by decide +kernel
theorem dX10_copy_107 : decode cX10_copy 107 = .ok (.lcmp, 1) := by decide +kernel
theorem dX10_copy_108 : decode cX10_copy 108 = .ok (.ifCond .le 9, 3) := by decide +kernel
theorem dX10_copy_111 : decode cX10_copy 111 = .ok (.aload_n 0, 1) := by decide +kernel
theorem dX10_copy_112 : decode cX10_copy 112 = .ok (.iconst 2, 1) := by decide +kernel
theorem dX10_copy_113 : decode cX10_copy 113 = .ok (.invokevirtual 80, 3) := by decide +kernel
theorem dX10_copy_116 : decode cX10_copy 116 = .ok (.ireturn, 1) := by decide +kernel
theorem dX10_copy_117 : decode cX10_copy 117 = .ok (.iconst 0, 1) := by decide +kernel
theorem dX10_copy_118 : decode cX10_copy 118 = .ok (.istore 6, 2) := by decide +kernel
theorem dX10_copy_120 : decode cX10_copy 120 = .ok (.iload 6, 2) := by decide +kernel
theorem dX10_copy_122 : decode cX10_copy 122 = .ok (.iload 5, 2) := by decide +kernel
theorem dX10_copy_124 : decode cX10_copy 124 = .ok (.if_icmp .ge 30, 3) := by decide +kernel
theorem dX10_copy_127 : decode cX10_copy 127 = .ok (.aload_n 0, 1) := by decide +kernel
theorem dX10_copy_128 : decode cX10_copy 128 = .ok (.getfield 19, 3) := by decide +kernel
theorem dX10_copy_131 : decode cX10_copy 131 = .ok (.iload 6, 2) := by decide +kernel
theorem dX10_copy_133 : decode cX10_copy 133 = .ok (.aload_n 0, 1) := by decide +kernel
theorem dX10_copy_134 : decode cX10_copy 134 = .ok (.getfield 16, 3) := by decide +kernel
theorem dX10_copy_137 : decode cX10_copy 137 = .ok (.bipush 40, 2) := by decide +kernel
theorem dX10_copy_139 : decode cX10_copy 139 = .ok (.iload_n 1, 1) := by decide +kernel
theorem dX10_copy_140 : decode cX10_copy 140 = .ok (.imul, 1) := by decide +kernel
theorem dX10_copy_141 : decode cX10_copy 141 = .ok (.iload_n 2, 1) := by decide +kernel
theorem dX10_copy_142 : decode cX10_copy 142 = .ok (.iadd, 1) := by decide +kernel
theorem dX10_copy_143 : decode cX10_copy 143 = .ok (.iload 6, 2) := by decide +kernel
theorem dX10_copy_145 : decode cX10_copy 145 = .ok (.iadd, 1) := by decide +kernel
theorem dX10_copy_146 : decode cX10_copy 146 = .ok (.iaload, 1) := by decide +kernel
theorem dX10_copy_147 : decode cX10_copy 147 = .ok (.iastore, 1) := by decide +kernel
theorem dX10_copy_148 : decode cX10_copy 148 = .ok (.iinc 6 1, 3) := by decide +kernel
theorem dX10_copy_151 : decode cX10_copy 151 = .ok (.goto (-31), 3) := by decide +kernel
theorem dX10_copy_154 : decode cX10_copy 154 = .ok (.iconst 0, 1) := by decide +kernel
theorem dX10_copy_155 : decode cX10_copy 155 = .ok (.istore 6, 2) := by decide +kernel
theorem dX10_copy_157 : decode cX10_copy 157 = .ok (.iload 6, 2) := by decide +kernel
theorem dX10_copy_159 : decode cX10_copy 159 = .ok (.iload 5, 2) := by decide +kernel
theorem dX10_copy_161 : decode cX10_copy 161 = .ok (.if_icmp .ge 31, 3) := by decide +kernel
theorem dX10_copy_164 : decode cX10_copy 164 = .ok (.aload_n 0, 1) := by decide +kernel
theorem dX10_copy_165 : decode cX10_copy 165 = .ok (.getfield 16, 3) := by decide +kernel
theorem dX10_copy_168 : decode cX10_copy 168 = .ok (.bipush 40, 2) := by decide +kernel
theorem dX10_copy_170 : decode cX10_copy 170 = .ok (.iload_n 3, 1) := by decide +kernel
theorem dX10_copy_171 : decode cX10_copy 171 = .ok (.imul, 1) := by decide +kernel
theorem dX10_copy_172 : decode cX10_copy 172 = .ok (.iload 4, 2) := by decide +kernel
theorem dX10_copy_174 : decode cX10_copy 174 = .ok (.iadd, 1) := by decide +kernel
theorem dX10_copy_175 : decode cX10_copy 175 = .ok (.iload 6, 2) := by decide +kernel
theorem dX10_copy_177 : decode cX10_copy 177 = .ok (.iadd, 1) := by decide +kernel
theorem dX10_copy_178 : decode cX10_copy 178 = .ok (.aload_n 0, 1) := by decide +kernel
theorem dX10_copy_179 : decode cX10_copy 179 = .ok (.getfield 19, 3) := by decide +kernel
theorem dX10_copy_182 : decode cX10_copy 182 = .ok (.iload 6, 2) := by decide +kernel
theorem dX10_copy_184 : decode cX10_copy 184 = .ok (.iaload, 1) := by decide +kernel
theorem dX10_copy_185 : decode cX10_copy 185 = .ok (.iastore, 1) := by decide +kernel
theorem dX10_copy_186 : decode cX10_copy 186 = .ok (.iinc 6 1, 3) := by decide +kernel
theorem dX10_copy_189 : decode cX10_copy 189 = .ok (.goto (-32), 3) := by decide +kernel
theorem dX10_copy_192 : decode cX10_copy 192 = .ok (.aload_n 0, 1) := by decide +kernel
theorem dX10_copy_193 : decode cX10_copy 193 = .ok (.iload 5, 2) := by decide +kernel
theorem dX10_copy_195 : decode cX10_copy 195 = .ok (.invokevirtual 84, 3) := by decide +kernel
theorem dX10_copy_198 : decode cX10_copy 198 = .ok (.ireturn, 1) := by decide +kernel
theorem dX10_drop_0 : decode cX10_drop 0 = .ok (.iload_n 1, 1) := by decide +kernel
theorem dX10_drop_1 : decode cX10_drop 1 = .ok (.invokestatic 73, 3) := by decide +kernel
theorem dX10_drop_4 : decode cX10_drop 4 = .ok (.ifCond .ne 6, 3) := by decide +kernel
theorem dX10_drop_7 : decode cX10_drop 7 = .ok (.ldc 79, 2) := by decide +kernel
theorem dX10_drop_9 : decode cX10_drop 9 = .ok (.ireturn, 1) := by decide +kernel
theorem dX10_drop_10 : decode cX10_drop 10 = .ok (.aload_n 0, 1) := by decide +kernel
theorem dX10_drop_11 : decode cX10_drop 11 = .ok (.getfield 7, 3) := by decide +kernel
theorem dX10_drop_14 : decode cX10_drop 14 = .ok (.iload_n 1, 1) := by decide +kernel
theorem dX10_drop_15 : decode cX10_drop 15 = .ok (.iaload, 1) := by decide +kernel
theorem dX10_drop_16 : decode cX10_drop 16 = .ok (.ifCond .ge 9, 3) := by decide +kernel
theorem dX10_drop_19 : decode cX10_drop 19 = .ok (.aload_n 0, 1) := by decide +kernel
theorem dX10_drop_20 : decode cX10_drop 20 = .ok (.iconst 1, 1) := by decide +kernel
theorem dX10_drop_21 : decode cX10_drop 21 = .ok (.invokevirtual 80, 3) := by decide +kernel
theorem dX10_drop_24 : decode cX10_drop 24 = .ok (.ireturn, 1) := by decide +kernel
theorem dX10_drop_25 : decode cX10_drop 25 = .ok (.aload_n 0, 1) := by decide +kernel
theorem dX10_drop_26 : decode cX10_drop 26 = .ok (.getfield 7, 3) := by decide +kernel
theorem dX10_drop_29 : decode cX10_drop 29 = .ok (.iload_n 1, 1) := by decide +kernel
theorem dX10_drop_30 : decode cX10_drop 30 = .ok (.iconst (-1), 1) := by decide +kernel
theorem dX10_drop_31 : decode cX10_drop 31 = .ok (.iastore, 1) := by decide +kernel
theorem dX10_drop_32 : decode cX10_drop 32 = .ok (.aload_n 0, 1) := by decide +kernel
theorem dX10_drop_33 : decode cX10_drop 33 = .ok (.aload_n 0, 1) := by decide +kernel
theorem dX10_drop_34 : decode cX10_drop 34 = .ok (.getfield 13, 3) := by decide +kernel
theorem dX10_drop_37 : decode cX10_drop 37 = .ok (.iload_n 1, 1) := by decide +kernel
theorem dX10_drop_38 : decode cX10_drop 38 = .ok (.iaload, 1) := by decide +kernel
theorem dX10_drop_39 : decode cX10_drop 39 = .ok (.invokevirtual 84, 3) := by decide +kernel
theorem dX10_drop_42 : decode cX10_drop 42 = .ok (.ireturn, 1) := by decide +kernel
theorem dX10_feed_0 : decode cX10_feed 0 = .ok (.iload_n 1, 1) := by decide +kernel
theorem dX10_feed_1 : decode cX10_feed 1 = .ok (.i2l, 1) := by decide +kernel
theorem dX10_feed_2 : decode cX10_feed 2 = .ok (.lconst 0, 1) := by decide +kernel
theorem dX10_feed_3 : decode cX10_feed 3 = .ok (.ldc2_w 87, 3) := by decide +kernel
theorem dX10_feed_6 : decode cX10_feed 6 = .ok (.invokestatic 64, 3) := by decide +kernel
theorem dX10_feed_9 : decode cX10_feed 9 = .ok (.ifCond .ne 6, 3) := by decide +kernel
theorem dX10_feed_12 : decode cX10_feed 12 = .ok (.ldc 79, 2) := by decide +kernel
theorem dX10_feed_14 : decode cX10_feed 14 = .ok (.ireturn, 1) := by decide +kernel
theorem dX10_feed_15 : decode cX10_feed 15 = .ok (.aload_n 0, 1) := by decide +kernel
theorem dX10_feed_16 : decode cX10_feed 16 = .ok (.getfield 89, 3) := by decide +kernel
theorem dX10_feed_19 : decode cX10_feed 19 = .ok (.sipush 160, 3) := by decide +kernel
theorem dX10_feed_22 : decode cX10_feed 22 = .ok (.if_icmp .ne 6, 3) := by decide +kernel
theorem dX10_feed_25 : decode cX10_feed 25 = .ok (.ldc 92, 2) := by decide +kernel
theorem dX10_feed_27 : decode cX10_feed 27 = .ok (.ireturn, 1) := by decide +kernel
theorem dX10_feed_28 : decode cX10_feed 28 = .ok (.aload_n 0, 1) := by decide +kernel
theorem dX10_feed_29 : decode cX10_feed 29 = .ok (.getfield 22, 3) := by decide +kernel
theorem dX10_feed_32 : decode cX10_feed 32 = .ok (.aload_n 0, 1) := by decide +kernel
theorem dX10_feed_33 : decode cX10_feed 33 = .ok (.getfield 89, 3) := by decide +kernel
theorem dX10_feed_36 : decode cX10_feed 36 = .ok (.iload_n 1, 1) := by decide +kernel
theorem dX10_feed_37 : decode cX10_feed 37 = .ok (.iastore, 1) := by decide +kernel
theorem dX10_feed_38 : decode cX10_feed 38 = .ok (.aload_n 0, 1) := by decide +kernel
theorem dX10_feed_39 : decode cX10_feed 39 = .ok (.dup, 1) := by decide +kernel
theorem dX10_feed_40 : decode cX10_feed 40 = .ok (.getfield 89, 3) := by decide +kernel
theorem dX10_feed_43 : decode cX10_feed 43 = .ok (.iconst 1, 1) := by decide +kernel
theorem dX10_feed_44 : decode cX10_feed 44 = .ok (.iadd, 1) := by decide +kernel
theorem dX10_feed_45 : decode cX10_feed 45 = .ok (.putfield 89, 3) := by decide +kernel
theorem dX10_feed_48 : decode cX10_feed 48 = .ok (.aload_n 0, 1) := by decide +kernel
theorem dX10_feed_49 : decode cX10_feed 49 = .ok (.getfield 89, 3) := by decide +kernel
theorem dX10_feed_52 : decode cX10_feed 52 = .ok (.ireturn, 1) := by decide +kernel
theorem dX10_isFigure_0 : decode cX10_isFigure 0 = .ok (.aload_n 0, 1) := by decide +kernel
theorem dX10_isFigure_1 : decode cX10_isFigure 1 = .ok (.getfield 93, 3) := by decide +kernel
theorem dX10_isFigure_4 : decode cX10_isFigure 4 = .ok (.aload_n 0, 1) := by decide +kernel
theorem dX10_isFigure_5 : decode cX10_isFigure 5 = .ok (.getfield 89, 3) := by decide +kernel
theorem dX10_isFigure_8 : decode cX10_isFigure 8 = .ok (.if_icmp .ge 29, 3) := by decide +kernel
theorem dX10_isFigure_11 : decode cX10_isFigure 11 = .ok (.aload_n 0, 1) := by decide +kernel
theorem dX10_isFigure_12 : decode cX10_isFigure 12 = .ok (.getfield 22, 3) := by decide +kernel
theorem dX10_isFigure_15 : decode cX10_isFigure 15 = .ok (.aload_n 0, 1) := by decide +kernel
theorem dX10_isFigure_16 : decode cX10_isFigure 16 = .ok (.getfield 93, 3) := by decide +kernel
theorem dX10_isFigure_19 : decode cX10_isFigure 19 = .ok (.iaload, 1) := by decide +kernel
theorem dX10_isFigure_20 : decode cX10_isFigure 20 = .ok (.i2l, 1) := by decide +kernel
theorem dX10_isFigure_21 : decode cX10_isFigure 21 = .ok (.ldc2_w 96, 3) := by decide +kernel
theorem dX10_isFigure_24 : decode cX10_isFigure 24 = .ok (.ldc2_w 98, 3) := by decide +kernel
theorem dX10_isFigure_27 : decode cX10_isFigure 27 = .ok (.invokestatic 64, 3) := by decide +kernel
theorem dX10_isFigure_30 : decode cX10_isFigure 30 = .ok (.ifCond .eq 7, 3) := by decide +kernel
theorem dX10_isFigure_33 : decode cX10_isFigure 33 = .ok (.iconst 1, 1) := by decide +kernel
theorem dX10_isFigure_34 : decode cX10_isFigure 34 = .ok (.goto 4, 3) := by decide +kernel
theorem dX10_isFigure_37 : decode cX10_isFigure 37 = .ok (.iconst 0, 1) := by decide +kernel
theorem dX10_isFigure_38 : decode cX10_isFigure 38 = .ok (.ireturn, 1) := by decide +kernel
theorem dX10_scans_0 : decode cX10_scans 0 = .ok (.aload_n 0, 1) := by decide +kernel
theorem dX10_scans_1 : decode cX10_scans 1 = .ok (.aload_n 0, 1) := by decide +kernel
theorem dX10_scans_2 : decode cX10_scans 2 = .ok (.getfield 93, 3) := by decide +kernel
theorem dX10_scans_5 : decode cX10_scans 5 = .ok (.putfield 100, 3) := by decide +kernel
theorem dX10_scans_8 : decode cX10_scans 8 = .ok (.aload_n 0, 1) := by decide +kernel
theorem dX10_scans_9 : decode cX10_scans 9 = .ok (.getfield 93, 3) := by decide +kernel
theorem dX10_scans_12 : decode cX10_scans 12 = .ok (.aload_n 0, 1) := by decide +kernel
theorem dX10_scans_13 : decode cX10_scans 13 = .ok (.getfield 89, 3) := by decide +kernel
theorem dX10_scans_16 : decode cX10_scans 16 = .ok (.if_icmp .ne 9, 3) := by decide +kernel
theorem dX10_scans_19 : decode cX10_scans 19 = .ok (.aload_n 0, 1) := by decide +kernel
theorem dX10_scans_20 : decode cX10_scans 20 = .ok (.iconst 0, 1) := by decide +kernel
theorem dX10_scans_21 : decode cX10_scans 21 = .ok (.putfield 103, 3) := by decide +kernel
theorem dX10_scans_24 : decode cX10_scans 24 = .ok (.return_, 1) := by decide +kernel
theorem dX10_scans_25 : decode cX10_scans 25 = .ok (.aload_n 0, 1) := by decide +kernel
theorem dX10_scans_26 : decode cX10_scans 26 = .ok (.aload_n 0, 1) := by decide +kernel
theorem dX10_scans_27 : decode cX10_scans 27 = .ok (.getfield 22, 3) := by decide +kernel
theorem dX10_scans_30 : decode cX10_scans 30 = .ok (.aload_n 0, 1) := by decide +kernel
theorem dX10_scans_31 : decode cX10_scans 31 = .ok (.getfield 93, 3) := by decide +kernel
theorem dX10_scans_34 : decode cX10_scans 34 = .ok (.iaload, 1) := by decide +kernel
theorem dX10_scans_35 : decode cX10_scans 35 = .ok (.putfield 106, 3) := by decide +kernel
theorem dX10_scans_38 : decode cX10_scans 38 = .ok (.aload_n 0, 1) := by decide +kernel
theorem dX10_scans_39 : decode cX10_scans 39 = .ok (.invokevirtual 109, 3) := by decide +kernel
theorem dX10_scans_42 : decode cX10_scans 42 = .ok (.ifCond .eq 95, 3) := by decide +kernel
theorem dX10_scans_45 : decode cX10_scans 45 = .ok (.aload_n 0, 1) := by decide +kernel
theorem dX10_scans_46 : decode cX10_scans 46 = .ok (.iconst 0, 1) := by decide +kernel
theorem dX10_scans_47 : decode cX10_scans 47 = .ok (.putfield 106, 3) := by decide +kernel
theorem dX10_scans_50 : decode cX10_scans 50 = .ok (.aload_n 0, 1) := by decide +kernel
theorem dX10_scans_51 : decode cX10_scans 51 = .ok (.invokevirtual 109, 3) := by decide +kernel
theorem dX10_scans_54 : decode cX10_scans 54 = .ok (.ifCond .eq 60, 3) := by decide +kernel
theorem dX10_scans_57 : decode cX10_scans 57 = .ok (.aload_n 0, 1) := by decide +kernel
theorem dX10_scans_58 : decode cX10_scans 58 = .ok (.aload_n 0, 1) := by decide +kernel
theorem dX10_scans_59 : decode cX10_scans 59 = .ok (.getfield 93, 3) := by decide +kernel
theorem dX10_scans_62 : decode cX10_scans 62 = .ok (.aload_n 0, 1) := by decide +kernel
theorem dX10_scans_63 : decode cX10_scans 63 = .ok (.getfield 100, 3) := by decide +kernel
theorem dX10_scans_66 : decode cX10_scans 66 = .ok (.isub, 1) := by decide +kernel
theorem dX10_scans_67 : decode cX10_scans 67 = .ok (.iconst 2, 1) := by decide +kernel
theorem dX10_scans_68 : decode cX10_scans 68 = .ok (.if_icmp .ge 26, 3) := by decide +kernel
theorem dX10_scans_71 : decode cX10_scans 71 = .ok (.bipush 10, 2) := by decide +kernel
theorem dX10_scans_73 : decode cX10_scans 73 = .ok (.aload_n 0, 1) := by decide +kernel
theorem dX10_scans_74 : decode cX10_scans 74 = .ok (.getfield 106, 3) := by decide +kernel
theorem dX10_scans_77 : decode cX10_scans 77 = .ok (.imul, 1) := by decide +kernel
theorem dX10_scans_78 : decode cX10_scans 78 = .ok (.aload_n 0, 1) := by decide +kernel
theorem dX10_scans_79 : decode cX10_scans 79 = .ok (.getfield 22, 3) := by decide +kernel
theorem dX10_scans_82 : decode cX10_scans 82 = .ok (.aload_n 0, 1) := by decide +kernel
theorem dX10_scans_83 : decode cX10_scans 83 = .ok (.getfield 93, 3) := by decide +kernel
theorem dX10_scans_86 : decode cX10_scans 86 = .ok (.iaload, 1) := by decide +kernel
theorem dX10_scans_87 : decode cX10_scans 87 = .ok (.iadd, 1) := by decide +kernel
theorem dX10_scans_88 : decode cX10_scans 88 = .ok (.bipush 48, 2) := by decide +kernel
theorem dX10_scans_90 : decode cX10_scans 90 = .ok (.isub, 1) := by decide +kernel
theorem dX10_scans_91 : decode cX10_scans 91 = .ok (.goto 7, 3) := by decide +kernel
theorem dX10_scans_94 : decode cX10_scans 94 = .ok (.aload_n 0, 1) := by decide +kernel
theorem dX10_scans_95 : decode cX10_scans 95 = .ok (.getfield 106, 3) := by decide +kernel
theorem dX10_scans_98 : decode cX10_scans 98 = .ok (.putfield 106, 3) := by decide +kernel
theorem dX10_scans_101 : decode cX10_scans 101 = .ok (.aload_n 0, 1) := by decide +kernel
theorem dX10_scans_102 : decode cX10_scans 102 = .ok (.dup, 1) := by decide +kernel
theorem dX10_scans_103 : decode cX10_scans 103 = .ok (.getfield 93, 3) := by decide +kernel
theorem dX10_scans_106 : decode cX10_scans 106 = .ok (.iconst 1, 1) := by decide +kernel
theorem dX10_scans_107 : decode cX10_scans 107 = .ok (.iadd, 1) := by decide +kernel
theorem dX10_scans_108 : decode cX10_scans 108 = .ok (.putfield 93, 3) := by decide +kernel
theorem dX10_scans_111 : decode cX10_scans 111 = .ok (.goto (-61), 3) := by decide +kernel
theorem dX10_scans_114 : decode cX10_scans 114 = .ok (.aload_n 0, 1) := by decide +kernel
theorem dX10_scans_115 : decode cX10_scans 115 = .ok (.aload_n 0, 1) := by decide +kernel
theorem dX10_scans_116 : decode cX10_scans 116 = .ok (.getfield 93, 3) := by decide +kernel
theorem dX10_scans_119 : decode cX10_scans 119 = .ok (.aload_n 0, 1) := by decide +kernel
theorem dX10_scans_120 : decode cX10_scans 120 = .ok (.getfield 100, 3) := by decide +kernel
theorem dX10_scans_123 : decode cX10_scans 123 = .ok (.isub, 1) := by decide +kernel
theorem dX10_scans_124 : decode cX10_scans 124 = .ok (.iconst 2, 1) := by decide +kernel
theorem dX10_scans_125 : decode cX10_scans 125 = .ok (.if_icmp .le 7, 3) := by decide +kernel
theorem dX10_scans_128 : decode cX10_scans 128 = .ok (.iconst 1, 1) := by decide +kernel
theorem dX10_scans_129 : decode cX10_scans 129 = .ok (.goto 4, 3) := by decide +kernel
theorem dX10_scans_132 : decode cX10_scans 132 = .ok (.iconst 2, 1) := by decide +kernel
theorem dX10_scans_133 : decode cX10_scans 133 = .ok (.putfield 103, 3) := by decide +kernel
theorem dX10_scans_136 : decode cX10_scans 136 = .ok (.return_, 1) := by decide +kernel
theorem dX10_scans_137 : decode cX10_scans 137 = .ok (.aload_n 0, 1) := by decide +kernel
theorem dX10_scans_138 : decode cX10_scans 138 = .ok (.aload_n 0, 1) := by decide +kernel
theorem dX10_scans_139 : decode cX10_scans 139 = .ok (.getfield 106, 3) := by decide +kernel
theorem dX10_scans_142 : decode cX10_scans 142 = .ok (.i2l, 1) := by decide +kernel
theorem dX10_scans_143 : decode cX10_scans 143 = .ok (.ldc2_w 113, 3) := by decide +kernel
theorem dX10_scans_146 : decode cX10_scans 146 = .ok (.ldc2_w 115, 3) := by decide +kernel
theorem dX10_scans_149 : decode cX10_scans 149 = .ok (.invokestatic 64, 3) := by decide +kernel
theorem dX10_scans_152 : decode cX10_scans 152 = .ok (.ifCond .eq 7, 3) := by decide +kernel
theorem dX10_scans_155 : decode cX10_scans 155 = .ok (.iconst 3, 1) := by decide +kernel
theorem dX10_scans_156 : decode cX10_scans 156 = .ok (.goto 30, 3) := by decide +kernel
theorem dX10_scans_159 : decode cX10_scans 159 = .ok (.aload_n 0, 1) := by decide +kernel
theorem dX10_scans_160 : decode cX10_scans 160 = .ok (.getfield 106, 3) := by decide +kernel
theorem dX10_scans_163 : decode cX10_scans 163 = .ok (.bipush 44, 2) := by decide +kernel
theorem dX10_scans_165 : decode cX10_scans 165 = .ok (.if_icmp .ne 7, 3) := by decide +kernel
theorem dX10_scans_168 : decode cX10_scans 168 = .ok (.iconst 4, 1) := by decide +kernel
theorem dX10_scans_169 : decode cX10_scans 169 = .ok (.goto 17, 3) := by decide +kernel
theorem dX10_scans_172 : decode cX10_scans 172 = .ok (.aload_n 0, 1) := by decide +kernel
theorem dX10_scans_173 : decode cX10_scans 173 = .ok (.getfield 106, 3) := by decide +kernel
theorem dX10_scans_176 : decode cX10_scans 176 = .ok (.bipush 59, 2) := by decide +kernel
theorem dX10_scans_178 : decode cX10_scans 178 = .ok (.if_icmp .ne 7, 3) := by decide +kernel
theorem dX10_scans_181 : decode cX10_scans 181 = .ok (.iconst 5, 1) := by decide +kernel
theorem dX10_scans_182 : decode cX10_scans 182 = .ok (.goto 4, 3) := by decide +kernel
theorem dX10_scans_185 : decode cX10_scans 185 = .ok (.iconst 1, 1) := by decide +kernel
theorem dX10_scans_186 : decode cX10_scans 186 = .ok (.putfield 103, 3) := by decide +kernel
theorem dX10_scans_189 : decode cX10_scans 189 = .ok (.aload_n 0, 1) := by decide +kernel
theorem dX10_scans_190 : decode cX10_scans 190 = .ok (.dup, 1) := by decide +kernel
theorem dX10_scans_191 : decode cX10_scans 191 = .ok (.getfield 93, 3) := by decide +kernel
theorem dX10_scans_194 : decode cX10_scans 194 = .ok (.iconst 1, 1) := by decide +kernel
theorem dX10_scans_195 : decode cX10_scans 195 = .ok (.iadd, 1) := by decide +kernel
theorem dX10_scans_196 : decode cX10_scans 196 = .ok (.putfield 93, 3) := by decide +kernel
theorem dX10_scans_199 : decode cX10_scans 199 = .ok (.return_, 1) := by decide +kernel
theorem dX10_faults_0 : decode cX10_faults 0 = .ok (.aload_n 0, 1) := by decide +kernel
theorem dX10_faults_1 : decode cX10_faults 1 = .ok (.iload_n 1, 1) := by decide +kernel
theorem dX10_faults_2 : decode cX10_faults 2 = .ok (.putfield 117, 3) := by decide +kernel
theorem dX10_faults_5 : decode cX10_faults 5 = .ok (.iconst 0, 1) := by decide +kernel
theorem dX10_faults_6 : decode cX10_faults 6 = .ok (.ireturn, 1) := by decide +kernel
theorem dX10_takes_0 : decode cX10_takes 0 = .ok (.aload_n 0, 1) := by decide +kernel
theorem dX10_takes_1 : decode cX10_takes 1 = .ok (.getfield 103, 3) := by decide +kernel
theorem dX10_takes_4 : decode cX10_takes 4 = .ok (.iconst 2, 1) := by decide +kernel
theorem dX10_takes_5 : decode cX10_takes 5 = .ok (.if_icmp .eq 9, 3) := by decide +kernel
theorem dX10_takes_8 : decode cX10_takes 8 = .ok (.aload_n 0, 1) := by decide +kernel
theorem dX10_takes_9 : decode cX10_takes 9 = .ok (.iconst 1, 1) := by decide +kernel
theorem dX10_takes_10 : decode cX10_takes 10 = .ok (.invokevirtual 120, 3) := by decide +kernel
theorem dX10_takes_13 : decode cX10_takes 13 = .ok (.ireturn, 1) := by decide +kernel
theorem dX10_takes_14 : decode cX10_takes 14 = .ok (.aload_n 0, 1) := by decide +kernel
theorem dX10_takes_15 : decode cX10_takes 15 = .ok (.getfield 106, 3) := by decide +kernel
theorem dX10_takes_18 : decode cX10_takes 18 = .ok (.i2l, 1) := by decide +kernel
theorem dX10_takes_19 : decode cX10_takes 19 = .ok (.iload_n 1, 1) := by decide +kernel
theorem dX10_takes_20 : decode cX10_takes 20 = .ok (.i2l, 1) := by decide +kernel
theorem dX10_takes_21 : decode cX10_takes 21 = .ok (.iload_n 2, 1) := by decide +kernel
theorem dX10_takes_22 : decode cX10_takes 22 = .ok (.i2l, 1) := by decide +kernel
theorem dX10_takes_23 : decode cX10_takes 23 = .ok (.invokestatic 64, 3) := by decide +kernel
theorem dX10_takes_26 : decode cX10_takes 26 = .ok (.ifCond .ne 9, 3) := by decide +kernel
theorem dX10_takes_29 : decode cX10_takes 29 = .ok (.aload_n 0, 1) := by decide +kernel
theorem dX10_takes_30 : decode cX10_takes 30 = .ok (.iconst 2, 1) := by decide +kernel
theorem dX10_takes_31 : decode cX10_takes 31 = .ok (.invokevirtual 120, 3) := by decide +kernel
theorem dX10_takes_34 : decode cX10_takes 34 = .ok (.ireturn, 1) := by decide +kernel
theorem dX10_takes_35 : decode cX10_takes 35 = .ok (.aload_n 0, 1) := by decide +kernel
theorem dX10_takes_36 : decode cX10_takes 36 = .ok (.aload_n 0, 1) := by decide +kernel
theorem dX10_takes_37 : decode cX10_takes 37 = .ok (.getfield 106, 3) := by decide +kernel
theorem dX10_takes_40 : decode cX10_takes 40 = .ok (.putfield 123, 3) := by decide +kernel
theorem dX10_takes_43 : decode cX10_takes 43 = .ok (.aload_n 0, 1) := by decide +kernel
theorem dX10_takes_44 : decode cX10_takes 44 = .ok (.invokevirtual 126, 3) := by decide +kernel
theorem dX10_takes_47 : decode cX10_takes 47 = .ok (.iconst 1, 1) := by decide +kernel
theorem dX10_takes_48 : decode cX10_takes 48 = .ok (.ireturn, 1) := by decide +kernel
theorem dX10_signs_0 : decode cX10_signs 0 = .ok (.aload_n 0, 1) := by decide +kernel
theorem dX10_signs_1 : decode cX10_signs 1 = .ok (.getfield 103, 3) := by decide +kernel
theorem dX10_signs_4 : decode cX10_signs 4 = .ok (.iload_n 1, 1) := by decide +kernel
theorem dX10_signs_5 : decode cX10_signs 5 = .ok (.if_icmp .eq 9, 3) := by decide +kernel
theorem dX10_signs_8 : decode cX10_signs 8 = .ok (.aload_n 0, 1) := by decide +kernel
theorem dX10_signs_9 : decode cX10_signs 9 = .ok (.iconst 1, 1) := by decide +kernel
theorem dX10_signs_10 : decode cX10_signs 10 = .ok (.invokevirtual 120, 3) := by decide +kernel
theorem dX10_signs_13 : decode cX10_signs 13 = .ok (.ireturn, 1) := by decide +kernel
theorem dX10_signs_14 : decode cX10_signs 14 = .ok (.aload_n 0, 1) := by decide +kernel
theorem dX10_signs_15 : decode cX10_signs 15 = .ok (.invokevirtual 126, 3) := by decide +kernel
theorem dX10_signs_18 : decode cX10_signs 18 = .ok (.iconst 1, 1) := by decide +kernel
theorem dX10_signs_19 : decode cX10_signs 19 = .ok (.ireturn, 1) := by decide +kernel
theorem dX10_two_0 : decode cX10_two 0 = .ok (.aload_n 0, 1) := by decide +kernel
theorem dX10_two_1 : decode cX10_two 1 = .ok (.iconst 0, 1) := by decide +kernel
theorem dX10_two_2 : decode cX10_two 2 = .ok (.iload_n 1, 1) := by decide +kernel
theorem dX10_two_3 : decode cX10_two 3 = .ok (.invokevirtual 129, 3) := by decide +kernel
theorem dX10_two_6 : decode cX10_two 6 = .ok (.ifCond .ne 5, 3) := by decide +kernel
theorem dX10_two_9 : decode cX10_two 9 = .ok (.iconst 0, 1) := by decide +kernel
theorem dX10_two_10 : decode cX10_two 10 = .ok (.ireturn, 1) := by decide +kernel
theorem dX10_two_11 : decode cX10_two 11 = .ok (.aload_n 0, 1) := by decide +kernel
theorem dX10_two_12 : decode cX10_two 12 = .ok (.getfield 31, 3) := by decide +kernel
theorem dX10_two_15 : decode cX10_two 15 = .ok (.iload_n 2, 1) := by decide +kernel
theorem dX10_two_16 : decode cX10_two 16 = .ok (.aload_n 0, 1) := by decide +kernel
theorem dX10_two_17 : decode cX10_two 17 = .ok (.getfield 123, 3) := by decide +kernel
theorem dX10_two_20 : decode cX10_two 20 = .ok (.iastore, 1) := by decide +kernel
theorem dX10_two_21 : decode cX10_two 21 = .ok (.aload_n 0, 1) := by decide +kernel
theorem dX10_two_22 : decode cX10_two 22 = .ok (.iconst 4, 1) := by decide +kernel
theorem dX10_two_23 : decode cX10_two 23 = .ok (.invokevirtual 133, 3) := by decide +kernel
theorem dX10_two_26 : decode cX10_two 26 = .ok (.ifCond .eq 12, 3) := by decide +kernel
theorem dX10_two_29 : decode cX10_two 29 = .ok (.aload_n 0, 1) := by decide +kernel
theorem dX10_two_30 : decode cX10_two 30 = .ok (.iconst 0, 1) := by decide +kernel
theorem dX10_two_31 : decode cX10_two 31 = .ok (.iload_n 3, 1) := by decide +kernel
theorem dX10_two_32 : decode cX10_two 32 = .ok (.invokevirtual 129, 3) := by decide +kernel
theorem dX10_two_35 : decode cX10_two 35 = .ok (.ifCond .ne 5, 3) := by decide +kernel
theorem dX10_two_38 : decode cX10_two 38 = .ok (.iconst 0, 1) := by decide +kernel
theorem dX10_two_39 : decode cX10_two 39 = .ok (.ireturn, 1) := by decide +kernel
theorem dX10_two_40 : decode cX10_two 40 = .ok (.aload_n 0, 1) := by decide +kernel
theorem dX10_two_41 : decode cX10_two 41 = .ok (.aload_n 0, 1) := by decide +kernel
theorem dX10_two_42 : decode cX10_two 42 = .ok (.getfield 123, 3) := by decide +kernel
theorem dX10_two_45 : decode cX10_two 45 = .ok (.putfield 136, 3) := by decide +kernel
theorem dX10_two_48 : decode cX10_two 48 = .ok (.aload_n 0, 1) := by decide +kernel
theorem dX10_two_49 : decode cX10_two 49 = .ok (.iconst 5, 1) := by decide +kernel
theorem dX10_two_50 : decode cX10_two 50 = .ok (.invokevirtual 133, 3) := by decide +kernel
theorem dX10_two_53 : decode cX10_two 53 = .ok (.ireturn, 1) := by decide +kernel
theorem dX10_sortOf_0 : decode cX10_sortOf 0 = .ok (.iload_n 0, 1) := by decide +kernel
theorem dX10_sortOf_1 : decode cX10_sortOf 1 = .ok (.bipush 112, 2) := by decide +kernel
theorem dX10_sortOf_3 : decode cX10_sortOf 3 = .ok (.if_icmp .ne 7, 3) := by decide +kernel
theorem dX10_sortOf_6 : decode cX10_sortOf 6 = .ok (.iconst 1, 1) := by decide +kernel
theorem dX10_sortOf_7 : decode cX10_sortOf 7 = .ok (.goto 44, 3) := by decide +kernel
theorem dX10_sortOf_10 : decode cX10_sortOf 10 = .ok (.iload_n 0, 1) := by decide +kernel
theorem dX10_sortOf_11 : decode cX10_sortOf 11 = .ok (.bipush 115, 2) := by decide +kernel
theorem dX10_sortOf_13 : decode cX10_sortOf 13 = .ok (.if_icmp .ne 7, 3) := by decide +kernel
theorem dX10_sortOf_16 : decode cX10_sortOf 16 = .ok (.iconst 2, 1) := by decide +kernel
theorem dX10_sortOf_17 : decode cX10_sortOf 17 = .ok (.goto 34, 3) := by decide +kernel
theorem dX10_sortOf_20 : decode cX10_sortOf 20 = .ok (.iload_n 0, 1) := by decide +kernel
theorem dX10_sortOf_21 : decode cX10_sortOf 21 = .ok (.bipush 100, 2) := by decide +kernel
theorem dX10_sortOf_23 : decode cX10_sortOf 23 = .ok (.if_icmp .ne 7, 3) := by decide +kernel
theorem dX10_sortOf_26 : decode cX10_sortOf 26 = .ok (.iconst 3, 1) := by decide +kernel
theorem dX10_sortOf_27 : decode cX10_sortOf 27 = .ok (.goto 24, 3) := by decide +kernel
theorem dX10_sortOf_30 : decode cX10_sortOf 30 = .ok (.iload_n 0, 1) := by decide +kernel
theorem dX10_sortOf_31 : decode cX10_sortOf 31 = .ok (.bipush 108, 2) := by decide +kernel
theorem dX10_sortOf_33 : decode cX10_sortOf 33 = .ok (.if_icmp .ne 7, 3) := by decide +kernel
theorem dX10_sortOf_36 : decode cX10_sortOf 36 = .ok (.iconst 4, 1) := by decide +kernel
theorem dX10_sortOf_37 : decode cX10_sortOf 37 = .ok (.goto 14, 3) := by decide +kernel
theorem dX10_sortOf_40 : decode cX10_sortOf 40 = .ok (.iload_n 0, 1) := by decide +kernel
theorem dX10_sortOf_41 : decode cX10_sortOf 41 = .ok (.bipush 109, 2) := by decide +kernel
theorem dX10_sortOf_43 : decode cX10_sortOf 43 = .ok (.if_icmp .ne 7, 3) := by decide +kernel
theorem dX10_sortOf_46 : decode cX10_sortOf 46 = .ok (.iconst 5, 1) := by decide +kernel
theorem dX10_sortOf_47 : decode cX10_sortOf 47 = .ok (.goto 4, 3) := by decide +kernel
theorem dX10_sortOf_50 : decode cX10_sortOf 50 = .ok (.iconst 0, 1) := by decide +kernel
theorem dX10_sortOf_51 : decode cX10_sortOf 51 = .ok (.ireturn, 1) := by decide +kernel
theorem dX10_isLetter_0 : decode cX10_isLetter 0 = .ok (.aload_n 0, 1) := by decide +kernel
theorem dX10_isLetter_1 : decode cX10_isLetter 1 = .ok (.getfield 103, 3) := by decide +kernel
theorem dX10_isLetter_4 : decode cX10_isLetter 4 = .ok (.iconst 3, 1) := by decide +kernel
theorem dX10_isLetter_5 : decode cX10_isLetter 5 = .ok (.if_icmp .ne 15, 3) := by decide +kernel
theorem dX10_isLetter_8 : decode cX10_isLetter 8 = .ok (.aload_n 0, 1) := by decide +kernel
theorem dX10_isLetter_9 : decode cX10_isLetter 9 = .ok (.getfield 106, 3) := by decide +kernel
theorem dX10_isLetter_12 : decode cX10_isLetter 12 = .ok (.iload_n 1, 1) := by decide +kernel
theorem dX10_isLetter_13 : decode cX10_isLetter 13 = .ok (.if_icmp .ne 7, 3) := by decide +kernel
theorem dX10_isLetter_16 : decode cX10_isLetter 16 = .ok (.iconst 1, 1) := by decide +kernel
theorem dX10_isLetter_17 : decode cX10_isLetter 17 = .ok (.goto 4, 3) := by decide +kernel
theorem dX10_isLetter_20 : decode cX10_isLetter 20 = .ok (.iconst 0, 1) := by decide +kernel
theorem dX10_isLetter_21 : decode cX10_isLetter 21 = .ok (.ireturn, 1) := by decide +kernel
theorem dX10_swell_0 : decode cX10_swell 0 = .ok (.aload_n 0, 1) := by decide +kernel
theorem dX10_swell_1 : decode cX10_swell 1 = .ok (.getfield 31, 3) := by decide +kernel
theorem dX10_swell_4 : decode cX10_swell 4 = .ok (.iconst 3, 1) := by decide +kernel
theorem dX10_swell_5 : decode cX10_swell 5 = .ok (.iaload, 1) := by decide +kernel
theorem dX10_swell_6 : decode cX10_swell 6 = .ok (.bipush 20, 2) := by decide +kernel
theorem dX10_swell_8 : decode cX10_swell 8 = .ok (.if_icmp .ne 9, 3) := by decide +kernel
theorem dX10_swell_11 : decode cX10_swell 11 = .ok (.aload_n 0, 1) := by decide +kernel
theorem dX10_swell_12 : decode cX10_swell 12 = .ok (.iconst 3, 1) := by decide +kernel
theorem dX10_swell_13 : decode cX10_swell 13 = .ok (.invokevirtual 120, 3) := by decide +kernel
theorem dX10_swell_16 : decode cX10_swell 16 = .ok (.ireturn, 1) := by decide +kernel
theorem dX10_swell_17 : decode cX10_swell 17 = .ok (.aload_n 0, 1) := by decide +kernel
theorem dX10_swell_18 : decode cX10_swell 18 = .ok (.getfield 31, 3) := by decide +kernel
theorem dX10_swell_21 : decode cX10_swell 21 = .ok (.bipush 6, 2) := by decide +kernel
theorem dX10_swell_23 : decode cX10_swell 23 = .ok (.aload_n 0, 1) := by decide +kernel
theorem dX10_swell_24 : decode cX10_swell 24 = .ok (.getfield 31, 3) := by decide +kernel
theorem dX10_swell_27 : decode cX10_swell 27 = .ok (.iconst 3, 1) := by decide +kernel
theorem dX10_swell_28 : decode cX10_swell 28 = .ok (.iaload, 1) := by decide +kernel
theorem dX10_swell_29 : decode cX10_swell 29 = .ok (.iadd, 1) := by decide +kernel
theorem dX10_swell_30 : decode cX10_swell 30 = .ok (.aload_n 0, 1) := by decide +kernel
theorem dX10_swell_31 : decode cX10_swell 31 = .ok (.getfield 106, 3) := by decide +kernel
theorem dX10_swell_34 : decode cX10_swell 34 = .ok (.invokestatic 139, 3) := by decide +kernel
theorem dX10_swell_37 : decode cX10_swell 37 = .ok (.iastore, 1) := by decide +kernel
theorem dX10_swell_38 : decode cX10_swell 38 = .ok (.aload_n 0, 1) := by decide +kernel
theorem dX10_swell_39 : decode cX10_swell 39 = .ok (.invokevirtual 126, 3) := by decide +kernel
theorem dX10_swell_42 : decode cX10_swell 42 = .ok (.aload_n 0, 1) := by decide +kernel
theorem dX10_swell_43 : decode cX10_swell 43 = .ok (.iconst 0, 1) := by decide +kernel
theorem dX10_swell_44 : decode cX10_swell 44 = .ok (.bipush 30, 2) := by decide +kernel
theorem dX10_swell_46 : decode cX10_swell 46 = .ok (.invokevirtual 129, 3) := by decide +kernel
theorem dX10_swell_49 : decode cX10_swell 49 = .ok (.ifCond .ne 5, 3) := by decide +kernel
theorem dX10_swell_52 : decode cX10_swell 52 = .ok (.iconst 0, 1) := by decide +kernel
theorem dX10_swell_53 : decode cX10_swell 53 = .ok (.ireturn, 1) := by decide +kernel
theorem dX10_swell_54 : decode cX10_swell 54 = .ok (.aload_n 0, 1) := by decide +kernel
theorem dX10_swell_55 : decode cX10_swell 55 = .ok (.getfield 31, 3) := by decide +kernel
theorem dX10_swell_58 : decode cX10_swell 58 = .ok (.bipush 26, 2) := by decide +kernel
theorem dX10_swell_60 : decode cX10_swell 60 = .ok (.aload_n 0, 1) := by decide +kernel
theorem dX10_swell_61 : decode cX10_swell 61 = .ok (.getfield 31, 3) := by decide +kernel
theorem dX10_swell_64 : decode cX10_swell 64 = .ok (.iconst 3, 1) := by decide +kernel
theorem dX10_swell_65 : decode cX10_swell 65 = .ok (.iaload, 1) := by decide +kernel
theorem dX10_swell_66 : decode cX10_swell 66 = .ok (.iadd, 1) := by decide +kernel
theorem dX10_swell_67 : decode cX10_swell 67 = .ok (.aload_n 0, 1) := by decide +kernel
theorem dX10_swell_68 : decode cX10_swell 68 = .ok (.getfield 123, 3) := by decide +kernel
theorem dX10_swell_71 : decode cX10_swell 71 = .ok (.iastore, 1) := by decide +kernel
theorem dX10_swell_72 : decode cX10_swell 72 = .ok (.aload_n 0, 1) := by decide +kernel
theorem dX10_swell_73 : decode cX10_swell 73 = .ok (.getfield 31, 3) := by decide +kernel
theorem dX10_swell_76 : decode cX10_swell 76 = .ok (.iconst 3, 1) := by decide +kernel
theorem dX10_swell_77 : decode cX10_swell 77 = .ok (.dup2, 1) := by decide +kernel
theorem dX10_swell_78 : decode cX10_swell 78 = .ok (.iaload, 1) := by decide +kernel
theorem dX10_swell_79 : decode cX10_swell 79 = .ok (.iconst 1, 1) := by decide +kernel
theorem dX10_swell_80 : decode cX10_swell 80 = .ok (.iadd, 1) := by decide +kernel
theorem dX10_swell_81 : decode cX10_swell 81 = .ok (.iastore, 1) := by decide +kernel
theorem dX10_swell_82 : decode cX10_swell 82 = .ok (.aload_n 0, 1) := by decide +kernel
theorem dX10_swell_83 : decode cX10_swell 83 = .ok (.iconst 5, 1) := by decide +kernel
theorem dX10_swell_84 : decode cX10_swell 84 = .ok (.invokevirtual 133, 3) := by decide +kernel
theorem dX10_swell_87 : decode cX10_swell 87 = .ok (.ireturn, 1) := by decide +kernel
theorem dX10_turret_0 : decode cX10_turret 0 = .ok (.aload_n 0, 1) := by decide +kernel
theorem dX10_turret_1 : decode cX10_turret 1 = .ok (.getfield 31, 3) := by decide +kernel
theorem dX10_turret_4 : decode cX10_turret 4 = .ok (.iconst 4, 1) := by decide +kernel
theorem dX10_turret_5 : decode cX10_turret 5 = .ok (.iaload, 1) := by decide +kernel
theorem dX10_turret_6 : decode cX10_turret 6 = .ok (.iconst 3, 1) := by decide +kernel
theorem dX10_turret_7 : decode cX10_turret 7 = .ok (.if_icmp .ne 9, 3) := by decide +kernel
theorem dX10_turret_10 : decode cX10_turret 10 = .ok (.aload_n 0, 1) := by decide +kernel
theorem dX10_turret_11 : decode cX10_turret 11 = .ok (.iconst 3, 1) := by decide +kernel
theorem dX10_turret_12 : decode cX10_turret 12 = .ok (.invokevirtual 120, 3) := by decide +kernel
theorem dX10_turret_15 : decode cX10_turret 15 = .ok (.ireturn, 1) := by decide +kernel
theorem dX10_turret_16 : decode cX10_turret 16 = .ok (.aload_n 0, 1) := by decide +kernel
theorem dX10_turret_17 : decode cX10_turret 17 = .ok (.invokevirtual 126, 3) := by decide +kernel
theorem dX10_turret_20 : decode cX10_turret 20 = .ok (.aload_n 0, 1) := by decide +kernel
theorem dX10_turret_21 : decode cX10_turret 21 = .ok (.bipush 7, 2) := by decide +kernel
theorem dX10_turret_23 : decode cX10_turret 23 = .ok (.bipush 46, 2) := by decide +kernel
theorem dX10_turret_25 : decode cX10_turret 25 = .ok (.aload_n 0, 1) := by decide +kernel
theorem dX10_turret_26 : decode cX10_turret 26 = .ok (.getfield 31, 3) := by decide +kernel
theorem dX10_turret_29 : decode cX10_turret 29 = .ok (.iconst 4, 1) := by decide +kernel
theorem dX10_turret_30 : decode cX10_turret 30 = .ok (.iaload, 1) := by decide +kernel
theorem dX10_turret_31 : decode cX10_turret 31 = .ok (.iadd, 1) := by decide +kernel
theorem dX10_turret_32 : decode cX10_turret 32 = .ok (.bipush 8, 2) := by decide +kernel
theorem dX10_turret_34 : decode cX10_turret 34 = .ok (.invokevirtual 142, 3) := by decide +kernel
theorem dX10_turret_37 : decode cX10_turret 37 = .ok (.ifCond .ne 5, 3) := by decide +kernel
theorem dX10_turret_40 : decode cX10_turret 40 = .ok (.iconst 0, 1) := by decide +kernel
theorem dX10_turret_41 : decode cX10_turret 41 = .ok (.ireturn, 1) := by decide +kernel
theorem dX10_turret_42 : decode cX10_turret 42 = .ok (.aload_n 0, 1) := by decide +kernel
theorem dX10_turret_43 : decode cX10_turret 43 = .ok (.getfield 44, 3) := by decide +kernel
theorem dX10_turret_46 : decode cX10_turret 46 = .ok (.aload_n 0, 1) := by decide +kernel
theorem dX10_turret_47 : decode cX10_turret 47 = .ok (.getfield 31, 3) := by decide +kernel
theorem dX10_turret_50 : decode cX10_turret 50 = .ok (.iconst 4, 1) := by decide +kernel
theorem dX10_turret_51 : decode cX10_turret 51 = .ok (.iaload, 1) := by decide +kernel
theorem dX10_turret_52 : decode cX10_turret 52 = .ok (.aload_n 0, 1) := by decide +kernel
theorem dX10_turret_53 : decode cX10_turret 53 = .ok (.getfield 136, 3) := by decide +kernel
theorem dX10_turret_56 : decode cX10_turret 56 = .ok (.iastore, 1) := by decide +kernel
theorem dX10_turret_57 : decode cX10_turret 57 = .ok (.aload_n 0, 1) := by decide +kernel
theorem dX10_turret_58 : decode cX10_turret 58 = .ok (.getfield 31, 3) := by decide +kernel
theorem dX10_turret_61 : decode cX10_turret 61 = .ok (.iconst 4, 1) := by decide +kernel
theorem dX10_turret_62 : decode cX10_turret 62 = .ok (.dup2, 1) := by decide +kernel
theorem dX10_turret_63 : decode cX10_turret 63 = .ok (.iaload, 1) := by decide +kernel
theorem dX10_turret_64 : decode cX10_turret 64 = .ok (.iconst 1, 1) := by decide +kernel
theorem dX10_turret_65 : decode cX10_turret 65 = .ok (.iadd, 1) := by decide +kernel
theorem dX10_turret_66 : decode cX10_turret 66 = .ok (.iastore, 1) := by decide +kernel
theorem dX10_turret_67 : decode cX10_turret 67 = .ok (.iconst 1, 1) := by decide +kernel
theorem dX10_turret_68 : decode cX10_turret 68 = .ok (.ireturn, 1) := by decide +kernel
theorem dX10_vessel_0 : decode cX10_vessel 0 = .ok (.aload_n 0, 1) := by decide +kernel
theorem dX10_vessel_1 : decode cX10_vessel 1 = .ok (.getfield 31, 3) := by decide +kernel
theorem dX10_vessel_4 : decode cX10_vessel 4 = .ok (.iconst 5, 1) := by decide +kernel
theorem dX10_vessel_5 : decode cX10_vessel 5 = .ok (.iaload, 1) := by decide +kernel
theorem dX10_vessel_6 : decode cX10_vessel 6 = .ok (.bipush 6, 2) := by decide +kernel
theorem dX10_vessel_8 : decode cX10_vessel 8 = .ok (.if_icmp .ne 9, 3) := by decide +kernel
theorem dX10_vessel_11 : decode cX10_vessel 11 = .ok (.aload_n 0, 1) := by decide +kernel
theorem dX10_vessel_12 : decode cX10_vessel 12 = .ok (.iconst 3, 1) := by decide +kernel
theorem dX10_vessel_13 : decode cX10_vessel 13 = .ok (.invokevirtual 120, 3) := by decide +kernel
theorem dX10_vessel_16 : decode cX10_vessel 16 = .ok (.ireturn, 1) := by decide +kernel
theorem dX10_vessel_17 : decode cX10_vessel 17 = .ok (.aload_n 0, 1) := by decide +kernel
theorem dX10_vessel_18 : decode cX10_vessel 18 = .ok (.invokevirtual 126, 3) := by decide +kernel
theorem dX10_vessel_21 : decode cX10_vessel 21 = .ok (.aload_n 0, 1) := by decide +kernel
theorem dX10_vessel_22 : decode cX10_vessel 22 = .ok (.bipush 99, 2) := by decide +kernel
theorem dX10_vessel_24 : decode cX10_vessel 24 = .ok (.bipush 49, 2) := by decide +kernel
theorem dX10_vessel_26 : decode cX10_vessel 26 = .ok (.aload_n 0, 1) := by decide +kernel
theorem dX10_vessel_27 : decode cX10_vessel 27 = .ok (.getfield 31, 3) := by decide +kernel
theorem dX10_vessel_30 : decode cX10_vessel 30 = .ok (.iconst 5, 1) := by decide +kernel
theorem dX10_vessel_31 : decode cX10_vessel 31 = .ok (.iaload, 1) := by decide +kernel
theorem dX10_vessel_32 : decode cX10_vessel 32 = .ok (.iadd, 1) := by decide +kernel
theorem dX10_vessel_33 : decode cX10_vessel 33 = .ok (.aload_n 0, 1) := by decide +kernel
theorem dX10_vessel_34 : decode cX10_vessel 34 = .ok (.getfield 31, 3) := by decide +kernel
theorem dX10_vessel_37 : decode cX10_vessel 37 = .ok (.iconst 4, 1) := by decide +kernel
theorem dX10_vessel_38 : decode cX10_vessel 38 = .ok (.iaload, 1) := by decide +kernel
theorem dX10_vessel_39 : decode cX10_vessel 39 = .ok (.iconst 1, 1) := by decide +kernel
theorem dX10_vessel_40 : decode cX10_vessel 40 = .ok (.isub, 1) := by decide +kernel
theorem dX10_vessel_41 : decode cX10_vessel 41 = .ok (.invokevirtual 142, 3) := by decide +kernel
theorem dX10_vessel_44 : decode cX10_vessel 44 = .ok (.ifCond .ne 5, 3) := by decide +kernel
theorem dX10_vessel_47 : decode cX10_vessel 47 = .ok (.iconst 0, 1) := by decide +kernel
theorem dX10_vessel_48 : decode cX10_vessel 48 = .ok (.ireturn, 1) := by decide +kernel
theorem dX10_vessel_49 : decode cX10_vessel 49 = .ok (.aload_n 0, 1) := by decide +kernel
theorem dX10_vessel_50 : decode cX10_vessel 50 = .ok (.getfield 47, 3) := by decide +kernel
theorem dX10_vessel_53 : decode cX10_vessel 53 = .ok (.aload_n 0, 1) := by decide +kernel
theorem dX10_vessel_54 : decode cX10_vessel 54 = .ok (.getfield 31, 3) := by decide +kernel
theorem dX10_vessel_57 : decode cX10_vessel 57 = .ok (.iconst 5, 1) := by decide +kernel
theorem dX10_vessel_58 : decode cX10_vessel 58 = .ok (.iaload, 1) := by decide +kernel
theorem dX10_vessel_59 : decode cX10_vessel 59 = .ok (.aload_n 0, 1) := by decide +kernel
theorem dX10_vessel_60 : decode cX10_vessel 60 = .ok (.getfield 136, 3) := by decide +kernel
theorem dX10_vessel_63 : decode cX10_vessel 63 = .ok (.iastore, 1) := by decide +kernel
theorem dX10_vessel_64 : decode cX10_vessel 64 = .ok (.aload_n 0, 1) := by decide +kernel
theorem dX10_vessel_65 : decode cX10_vessel 65 = .ok (.getfield 31, 3) := by decide +kernel
theorem dX10_vessel_68 : decode cX10_vessel 68 = .ok (.iconst 5, 1) := by decide +kernel
theorem dX10_vessel_69 : decode cX10_vessel 69 = .ok (.dup2, 1) := by decide +kernel
theorem dX10_vessel_70 : decode cX10_vessel 70 = .ok (.iaload, 1) := by decide +kernel
theorem dX10_vessel_71 : decode cX10_vessel 71 = .ok (.iconst 1, 1) := by decide +kernel
theorem dX10_vessel_72 : decode cX10_vessel 72 = .ok (.iadd, 1) := by decide +kernel
theorem dX10_vessel_73 : decode cX10_vessel 73 = .ok (.iastore, 1) := by decide +kernel
theorem dX10_vessel_74 : decode cX10_vessel 74 = .ok (.iconst 1, 1) := by decide +kernel
theorem dX10_vessel_75 : decode cX10_vessel 75 = .ok (.ireturn, 1) := by decide +kernel
theorem dX10_reads_0 : decode cX10_reads 0 = .ok (.aload_n 0, 1) := by decide +kernel
theorem dX10_reads_1 : decode cX10_reads 1 = .ok (.iconst 0, 1) := by decide +kernel
theorem dX10_reads_2 : decode cX10_reads 2 = .ok (.putfield 93, 3) := by decide +kernel
theorem dX10_reads_5 : decode cX10_reads 5 = .ok (.iconst 0, 1) := by decide +kernel
theorem dX10_reads_6 : decode cX10_reads 6 = .ok (.istore_n 1, 1) := by decide +kernel
theorem dX10_reads_7 : decode cX10_reads 7 = .ok (.iload_n 1, 1) := by decide +kernel
theorem dX10_reads_8 : decode cX10_reads 8 = .ok (.bipush 55, 2) := by decide +kernel
theorem dX10_reads_10 : decode cX10_reads 10 = .ok (.if_icmp .ge 16, 3) := by decide +kernel
theorem dX10_reads_13 : decode cX10_reads 13 = .ok (.aload_n 0, 1) := by decide +kernel
theorem dX10_reads_14 : decode cX10_reads 14 = .ok (.getfield 31, 3) := by decide +kernel
theorem dX10_reads_17 : decode cX10_reads 17 = .ok (.iload_n 1, 1) := by decide +kernel
theorem dX10_reads_18 : decode cX10_reads 18 = .ok (.iconst 0, 1) := by decide +kernel
theorem dX10_reads_19 : decode cX10_reads 19 = .ok (.iastore, 1) := by decide +kernel
theorem dX10_reads_20 : decode cX10_reads 20 = .ok (.iinc 1 1, 3) := by decide +kernel
theorem dX10_reads_23 : decode cX10_reads 23 = .ok (.goto (-16), 3) := by decide +kernel
theorem dX10_reads_26 : decode cX10_reads 26 = .ok (.aload_n 0, 1) := by decide +kernel
theorem dX10_reads_27 : decode cX10_reads 27 = .ok (.invokevirtual 126, 3) := by decide +kernel
theorem dX10_reads_30 : decode cX10_reads 30 = .ok (.aload_n 0, 1) := by decide +kernel
theorem dX10_reads_31 : decode cX10_reads 31 = .ok (.bipush 98, 2) := by decide +kernel
theorem dX10_reads_33 : decode cX10_reads 33 = .ok (.invokevirtual 146, 3) := by decide +kernel
theorem dX10_reads_36 : decode cX10_reads 36 = .ok (.ifCond .ne 9, 3) := by decide +kernel
theorem dX10_reads_39 : decode cX10_reads 39 = .ok (.aload_n 0, 1) := by decide +kernel
theorem dX10_reads_40 : decode cX10_reads 40 = .ok (.iconst 1, 1) := by decide +kernel
theorem dX10_reads_41 : decode cX10_reads 41 = .ok (.invokevirtual 120, 3) := by decide +kernel
theorem dX10_reads_44 : decode cX10_reads 44 = .ok (.ireturn, 1) := by decide +kernel
theorem dX10_reads_45 : decode cX10_reads 45 = .ok (.aload_n 0, 1) := by decide +kernel
theorem dX10_reads_46 : decode cX10_reads 46 = .ok (.invokevirtual 126, 3) := by decide +kernel
theorem dX10_reads_49 : decode cX10_reads 49 = .ok (.aload_n 0, 1) := by decide +kernel
theorem dX10_reads_50 : decode cX10_reads 50 = .ok (.bipush 60, 2) := by decide +kernel
theorem dX10_reads_52 : decode cX10_reads 52 = .ok (.iconst 1, 1) := by decide +kernel
theorem dX10_reads_53 : decode cX10_reads 53 = .ok (.bipush 9, 2) := by decide +kernel
theorem dX10_reads_55 : decode cX10_reads 55 = .ok (.invokevirtual 142, 3) := by decide +kernel
theorem dX10_reads_58 : decode cX10_reads 58 = .ok (.ifCond .ne 5, 3) := by decide +kernel
theorem dX10_reads_61 : decode cX10_reads 61 = .ok (.iconst 0, 1) := by decide +kernel
theorem dX10_reads_62 : decode cX10_reads 62 = .ok (.ireturn, 1) := by decide +kernel
theorem dX10_reads_63 : decode cX10_reads 63 = .ok (.aload_n 0, 1) := by decide +kernel
theorem dX10_reads_64 : decode cX10_reads 64 = .ok (.getfield 31, 3) := by decide +kernel
theorem dX10_reads_67 : decode cX10_reads 67 = .ok (.iconst 2, 1) := by decide +kernel
theorem dX10_reads_68 : decode cX10_reads 68 = .ok (.aload_n 0, 1) := by decide +kernel
theorem dX10_reads_69 : decode cX10_reads 69 = .ok (.getfield 136, 3) := by decide +kernel
theorem dX10_reads_72 : decode cX10_reads 72 = .ok (.iastore, 1) := by decide +kernel
theorem dX10_reads_73 : decode cX10_reads 73 = .ok (.aload_n 0, 1) := by decide +kernel
theorem dX10_reads_74 : decode cX10_reads 74 = .ok (.getfield 103, 3) := by decide +kernel
theorem dX10_reads_77 : decode cX10_reads 77 = .ok (.iconst 3, 1) := by decide +kernel
theorem dX10_reads_78 : decode cX10_reads 78 = .ok (.if_icmp .ne 22, 3) := by decide +kernel
theorem dX10_reads_81 : decode cX10_reads 81 = .ok (.aload_n 0, 1) := by decide +kernel
theorem dX10_reads_82 : decode cX10_reads 82 = .ok (.getfield 106, 3) := by decide +kernel
theorem dX10_reads_85 : decode cX10_reads 85 = .ok (.invokestatic 139, 3) := by decide +kernel
theorem dX10_reads_88 : decode cX10_reads 88 = .ok (.ifCond .le 12, 3) := by decide +kernel
theorem dX10_reads_91 : decode cX10_reads 91 = .ok (.aload_n 0, 1) := by decide +kernel
theorem dX10_reads_92 : decode cX10_reads 92 = .ok (.invokevirtual 149, 3) := by decide +kernel
theorem dX10_reads_95 : decode cX10_reads 95 = .ok (.ifCond .ne (-22), 3) := by decide +kernel
theorem dX10_reads_98 : decode cX10_reads 98 = .ok (.iconst 0, 1) := by decide +kernel
theorem dX10_reads_99 : decode cX10_reads 99 = .ok (.ireturn, 1) := by decide +kernel
theorem dX10_reads_100 : decode cX10_reads 100 = .ok (.aload_n 0, 1) := by decide +kernel
theorem dX10_reads_101 : decode cX10_reads 101 = .ok (.getfield 31, 3) := by decide +kernel
theorem dX10_reads_104 : decode cX10_reads 104 = .ok (.iconst 3, 1) := by decide +kernel
theorem dX10_reads_105 : decode cX10_reads 105 = .ok (.iaload, 1) := by decide +kernel
theorem dX10_reads_106 : decode cX10_reads 106 = .ok (.ifCond .ne 9, 3) := by decide +kernel
theorem dX10_reads_109 : decode cX10_reads 109 = .ok (.aload_n 0, 1) := by decide +kernel
theorem dX10_reads_110 : decode cX10_reads 110 = .ok (.iconst 1, 1) := by decide +kernel
theorem dX10_reads_111 : decode cX10_reads 111 = .ok (.invokevirtual 120, 3) := by decide +kernel
theorem dX10_reads_114 : decode cX10_reads 114 = .ok (.ireturn, 1) := by decide +kernel
theorem dX10_reads_115 : decode cX10_reads 115 = .ok (.aload_n 0, 1) := by decide +kernel
theorem dX10_reads_116 : decode cX10_reads 116 = .ok (.bipush 116, 2) := by decide +kernel
theorem dX10_reads_118 : decode cX10_reads 118 = .ok (.invokevirtual 146, 3) := by decide +kernel
theorem dX10_reads_121 : decode cX10_reads 121 = .ok (.ifCond .eq 12, 3) := by decide +kernel
theorem dX10_reads_124 : decode cX10_reads 124 = .ok (.aload_n 0, 1) := by decide +kernel
theorem dX10_reads_125 : decode cX10_reads 125 = .ok (.invokevirtual 152, 3) := by decide +kernel
theorem dX10_reads_128 : decode cX10_reads 128 = .ok (.ifCond .ne (-13), 3) := by decide +kernel
theorem dX10_reads_131 : decode cX10_reads 131 = .ok (.iconst 0, 1) := by decide +kernel
theorem dX10_reads_132 : decode cX10_reads 132 = .ok (.ireturn, 1) := by decide +kernel
theorem dX10_reads_133 : decode cX10_reads 133 = .ok (.aload_n 0, 1) := by decide +kernel
theorem dX10_reads_134 : decode cX10_reads 134 = .ok (.getfield 31, 3) := by decide +kernel
theorem dX10_reads_137 : decode cX10_reads 137 = .ok (.iconst 4, 1) := by decide +kernel
theorem dX10_reads_138 : decode cX10_reads 138 = .ok (.iaload, 1) := by decide +kernel
theorem dX10_reads_139 : decode cX10_reads 139 = .ok (.ifCond .ne 9, 3) := by decide +kernel
theorem dX10_reads_142 : decode cX10_reads 142 = .ok (.aload_n 0, 1) := by decide +kernel
theorem dX10_reads_143 : decode cX10_reads 143 = .ok (.iconst 1, 1) := by decide +kernel
theorem dX10_reads_144 : decode cX10_reads 144 = .ok (.invokevirtual 120, 3) := by decide +kernel
theorem dX10_reads_147 : decode cX10_reads 147 = .ok (.ireturn, 1) := by decide +kernel
theorem dX10_reads_148 : decode cX10_reads 148 = .ok (.aload_n 0, 1) := by decide +kernel
theorem dX10_reads_149 : decode cX10_reads 149 = .ok (.bipush 104, 2) := by decide +kernel
theorem dX10_reads_151 : decode cX10_reads 151 = .ok (.invokevirtual 146, 3) := by decide +kernel
theorem dX10_reads_154 : decode cX10_reads 154 = .ok (.ifCond .eq 12, 3) := by decide +kernel
theorem dX10_reads_157 : decode cX10_reads 157 = .ok (.aload_n 0, 1) := by decide +kernel
theorem dX10_reads_158 : decode cX10_reads 158 = .ok (.invokevirtual 155, 3) := by decide +kernel
theorem dX10_reads_161 : decode cX10_reads 161 = .ok (.ifCond .ne (-13), 3) := by decide +kernel
theorem dX10_reads_164 : decode cX10_reads 164 = .ok (.iconst 0, 1) := by decide +kernel
theorem dX10_reads_165 : decode cX10_reads 165 = .ok (.ireturn, 1) := by decide +kernel
theorem dX10_reads_166 : decode cX10_reads 166 = .ok (.aload_n 0, 1) := by decide +kernel
theorem dX10_reads_167 : decode cX10_reads 167 = .ok (.getfield 31, 3) := by decide +kernel
theorem dX10_reads_170 : decode cX10_reads 170 = .ok (.iconst 0, 1) := by decide +kernel
theorem dX10_reads_171 : decode cX10_reads 171 = .ok (.iconst 1, 1) := by decide +kernel
theorem dX10_reads_172 : decode cX10_reads 172 = .ok (.iastore, 1) := by decide +kernel
theorem dX10_reads_173 : decode cX10_reads 173 = .ok (.aload_n 0, 1) := by decide +kernel
theorem dX10_reads_174 : decode cX10_reads 174 = .ok (.getfield 103, 3) := by decide +kernel
theorem dX10_reads_177 : decode cX10_reads 177 = .ok (.ifCond .eq 11, 3) := by decide +kernel
theorem dX10_reads_180 : decode cX10_reads 180 = .ok (.aload_n 0, 1) := by decide +kernel
theorem dX10_reads_181 : decode cX10_reads 181 = .ok (.iconst 1, 1) := by decide +kernel
theorem dX10_reads_182 : decode cX10_reads 182 = .ok (.invokevirtual 120, 3) := by decide +kernel
theorem dX10_reads_185 : decode cX10_reads 185 = .ok (.ifCond .eq 7, 3) := by decide +kernel
theorem dX10_reads_188 : decode cX10_reads 188 = .ok (.iconst 1, 1) := by decide +kernel
theorem dX10_reads_189 : decode cX10_reads 189 = .ok (.goto 4, 3) := by decide +kernel
theorem dX10_reads_192 : decode cX10_reads 192 = .ok (.iconst 0, 1) := by decide +kernel
theorem dX10_reads_193 : decode cX10_reads 193 = .ok (.ireturn, 1) := by decide +kernel
theorem dX10_sea_0 : decode cX10_sea 0 = .ok (.aload_n 0, 1) := by decide +kernel
theorem dX10_sea_1 : decode cX10_sea 1 = .ok (.invokevirtual 158, 3) := by decide +kernel
theorem dX10_sea_4 : decode cX10_sea 4 = .ok (.istore_n 1, 1) := by decide +kernel
theorem dX10_sea_5 : decode cX10_sea 5 = .ok (.aload_n 0, 1) := by decide +kernel
theorem dX10_sea_6 : decode cX10_sea 6 = .ok (.iconst 0, 1) := by decide +kernel
theorem dX10_sea_7 : decode cX10_sea 7 = .ok (.putfield 89, 3) := by decide +kernel
theorem dX10_sea_10 : decode cX10_sea 10 = .ok (.iload_n 1, 1) := by decide +kernel
theorem dX10_sea_11 : decode cX10_sea 11 = .ok (.ifCond .ne 19, 3) := by decide +kernel
theorem dX10_sea_14 : decode cX10_sea 14 = .ok (.aload_n 0, 1) := by decide +kernel
theorem dX10_sea_15 : decode cX10_sea 15 = .ok (.aload_n 0, 1) := by decide +kernel
theorem dX10_sea_16 : decode cX10_sea 16 = .ok (.getfield 117, 3) := by decide +kernel
theorem dX10_sea_19 : decode cX10_sea 19 = .ok (.putfield 161, 3) := by decide +kernel
theorem dX10_sea_22 : decode cX10_sea 22 = .ok (.ldc 164, 2) := by decide +kernel
theorem dX10_sea_24 : decode cX10_sea 24 = .ok (.aload_n 0, 1) := by decide +kernel
theorem dX10_sea_25 : decode cX10_sea 25 = .ok (.getfield 100, 3) := by decide +kernel
theorem dX10_sea_28 : decode cX10_sea 28 = .ok (.isub, 1) := by decide +kernel
theorem dX10_sea_29 : decode cX10_sea 29 = .ok (.ireturn, 1) := by decide +kernel
theorem dX10_sea_30 : decode cX10_sea 30 = .ok (.iconst 0, 1) := by decide +kernel
theorem dX10_sea_31 : decode cX10_sea 31 = .ok (.istore_n 2, 1) := by decide +kernel
theorem dX10_sea_32 : decode cX10_sea 32 = .ok (.iload_n 2, 1) := by decide +kernel
theorem dX10_sea_33 : decode cX10_sea 33 = .ok (.bipush 55, 2) := by decide +kernel
theorem dX10_sea_35 : decode cX10_sea 35 = .ok (.if_icmp .ge 21, 3) := by decide +kernel
theorem dX10_sea_38 : decode cX10_sea 38 = .ok (.aload_n 0, 1) := by decide +kernel
theorem dX10_sea_39 : decode cX10_sea 39 = .ok (.getfield 25, 3) := by decide +kernel
theorem dX10_sea_42 : decode cX10_sea 42 = .ok (.iload_n 2, 1) := by decide +kernel
theorem dX10_sea_43 : decode cX10_sea 43 = .ok (.aload_n 0, 1) := by decide +kernel
theorem dX10_sea_44 : decode cX10_sea 44 = .ok (.getfield 31, 3) := by decide +kernel
theorem dX10_sea_47 : decode cX10_sea 47 = .ok (.iload_n 2, 1) := by decide +kernel
theorem dX10_sea_48 : decode cX10_sea 48 = .ok (.iaload, 1) := by decide +kernel
theorem dX10_sea_49 : decode cX10_sea 49 = .ok (.iastore, 1) := by decide +kernel
theorem dX10_sea_50 : decode cX10_sea 50 = .ok (.iinc 2 1, 3) := by decide +kernel
theorem dX10_sea_53 : decode cX10_sea 53 = .ok (.goto (-21), 3) := by decide +kernel
theorem dX10_sea_56 : decode cX10_sea 56 = .ok (.iconst 0, 1) := by decide +kernel
theorem dX10_sea_57 : decode cX10_sea 57 = .ok (.istore_n 2, 1) := by decide +kernel
theorem dX10_sea_58 : decode cX10_sea 58 = .ok (.iload_n 2, 1) := by decide +kernel
theorem dX10_sea_59 : decode cX10_sea 59 = .ok (.bipush 29, 2) := by decide +kernel
theorem dX10_sea_61 : decode cX10_sea 61 = .ok (.if_icmp .ge 16, 3) := by decide +kernel
theorem dX10_sea_64 : decode cX10_sea 64 = .ok (.aload_n 0, 1) := by decide +kernel
theorem dX10_sea_65 : decode cX10_sea 65 = .ok (.getfield 28, 3) := by decide +kernel
theorem dX10_sea_68 : decode cX10_sea 68 = .ok (.iload_n 2, 1) := by decide +kernel
theorem dX10_sea_69 : decode cX10_sea 69 = .ok (.iconst 0, 1) := by decide +kernel
theorem dX10_sea_70 : decode cX10_sea 70 = .ok (.iastore, 1) := by decide +kernel
theorem dX10_sea_71 : decode cX10_sea 71 = .ok (.iinc 2 1, 3) := by decide +kernel
theorem dX10_sea_74 : decode cX10_sea 74 = .ok (.goto (-16), 3) := by decide +kernel
theorem dX10_sea_77 : decode cX10_sea 77 = .ok (.aload_n 0, 1) := by decide +kernel
theorem dX10_sea_78 : decode cX10_sea 78 = .ok (.getfield 28, 3) := by decide +kernel
theorem dX10_sea_81 : decode cX10_sea 81 = .ok (.iconst 1, 1) := by decide +kernel
theorem dX10_sea_82 : decode cX10_sea 82 = .ok (.bipush 9, 2) := by decide +kernel
theorem dX10_sea_84 : decode cX10_sea 84 = .ok (.iastore, 1) := by decide +kernel
theorem dX10_sea_85 : decode cX10_sea 85 = .ok (.iconst 0, 1) := by decide +kernel
theorem dX10_sea_86 : decode cX10_sea 86 = .ok (.istore_n 2, 1) := by decide +kernel
theorem dX10_sea_87 : decode cX10_sea 87 = .ok (.iload_n 2, 1) := by decide +kernel
theorem dX10_sea_88 : decode cX10_sea 88 = .ok (.iconst 3, 1) := by decide +kernel
theorem dX10_sea_89 : decode cX10_sea 89 = .ok (.if_icmp .ge 37, 3) := by decide +kernel
theorem dX10_sea_92 : decode cX10_sea 92 = .ok (.aload_n 0, 1) := by decide +kernel
theorem dX10_sea_93 : decode cX10_sea 93 = .ok (.getfield 28, 3) := by decide +kernel
theorem dX10_sea_96 : decode cX10_sea 96 = .ok (.iconst 2, 1) := by decide +kernel
theorem dX10_sea_97 : decode cX10_sea 97 = .ok (.iload_n 2, 1) := by decide +kernel
theorem dX10_sea_98 : decode cX10_sea 98 = .ok (.iadd, 1) := by decide +kernel
theorem dX10_sea_99 : decode cX10_sea 99 = .ok (.iload_n 2, 1) := by decide +kernel
theorem dX10_sea_100 : decode cX10_sea 100 = .ok (.aload_n 0, 1) := by decide +kernel
theorem dX10_sea_101 : decode cX10_sea 101 = .ok (.getfield 25, 3) := by decide +kernel
theorem dX10_sea_104 : decode cX10_sea 104 = .ok (.iconst 4, 1) := by decide +kernel
theorem dX10_sea_105 : decode cX10_sea 105 = .ok (.iaload, 1) := by decide +kernel
theorem dX10_sea_106 : decode cX10_sea 106 = .ok (.if_icmp .ge 12, 3) := by decide +kernel
theorem dX10_sea_109 : decode cX10_sea 109 = .ok (.aload_n 0, 1) := by decide +kernel
theorem dX10_sea_110 : decode cX10_sea 110 = .ok (.getfield 44, 3) := by decide +kernel
theorem dX10_sea_113 : decode cX10_sea 113 = .ok (.iload_n 2, 1) := by decide +kernel
theorem dX10_sea_114 : decode cX10_sea 114 = .ok (.iaload, 1) := by decide +kernel
theorem dX10_sea_115 : decode cX10_sea 115 = .ok (.goto 4, 3) := by decide +kernel
theorem dX10_sea_118 : decode cX10_sea 118 = .ok (.iconst 0, 1) := by decide +kernel
theorem dX10_sea_119 : decode cX10_sea 119 = .ok (.iastore, 1) := by decide +kernel
theorem dX10_sea_120 : decode cX10_sea 120 = .ok (.iinc 2 1, 3) := by decide +kernel
theorem dX10_sea_123 : decode cX10_sea 123 = .ok (.goto (-36), 3) := by decide +kernel
theorem dX10_sea_126 : decode cX10_sea 126 = .ok (.iconst 0, 1) := by decide +kernel
theorem dX10_sea_127 : decode cX10_sea 127 = .ok (.istore_n 2, 1) := by decide +kernel
theorem dX10_sea_128 : decode cX10_sea 128 = .ok (.iload_n 2, 1) := by decide +kernel
theorem dX10_sea_129 : decode cX10_sea 129 = .ok (.aload_n 0, 1) := by decide +kernel
theorem dX10_sea_130 : decode cX10_sea 130 = .ok (.getfield 25, 3) := by decide +kernel
theorem dX10_sea_133 : decode cX10_sea 133 = .ok (.iconst 5, 1) := by decide +kernel
theorem dX10_sea_134 : decode cX10_sea 134 = .ok (.iaload, 1) := by decide +kernel
theorem dX10_sea_135 : decode cX10_sea 135 = .ok (.if_icmp .ge 44, 3) := by decide +kernel
theorem dX10_sea_138 : decode cX10_sea 138 = .ok (.aload_n 0, 1) := by decide +kernel
theorem dX10_sea_139 : decode cX10_sea 139 = .ok (.getfield 28, 3) := by decide +kernel
theorem dX10_sea_142 : decode cX10_sea 142 = .ok (.iconst 5, 1) := by decide +kernel
theorem dX10_sea_143 : decode cX10_sea 143 = .ok (.iload_n 2, 1) := by decide +kernel
theorem dX10_sea_144 : decode cX10_sea 144 = .ok (.iadd, 1) := by decide +kernel
theorem dX10_sea_145 : decode cX10_sea 145 = .ok (.iload_n 2, 1) := by decide +kernel
theorem dX10_sea_146 : decode cX10_sea 146 = .ok (.iastore, 1) := by decide +kernel
theorem dX10_sea_147 : decode cX10_sea 147 = .ok (.aload_n 0, 1) := by decide +kernel
theorem dX10_sea_148 : decode cX10_sea 148 = .ok (.getfield 28, 3) := by decide +kernel
theorem dX10_sea_151 : decode cX10_sea 151 = .ok (.bipush 11, 2) := by decide +kernel
theorem dX10_sea_153 : decode cX10_sea 153 = .ok (.iload_n 2, 1) := by decide +kernel
theorem dX10_sea_154 : decode cX10_sea 154 = .ok (.iadd, 1) := by decide +kernel
theorem dX10_sea_155 : decode cX10_sea 155 = .ok (.aload_n 0, 1) := by decide +kernel
theorem dX10_sea_156 : decode cX10_sea 156 = .ok (.getfield 47, 3) := by decide +kernel
theorem dX10_sea_159 : decode cX10_sea 159 = .ok (.iload_n 2, 1) := by decide +kernel
theorem dX10_sea_160 : decode cX10_sea 160 = .ok (.iaload, 1) := by decide +kernel
theorem dX10_sea_161 : decode cX10_sea 161 = .ok (.iastore, 1) := by decide +kernel
theorem dX10_sea_162 : decode cX10_sea 162 = .ok (.aload_n 0, 1) := by decide +kernel
theorem dX10_sea_163 : decode cX10_sea 163 = .ok (.getfield 28, 3) := by decide +kernel
theorem dX10_sea_166 : decode cX10_sea 166 = .ok (.bipush 23, 2) := by decide +kernel
theorem dX10_sea_168 : decode cX10_sea 168 = .ok (.iload_n 2, 1) := by decide +kernel
theorem dX10_sea_169 : decode cX10_sea 169 = .ok (.iadd, 1) := by decide +kernel
theorem dX10_sea_170 : decode cX10_sea 170 = .ok (.ldc 165, 2) := by decide +kernel
theorem dX10_sea_172 : decode cX10_sea 172 = .ok (.iastore, 1) := by decide +kernel
theorem dX10_sea_173 : decode cX10_sea 173 = .ok (.iinc 2 1, 3) := by decide +kernel
theorem dX10_sea_176 : decode cX10_sea 176 = .ok (.goto (-48), 3) := by decide +kernel
theorem dX10_sea_179 : decode cX10_sea 179 = .ok (.aload_n 0, 1) := by decide +kernel
theorem dX10_sea_180 : decode cX10_sea 180 = .ok (.iconst 0, 1) := by decide +kernel
theorem dX10_sea_181 : decode cX10_sea 181 = .ok (.putfield 166, 3) := by decide +kernel
theorem dX10_sea_184 : decode cX10_sea 184 = .ok (.aload_n 0, 1) := by decide +kernel
theorem dX10_sea_185 : decode cX10_sea 185 = .ok (.getfield 25, 3) := by decide +kernel
theorem dX10_sea_188 : decode cX10_sea 188 = .ok (.iconst 3, 1) := by decide +kernel
theorem dX10_sea_189 : decode cX10_sea 189 = .ok (.iaload, 1) := by decide +kernel
theorem dX10_sea_190 : decode cX10_sea 190 = .ok (.ireturn, 1) := by decide +kernel
theorem dX10_fault_0 : decode cX10_fault 0 = .ok (.aload_n 0, 1) := by decide +kernel
theorem dX10_fault_1 : decode cX10_fault 1 = .ok (.getfield 161, 3) := by decide +kernel
theorem dX10_fault_4 : decode cX10_fault 4 = .ok (.ireturn, 1) := by decide +kernel
theorem dX10_isSea_0 : decode cX10_isSea 0 = .ok (.aload_n 0, 1) := by decide +kernel
theorem dX10_isSea_1 : decode cX10_isSea 1 = .ok (.getfield 25, 3) := by decide +kernel
theorem dX10_isSea_4 : decode cX10_isSea 4 = .ok (.iconst 0, 1) := by decide +kernel
theorem dX10_isSea_5 : decode cX10_isSea 5 = .ok (.iaload, 1) := by decide +kernel
theorem dX10_isSea_6 : decode cX10_isSea 6 = .ok (.iconst 1, 1) := by decide +kernel
theorem dX10_isSea_7 : decode cX10_isSea 7 = .ok (.if_icmp .ne 7, 3) := by decide +kernel
theorem dX10_isSea_10 : decode cX10_isSea 10 = .ok (.iconst 1, 1) := by decide +kernel
theorem dX10_isSea_11 : decode cX10_isSea 11 = .ok (.goto 4, 3) := by decide +kernel
theorem dX10_isSea_14 : decode cX10_isSea 14 = .ok (.iconst 0, 1) := by decide +kernel
theorem dX10_isSea_15 : decode cX10_isSea 15 = .ok (.ireturn, 1) := by decide +kernel
theorem dX10_isShip_0 : decode cX10_isShip 0 = .ok (.iload_n 1, 1) := by decide +kernel
theorem dX10_isShip_1 : decode cX10_isShip 1 = .ok (.i2l, 1) := by decide +kernel
theorem dX10_isShip_2 : decode cX10_isShip 2 = .ok (.lconst 0, 1) := by decide +kernel
theorem dX10_isShip_3 : decode cX10_isShip 3 = .ok (.aload_n 0, 1) := by decide +kernel
theorem dX10_isShip_4 : decode cX10_isShip 4 = .ok (.getfield 25, 3) := by decide +kernel
theorem dX10_isShip_7 : decode cX10_isShip 7 = .ok (.iconst 5, 1) := by decide +kernel
theorem dX10_isShip_8 : decode cX10_isShip 8 = .ok (.iaload, 1) := by decide +kernel
theorem dX10_isShip_9 : decode cX10_isShip 9 = .ok (.iconst 1, 1) := by decide +kernel
theorem dX10_isShip_10 : decode cX10_isShip 10 = .ok (.isub, 1) := by decide +kernel
theorem dX10_isShip_11 : decode cX10_isShip 11 = .ok (.i2l, 1) := by decide +kernel
theorem dX10_isShip_12 : decode cX10_isShip 12 = .ok (.invokestatic 64, 3) := by decide +kernel
theorem dX10_isShip_15 : decode cX10_isShip 15 = .ok (.ireturn, 1) := by decide +kernel
theorem dX10_isTower_0 : decode cX10_isTower 0 = .ok (.iload_n 1, 1) := by decide +kernel
theorem dX10_isTower_1 : decode cX10_isTower 1 = .ok (.i2l, 1) := by decide +kernel
theorem dX10_isTower_2 : decode cX10_isTower 2 = .ok (.lconst 0, 1) := by decide +kernel
theorem dX10_isTower_3 : decode cX10_isTower 3 = .ok (.aload_n 0, 1) := by decide +kernel
theorem dX10_isTower_4 : decode cX10_isTower 4 = .ok (.getfield 25, 3) := by decide +kernel
theorem dX10_isTower_7 : decode cX10_isTower 7 = .ok (.iconst 4, 1) := by decide +kernel
theorem dX10_isTower_8 : decode cX10_isTower 8 = .ok (.iaload, 1) := by decide +kernel
theorem dX10_isTower_9 : decode cX10_isTower 9 = .ok (.iconst 1, 1) := by decide +kernel
theorem dX10_isTower_10 : decode cX10_isTower 10 = .ok (.isub, 1) := by decide +kernel
theorem dX10_isTower_11 : decode cX10_isTower 11 = .ok (.i2l, 1) := by decide +kernel
theorem dX10_isTower_12 : decode cX10_isTower 12 = .ok (.invokestatic 64, 3) := by decide +kernel
theorem dX10_isTower_15 : decode cX10_isTower 15 = .ok (.ireturn, 1) := by decide +kernel
theorem dX10_lift_0 : decode cX10_lift 0 = .ok (.iload_n 0, 1) := by decide +kernel
theorem dX10_lift_1 : decode cX10_lift 1 = .ok (.iconst 1, 1) := by decide +kernel
theorem dX10_lift_2 : decode cX10_lift 2 = .ok (.if_icmp .ne 7, 3) := by decide +kernel
theorem dX10_lift_5 : decode cX10_lift 5 = .ok (.iload_n 1, 1) := by decide +kernel
theorem dX10_lift_6 : decode cX10_lift 6 = .ok (.goto 41, 3) := by decide +kernel
theorem dX10_lift_9 : decode cX10_lift 9 = .ok (.iload_n 0, 1) := by decide +kernel
theorem dX10_lift_10 : decode cX10_lift 10 = .ok (.iconst 2, 1) := by decide +kernel
theorem dX10_lift_11 : decode cX10_lift 11 = .ok (.if_icmp .ne 9, 3) := by decide +kernel
theorem dX10_lift_14 : decode cX10_lift 14 = .ok (.iload_n 1, 1) := by decide +kernel
theorem dX10_lift_15 : decode cX10_lift 15 = .ok (.iconst 2, 1) := by decide +kernel
theorem dX10_lift_16 : decode cX10_lift 16 = .ok (.idiv, 1) := by decide +kernel
theorem dX10_lift_17 : decode cX10_lift 17 = .ok (.goto 30, 3) := by decide +kernel
theorem dX10_lift_20 : decode cX10_lift 20 = .ok (.iload_n 0, 1) := by decide +kernel
theorem dX10_lift_21 : decode cX10_lift 21 = .ok (.iconst 3, 1) := by decide +kernel
theorem dX10_lift_22 : decode cX10_lift 22 = .ok (.if_icmp .ne 9, 3) := by decide +kernel
theorem dX10_lift_25 : decode cX10_lift 25 = .ok (.iconst 2, 1) := by decide +kernel
theorem dX10_lift_26 : decode cX10_lift 26 = .ok (.iload_n 1, 1) := by decide +kernel
theorem dX10_lift_27 : decode cX10_lift 27 = .ok (.imul, 1) := by decide +kernel
theorem dX10_lift_28 : decode cX10_lift 28 = .ok (.goto 19, 3) := by decide +kernel
theorem dX10_lift_31 : decode cX10_lift 31 = .ok (.iload_n 0, 1) := by decide +kernel
theorem dX10_lift_32 : decode cX10_lift 32 = .ok (.iconst 4, 1) := by decide +kernel
theorem dX10_lift_33 : decode cX10_lift 33 = .ok (.if_icmp .ne 7, 3) := by decide +kernel
theorem dX10_lift_36 : decode cX10_lift 36 = .ok (.iconst 0, 1) := by decide +kernel
theorem dX10_lift_37 : decode cX10_lift 37 = .ok (.goto 10, 3) := by decide +kernel
theorem dX10_lift_40 : decode cX10_lift 40 = .ok (.iconst 0, 1) := by decide +kernel
theorem dX10_lift_41 : decode cX10_lift 41 = .ok (.iload_n 1, 1) := by decide +kernel
theorem dX10_lift_42 : decode cX10_lift 42 = .ok (.iconst 5, 1) := by decide +kernel
theorem dX10_lift_43 : decode cX10_lift 43 = .ok (.isub, 1) := by decide +kernel
theorem dX10_lift_44 : decode cX10_lift 44 = .ok (.invokestatic 169, 3) := by decide +kernel
theorem dX10_lift_47 : decode cX10_lift 47 = .ok (.ireturn, 1) := by decide +kernel
theorem dX10_water_0 : decode cX10_water 0 = .ok (.iconst 0, 1) := by decide +kernel
theorem dX10_water_1 : decode cX10_water 1 = .ok (.aload_n 0, 1) := by decide +kernel
theorem dX10_water_2 : decode cX10_water 2 = .ok (.getfield 25, 3) := by decide +kernel
theorem dX10_water_5 : decode cX10_water 5 = .ok (.iconst 1, 1) := by decide +kernel
theorem dX10_water_6 : decode cX10_water 6 = .ok (.iaload, 1) := by decide +kernel
theorem dX10_water_7 : decode cX10_water 7 = .ok (.aload_n 0, 1) := by decide +kernel
theorem dX10_water_8 : decode cX10_water 8 = .ok (.getfield 25, 3) := by decide +kernel
theorem dX10_water_11 : decode cX10_water 11 = .ok (.iconst 2, 1) := by decide +kernel
theorem dX10_water_12 : decode cX10_water 12 = .ok (.iaload, 1) := by decide +kernel
theorem dX10_water_13 : decode cX10_water 13 = .ok (.iload_n 1, 1) := by decide +kernel
theorem dX10_water_14 : decode cX10_water 14 = .ok (.imul, 1) := by decide +kernel
theorem dX10_water_15 : decode cX10_water 15 = .ok (.bipush 10, 2) := by decide +kernel
theorem dX10_water_17 : decode cX10_water 17 = .ok (.idiv, 1) := by decide +kernel
theorem dX10_water_18 : decode cX10_water 18 = .ok (.isub, 1) := by decide +kernel
theorem dX10_water_19 : decode cX10_water 19 = .ok (.invokestatic 169, 3) := by decide +kernel
theorem dX10_water_22 : decode cX10_water 22 = .ok (.iload_n 2, 1) := by decide +kernel
theorem dX10_water_23 : decode cX10_water 23 = .ok (.iload_n 3, 1) := by decide +kernel
theorem dX10_water_24 : decode cX10_water 24 = .ok (.invokestatic 173, 3) := by decide +kernel
theorem dX10_water_27 : decode cX10_water 27 = .ok (.iadd, 1) := by decide +kernel
theorem dX10_water_28 : decode cX10_water 28 = .ok (.ireturn, 1) := by decide +kernel
theorem dX10_sortIn_0 : decode cX10_sortIn 0 = .ok (.aload_n 0, 1) := by decide +kernel
theorem dX10_sortIn_1 : decode cX10_sortIn 1 = .ok (.getfield 25, 3) := by decide +kernel
theorem dX10_sortIn_4 : decode cX10_sortIn 4 = .ok (.bipush 6, 2) := by decide +kernel
theorem dX10_sortIn_6 : decode cX10_sortIn 6 = .ok (.iload_n 1, 1) := by decide +kernel
theorem dX10_sortIn_7 : decode cX10_sortIn 7 = .ok (.aload_n 0, 1) := by decide +kernel
theorem dX10_sortIn_8 : decode cX10_sortIn 8 = .ok (.getfield 25, 3) := by decide +kernel
theorem dX10_sortIn_11 : decode cX10_sortIn 11 = .ok (.iconst 3, 1) := by decide +kernel
theorem dX10_sortIn_12 : decode cX10_sortIn 12 = .ok (.iaload, 1) := by decide +kernel
theorem dX10_sortIn_13 : decode cX10_sortIn 13 = .ok (.irem, 1) := by decide +kernel
theorem dX10_sortIn_14 : decode cX10_sortIn 14 = .ok (.iadd, 1) := by decide +kernel
theorem dX10_sortIn_15 : decode cX10_sortIn 15 = .ok (.iaload, 1) := by decide +kernel
theorem dX10_sortIn_16 : decode cX10_sortIn 16 = .ok (.ireturn, 1) := by decide +kernel
theorem dX10_heightIn_0 : decode cX10_heightIn 0 = .ok (.aload_n 0, 1) := by decide +kernel
theorem dX10_heightIn_1 : decode cX10_heightIn 1 = .ok (.getfield 25, 3) := by decide +kernel
theorem dX10_heightIn_4 : decode cX10_heightIn 4 = .ok (.bipush 26, 2) := by decide +kernel
theorem dX10_heightIn_6 : decode cX10_heightIn 6 = .ok (.iload_n 1, 1) := by decide +kernel
theorem dX10_heightIn_7 : decode cX10_heightIn 7 = .ok (.aload_n 0, 1) := by decide +kernel
theorem dX10_heightIn_8 : decode cX10_heightIn 8 = .ok (.getfield 25, 3) := by decide +kernel
theorem dX10_heightIn_11 : decode cX10_heightIn 11 = .ok (.iconst 3, 1) := by decide +kernel
theorem dX10_heightIn_12 : decode cX10_heightIn 12 = .ok (.iaload, 1) := by decide +kernel
theorem dX10_heightIn_13 : decode cX10_heightIn 13 = .ok (.irem, 1) := by decide +kernel
theorem dX10_heightIn_14 : decode cX10_heightIn 14 = .ok (.iadd, 1) := by decide +kernel
theorem dX10_heightIn_15 : decode cX10_heightIn 15 = .ok (.iaload, 1) := by decide +kernel
theorem dX10_heightIn_16 : decode cX10_heightIn 16 = .ok (.ireturn, 1) := by decide +kernel
theorem dX10_waterIn_0 : decode cX10_waterIn 0 = .ok (.aload_n 0, 1) := by decide +kernel
theorem dX10_waterIn_1 : decode cX10_waterIn 1 = .ok (.iload_n 1, 1) := by decide +kernel
theorem dX10_waterIn_2 : decode cX10_waterIn 2 = .ok (.aload_n 0, 1) := by decide +kernel
theorem dX10_waterIn_3 : decode cX10_waterIn 3 = .ok (.iload_n 1, 1) := by decide +kernel
theorem dX10_waterIn_4 : decode cX10_waterIn 4 = .ok (.invokevirtual 176, 3) := by decide +kernel
theorem dX10_waterIn_7 : decode cX10_waterIn 7 = .ok (.aload_n 0, 1) := by decide +kernel
theorem dX10_waterIn_8 : decode cX10_waterIn 8 = .ok (.iload_n 1, 1) := by decide +kernel
theorem dX10_waterIn_9 : decode cX10_waterIn 9 = .ok (.invokevirtual 179, 3) := by decide +kernel
theorem dX10_waterIn_12 : decode cX10_waterIn 12 = .ok (.invokevirtual 182, 3) := by decide +kernel
theorem dX10_waterIn_15 : decode cX10_waterIn 15 = .ok (.ireturn, 1) := by decide +kernel
theorem dX10_counted_0 : decode cX10_counted 0 = .ok (.iload_n 1, 1) := by decide +kernel
theorem dX10_counted_1 : decode cX10_counted 1 = .ok (.iconst 2, 1) := by decide +kernel
theorem dX10_counted_2 : decode cX10_counted 2 = .ok (.if_icmp .ne 11, 3) := by decide +kernel
theorem dX10_counted_5 : decode cX10_counted 5 = .ok (.iconst 1, 1) := by decide +kernel
theorem dX10_counted_6 : decode cX10_counted 6 = .ok (.iload_n 0, 1) := by decide +kernel
theorem dX10_counted_7 : decode cX10_counted 7 = .ok (.iconst 1, 1) := by decide +kernel
theorem dX10_counted_8 : decode cX10_counted 8 = .ok (.iand, 1) := by decide +kernel
theorem dX10_counted_9 : decode cX10_counted 9 = .ok (.iadd, 1) := by decide +kernel
theorem dX10_counted_10 : decode cX10_counted 10 = .ok (.goto 30, 3) := by decide +kernel
theorem dX10_counted_13 : decode cX10_counted 13 = .ok (.iload_n 1, 1) := by decide +kernel
theorem dX10_counted_14 : decode cX10_counted 14 = .ok (.iconst 4, 1) := by decide +kernel
theorem dX10_counted_15 : decode cX10_counted 15 = .ok (.if_icmp .ne 11, 3) := by decide +kernel
theorem dX10_counted_18 : decode cX10_counted 18 = .ok (.iload_n 0, 1) := by decide +kernel
theorem dX10_counted_19 : decode cX10_counted 19 = .ok (.iconst 1, 1) := by decide +kernel
theorem dX10_counted_20 : decode cX10_counted 20 = .ok (.ishr, 1) := by decide +kernel
theorem dX10_counted_21 : decode cX10_counted 21 = .ok (.iconst 1, 1) := by decide +kernel
theorem dX10_counted_22 : decode cX10_counted 22 = .ok (.iand, 1) := by decide +kernel
theorem dX10_counted_23 : decode cX10_counted 23 = .ok (.goto 17, 3) := by decide +kernel
theorem dX10_counted_26 : decode cX10_counted 26 = .ok (.iload_n 1, 1) := by decide +kernel
theorem dX10_counted_27 : decode cX10_counted 27 = .ok (.iconst 5, 1) := by decide +kernel
theorem dX10_counted_28 : decode cX10_counted 28 = .ok (.if_icmp .ne 11, 3) := by decide +kernel
theorem dX10_counted_31 : decode cX10_counted 31 = .ok (.iload_n 0, 1) := by decide +kernel
theorem dX10_counted_32 : decode cX10_counted 32 = .ok (.iconst 2, 1) := by decide +kernel
theorem dX10_counted_33 : decode cX10_counted 33 = .ok (.ishr, 1) := by decide +kernel
theorem dX10_counted_34 : decode cX10_counted 34 = .ok (.iconst 1, 1) := by decide +kernel
theorem dX10_counted_35 : decode cX10_counted 35 = .ok (.iand, 1) := by decide +kernel
theorem dX10_counted_36 : decode cX10_counted 36 = .ok (.goto 4, 3) := by decide +kernel
theorem dX10_counted_39 : decode cX10_counted 39 = .ok (.iconst 1, 1) := by decide +kernel
theorem dX10_counted_40 : decode cX10_counted 40 = .ok (.ireturn, 1) := by decide +kernel
theorem dX10_isCalled_0 : decode cX10_isCalled 0 = .ok (.iload_n 0, 1) := by decide +kernel
theorem dX10_isCalled_1 : decode cX10_isCalled 1 = .ok (.iload_n 1, 1) := by decide +kernel
theorem dX10_isCalled_2 : decode cX10_isCalled 2 = .ok (.iadd, 1) := by decide +kernel
theorem dX10_isCalled_3 : decode cX10_isCalled 3 = .ok (.iload_n 2, 1) := by decide +kernel
theorem dX10_isCalled_4 : decode cX10_isCalled 4 = .ok (.idiv, 1) := by decide +kernel
theorem dX10_isCalled_5 : decode cX10_isCalled 5 = .ok (.iload_n 0, 1) := by decide +kernel
theorem dX10_isCalled_6 : decode cX10_isCalled 6 = .ok (.iload_n 2, 1) := by decide +kernel
theorem dX10_isCalled_7 : decode cX10_isCalled 7 = .ok (.idiv, 1) := by decide +kernel
theorem dX10_isCalled_8 : decode cX10_isCalled 8 = .ok (.if_icmp .le 7, 3) := by decide +kernel
theorem dX10_isCalled_11 : decode cX10_isCalled 11 = .ok (.iconst 1, 1) := by decide +kernel
theorem dX10_isCalled_12 : decode cX10_isCalled 12 = .ok (.goto 4, 3) := by decide +kernel
theorem dX10_isCalled_15 : decode cX10_isCalled 15 = .ok (.iconst 0, 1) := by decide +kernel
theorem dX10_isCalled_16 : decode cX10_isCalled 16 = .ok (.ireturn, 1) := by decide +kernel
theorem dX10_asNow_0 : decode cX10_asNow 0 = .ok (.iconst 0, 1) := by decide +kernel
theorem dX10_asNow_1 : decode cX10_asNow 1 = .ok (.istore_n 1, 1) := by decide +kernel
theorem dX10_asNow_2 : decode cX10_asNow 2 = .ok (.iload_n 1, 1) := by decide +kernel
theorem dX10_asNow_3 : decode cX10_asNow 3 = .ok (.bipush 29, 2) := by decide +kernel
theorem dX10_asNow_5 : decode cX10_asNow 5 = .ok (.if_icmp .ge 21, 3) := by decide +kernel
theorem dX10_asNow_8 : decode cX10_asNow 8 = .ok (.aload_n 0, 1) := by decide +kernel
theorem dX10_asNow_9 : decode cX10_asNow 9 = .ok (.getfield 50, 3) := by decide +kernel
theorem dX10_asNow_12 : decode cX10_asNow 12 = .ok (.iload_n 1, 1) := by decide +kernel
theorem dX10_asNow_13 : decode cX10_asNow 13 = .ok (.aload_n 0, 1) := by decide +kernel
theorem dX10_asNow_14 : decode cX10_asNow 14 = .ok (.getfield 28, 3) := by decide +kernel
theorem dX10_asNow_17 : decode cX10_asNow 17 = .ok (.iload_n 1, 1) := by decide +kernel
theorem dX10_asNow_18 : decode cX10_asNow 18 = .ok (.iaload, 1) := by decide +kernel
theorem dX10_asNow_19 : decode cX10_asNow 19 = .ok (.iastore, 1) := by decide +kernel
theorem dX10_asNow_20 : decode cX10_asNow 20 = .ok (.iinc 1 1, 3) := by decide +kernel
theorem dX10_asNow_23 : decode cX10_asNow 23 = .ok (.goto (-21), 3) := by decide +kernel
theorem dX10_asNow_26 : decode cX10_asNow 26 = .ok (.return_, 1) := by decide +kernel
theorem dX10_comes_0 : decode cX10_comes 0 = .ok (.aload_n 0, 1) := by decide +kernel
theorem dX10_comes_1 : decode cX10_comes 1 = .ok (.aload_n 0, 1) := by decide +kernel
theorem dX10_comes_2 : decode cX10_comes 2 = .ok (.getfield 50, 3) := by decide +kernel
theorem dX10_comes_5 : decode cX10_comes 5 = .ok (.iconst 0, 1) := by decide +kernel
theorem dX10_comes_6 : decode cX10_comes 6 = .ok (.iaload, 1) := by decide +kernel
theorem dX10_comes_7 : decode cX10_comes 7 = .ok (.iload_n 1, 1) := by decide +kernel
theorem dX10_comes_8 : decode cX10_comes 8 = .ok (.iload_n 2, 1) := by decide +kernel
theorem dX10_comes_9 : decode cX10_comes 9 = .ok (.invokevirtual 182, 3) := by decide +kernel
theorem dX10_comes_12 : decode cX10_comes 12 = .ok (.istore_n 3, 1) := by decide +kernel
theorem dX10_comes_13 : decode cX10_comes 13 = .ok (.iconst 0, 1) := by decide +kernel
theorem dX10_comes_14 : decode cX10_comes 14 = .ok (.istore 4, 2) := by decide +kernel
theorem dX10_comes_16 : decode cX10_comes 16 = .ok (.iload 4, 2) := by decide +kernel
theorem dX10_comes_18 : decode cX10_comes 18 = .ok (.aload_n 0, 1) := by decide +kernel
theorem dX10_comes_19 : decode cX10_comes 19 = .ok (.getfield 25, 3) := by decide +kernel
theorem dX10_comes_22 : decode cX10_comes 22 = .ok (.iconst 4, 1) := by decide +kernel
theorem dX10_comes_23 : decode cX10_comes 23 = .ok (.iaload, 1) := by decide +kernel
theorem dX10_comes_24 : decode cX10_comes 24 = .ok (.if_icmp .ge 188, 3) := by decide +kernel
theorem dX10_comes_27 : decode cX10_comes 27 = .ok (.aload_n 0, 1) := by decide +kernel
theorem dX10_comes_28 : decode cX10_comes 28 = .ok (.getfield 25, 3) := by decide +kernel
theorem dX10_comes_31 : decode cX10_comes 31 = .ok (.bipush 46, 2) := by decide +kernel
theorem dX10_comes_33 : decode cX10_comes 33 = .ok (.iload 4, 2) := by decide +kernel
theorem dX10_comes_35 : decode cX10_comes 35 = .ok (.iadd, 1) := by decide +kernel
theorem dX10_comes_36 : decode cX10_comes 36 = .ok (.iaload, 1) := by decide +kernel
theorem dX10_comes_37 : decode cX10_comes 37 = .ok (.iload_n 1, 1) := by decide +kernel
theorem dX10_comes_38 : decode cX10_comes 38 = .ok (.invokestatic 186, 3) := by decide +kernel
theorem dX10_comes_41 : decode cX10_comes 41 = .ok (.istore 5, 2) := by decide +kernel
theorem dX10_comes_43 : decode cX10_comes 43 = .ok (.aload_n 0, 1) := by decide +kernel
theorem dX10_comes_44 : decode cX10_comes 44 = .ok (.getfield 50, 3) := by decide +kernel
theorem dX10_comes_47 : decode cX10_comes 47 = .ok (.iconst 2, 1) := by decide +kernel
theorem dX10_comes_48 : decode cX10_comes 48 = .ok (.iload 4, 2) := by decide +kernel
theorem dX10_comes_50 : decode cX10_comes 50 = .ok (.iadd, 1) := by decide +kernel
theorem dX10_comes_51 : decode cX10_comes 51 = .ok (.iaload, 1) := by decide +kernel
theorem dX10_comes_52 : decode cX10_comes 52 = .ok (.iload 5, 2) := by decide +kernel
theorem dX10_comes_54 : decode cX10_comes 54 = .ok (.aload_n 0, 1) := by decide +kernel
theorem dX10_comes_55 : decode cX10_comes 55 = .ok (.getfield 50, 3) := by decide +kernel
theorem dX10_comes_58 : decode cX10_comes 58 = .ok (.iconst 1, 1) := by decide +kernel
theorem dX10_comes_59 : decode cX10_comes 59 = .ok (.iaload, 1) := by decide +kernel
theorem dX10_comes_60 : decode cX10_comes 60 = .ok (.invokestatic 189, 3) := by decide +kernel
theorem dX10_comes_63 : decode cX10_comes 63 = .ok (.istore 6, 2) := by decide +kernel
theorem dX10_comes_65 : decode cX10_comes 65 = .ok (.aload_n 0, 1) := by decide +kernel
theorem dX10_comes_66 : decode cX10_comes 66 = .ok (.getfield 50, 3) := by decide +kernel
theorem dX10_comes_69 : decode cX10_comes 69 = .ok (.iconst 2, 1) := by decide +kernel
theorem dX10_comes_70 : decode cX10_comes 70 = .ok (.iload 4, 2) := by decide +kernel
theorem dX10_comes_72 : decode cX10_comes 72 = .ok (.iadd, 1) := by decide +kernel
theorem dX10_comes_73 : decode cX10_comes 73 = .ok (.dup2, 1) := by decide +kernel
theorem dX10_comes_74 : decode cX10_comes 74 = .ok (.iaload, 1) := by decide +kernel
theorem dX10_comes_75 : decode cX10_comes 75 = .ok (.iload 5, 2) := by decide +kernel
theorem dX10_comes_77 : decode cX10_comes 77 = .ok (.iadd, 1) := by decide +kernel
theorem dX10_comes_78 : decode cX10_comes 78 = .ok (.iastore, 1) := by decide +kernel
theorem dX10_comes_79 : decode cX10_comes 79 = .ok (.iconst (-1), 1) := by decide +kernel
theorem dX10_comes_80 : decode cX10_comes 80 = .ok (.istore 7, 2) := by decide +kernel
theorem dX10_comes_82 : decode cX10_comes 82 = .ok (.aload_n 0, 1) := by decide +kernel
theorem dX10_comes_83 : decode cX10_comes 83 = .ok (.getfield 25, 3) := by decide +kernel
theorem dX10_comes_86 : decode cX10_comes 86 = .ok (.iconst 5, 1) := by decide +kernel
theorem dX10_comes_87 : decode cX10_comes 87 = .ok (.iaload, 1) := by decide +kernel
theorem dX10_comes_88 : decode cX10_comes 88 = .ok (.iconst 1, 1) := by decide +kernel
theorem dX10_comes_89 : decode cX10_comes 89 = .ok (.isub, 1) := by decide +kernel
theorem dX10_comes_90 : decode cX10_comes 90 = .ok (.istore 8, 2) := by decide +kernel
theorem dX10_comes_92 : decode cX10_comes 92 = .ok (.iload 8, 2) := by decide +kernel
theorem dX10_comes_94 : decode cX10_comes 94 = .ok (.ifCond .lt 57, 3) := by decide +kernel
theorem dX10_comes_97 : decode cX10_comes 97 = .ok (.aload_n 0, 1) := by decide +kernel
theorem dX10_comes_98 : decode cX10_comes 98 = .ok (.getfield 50, 3) := by decide +kernel
theorem dX10_comes_101 : decode cX10_comes 101 = .ok (.iconst 5, 1) := by decide +kernel
theorem dX10_comes_102 : decode cX10_comes 102 = .ok (.iload 8, 2) := by decide +kernel
theorem dX10_comes_104 : decode cX10_comes 104 = .ok (.iadd, 1) := by decide +kernel
theorem dX10_comes_105 : decode cX10_comes 105 = .ok (.iaload, 1) := by decide +kernel
theorem dX10_comes_106 : decode cX10_comes 106 = .ok (.istore 9, 2) := by decide +kernel
theorem dX10_comes_108 : decode cX10_comes 108 = .ok (.aload_n 0, 1) := by decide +kernel
theorem dX10_comes_109 : decode cX10_comes 109 = .ok (.getfield 50, 3) := by decide +kernel
theorem dX10_comes_112 : decode cX10_comes 112 = .ok (.bipush 17, 2) := by decide +kernel
theorem dX10_comes_114 : decode cX10_comes 114 = .ok (.iload 9, 2) := by decide +kernel
theorem dX10_comes_116 : decode cX10_comes 116 = .ok (.iadd, 1) := by decide +kernel
theorem dX10_comes_117 : decode cX10_comes 117 = .ok (.iaload, 1) := by decide +kernel
theorem dX10_comes_118 : decode cX10_comes 118 = .ok (.ifCond .ne 23, 3) := by decide +kernel
theorem dX10_comes_121 : decode cX10_comes 121 = .ok (.aload_n 0, 1) := by decide +kernel
theorem dX10_comes_122 : decode cX10_comes 122 = .ok (.getfield 50, 3) := by decide +kernel
theorem dX10_comes_125 : decode cX10_comes 125 = .ok (.bipush 11, 2) := by decide +kernel
theorem dX10_comes_127 : decode cX10_comes 127 = .ok (.iload 9, 2) := by decide +kernel
theorem dX10_comes_129 : decode cX10_comes 129 = .ok (.iadd, 1) := by decide +kernel
theorem dX10_comes_130 : decode cX10_comes 130 = .ok (.iaload, 1) := by decide +kernel
theorem dX10_comes_131 : decode cX10_comes 131 = .ok (.iload 4, 2) := by decide +kernel
theorem dX10_comes_133 : decode cX10_comes 133 = .ok (.if_icmp .ne 8, 3) := by decide +kernel
theorem dX10_comes_136 : decode cX10_comes 136 = .ok (.iload 9, 2) := by decide +kernel
theorem dX10_comes_138 : decode cX10_comes 138 = .ok (.goto 5, 3) := by decide +kernel
theorem dX10_comes_141 : decode cX10_comes 141 = .ok (.iload 7, 2) := by decide +kernel
theorem dX10_comes_143 : decode cX10_comes 143 = .ok (.istore 7, 2) := by decide +kernel
theorem dX10_comes_145 : decode cX10_comes 145 = .ok (.iinc 8 (-1), 3) := by decide +kernel
theorem dX10_comes_148 : decode cX10_comes 148 = .ok (.goto (-56), 3) := by decide +kernel
theorem dX10_comes_151 : decode cX10_comes 151 = .ok (.iload 6, 2) := by decide +kernel
theorem dX10_comes_153 : decode cX10_comes 153 = .ok (.ifCond .eq 53, 3) := by decide +kernel
theorem dX10_comes_156 : decode cX10_comes 156 = .ok (.iload 7, 2) := by decide +kernel
theorem dX10_comes_158 : decode cX10_comes 158 = .ok (.ifCond .lt 48, 3) := by decide +kernel
theorem dX10_comes_161 : decode cX10_comes 161 = .ok (.aload_n 0, 1) := by decide +kernel
theorem dX10_comes_162 : decode cX10_comes 162 = .ok (.getfield 50, 3) := by decide +kernel
theorem dX10_comes_165 : decode cX10_comes 165 = .ok (.bipush 17, 2) := by decide +kernel
theorem dX10_comes_167 : decode cX10_comes 167 = .ok (.iload 7, 2) := by decide +kernel
theorem dX10_comes_169 : decode cX10_comes 169 = .ok (.iadd, 1) := by decide +kernel
theorem dX10_comes_170 : decode cX10_comes 170 = .ok (.iload_n 3, 1) := by decide +kernel
theorem dX10_comes_171 : decode cX10_comes 171 = .ok (.aload_n 0, 1) := by decide +kernel
theorem dX10_comes_172 : decode cX10_comes 172 = .ok (.getfield 25, 3) := by decide +kernel
theorem dX10_comes_175 : decode cX10_comes 175 = .ok (.bipush 49, 2) := by decide +kernel
theorem dX10_comes_177 : decode cX10_comes 177 = .ok (.iload 7, 2) := by decide +kernel
theorem dX10_comes_179 : decode cX10_comes 179 = .ok (.iadd, 1) := by decide +kernel
theorem dX10_comes_180 : decode cX10_comes 180 = .ok (.iaload, 1) := by decide +kernel
theorem dX10_comes_181 : decode cX10_comes 181 = .ok (.if_icmp .lt 7, 3) := by decide +kernel
theorem dX10_comes_184 : decode cX10_comes 184 = .ok (.iconst 1, 1) := by decide +kernel
theorem dX10_comes_185 : decode cX10_comes 185 = .ok (.goto 4, 3) := by decide +kernel
theorem dX10_comes_188 : decode cX10_comes 188 = .ok (.iconst 2, 1) := by decide +kernel
theorem dX10_comes_189 : decode cX10_comes 189 = .ok (.iastore, 1) := by decide +kernel
theorem dX10_comes_190 : decode cX10_comes 190 = .ok (.aload_n 0, 1) := by decide +kernel
theorem dX10_comes_191 : decode cX10_comes 191 = .ok (.getfield 50, 3) := by decide +kernel
theorem dX10_comes_194 : decode cX10_comes 194 = .ok (.bipush 23, 2) := by decide +kernel
theorem dX10_comes_196 : decode cX10_comes 196 = .ok (.iload 7, 2) := by decide +kernel
theorem dX10_comes_198 : decode cX10_comes 198 = .ok (.iadd, 1) := by decide +kernel
theorem dX10_comes_199 : decode cX10_comes 199 = .ok (.aload_n 0, 1) := by decide +kernel
theorem dX10_comes_200 : decode cX10_comes 200 = .ok (.getfield 50, 3) := by decide +kernel
theorem dX10_comes_203 : decode cX10_comes 203 = .ok (.iconst 0, 1) := by decide +kernel
theorem dX10_comes_204 : decode cX10_comes 204 = .ok (.iaload, 1) := by decide +kernel
theorem dX10_comes_205 : decode cX10_comes 205 = .ok (.iastore, 1) := by decide +kernel
theorem dX10_comes_206 : decode cX10_comes 206 = .ok (.iinc 4 1, 3) := by decide +kernel
theorem dX10_comes_209 : decode cX10_comes 209 = .ok (.goto (-193), 3) := by decide +kernel
theorem dX10_comes_212 : decode cX10_comes 212 = .ok (.aload_n 0, 1) := by decide +kernel
theorem dX10_comes_213 : decode cX10_comes 213 = .ok (.getfield 50, 3) := by decide +kernel
theorem dX10_comes_216 : decode cX10_comes 216 = .ok (.iconst 0, 1) := by decide +kernel
theorem dX10_comes_217 : decode cX10_comes 217 = .ok (.dup2, 1) := by decide +kernel
theorem dX10_comes_218 : decode cX10_comes 218 = .ok (.iaload, 1) := by decide +kernel
theorem dX10_comes_219 : decode cX10_comes 219 = .ok (.iconst 1, 1) := by decide +kernel
theorem dX10_comes_220 : decode cX10_comes 220 = .ok (.iadd, 1) := by decide +kernel
theorem dX10_comes_221 : decode cX10_comes 221 = .ok (.iastore, 1) := by decide +kernel
theorem dX10_comes_222 : decode cX10_comes 222 = .ok (.return_, 1) := by decide +kernel
theorem dX10_waves0_0 : decode cX10_waves0 0 = .ok (.iconst 0, 1) := by decide +kernel
theorem dX10_waves0_1 : decode cX10_waves0 1 = .ok (.istore_n 2, 1) := by decide +kernel
theorem dX10_waves0_2 : decode cX10_waves0 2 = .ok (.iload_n 2, 1) := by decide +kernel
theorem dX10_waves0_3 : decode cX10_waves0 3 = .ok (.iload_n 1, 1) := by decide +kernel
theorem dX10_waves0_4 : decode cX10_waves0 4 = .ok (.if_icmp .ge 33, 3) := by decide +kernel
theorem dX10_waves0_7 : decode cX10_waves0 7 = .ok (.aload_n 0, 1) := by decide +kernel
theorem dX10_waves0_8 : decode cX10_waves0 8 = .ok (.aload_n 0, 1) := by decide +kernel
theorem dX10_waves0_9 : decode cX10_waves0 9 = .ok (.aload_n 0, 1) := by decide +kernel
theorem dX10_waves0_10 : decode cX10_waves0 10 = .ok (.getfield 50, 3) := by decide +kernel
theorem dX10_waves0_13 : decode cX10_waves0 13 = .ok (.iconst 0, 1) := by decide +kernel
theorem dX10_waves0_14 : decode cX10_waves0 14 = .ok (.iaload, 1) := by decide +kernel
theorem dX10_waves0_15 : decode cX10_waves0 15 = .ok (.invokevirtual 176, 3) := by decide +kernel
theorem dX10_waves0_18 : decode cX10_waves0 18 = .ok (.aload_n 0, 1) := by decide +kernel
theorem dX10_waves0_19 : decode cX10_waves0 19 = .ok (.aload_n 0, 1) := by decide +kernel
theorem dX10_waves0_20 : decode cX10_waves0 20 = .ok (.getfield 50, 3) := by decide +kernel
theorem dX10_waves0_23 : decode cX10_waves0 23 = .ok (.iconst 0, 1) := by decide +kernel
theorem dX10_waves0_24 : decode cX10_waves0 24 = .ok (.iaload, 1) := by decide +kernel
theorem dX10_waves0_25 : decode cX10_waves0 25 = .ok (.invokevirtual 179, 3) := by decide +kernel
theorem dX10_waves0_28 : decode cX10_waves0 28 = .ok (.invokevirtual 192, 3) := by decide +kernel
theorem dX10_waves0_31 : decode cX10_waves0 31 = .ok (.iinc 2 1, 3) := by decide +kernel
theorem dX10_waves0_34 : decode cX10_waves0 34 = .ok (.goto (-32), 3) := by decide +kernel
theorem dX10_waves0_37 : decode cX10_waves0 37 = .ok (.return_, 1) := by decide +kernel
theorem dX10_many_0 : decode cX10_many 0 = .ok (.iconst 0, 1) := by decide +kernel
theorem dX10_many_1 : decode cX10_many 1 = .ok (.istore_n 2, 1) := by decide +kernel
theorem dX10_many_2 : decode cX10_many 2 = .ok (.iconst 0, 1) := by decide +kernel
theorem dX10_many_3 : decode cX10_many 3 = .ok (.istore_n 3, 1) := by decide +kernel
theorem dX10_many_4 : decode cX10_many 4 = .ok (.iload_n 3, 1) := by decide +kernel
theorem dX10_many_5 : decode cX10_many 5 = .ok (.aload_n 0, 1) := by decide +kernel
theorem dX10_many_6 : decode cX10_many 6 = .ok (.getfield 25, 3) := by decide +kernel
theorem dX10_many_9 : decode cX10_many 9 = .ok (.iconst 5, 1) := by decide +kernel
theorem dX10_many_10 : decode cX10_many 10 = .ok (.iaload, 1) := by decide +kernel
theorem dX10_many_11 : decode cX10_many 11 = .ok (.if_icmp .ge 30, 3) := by decide +kernel
theorem dX10_many_14 : decode cX10_many 14 = .ok (.iload_n 2, 1) := by decide +kernel
theorem dX10_many_15 : decode cX10_many 15 = .ok (.aload_n 0, 1) := by decide +kernel
theorem dX10_many_16 : decode cX10_many 16 = .ok (.getfield 50, 3) := by decide +kernel
theorem dX10_many_19 : decode cX10_many 19 = .ok (.bipush 17, 2) := by decide +kernel
theorem dX10_many_21 : decode cX10_many 21 = .ok (.iload_n 3, 1) := by decide +kernel
theorem dX10_many_22 : decode cX10_many 22 = .ok (.iadd, 1) := by decide +kernel
theorem dX10_many_23 : decode cX10_many 23 = .ok (.iaload, 1) := by decide +kernel
theorem dX10_many_24 : decode cX10_many 24 = .ok (.iload_n 1, 1) := by decide +kernel
theorem dX10_many_25 : decode cX10_many 25 = .ok (.if_icmp .ne 7, 3) := by decide +kernel
theorem dX10_many_28 : decode cX10_many 28 = .ok (.iconst 1, 1) := by decide +kernel
theorem dX10_many_29 : decode cX10_many 29 = .ok (.goto 4, 3) := by decide +kernel
theorem dX10_many_32 : decode cX10_many 32 = .ok (.iconst 0, 1) := by decide +kernel
theorem dX10_many_33 : decode cX10_many 33 = .ok (.iadd, 1) := by decide +kernel
theorem dX10_many_34 : decode cX10_many 34 = .ok (.istore_n 2, 1) := by decide +kernel
theorem dX10_many_35 : decode cX10_many 35 = .ok (.iinc 3 1, 3) := by decide +kernel
theorem dX10_many_38 : decode cX10_many 38 = .ok (.goto (-34), 3) := by decide +kernel
theorem dX10_many_41 : decode cX10_many 41 = .ok (.iload_n 2, 1) := by decide +kernel
theorem dX10_many_42 : decode cX10_many 42 = .ok (.ireturn, 1) := by decide +kernel
theorem dX10_remembers_0 : decode cX10_remembers 0 = .ok (.aload_n 0, 1) := by decide +kernel
theorem dX10_remembers_1 : decode cX10_remembers 1 = .ok (.getfield 166, 3) := by decide +kernel
theorem dX10_remembers_4 : decode cX10_remembers 4 = .ok (.bipush 24, 2) := by decide +kernel
theorem dX10_remembers_6 : decode cX10_remembers 6 = .ok (.if_icmp .ne 43, 3) := by decide +kernel
theorem dX10_remembers_9 : decode cX10_remembers 9 = .ok (.iconst 0, 1) := by decide +kernel
theorem dX10_remembers_10 : decode cX10_remembers 10 = .ok (.istore_n 1, 1) := by decide +kernel
theorem dX10_remembers_11 : decode cX10_remembers 11 = .ok (.iload_n 1, 1) := by decide +kernel
theorem dX10_remembers_12 : decode cX10_remembers 12 = .ok (.sipush 667, 3) := by decide +kernel
theorem dX10_remembers_15 : decode cX10_remembers 15 = .ok (.if_icmp .ge 24, 3) := by decide +kernel
theorem dX10_remembers_18 : decode cX10_remembers 18 = .ok (.aload_n 0, 1) := by decide +kernel
theorem dX10_remembers_19 : decode cX10_remembers 19 = .ok (.getfield 41, 3) := by decide +kernel
theorem dX10_remembers_22 : decode cX10_remembers 22 = .ok (.iload_n 1, 1) := by decide +kernel
theorem dX10_remembers_23 : decode cX10_remembers 23 = .ok (.aload_n 0, 1) := by decide +kernel
theorem dX10_remembers_24 : decode cX10_remembers 24 = .ok (.getfield 41, 3) := by decide +kernel
theorem dX10_remembers_27 : decode cX10_remembers 27 = .ok (.iload_n 1, 1) := by decide +kernel
theorem dX10_remembers_28 : decode cX10_remembers 28 = .ok (.bipush 29, 2) := by decide +kernel
theorem dX10_remembers_30 : decode cX10_remembers 30 = .ok (.iadd, 1) := by decide +kernel
theorem dX10_remembers_31 : decode cX10_remembers 31 = .ok (.iaload, 1) := by decide +kernel
theorem dX10_remembers_32 : decode cX10_remembers 32 = .ok (.iastore, 1) := by decide +kernel
theorem dX10_remembers_33 : decode cX10_remembers 33 = .ok (.iinc 1 1, 3) := by decide +kernel
theorem dX10_remembers_36 : decode cX10_remembers 36 = .ok (.goto (-25), 3) := by decide +kernel
theorem dX10_remembers_39 : decode cX10_remembers 39 = .ok (.aload_n 0, 1) := by decide +kernel
theorem dX10_remembers_40 : decode cX10_remembers 40 = .ok (.dup, 1) := by decide +kernel
theorem dX10_remembers_41 : decode cX10_remembers 41 = .ok (.getfield 166, 3) := by decide +kernel
theorem dX10_remembers_44 : decode cX10_remembers 44 = .ok (.iconst 1, 1) := by decide +kernel
theorem dX10_remembers_45 : decode cX10_remembers 45 = .ok (.isub, 1) := by decide +kernel
theorem dX10_remembers_46 : decode cX10_remembers 46 = .ok (.putfield 166, 3) := by decide +kernel
theorem dX10_remembers_49 : decode cX10_remembers 49 = .ok (.iconst 0, 1) := by decide +kernel
theorem dX10_remembers_50 : decode cX10_remembers 50 = .ok (.istore_n 1, 1) := by decide +kernel
theorem dX10_remembers_51 : decode cX10_remembers 51 = .ok (.iload_n 1, 1) := by decide +kernel
theorem dX10_remembers_52 : decode cX10_remembers 52 = .ok (.bipush 29, 2) := by decide +kernel
theorem dX10_remembers_54 : decode cX10_remembers 54 = .ok (.if_icmp .ge 29, 3) := by decide +kernel
theorem dX10_remembers_57 : decode cX10_remembers 57 = .ok (.aload_n 0, 1) := by decide +kernel
theorem dX10_remembers_58 : decode cX10_remembers 58 = .ok (.getfield 41, 3) := by decide +kernel
theorem dX10_remembers_61 : decode cX10_remembers 61 = .ok (.bipush 29, 2) := by decide +kernel
theorem dX10_remembers_63 : decode cX10_remembers 63 = .ok (.aload_n 0, 1) := by decide +kernel
theorem dX10_remembers_64 : decode cX10_remembers 64 = .ok (.getfield 166, 3) := by decide +kernel
theorem dX10_remembers_67 : decode cX10_remembers 67 = .ok (.imul, 1) := by decide +kernel
theorem dX10_remembers_68 : decode cX10_remembers 68 = .ok (.iload_n 1, 1) := by decide +kernel
theorem dX10_remembers_69 : decode cX10_remembers 69 = .ok (.iadd, 1) := by decide +kernel
theorem dX10_remembers_70 : decode cX10_remembers 70 = .ok (.aload_n 0, 1) := by decide +kernel
theorem dX10_remembers_71 : decode cX10_remembers 71 = .ok (.getfield 28, 3) := by decide +kernel
theorem dX10_remembers_74 : decode cX10_remembers 74 = .ok (.iload_n 1, 1) := by decide +kernel
theorem dX10_remembers_75 : decode cX10_remembers 75 = .ok (.iaload, 1) := by decide +kernel
theorem dX10_remembers_76 : decode cX10_remembers 76 = .ok (.iastore, 1) := by decide +kernel
theorem dX10_remembers_77 : decode cX10_remembers 77 = .ok (.iinc 1 1, 3) := by decide +kernel
theorem dX10_remembers_80 : decode cX10_remembers 80 = .ok (.goto (-29), 3) := by decide +kernel
theorem dX10_remembers_83 : decode cX10_remembers 83 = .ok (.aload_n 0, 1) := by decide +kernel
theorem dX10_remembers_84 : decode cX10_remembers 84 = .ok (.dup, 1) := by decide +kernel
theorem dX10_remembers_85 : decode cX10_remembers 85 = .ok (.getfield 166, 3) := by decide +kernel
theorem dX10_remembers_88 : decode cX10_remembers 88 = .ok (.iconst 1, 1) := by decide +kernel
theorem dX10_remembers_89 : decode cX10_remembers 89 = .ok (.iadd, 1) := by decide +kernel
theorem dX10_remembers_90 : decode cX10_remembers 90 = .ok (.putfield 166, 3) := by decide +kernel
theorem dX10_remembers_93 : decode cX10_remembers 93 = .ok (.return_, 1) := by decide +kernel
theorem dX10_waves_0 : decode cX10_waves 0 = .ok (.aload_n 0, 1) := by decide +kernel
theorem dX10_waves_1 : decode cX10_waves 1 = .ok (.invokevirtual 196, 3) := by decide +kernel
theorem dX10_waves_4 : decode cX10_waves 4 = .ok (.ifCond .ne 6, 3) := by decide +kernel
theorem dX10_waves_7 : decode cX10_waves 7 = .ok (.ldc 199, 2) := by decide +kernel
theorem dX10_waves_9 : decode cX10_waves 9 = .ok (.ireturn, 1) := by decide +kernel
theorem dX10_waves_10 : decode cX10_waves 10 = .ok (.iload_n 1, 1) := by decide +kernel
theorem dX10_waves_11 : decode cX10_waves 11 = .ok (.i2l, 1) := by decide +kernel
theorem dX10_waves_12 : decode cX10_waves 12 = .ok (.lconst 1, 1) := by decide +kernel
theorem dX10_waves_13 : decode cX10_waves 13 = .ok (.ldc2_w 200, 3) := by decide +kernel
theorem dX10_waves_16 : decode cX10_waves 16 = .ok (.invokestatic 64, 3) := by decide +kernel
theorem dX10_waves_19 : decode cX10_waves 19 = .ok (.ifCond .ne 6, 3) := by decide +kernel
theorem dX10_waves_22 : decode cX10_waves 22 = .ok (.ldc 79, 2) := by decide +kernel
theorem dX10_waves_24 : decode cX10_waves 24 = .ok (.ireturn, 1) := by decide +kernel
theorem dX10_waves_25 : decode cX10_waves 25 = .ok (.aload_n 0, 1) := by decide +kernel
theorem dX10_waves_26 : decode cX10_waves 26 = .ok (.getfield 28, 3) := by decide +kernel
theorem dX10_waves_29 : decode cX10_waves 29 = .ok (.iconst 0, 1) := by decide +kernel
theorem dX10_waves_30 : decode cX10_waves 30 = .ok (.iaload, 1) := by decide +kernel
theorem dX10_waves_31 : decode cX10_waves 31 = .ok (.iload_n 1, 1) := by decide +kernel
theorem dX10_waves_32 : decode cX10_waves 32 = .ok (.iadd, 1) := by decide +kernel
theorem dX10_waves_33 : decode cX10_waves 33 = .ok (.sipush 999, 3) := by decide +kernel
theorem dX10_waves_36 : decode cX10_waves 36 = .ok (.if_icmp .le 6, 3) := by decide +kernel
theorem dX10_waves_39 : decode cX10_waves 39 = .ok (.ldc 92, 2) := by decide +kernel
theorem dX10_waves_41 : decode cX10_waves 41 = .ok (.ireturn, 1) := by decide +kernel
theorem dX10_waves_42 : decode cX10_waves 42 = .ok (.iconst 0, 1) := by decide +kernel
theorem dX10_waves_43 : decode cX10_waves 43 = .ok (.istore_n 2, 1) := by decide +kernel
theorem dX10_waves_44 : decode cX10_waves 44 = .ok (.iload_n 2, 1) := by decide +kernel
theorem dX10_waves_45 : decode cX10_waves 45 = .ok (.iload_n 1, 1) := by decide +kernel
theorem dX10_waves_46 : decode cX10_waves 46 = .ok (.if_icmp .ge 48, 3) := by decide +kernel
theorem dX10_waves_49 : decode cX10_waves 49 = .ok (.aload_n 0, 1) := by decide +kernel
theorem dX10_waves_50 : decode cX10_waves 50 = .ok (.invokevirtual 202, 3) := by decide +kernel
theorem dX10_waves_53 : decode cX10_waves 53 = .ok (.aload_n 0, 1) := by decide +kernel
theorem dX10_waves_54 : decode cX10_waves 54 = .ok (.invokevirtual 205, 3) := by decide +kernel
theorem dX10_waves_57 : decode cX10_waves 57 = .ok (.aload_n 0, 1) := by decide +kernel
theorem dX10_waves_58 : decode cX10_waves 58 = .ok (.iconst 1, 1) := by decide +kernel
theorem dX10_waves_59 : decode cX10_waves 59 = .ok (.invokevirtual 208, 3) := by decide +kernel
theorem dX10_waves_62 : decode cX10_waves 62 = .ok (.iconst 0, 1) := by decide +kernel
theorem dX10_waves_63 : decode cX10_waves 63 = .ok (.istore_n 3, 1) := by decide +kernel
theorem dX10_waves_64 : decode cX10_waves 64 = .ok (.iload_n 3, 1) := by decide +kernel
theorem dX10_waves_65 : decode cX10_waves 65 = .ok (.bipush 29, 2) := by decide +kernel
theorem dX10_waves_67 : decode cX10_waves 67 = .ok (.if_icmp .ge 21, 3) := by decide +kernel
theorem dX10_waves_70 : decode cX10_waves 70 = .ok (.aload_n 0, 1) := by decide +kernel
theorem dX10_waves_71 : decode cX10_waves 71 = .ok (.getfield 28, 3) := by decide +kernel
theorem dX10_waves_74 : decode cX10_waves 74 = .ok (.iload_n 3, 1) := by decide +kernel
theorem dX10_waves_75 : decode cX10_waves 75 = .ok (.aload_n 0, 1) := by decide +kernel
theorem dX10_waves_76 : decode cX10_waves 76 = .ok (.getfield 50, 3) := by decide +kernel
theorem dX10_waves_79 : decode cX10_waves 79 = .ok (.iload_n 3, 1) := by decide +kernel
theorem dX10_waves_80 : decode cX10_waves 80 = .ok (.iaload, 1) := by decide +kernel
theorem dX10_waves_81 : decode cX10_waves 81 = .ok (.iastore, 1) := by decide +kernel
theorem dX10_waves_82 : decode cX10_waves 82 = .ok (.iinc 3 1, 3) := by decide +kernel
theorem dX10_waves_85 : decode cX10_waves 85 = .ok (.goto (-21), 3) := by decide +kernel
theorem dX10_waves_88 : decode cX10_waves 88 = .ok (.iinc 2 1, 3) := by decide +kernel
theorem dX10_waves_91 : decode cX10_waves 91 = .ok (.goto (-47), 3) := by decide +kernel
theorem dX10_waves_94 : decode cX10_waves 94 = .ok (.aload_n 0, 1) := by decide +kernel
theorem dX10_waves_95 : decode cX10_waves 95 = .ok (.getfield 28, 3) := by decide +kernel
theorem dX10_waves_98 : decode cX10_waves 98 = .ok (.iconst 0, 1) := by decide +kernel
theorem dX10_waves_99 : decode cX10_waves 99 = .ok (.iaload, 1) := by decide +kernel
theorem dX10_waves_100 : decode cX10_waves 100 = .ok (.ireturn, 1) := by decide +kernel
theorem dX10_slip_0 : decode cX10_slip 0 = .ok (.aload_n 0, 1) := by decide +kernel
theorem dX10_slip_1 : decode cX10_slip 1 = .ok (.iload_n 1, 1) := by decide +kernel
theorem dX10_slip_2 : decode cX10_slip 2 = .ok (.invokevirtual 212, 3) := by decide +kernel
theorem dX10_slip_5 : decode cX10_slip 5 = .ok (.ifCond .eq 17, 3) := by decide +kernel
theorem dX10_slip_8 : decode cX10_slip 8 = .ok (.iload_n 2, 1) := by decide +kernel
theorem dX10_slip_9 : decode cX10_slip 9 = .ok (.i2l, 1) := by decide +kernel
theorem dX10_slip_10 : decode cX10_slip 10 = .ok (.ldc2_w 215, 3) := by decide +kernel
theorem dX10_slip_13 : decode cX10_slip 13 = .ok (.ldc2_w 217, 3) := by decide +kernel
theorem dX10_slip_16 : decode cX10_slip 16 = .ok (.invokestatic 64, 3) := by decide +kernel
theorem dX10_slip_19 : decode cX10_slip 19 = .ok (.ifCond .ne 6, 3) := by decide +kernel
theorem dX10_slip_22 : decode cX10_slip 22 = .ok (.ldc 79, 2) := by decide +kernel
theorem dX10_slip_24 : decode cX10_slip 24 = .ok (.ireturn, 1) := by decide +kernel
theorem dX10_slip_25 : decode cX10_slip 25 = .ok (.aload_n 0, 1) := by decide +kernel
theorem dX10_slip_26 : decode cX10_slip 26 = .ok (.invokevirtual 202, 3) := by decide +kernel
theorem dX10_slip_29 : decode cX10_slip 29 = .ok (.aload_n 0, 1) := by decide +kernel
theorem dX10_slip_30 : decode cX10_slip 30 = .ok (.getfield 28, 3) := by decide +kernel
theorem dX10_slip_33 : decode cX10_slip 33 = .ok (.iconst 2, 1) := by decide +kernel
theorem dX10_slip_34 : decode cX10_slip 34 = .ok (.iload_n 1, 1) := by decide +kernel
theorem dX10_slip_35 : decode cX10_slip 35 = .ok (.iadd, 1) := by decide +kernel
theorem dX10_slip_36 : decode cX10_slip 36 = .ok (.iconst 0, 1) := by decide +kernel
theorem dX10_slip_37 : decode cX10_slip 37 = .ok (.aload_n 0, 1) := by decide +kernel
theorem dX10_slip_38 : decode cX10_slip 38 = .ok (.getfield 28, 3) := by decide +kernel
theorem dX10_slip_41 : decode cX10_slip 41 = .ok (.iconst 2, 1) := by decide +kernel
theorem dX10_slip_42 : decode cX10_slip 42 = .ok (.iload_n 1, 1) := by decide +kernel
theorem dX10_slip_43 : decode cX10_slip 43 = .ok (.iadd, 1) := by decide +kernel
theorem dX10_slip_44 : decode cX10_slip 44 = .ok (.iaload, 1) := by decide +kernel
theorem dX10_slip_45 : decode cX10_slip 45 = .ok (.iload_n 2, 1) := by decide +kernel
theorem dX10_slip_46 : decode cX10_slip 46 = .ok (.iadd, 1) := by decide +kernel
theorem dX10_slip_47 : decode cX10_slip 47 = .ok (.invokestatic 169, 3) := by decide +kernel
theorem dX10_slip_50 : decode cX10_slip 50 = .ok (.iastore, 1) := by decide +kernel
theorem dX10_slip_51 : decode cX10_slip 51 = .ok (.aload_n 0, 1) := by decide +kernel
theorem dX10_slip_52 : decode cX10_slip 52 = .ok (.getfield 28, 3) := by decide +kernel
theorem dX10_slip_55 : decode cX10_slip 55 = .ok (.iconst 2, 1) := by decide +kernel
theorem dX10_slip_56 : decode cX10_slip 56 = .ok (.iload_n 1, 1) := by decide +kernel
theorem dX10_slip_57 : decode cX10_slip 57 = .ok (.iadd, 1) := by decide +kernel
theorem dX10_slip_58 : decode cX10_slip 58 = .ok (.iaload, 1) := by decide +kernel
theorem dX10_slip_59 : decode cX10_slip 59 = .ok (.ireturn, 1) := by decide +kernel
theorem dX10_law_0 : decode cX10_law 0 = .ok (.aload_n 0, 1) := by decide +kernel
theorem dX10_law_1 : decode cX10_law 1 = .ok (.invokevirtual 196, 3) := by decide +kernel
theorem dX10_law_4 : decode cX10_law 4 = .ok (.ifCond .ne 6, 3) := by decide +kernel
theorem dX10_law_7 : decode cX10_law 7 = .ok (.ldc 199, 2) := by decide +kernel
theorem dX10_law_9 : decode cX10_law 9 = .ok (.ireturn, 1) := by decide +kernel
theorem dX10_law_10 : decode cX10_law 10 = .ok (.iload_n 1, 1) := by decide +kernel
theorem dX10_law_11 : decode cX10_law 11 = .ok (.i2l, 1) := by decide +kernel
theorem dX10_law_12 : decode cX10_law 12 = .ok (.ldc2_w 77, 3) := by decide +kernel
theorem dX10_law_15 : decode cX10_law 15 = .ok (.ldc2_w 219, 3) := by decide +kernel
theorem dX10_law_18 : decode cX10_law 18 = .ok (.invokestatic 64, 3) := by decide +kernel
theorem dX10_law_21 : decode cX10_law 21 = .ok (.ifCond .ne 6, 3) := by decide +kernel
theorem dX10_law_24 : decode cX10_law 24 = .ok (.ldc 79, 2) := by decide +kernel
theorem dX10_law_26 : decode cX10_law 26 = .ok (.ireturn, 1) := by decide +kernel
theorem dX10_law_27 : decode cX10_law 27 = .ok (.aload_n 0, 1) := by decide +kernel
theorem dX10_law_28 : decode cX10_law 28 = .ok (.invokevirtual 202, 3) := by decide +kernel
theorem dX10_law_31 : decode cX10_law 31 = .ok (.aload_n 0, 1) := by decide +kernel
theorem dX10_law_32 : decode cX10_law 32 = .ok (.getfield 28, 3) := by decide +kernel
theorem dX10_law_35 : decode cX10_law 35 = .ok (.iconst 1, 1) := by decide +kernel
theorem dX10_law_36 : decode cX10_law 36 = .ok (.iaload, 1) := by decide +kernel
theorem dX10_law_37 : decode cX10_law 37 = .ok (.istore_n 2, 1) := by decide +kernel
theorem dX10_law_38 : decode cX10_law 38 = .ok (.aload_n 0, 1) := by decide +kernel
theorem dX10_law_39 : decode cX10_law 39 = .ok (.getfield 28, 3) := by decide +kernel
theorem dX10_law_42 : decode cX10_law 42 = .ok (.iconst 1, 1) := by decide +kernel
theorem dX10_law_43 : decode cX10_law 43 = .ok (.iload_n 1, 1) := by decide +kernel
theorem dX10_law_44 : decode cX10_law 44 = .ok (.iastore, 1) := by decide +kernel
theorem dX10_law_45 : decode cX10_law 45 = .ok (.iload_n 2, 1) := by decide +kernel
theorem dX10_law_46 : decode cX10_law 46 = .ok (.ireturn, 1) := by decide +kernel
theorem dX10_placeOf_0 : decode cX10_placeOf 0 = .ok (.iconst 0, 1) := by decide +kernel
theorem dX10_placeOf_1 : decode cX10_placeOf 1 = .ok (.istore_n 2, 1) := by decide +kernel
theorem dX10_placeOf_2 : decode cX10_placeOf 2 = .ok (.iconst 0, 1) := by decide +kernel
theorem dX10_placeOf_3 : decode cX10_placeOf 3 = .ok (.istore_n 3, 1) := by decide +kernel
theorem dX10_placeOf_4 : decode cX10_placeOf 4 = .ok (.iload_n 3, 1) := by decide +kernel
theorem dX10_placeOf_5 : decode cX10_placeOf 5 = .ok (.aload_n 0, 1) := by decide +kernel
theorem dX10_placeOf_6 : decode cX10_placeOf 6 = .ok (.getfield 25, 3) := by decide +kernel
theorem dX10_placeOf_9 : decode cX10_placeOf 9 = .ok (.iconst 5, 1) := by decide +kernel
theorem dX10_placeOf_10 : decode cX10_placeOf 10 = .ok (.iaload, 1) := by decide +kernel
theorem dX10_placeOf_11 : decode cX10_placeOf 11 = .ok (.if_icmp .ge 27, 3) := by decide +kernel
theorem dX10_placeOf_14 : decode cX10_placeOf 14 = .ok (.aload_n 0, 1) := by decide +kernel
theorem dX10_placeOf_15 : decode cX10_placeOf 15 = .ok (.getfield 28, 3) := by decide +kernel
theorem dX10_placeOf_18 : decode cX10_placeOf 18 = .ok (.iconst 5, 1) := by decide +kernel
theorem dX10_placeOf_19 : decode cX10_placeOf 19 = .ok (.iload_n 3, 1) := by decide +kernel
theorem dX10_placeOf_20 : decode cX10_placeOf 20 = .ok (.iadd, 1) := by decide +kernel
theorem dX10_placeOf_21 : decode cX10_placeOf 21 = .ok (.iaload, 1) := by decide +kernel
theorem dX10_placeOf_22 : decode cX10_placeOf 22 = .ok (.iload_n 1, 1) := by decide +kernel
theorem dX10_placeOf_23 : decode cX10_placeOf 23 = .ok (.if_icmp .ne 7, 3) := by decide +kernel
theorem dX10_placeOf_26 : decode cX10_placeOf 26 = .ok (.iload_n 3, 1) := by decide +kernel
theorem dX10_placeOf_27 : decode cX10_placeOf 27 = .ok (.goto 4, 3) := by decide +kernel
theorem dX10_placeOf_30 : decode cX10_placeOf 30 = .ok (.iload_n 2, 1) := by decide +kernel
theorem dX10_placeOf_31 : decode cX10_placeOf 31 = .ok (.istore_n 2, 1) := by decide +kernel
theorem dX10_placeOf_32 : decode cX10_placeOf 32 = .ok (.iinc 3 1, 3) := by decide +kernel
theorem dX10_placeOf_35 : decode cX10_placeOf 35 = .ok (.goto (-31), 3) := by decide +kernel
theorem dX10_placeOf_38 : decode cX10_placeOf 38 = .ok (.iload_n 2, 1) := by decide +kernel
theorem dX10_placeOf_39 : decode cX10_placeOf 39 = .ok (.ireturn, 1) := by decide +kernel
theorem dX10_change_0 : decode cX10_change 0 = .ok (.aload_n 0, 1) := by decide +kernel
theorem dX10_change_1 : decode cX10_change 1 = .ok (.iload_n 1, 1) := by decide +kernel
theorem dX10_change_2 : decode cX10_change 2 = .ok (.invokevirtual 221, 3) := by decide +kernel
theorem dX10_change_5 : decode cX10_change 5 = .ok (.ifCond .eq 16, 3) := by decide +kernel
theorem dX10_change_8 : decode cX10_change 8 = .ok (.aload_n 0, 1) := by decide +kernel
theorem dX10_change_9 : decode cX10_change 9 = .ok (.iload_n 2, 1) := by decide +kernel
theorem dX10_change_10 : decode cX10_change 10 = .ok (.invokevirtual 221, 3) := by decide +kernel
theorem dX10_change_13 : decode cX10_change 13 = .ok (.ifCond .eq 8, 3) := by decide +kernel
theorem dX10_change_16 : decode cX10_change 16 = .ok (.iload_n 1, 1) := by decide +kernel
theorem dX10_change_17 : decode cX10_change 17 = .ok (.iload_n 2, 1) := by decide +kernel
theorem dX10_change_18 : decode cX10_change 18 = .ok (.if_icmp .ne 6, 3) := by decide +kernel
theorem dX10_change_21 : decode cX10_change 21 = .ok (.ldc 79, 2) := by decide +kernel
theorem dX10_change_23 : decode cX10_change 23 = .ok (.ireturn, 1) := by decide +kernel
theorem dX10_change_24 : decode cX10_change 24 = .ok (.aload_n 0, 1) := by decide +kernel
theorem dX10_change_25 : decode cX10_change 25 = .ok (.invokevirtual 202, 3) := by decide +kernel
theorem dX10_change_28 : decode cX10_change 28 = .ok (.aload_n 0, 1) := by decide +kernel
theorem dX10_change_29 : decode cX10_change 29 = .ok (.iload_n 1, 1) := by decide +kernel
theorem dX10_change_30 : decode cX10_change 30 = .ok (.invokevirtual 224, 3) := by decide +kernel
theorem dX10_change_33 : decode cX10_change 33 = .ok (.istore_n 3, 1) := by decide +kernel
theorem dX10_change_34 : decode cX10_change 34 = .ok (.aload_n 0, 1) := by decide +kernel
theorem dX10_change_35 : decode cX10_change 35 = .ok (.iload_n 2, 1) := by decide +kernel
theorem dX10_change_36 : decode cX10_change 36 = .ok (.invokevirtual 224, 3) := by decide +kernel
theorem dX10_change_39 : decode cX10_change 39 = .ok (.istore 4, 2) := by decide +kernel
theorem dX10_change_41 : decode cX10_change 41 = .ok (.aload_n 0, 1) := by decide +kernel
theorem dX10_change_42 : decode cX10_change 42 = .ok (.getfield 28, 3) := by decide +kernel
theorem dX10_change_45 : decode cX10_change 45 = .ok (.iconst 5, 1) := by decide +kernel
theorem dX10_change_46 : decode cX10_change 46 = .ok (.iload_n 3, 1) := by decide +kernel
theorem dX10_change_47 : decode cX10_change 47 = .ok (.iadd, 1) := by decide +kernel
theorem dX10_change_48 : decode cX10_change 48 = .ok (.iload_n 2, 1) := by decide +kernel
theorem dX10_change_49 : decode cX10_change 49 = .ok (.iastore, 1) := by decide +kernel
theorem dX10_change_50 : decode cX10_change 50 = .ok (.aload_n 0, 1) := by decide +kernel
theorem dX10_change_51 : decode cX10_change 51 = .ok (.getfield 28, 3) := by decide +kernel
theorem dX10_change_54 : decode cX10_change 54 = .ok (.iconst 5, 1) := by decide +kernel
theorem dX10_change_55 : decode cX10_change 55 = .ok (.iload 4, 2) := by decide +kernel
theorem dX10_change_57 : decode cX10_change 57 = .ok (.iadd, 1) := by decide +kernel
theorem dX10_change_58 : decode cX10_change 58 = .ok (.iload_n 1, 1) := by decide +kernel
theorem dX10_change_59 : decode cX10_change 59 = .ok (.iastore, 1) := by decide +kernel
theorem dX10_change_60 : decode cX10_change 60 = .ok (.iload 4, 2) := by decide +kernel
theorem dX10_change_62 : decode cX10_change 62 = .ok (.ireturn, 1) := by decide +kernel
theorem dX10_heeds_0 : decode cX10_heeds 0 = .ok (.aload_n 0, 1) := by decide +kernel
theorem dX10_heeds_1 : decode cX10_heeds 1 = .ok (.iload_n 1, 1) := by decide +kernel
theorem dX10_heeds_2 : decode cX10_heeds 2 = .ok (.invokevirtual 221, 3) := by decide +kernel
theorem dX10_heeds_5 : decode cX10_heeds 5 = .ok (.ifCond .eq 11, 3) := by decide +kernel
theorem dX10_heeds_8 : decode cX10_heeds 8 = .ok (.aload_n 0, 1) := by decide +kernel
theorem dX10_heeds_9 : decode cX10_heeds 9 = .ok (.iload_n 2, 1) := by decide +kernel
theorem dX10_heeds_10 : decode cX10_heeds 10 = .ok (.invokevirtual 212, 3) := by decide +kernel
theorem dX10_heeds_13 : decode cX10_heeds 13 = .ok (.ifCond .ne 6, 3) := by decide +kernel
theorem dX10_heeds_16 : decode cX10_heeds 16 = .ok (.ldc 79, 2) := by decide +kernel
theorem dX10_heeds_18 : decode cX10_heeds 18 = .ok (.ireturn, 1) := by decide +kernel
theorem dX10_heeds_19 : decode cX10_heeds 19 = .ok (.aload_n 0, 1) := by decide +kernel
theorem dX10_heeds_20 : decode cX10_heeds 20 = .ok (.getfield 28, 3) := by decide +kernel
theorem dX10_heeds_23 : decode cX10_heeds 23 = .ok (.bipush 17, 2) := by decide +kernel
theorem dX10_heeds_25 : decode cX10_heeds 25 = .ok (.iload_n 1, 1) := by decide +kernel
theorem dX10_heeds_26 : decode cX10_heeds 26 = .ok (.iadd, 1) := by decide +kernel
theorem dX10_heeds_27 : decode cX10_heeds 27 = .ok (.iaload, 1) := by decide +kernel
theorem dX10_heeds_28 : decode cX10_heeds 28 = .ok (.ifCond .eq 6, 3) := by decide +kernel
theorem dX10_heeds_31 : decode cX10_heeds 31 = .ok (.ldc 199, 2) := by decide +kernel
theorem dX10_heeds_33 : decode cX10_heeds 33 = .ok (.ireturn, 1) := by decide +kernel
theorem dX10_heeds_34 : decode cX10_heeds 34 = .ok (.aload_n 0, 1) := by decide +kernel
theorem dX10_heeds_35 : decode cX10_heeds 35 = .ok (.invokevirtual 202, 3) := by decide +kernel
theorem dX10_heeds_38 : decode cX10_heeds 38 = .ok (.aload_n 0, 1) := by decide +kernel
theorem dX10_heeds_39 : decode cX10_heeds 39 = .ok (.getfield 28, 3) := by decide +kernel
theorem dX10_heeds_42 : decode cX10_heeds 42 = .ok (.bipush 11, 2) := by decide +kernel
theorem dX10_heeds_44 : decode cX10_heeds 44 = .ok (.iload_n 1, 1) := by decide +kernel
theorem dX10_heeds_45 : decode cX10_heeds 45 = .ok (.iadd, 1) := by decide +kernel
theorem dX10_heeds_46 : decode cX10_heeds 46 = .ok (.iaload, 1) := by decide +kernel
theorem dX10_heeds_47 : decode cX10_heeds 47 = .ok (.istore_n 3, 1) := by decide +kernel
theorem dX10_heeds_48 : decode cX10_heeds 48 = .ok (.aload_n 0, 1) := by decide +kernel
theorem dX10_heeds_49 : decode cX10_heeds 49 = .ok (.getfield 28, 3) := by decide +kernel
theorem dX10_heeds_52 : decode cX10_heeds 52 = .ok (.bipush 11, 2) := by decide +kernel
theorem dX10_heeds_54 : decode cX10_heeds 54 = .ok (.iload_n 1, 1) := by decide +kernel
theorem dX10_heeds_55 : decode cX10_heeds 55 = .ok (.iadd, 1) := by decide +kernel
theorem dX10_heeds_56 : decode cX10_heeds 56 = .ok (.iload_n 2, 1) := by decide +kernel
theorem dX10_heeds_57 : decode cX10_heeds 57 = .ok (.iastore, 1) := by decide +kernel
theorem dX10_heeds_58 : decode cX10_heeds 58 = .ok (.iload_n 3, 1) := by decide +kernel
theorem dX10_heeds_59 : decode cX10_heeds 59 = .ok (.ireturn, 1) := by decide +kernel
theorem dX10_undo_0 : decode cX10_undo 0 = .ok (.aload_n 0, 1) := by decide +kernel
theorem dX10_undo_1 : decode cX10_undo 1 = .ok (.getfield 166, 3) := by decide +kernel
theorem dX10_undo_4 : decode cX10_undo 4 = .ok (.ifCond .ne 6, 3) := by decide +kernel
theorem dX10_undo_7 : decode cX10_undo 7 = .ok (.ldc 199, 2) := by decide +kernel
theorem dX10_undo_9 : decode cX10_undo 9 = .ok (.ireturn, 1) := by decide +kernel
theorem dX10_undo_10 : decode cX10_undo 10 = .ok (.aload_n 0, 1) := by decide +kernel
theorem dX10_undo_11 : decode cX10_undo 11 = .ok (.dup, 1) := by decide +kernel
theorem dX10_undo_12 : decode cX10_undo 12 = .ok (.getfield 166, 3) := by decide +kernel
theorem dX10_undo_15 : decode cX10_undo 15 = .ok (.iconst 1, 1) := by decide +kernel
theorem dX10_undo_16 : decode cX10_undo 16 = .ok (.isub, 1) := by decide +kernel
theorem dX10_undo_17 : decode cX10_undo 17 = .ok (.putfield 166, 3) := by decide +kernel
theorem dX10_undo_20 : decode cX10_undo 20 = .ok (.iconst 0, 1) := by decide +kernel
theorem dX10_undo_21 : decode cX10_undo 21 = .ok (.istore_n 1, 1) := by decide +kernel
theorem dX10_undo_22 : decode cX10_undo 22 = .ok (.iload_n 1, 1) := by decide +kernel
theorem dX10_undo_23 : decode cX10_undo 23 = .ok (.bipush 29, 2) := by decide +kernel
theorem dX10_undo_25 : decode cX10_undo 25 = .ok (.if_icmp .ge 29, 3) := by decide +kernel
theorem dX10_undo_28 : decode cX10_undo 28 = .ok (.aload_n 0, 1) := by decide +kernel
theorem dX10_undo_29 : decode cX10_undo 29 = .ok (.getfield 28, 3) := by decide +kernel
theorem dX10_undo_32 : decode cX10_undo 32 = .ok (.iload_n 1, 1) := by decide +kernel
theorem dX10_undo_33 : decode cX10_undo 33 = .ok (.aload_n 0, 1) := by decide +kernel
theorem dX10_undo_34 : decode cX10_undo 34 = .ok (.getfield 41, 3) := by decide +kernel
theorem dX10_undo_37 : decode cX10_undo 37 = .ok (.bipush 29, 2) := by decide +kernel
theorem dX10_undo_39 : decode cX10_undo 39 = .ok (.aload_n 0, 1) := by decide +kernel
theorem dX10_undo_40 : decode cX10_undo 40 = .ok (.getfield 166, 3) := by decide +kernel
theorem dX10_undo_43 : decode cX10_undo 43 = .ok (.imul, 1) := by decide +kernel
theorem dX10_undo_44 : decode cX10_undo 44 = .ok (.iload_n 1, 1) := by decide +kernel
theorem dX10_undo_45 : decode cX10_undo 45 = .ok (.iadd, 1) := by decide +kernel
theorem dX10_undo_46 : decode cX10_undo 46 = .ok (.iaload, 1) := by decide +kernel
theorem dX10_undo_47 : decode cX10_undo 47 = .ok (.iastore, 1) := by decide +kernel
theorem dX10_undo_48 : decode cX10_undo 48 = .ok (.iinc 1 1, 3) := by decide +kernel
theorem dX10_undo_51 : decode cX10_undo 51 = .ok (.goto (-29), 3) := by decide +kernel
theorem dX10_undo_54 : decode cX10_undo 54 = .ok (.aload_n 0, 1) := by decide +kernel
theorem dX10_undo_55 : decode cX10_undo 55 = .ok (.getfield 166, 3) := by decide +kernel
theorem dX10_undo_58 : decode cX10_undo 58 = .ok (.ireturn, 1) := by decide +kernel
theorem dX10_ship_0 : decode cX10_ship 0 = .ok (.aload_n 0, 1) := by decide +kernel
theorem dX10_ship_1 : decode cX10_ship 1 = .ok (.iload_n 1, 1) := by decide +kernel
theorem dX10_ship_2 : decode cX10_ship 2 = .ok (.invokevirtual 221, 3) := by decide +kernel
theorem dX10_ship_5 : decode cX10_ship 5 = .ok (.ifCond .eq 15, 3) := by decide +kernel
theorem dX10_ship_8 : decode cX10_ship 8 = .ok (.iload_n 2, 1) := by decide +kernel
theorem dX10_ship_9 : decode cX10_ship 9 = .ok (.i2l, 1) := by decide +kernel
theorem dX10_ship_10 : decode cX10_ship 10 = .ok (.lconst 0, 1) := by decide +kernel
theorem dX10_ship_11 : decode cX10_ship 11 = .ok (.ldc2_w 227, 3) := by decide +kernel
theorem dX10_ship_14 : decode cX10_ship 14 = .ok (.invokestatic 64, 3) := by decide +kernel
theorem dX10_ship_17 : decode cX10_ship 17 = .ok (.ifCond .ne 6, 3) := by decide +kernel
theorem dX10_ship_20 : decode cX10_ship 20 = .ok (.ldc 79, 2) := by decide +kernel
theorem dX10_ship_22 : decode cX10_ship 22 = .ok (.ireturn, 1) := by decide +kernel
theorem dX10_ship_23 : decode cX10_ship 23 = .ok (.iload_n 2, 1) := by decide +kernel
theorem dX10_ship_24 : decode cX10_ship 24 = .ok (.iconst 3, 1) := by decide +kernel
theorem dX10_ship_25 : decode cX10_ship 25 = .ok (.if_icmp .ne 15, 3) := by decide +kernel
theorem dX10_ship_28 : decode cX10_ship 28 = .ok (.aload_n 0, 1) := by decide +kernel
theorem dX10_ship_29 : decode cX10_ship 29 = .ok (.getfield 28, 3) := by decide +kernel
theorem dX10_ship_32 : decode cX10_ship 32 = .ok (.bipush 17, 2) := by decide +kernel
theorem dX10_ship_34 : decode cX10_ship 34 = .ok (.iload_n 1, 1) := by decide +kernel
theorem dX10_ship_35 : decode cX10_ship 35 = .ok (.iadd, 1) := by decide +kernel
theorem dX10_ship_36 : decode cX10_ship 36 = .ok (.iaload, 1) := by decide +kernel
theorem dX10_ship_37 : decode cX10_ship 37 = .ok (.goto 12, 3) := by decide +kernel
theorem dX10_ship_40 : decode cX10_ship 40 = .ok (.aload_n 0, 1) := by decide +kernel
theorem dX10_ship_41 : decode cX10_ship 41 = .ok (.getfield 28, 3) := by decide +kernel
theorem dX10_ship_44 : decode cX10_ship 44 = .ok (.bipush 23, 2) := by decide +kernel
theorem dX10_ship_46 : decode cX10_ship 46 = .ok (.iload_n 1, 1) := by decide +kernel
theorem dX10_ship_47 : decode cX10_ship 47 = .ok (.iadd, 1) := by decide +kernel
theorem dX10_ship_48 : decode cX10_ship 48 = .ok (.iaload, 1) := by decide +kernel
theorem dX10_ship_49 : decode cX10_ship 49 = .ok (.istore_n 3, 1) := by decide +kernel
theorem dX10_ship_50 : decode cX10_ship 50 = .ok (.iload_n 2, 1) := by decide +kernel
theorem dX10_ship_51 : decode cX10_ship 51 = .ok (.ifCond .ne 15, 3) := by decide +kernel
theorem dX10_ship_54 : decode cX10_ship 54 = .ok (.aload_n 0, 1) := by decide +kernel
theorem dX10_ship_55 : decode cX10_ship 55 = .ok (.getfield 25, 3) := by decide +kernel
theorem dX10_ship_58 : decode cX10_ship 58 = .ok (.bipush 49, 2) := by decide +kernel
theorem dX10_ship_60 : decode cX10_ship 60 = .ok (.iload_n 1, 1) := by decide +kernel
theorem dX10_ship_61 : decode cX10_ship 61 = .ok (.iadd, 1) := by decide +kernel
theorem dX10_ship_62 : decode cX10_ship 62 = .ok (.iaload, 1) := by decide +kernel
theorem dX10_ship_63 : decode cX10_ship 63 = .ok (.goto 34, 3) := by decide +kernel
theorem dX10_ship_66 : decode cX10_ship 66 = .ok (.iload_n 2, 1) := by decide +kernel
theorem dX10_ship_67 : decode cX10_ship 67 = .ok (.iconst 1, 1) := by decide +kernel
theorem dX10_ship_68 : decode cX10_ship 68 = .ok (.if_icmp .ne 15, 3) := by decide +kernel
theorem dX10_ship_71 : decode cX10_ship 71 = .ok (.aload_n 0, 1) := by decide +kernel
theorem dX10_ship_72 : decode cX10_ship 72 = .ok (.getfield 28, 3) := by decide +kernel
theorem dX10_ship_75 : decode cX10_ship 75 = .ok (.bipush 11, 2) := by decide +kernel
theorem dX10_ship_77 : decode cX10_ship 77 = .ok (.iload_n 1, 1) := by decide +kernel
theorem dX10_ship_78 : decode cX10_ship 78 = .ok (.iadd, 1) := by decide +kernel
theorem dX10_ship_79 : decode cX10_ship 79 = .ok (.iaload, 1) := by decide +kernel
theorem dX10_ship_80 : decode cX10_ship 80 = .ok (.goto 17, 3) := by decide +kernel
theorem dX10_ship_83 : decode cX10_ship 83 = .ok (.iload_n 2, 1) := by decide +kernel
theorem dX10_ship_84 : decode cX10_ship 84 = .ok (.iconst 2, 1) := by decide +kernel
theorem dX10_ship_85 : decode cX10_ship 85 = .ok (.if_icmp .ne 11, 3) := by decide +kernel
theorem dX10_ship_88 : decode cX10_ship 88 = .ok (.aload_n 0, 1) := by decide +kernel
theorem dX10_ship_89 : decode cX10_ship 89 = .ok (.iload_n 1, 1) := by decide +kernel
theorem dX10_ship_90 : decode cX10_ship 90 = .ok (.invokevirtual 224, 3) := by decide +kernel
theorem dX10_ship_93 : decode cX10_ship 93 = .ok (.goto 4, 3) := by decide +kernel
theorem dX10_ship_96 : decode cX10_ship 96 = .ok (.iload_n 3, 1) := by decide +kernel
theorem dX10_ship_97 : decode cX10_ship 97 = .ok (.ireturn, 1) := by decide +kernel
theorem dX10_tower_0 : decode cX10_tower 0 = .ok (.aload_n 0, 1) := by decide +kernel
theorem dX10_tower_1 : decode cX10_tower 1 = .ok (.iload_n 1, 1) := by decide +kernel
theorem dX10_tower_2 : decode cX10_tower 2 = .ok (.invokevirtual 212, 3) := by decide +kernel
theorem dX10_tower_5 : decode cX10_tower 5 = .ok (.ifCond .eq 15, 3) := by decide +kernel
theorem dX10_tower_8 : decode cX10_tower 8 = .ok (.iload_n 2, 1) := by decide +kernel
theorem dX10_tower_9 : decode cX10_tower 9 = .ok (.i2l, 1) := by decide +kernel
theorem dX10_tower_10 : decode cX10_tower 10 = .ok (.lconst 0, 1) := by decide +kernel
theorem dX10_tower_11 : decode cX10_tower 11 = .ok (.ldc2_w 77, 3) := by decide +kernel
theorem dX10_tower_14 : decode cX10_tower 14 = .ok (.invokestatic 64, 3) := by decide +kernel
theorem dX10_tower_17 : decode cX10_tower 17 = .ok (.ifCond .ne 6, 3) := by decide +kernel
theorem dX10_tower_20 : decode cX10_tower 20 = .ok (.ldc 79, 2) := by decide +kernel
theorem dX10_tower_22 : decode cX10_tower 22 = .ok (.ireturn, 1) := by decide +kernel
theorem dX10_tower_23 : decode cX10_tower 23 = .ok (.iconst 0, 1) := by decide +kernel
theorem dX10_tower_24 : decode cX10_tower 24 = .ok (.istore_n 3, 1) := by decide +kernel
theorem dX10_tower_25 : decode cX10_tower 25 = .ok (.iconst 0, 1) := by decide +kernel
theorem dX10_tower_26 : decode cX10_tower 26 = .ok (.istore 4, 2) := by decide +kernel
theorem dX10_tower_28 : decode cX10_tower 28 = .ok (.iload 4, 2) := by decide +kernel
theorem dX10_tower_30 : decode cX10_tower 30 = .ok (.aload_n 0, 1) := by decide +kernel
theorem dX10_tower_31 : decode cX10_tower 31 = .ok (.getfield 25, 3) := by decide +kernel
theorem dX10_tower_34 : decode cX10_tower 34 = .ok (.iconst 5, 1) := by decide +kernel
theorem dX10_tower_35 : decode cX10_tower 35 = .ok (.iaload, 1) := by decide +kernel
theorem dX10_tower_36 : decode cX10_tower 36 = .ok (.if_icmp .ge 44, 3) := by decide +kernel
theorem dX10_tower_39 : decode cX10_tower 39 = .ok (.iload_n 3, 1) := by decide +kernel
theorem dX10_tower_40 : decode cX10_tower 40 = .ok (.aload_n 0, 1) := by decide +kernel
theorem dX10_tower_41 : decode cX10_tower 41 = .ok (.getfield 28, 3) := by decide +kernel
theorem dX10_tower_44 : decode cX10_tower 44 = .ok (.bipush 17, 2) := by decide +kernel
theorem dX10_tower_46 : decode cX10_tower 46 = .ok (.iload 4, 2) := by decide +kernel
theorem dX10_tower_48 : decode cX10_tower 48 = .ok (.iadd, 1) := by decide +kernel
theorem dX10_tower_49 : decode cX10_tower 49 = .ok (.iaload, 1) := by decide +kernel
theorem dX10_tower_50 : decode cX10_tower 50 = .ok (.ifCond .ne 21, 3) := by decide +kernel
theorem dX10_tower_53 : decode cX10_tower 53 = .ok (.aload_n 0, 1) := by decide +kernel
theorem dX10_tower_54 : decode cX10_tower 54 = .ok (.getfield 28, 3) := by decide +kernel
theorem dX10_tower_57 : decode cX10_tower 57 = .ok (.bipush 11, 2) := by decide +kernel
theorem dX10_tower_59 : decode cX10_tower 59 = .ok (.iload 4, 2) := by decide +kernel
theorem dX10_tower_61 : decode cX10_tower 61 = .ok (.iadd, 1) := by decide +kernel
theorem dX10_tower_62 : decode cX10_tower 62 = .ok (.iaload, 1) := by decide +kernel
theorem dX10_tower_63 : decode cX10_tower 63 = .ok (.iload_n 1, 1) := by decide +kernel
theorem dX10_tower_64 : decode cX10_tower 64 = .ok (.if_icmp .ne 7, 3) := by decide +kernel
theorem dX10_tower_67 : decode cX10_tower 67 = .ok (.iconst 1, 1) := by decide +kernel
theorem dX10_tower_68 : decode cX10_tower 68 = .ok (.goto 4, 3) := by decide +kernel
theorem dX10_tower_71 : decode cX10_tower 71 = .ok (.iconst 0, 1) := by decide +kernel
theorem dX10_tower_72 : decode cX10_tower 72 = .ok (.iadd, 1) := by decide +kernel
theorem dX10_tower_73 : decode cX10_tower 73 = .ok (.istore_n 3, 1) := by decide +kernel
theorem dX10_tower_74 : decode cX10_tower 74 = .ok (.iinc 4 1, 3) := by decide +kernel
theorem dX10_tower_77 : decode cX10_tower 77 = .ok (.goto (-49), 3) := by decide +kernel
theorem dX10_tower_80 : decode cX10_tower 80 = .ok (.iload_n 2, 1) := by decide +kernel
theorem dX10_tower_81 : decode cX10_tower 81 = .ok (.ifCond .ne 15, 3) := by decide +kernel
theorem dX10_tower_84 : decode cX10_tower 84 = .ok (.aload_n 0, 1) := by decide +kernel
theorem dX10_tower_85 : decode cX10_tower 85 = .ok (.getfield 25, 3) := by decide +kernel
theorem dX10_tower_88 : decode cX10_tower 88 = .ok (.bipush 46, 2) := by decide +kernel
theorem dX10_tower_90 : decode cX10_tower 90 = .ok (.iload_n 1, 1) := by decide +kernel
theorem dX10_tower_91 : decode cX10_tower 91 = .ok (.iadd, 1) := by decide +kernel
theorem dX10_tower_92 : decode cX10_tower 92 = .ok (.iaload, 1) := by decide +kernel
theorem dX10_tower_93 : decode cX10_tower 93 = .ok (.goto 20, 3) := by decide +kernel
theorem dX10_tower_96 : decode cX10_tower 96 = .ok (.iload_n 2, 1) := by decide +kernel
theorem dX10_tower_97 : decode cX10_tower 97 = .ok (.iconst 1, 1) := by decide +kernel
theorem dX10_tower_98 : decode cX10_tower 98 = .ok (.if_icmp .ne 14, 3) := by decide +kernel
theorem dX10_tower_101 : decode cX10_tower 101 = .ok (.aload_n 0, 1) := by decide +kernel
theorem dX10_tower_102 : decode cX10_tower 102 = .ok (.getfield 28, 3) := by decide +kernel
theorem dX10_tower_105 : decode cX10_tower 105 = .ok (.iconst 2, 1) := by decide +kernel
theorem dX10_tower_106 : decode cX10_tower 106 = .ok (.iload_n 1, 1) := by decide +kernel
theorem dX10_tower_107 : decode cX10_tower 107 = .ok (.iadd, 1) := by decide +kernel
theorem dX10_tower_108 : decode cX10_tower 108 = .ok (.iaload, 1) := by decide +kernel
theorem dX10_tower_109 : decode cX10_tower 109 = .ok (.goto 4, 3) := by decide +kernel
theorem dX10_tower_112 : decode cX10_tower 112 = .ok (.iload_n 3, 1) := by decide +kernel
theorem dX10_tower_113 : decode cX10_tower 113 = .ok (.ireturn, 1) := by decide +kernel
theorem dX10_wave_0 : decode cX10_wave 0 = .ok (.aload_n 0, 1) := by decide +kernel
theorem dX10_wave_1 : decode cX10_wave 1 = .ok (.invokevirtual 196, 3) := by decide +kernel
theorem dX10_wave_4 : decode cX10_wave 4 = .ok (.ifCond .ne 6, 3) := by decide +kernel
theorem dX10_wave_7 : decode cX10_wave 7 = .ok (.ldc 199, 2) := by decide +kernel
theorem dX10_wave_9 : decode cX10_wave 9 = .ok (.ireturn, 1) := by decide +kernel
theorem dX10_wave_10 : decode cX10_wave 10 = .ok (.iload_n 1, 1) := by decide +kernel
theorem dX10_wave_11 : decode cX10_wave 11 = .ok (.i2l, 1) := by decide +kernel
theorem dX10_wave_12 : decode cX10_wave 12 = .ok (.lconst 0, 1) := by decide +kernel
theorem dX10_wave_13 : decode cX10_wave 13 = .ok (.ldc2_w 229, 3) := by decide +kernel
theorem dX10_wave_16 : decode cX10_wave 16 = .ok (.invokestatic 64, 3) := by decide +kernel
theorem dX10_wave_19 : decode cX10_wave 19 = .ok (.ifCond .eq 15, 3) := by decide +kernel
theorem dX10_wave_22 : decode cX10_wave 22 = .ok (.iload_n 2, 1) := by decide +kernel
theorem dX10_wave_23 : decode cX10_wave 23 = .ok (.i2l, 1) := by decide +kernel
theorem dX10_wave_24 : decode cX10_wave 24 = .ok (.lconst 0, 1) := by decide +kernel
theorem dX10_wave_25 : decode cX10_wave 25 = .ok (.ldc2_w 231, 3) := by decide +kernel
theorem dX10_wave_28 : decode cX10_wave 28 = .ok (.invokestatic 64, 3) := by decide +kernel
theorem dX10_wave_31 : decode cX10_wave 31 = .ok (.ifCond .ne 6, 3) := by decide +kernel
theorem dX10_wave_34 : decode cX10_wave 34 = .ok (.ldc 79, 2) := by decide +kernel
theorem dX10_wave_36 : decode cX10_wave 36 = .ok (.ireturn, 1) := by decide +kernel
theorem dX10_wave_37 : decode cX10_wave 37 = .ok (.iload_n 2, 1) := by decide +kernel
theorem dX10_wave_38 : decode cX10_wave 38 = .ok (.ifCond .ne 11, 3) := by decide +kernel
theorem dX10_wave_41 : decode cX10_wave 41 = .ok (.aload_n 0, 1) := by decide +kernel
theorem dX10_wave_42 : decode cX10_wave 42 = .ok (.iload_n 1, 1) := by decide +kernel
theorem dX10_wave_43 : decode cX10_wave 43 = .ok (.invokevirtual 179, 3) := by decide +kernel
theorem dX10_wave_46 : decode cX10_wave 46 = .ok (.goto 42, 3) := by decide +kernel
theorem dX10_wave_49 : decode cX10_wave 49 = .ok (.iload_n 2, 1) := by decide +kernel
theorem dX10_wave_50 : decode cX10_wave 50 = .ok (.iconst 1, 1) := by decide +kernel
theorem dX10_wave_51 : decode cX10_wave 51 = .ok (.if_icmp .ne 19, 3) := by decide +kernel
theorem dX10_wave_54 : decode cX10_wave 54 = .ok (.aload_n 0, 1) := by decide +kernel
theorem dX10_wave_55 : decode cX10_wave 55 = .ok (.iload_n 1, 1) := by decide +kernel
theorem dX10_wave_56 : decode cX10_wave 56 = .ok (.invokevirtual 176, 3) := by decide +kernel
theorem dX10_wave_59 : decode cX10_wave 59 = .ok (.aload_n 0, 1) := by decide +kernel
theorem dX10_wave_60 : decode cX10_wave 60 = .ok (.iload_n 1, 1) := by decide +kernel
theorem dX10_wave_61 : decode cX10_wave 61 = .ok (.invokevirtual 179, 3) := by decide +kernel
theorem dX10_wave_64 : decode cX10_wave 64 = .ok (.invokestatic 173, 3) := by decide +kernel
theorem dX10_wave_67 : decode cX10_wave 67 = .ok (.goto 21, 3) := by decide +kernel
theorem dX10_wave_70 : decode cX10_wave 70 = .ok (.iload_n 2, 1) := by decide +kernel
theorem dX10_wave_71 : decode cX10_wave 71 = .ok (.iconst 2, 1) := by decide +kernel
theorem dX10_wave_72 : decode cX10_wave 72 = .ok (.if_icmp .ne 11, 3) := by decide +kernel
theorem dX10_wave_75 : decode cX10_wave 75 = .ok (.aload_n 0, 1) := by decide +kernel
theorem dX10_wave_76 : decode cX10_wave 76 = .ok (.iload_n 1, 1) := by decide +kernel
theorem dX10_wave_77 : decode cX10_wave 77 = .ok (.invokevirtual 233, 3) := by decide +kernel
theorem dX10_wave_80 : decode cX10_wave 80 = .ok (.goto 8, 3) := by decide +kernel
theorem dX10_wave_83 : decode cX10_wave 83 = .ok (.aload_n 0, 1) := by decide +kernel
theorem dX10_wave_84 : decode cX10_wave 84 = .ok (.iload_n 1, 1) := by decide +kernel
theorem dX10_wave_85 : decode cX10_wave 85 = .ok (.invokevirtual 176, 3) := by decide +kernel
theorem dX10_wave_88 : decode cX10_wave 88 = .ok (.ireturn, 1) := by decide +kernel
theorem dX10_ahead_0 : decode cX10_ahead 0 = .ok (.aload_n 0, 1) := by decide +kernel
theorem dX10_ahead_1 : decode cX10_ahead 1 = .ok (.invokevirtual 196, 3) := by decide +kernel
theorem dX10_ahead_4 : decode cX10_ahead 4 = .ok (.ifCond .ne 6, 3) := by decide +kernel
theorem dX10_ahead_7 : decode cX10_ahead 7 = .ok (.ldc 199, 2) := by decide +kernel
theorem dX10_ahead_9 : decode cX10_ahead 9 = .ok (.ireturn, 1) := by decide +kernel
theorem dX10_ahead_10 : decode cX10_ahead 10 = .ok (.iload_n 1, 1) := by decide +kernel
theorem dX10_ahead_11 : decode cX10_ahead 11 = .ok (.i2l, 1) := by decide +kernel
theorem dX10_ahead_12 : decode cX10_ahead 12 = .ok (.lconst 0, 1) := by decide +kernel
theorem dX10_ahead_13 : decode cX10_ahead 13 = .ok (.ldc2_w 236, 3) := by decide +kernel
theorem dX10_ahead_16 : decode cX10_ahead 16 = .ok (.invokestatic 64, 3) := by decide +kernel
theorem dX10_ahead_19 : decode cX10_ahead 19 = .ok (.ifCond .eq 13, 3) := by decide +kernel
theorem dX10_ahead_22 : decode cX10_ahead 22 = .ok (.iload_n 2, 1) := by decide +kernel
theorem dX10_ahead_23 : decode cX10_ahead 23 = .ok (.i2l, 1) := by decide +kernel
theorem dX10_ahead_24 : decode cX10_ahead 24 = .ok (.lconst 0, 1) := by decide +kernel
theorem dX10_ahead_25 : decode cX10_ahead 25 = .ok (.lconst 1, 1) := by decide +kernel
theorem dX10_ahead_26 : decode cX10_ahead 26 = .ok (.invokestatic 64, 3) := by decide +kernel
theorem dX10_ahead_29 : decode cX10_ahead 29 = .ok (.ifCond .ne 6, 3) := by decide +kernel
theorem dX10_ahead_32 : decode cX10_ahead 32 = .ok (.ldc 79, 2) := by decide +kernel
theorem dX10_ahead_34 : decode cX10_ahead 34 = .ok (.ireturn, 1) := by decide +kernel
theorem dX10_ahead_35 : decode cX10_ahead 35 = .ok (.aload_n 0, 1) := by decide +kernel
theorem dX10_ahead_36 : decode cX10_ahead 36 = .ok (.invokevirtual 205, 3) := by decide +kernel
theorem dX10_ahead_39 : decode cX10_ahead 39 = .ok (.aload_n 0, 1) := by decide +kernel
theorem dX10_ahead_40 : decode cX10_ahead 40 = .ok (.iload_n 1, 1) := by decide +kernel
theorem dX10_ahead_41 : decode cX10_ahead 41 = .ok (.invokevirtual 208, 3) := by decide +kernel
theorem dX10_ahead_44 : decode cX10_ahead 44 = .ok (.aload_n 0, 1) := by decide +kernel
theorem dX10_ahead_45 : decode cX10_ahead 45 = .ok (.iload_n 2, 1) := by decide +kernel
theorem dX10_ahead_46 : decode cX10_ahead 46 = .ok (.iconst 1, 1) := by decide +kernel
theorem dX10_ahead_47 : decode cX10_ahead 47 = .ok (.iadd, 1) := by decide +kernel
theorem dX10_ahead_48 : decode cX10_ahead 48 = .ok (.invokevirtual 238, 3) := by decide +kernel
theorem dX10_ahead_51 : decode cX10_ahead 51 = .ok (.ireturn, 1) := by decide +kernel
theorem dX10_shipAhead_0 : decode cX10_shipAhead 0 = .ok (.aload_n 0, 1) := by decide +kernel
theorem dX10_shipAhead_1 : decode cX10_shipAhead 1 = .ok (.iload_n 1, 1) := by decide +kernel
theorem dX10_shipAhead_2 : decode cX10_shipAhead 2 = .ok (.invokevirtual 221, 3) := by decide +kernel
theorem dX10_shipAhead_5 : decode cX10_shipAhead 5 = .ok (.ifCond .eq 25, 3) := by decide +kernel
theorem dX10_shipAhead_8 : decode cX10_shipAhead 8 = .ok (.iload_n 2, 1) := by decide +kernel
theorem dX10_shipAhead_9 : decode cX10_shipAhead 9 = .ok (.i2l, 1) := by decide +kernel
theorem dX10_shipAhead_10 : decode cX10_shipAhead 10 = .ok (.lconst 0, 1) := by decide +kernel
theorem dX10_shipAhead_11 : decode cX10_shipAhead 11 = .ok (.ldc2_w 236, 3) := by decide +kernel
theorem dX10_shipAhead_14 : decode cX10_shipAhead 14 = .ok (.invokestatic 64, 3) := by decide +kernel
theorem dX10_shipAhead_17 : decode cX10_shipAhead 17 = .ok (.ifCond .eq 13, 3) := by decide +kernel
theorem dX10_shipAhead_20 : decode cX10_shipAhead 20 = .ok (.iload_n 3, 1) := by decide +kernel
theorem dX10_shipAhead_21 : decode cX10_shipAhead 21 = .ok (.i2l, 1) := by decide +kernel
theorem dX10_shipAhead_22 : decode cX10_shipAhead 22 = .ok (.lconst 0, 1) := by decide +kernel
theorem dX10_shipAhead_23 : decode cX10_shipAhead 23 = .ok (.lconst 1, 1) := by decide +kernel
theorem dX10_shipAhead_24 : decode cX10_shipAhead 24 = .ok (.invokestatic 64, 3) := by decide +kernel
theorem dX10_shipAhead_27 : decode cX10_shipAhead 27 = .ok (.ifCond .ne 6, 3) := by decide +kernel
theorem dX10_shipAhead_30 : decode cX10_shipAhead 30 = .ok (.ldc 79, 2) := by decide +kernel
theorem dX10_shipAhead_32 : decode cX10_shipAhead 32 = .ok (.ireturn, 1) := by decide +kernel
theorem dX10_shipAhead_33 : decode cX10_shipAhead 33 = .ok (.aload_n 0, 1) := by decide +kernel
theorem dX10_shipAhead_34 : decode cX10_shipAhead 34 = .ok (.invokevirtual 205, 3) := by decide +kernel
theorem dX10_shipAhead_37 : decode cX10_shipAhead 37 = .ok (.aload_n 0, 1) := by decide +kernel
theorem dX10_shipAhead_38 : decode cX10_shipAhead 38 = .ok (.iload_n 2, 1) := by decide +kernel
theorem dX10_shipAhead_39 : decode cX10_shipAhead 39 = .ok (.invokevirtual 208, 3) := by decide +kernel
theorem dX10_shipAhead_42 : decode cX10_shipAhead 42 = .ok (.iload_n 3, 1) := by decide +kernel
theorem dX10_shipAhead_43 : decode cX10_shipAhead 43 = .ok (.ifCond .ne 15, 3) := by decide +kernel
theorem dX10_shipAhead_46 : decode cX10_shipAhead 46 = .ok (.aload_n 0, 1) := by decide +kernel
theorem dX10_shipAhead_47 : decode cX10_shipAhead 47 = .ok (.getfield 50, 3) := by decide +kernel
theorem dX10_shipAhead_50 : decode cX10_shipAhead 50 = .ok (.bipush 17, 2) := by decide +kernel
theorem dX10_shipAhead_52 : decode cX10_shipAhead 52 = .ok (.iload_n 1, 1) := by decide +kernel
theorem dX10_shipAhead_53 : decode cX10_shipAhead 53 = .ok (.iadd, 1) := by decide +kernel
theorem dX10_shipAhead_54 : decode cX10_shipAhead 54 = .ok (.iaload, 1) := by decide +kernel
theorem dX10_shipAhead_55 : decode cX10_shipAhead 55 = .ok (.goto 12, 3) := by decide +kernel
theorem dX10_shipAhead_58 : decode cX10_shipAhead 58 = .ok (.aload_n 0, 1) := by decide +kernel
theorem dX10_shipAhead_59 : decode cX10_shipAhead 59 = .ok (.getfield 50, 3) := by decide +kernel
theorem dX10_shipAhead_62 : decode cX10_shipAhead 62 = .ok (.bipush 23, 2) := by decide +kernel
theorem dX10_shipAhead_64 : decode cX10_shipAhead 64 = .ok (.iload_n 1, 1) := by decide +kernel
theorem dX10_shipAhead_65 : decode cX10_shipAhead 65 = .ok (.iadd, 1) := by decide +kernel
theorem dX10_shipAhead_66 : decode cX10_shipAhead 66 = .ok (.iaload, 1) := by decide +kernel
theorem dX10_shipAhead_67 : decode cX10_shipAhead 67 = .ok (.ireturn, 1) := by decide +kernel
theorem dX10_towerAhead_0 : decode cX10_towerAhead 0 = .ok (.aload_n 0, 1) := by decide +kernel
theorem dX10_towerAhead_1 : decode cX10_towerAhead 1 = .ok (.iload_n 1, 1) := by decide +kernel
theorem dX10_towerAhead_2 : decode cX10_towerAhead 2 = .ok (.invokevirtual 212, 3) := by decide +kernel
theorem dX10_towerAhead_5 : decode cX10_towerAhead 5 = .ok (.ifCond .eq 15, 3) := by decide +kernel
theorem dX10_towerAhead_8 : decode cX10_towerAhead 8 = .ok (.iload_n 2, 1) := by decide +kernel
theorem dX10_towerAhead_9 : decode cX10_towerAhead 9 = .ok (.i2l, 1) := by decide +kernel
theorem dX10_towerAhead_10 : decode cX10_towerAhead 10 = .ok (.lconst 0, 1) := by decide +kernel
theorem dX10_towerAhead_11 : decode cX10_towerAhead 11 = .ok (.ldc2_w 236, 3) := by decide +kernel
theorem dX10_towerAhead_14 : decode cX10_towerAhead 14 = .ok (.invokestatic 64, 3) := by decide +kernel
theorem dX10_towerAhead_17 : decode cX10_towerAhead 17 = .ok (.ifCond .ne 6, 3) := by decide +kernel
theorem dX10_towerAhead_20 : decode cX10_towerAhead 20 = .ok (.ldc 79, 2) := by decide +kernel
theorem dX10_towerAhead_22 : decode cX10_towerAhead 22 = .ok (.ireturn, 1) := by decide +kernel
theorem dX10_towerAhead_23 : decode cX10_towerAhead 23 = .ok (.aload_n 0, 1) := by decide +kernel
theorem dX10_towerAhead_24 : decode cX10_towerAhead 24 = .ok (.invokevirtual 205, 3) := by decide +kernel
theorem dX10_towerAhead_27 : decode cX10_towerAhead 27 = .ok (.aload_n 0, 1) := by decide +kernel
theorem dX10_towerAhead_28 : decode cX10_towerAhead 28 = .ok (.iload_n 2, 1) := by decide +kernel
theorem dX10_towerAhead_29 : decode cX10_towerAhead 29 = .ok (.invokevirtual 208, 3) := by decide +kernel
theorem dX10_towerAhead_32 : decode cX10_towerAhead 32 = .ok (.aload_n 0, 1) := by decide +kernel
theorem dX10_towerAhead_33 : decode cX10_towerAhead 33 = .ok (.getfield 50, 3) := by decide +kernel
theorem dX10_towerAhead_36 : decode cX10_towerAhead 36 = .ok (.iconst 2, 1) := by decide +kernel
theorem dX10_towerAhead_37 : decode cX10_towerAhead 37 = .ok (.iload_n 1, 1) := by decide +kernel
theorem dX10_towerAhead_38 : decode cX10_towerAhead 38 = .ok (.iadd, 1) := by decide +kernel
theorem dX10_towerAhead_39 : decode cX10_towerAhead 39 = .ok (.iaload, 1) := by decide +kernel
theorem dX10_towerAhead_40 : decode cX10_towerAhead 40 = .ok (.ireturn, 1) := by decide +kernel
theorem dX10_called_0 : decode cX10_called 0 = .ok (.aload_n 0, 1) := by decide +kernel
theorem dX10_called_1 : decode cX10_called 1 = .ok (.iload_n 1, 1) := by decide +kernel
theorem dX10_called_2 : decode cX10_called 2 = .ok (.invokevirtual 212, 3) := by decide +kernel
theorem dX10_called_5 : decode cX10_called 5 = .ok (.ifCond .eq 7, 3) := by decide +kernel
theorem dX10_called_8 : decode cX10_called 8 = .ok (.iload_n 2, 1) := by decide +kernel
theorem dX10_called_9 : decode cX10_called 9 = .ok (.ifCond .ge 6, 3) := by decide +kernel
theorem dX10_called_12 : decode cX10_called 12 = .ok (.ldc 79, 2) := by decide +kernel
theorem dX10_called_14 : decode cX10_called 14 = .ok (.ireturn, 1) := by decide +kernel
theorem dX10_called_15 : decode cX10_called 15 = .ok (.aload_n 0, 1) := by decide +kernel
theorem dX10_called_16 : decode cX10_called 16 = .ok (.getfield 28, 3) := by decide +kernel
theorem dX10_called_19 : decode cX10_called 19 = .ok (.iconst 2, 1) := by decide +kernel
theorem dX10_called_20 : decode cX10_called 20 = .ok (.iload_n 1, 1) := by decide +kernel
theorem dX10_called_21 : decode cX10_called 21 = .ok (.iadd, 1) := by decide +kernel
theorem dX10_called_22 : decode cX10_called 22 = .ok (.iaload, 1) := by decide +kernel
theorem dX10_called_23 : decode cX10_called 23 = .ok (.istore_n 3, 1) := by decide +kernel
theorem dX10_called_24 : decode cX10_called 24 = .ok (.iconst 0, 1) := by decide +kernel
theorem dX10_called_25 : decode cX10_called 25 = .ok (.istore 4, 2) := by decide +kernel
theorem dX10_called_27 : decode cX10_called 27 = .ok (.aload_n 0, 1) := by decide +kernel
theorem dX10_called_28 : decode cX10_called 28 = .ok (.getfield 28, 3) := by decide +kernel
theorem dX10_called_31 : decode cX10_called 31 = .ok (.iconst 0, 1) := by decide +kernel
theorem dX10_called_32 : decode cX10_called 32 = .ok (.iaload, 1) := by decide +kernel
theorem dX10_called_33 : decode cX10_called 33 = .ok (.istore 5, 2) := by decide +kernel
theorem dX10_called_35 : decode cX10_called 35 = .ok (.iload 5, 2) := by decide +kernel
theorem dX10_called_37 : decode cX10_called 37 = .ok (.aload_n 0, 1) := by decide +kernel
theorem dX10_called_38 : decode cX10_called 38 = .ok (.getfield 28, 3) := by decide +kernel
theorem dX10_called_41 : decode cX10_called 41 = .ok (.iconst 0, 1) := by decide +kernel
theorem dX10_called_42 : decode cX10_called 42 = .ok (.iaload, 1) := by decide +kernel
theorem dX10_called_43 : decode cX10_called 43 = .ok (.sipush 200, 3) := by decide +kernel
theorem dX10_called_46 : decode cX10_called 46 = .ok (.iadd, 1) := by decide +kernel
theorem dX10_called_47 : decode cX10_called 47 = .ok (.if_icmp .ge 61, 3) := by decide +kernel
theorem dX10_called_50 : decode cX10_called 50 = .ok (.aload_n 0, 1) := by decide +kernel
theorem dX10_called_51 : decode cX10_called 51 = .ok (.getfield 25, 3) := by decide +kernel
theorem dX10_called_54 : decode cX10_called 54 = .ok (.bipush 46, 2) := by decide +kernel
theorem dX10_called_56 : decode cX10_called 56 = .ok (.iload_n 1, 1) := by decide +kernel
theorem dX10_called_57 : decode cX10_called 57 = .ok (.iadd, 1) := by decide +kernel
theorem dX10_called_58 : decode cX10_called 58 = .ok (.iaload, 1) := by decide +kernel
theorem dX10_called_59 : decode cX10_called 59 = .ok (.aload_n 0, 1) := by decide +kernel
theorem dX10_called_60 : decode cX10_called 60 = .ok (.iload 5, 2) := by decide +kernel
theorem dX10_called_62 : decode cX10_called 62 = .ok (.invokevirtual 176, 3) := by decide +kernel
theorem dX10_called_65 : decode cX10_called 65 = .ok (.invokestatic 186, 3) := by decide +kernel
theorem dX10_called_68 : decode cX10_called 68 = .ok (.istore 6, 2) := by decide +kernel
theorem dX10_called_70 : decode cX10_called 70 = .ok (.iload_n 3, 1) := by decide +kernel
theorem dX10_called_71 : decode cX10_called 71 = .ok (.iload 6, 2) := by decide +kernel
theorem dX10_called_73 : decode cX10_called 73 = .ok (.aload_n 0, 1) := by decide +kernel
theorem dX10_called_74 : decode cX10_called 74 = .ok (.getfield 28, 3) := by decide +kernel
theorem dX10_called_77 : decode cX10_called 77 = .ok (.iconst 1, 1) := by decide +kernel
theorem dX10_called_78 : decode cX10_called 78 = .ok (.iaload, 1) := by decide +kernel
theorem dX10_called_79 : decode cX10_called 79 = .ok (.invokestatic 189, 3) := by decide +kernel
theorem dX10_called_82 : decode cX10_called 82 = .ok (.ifCond .eq 15, 3) := by decide +kernel
theorem dX10_called_85 : decode cX10_called 85 = .ok (.iload 4, 2) := by decide +kernel
theorem dX10_called_87 : decode cX10_called 87 = .ok (.iload_n 2, 1) := by decide +kernel
theorem dX10_called_88 : decode cX10_called 88 = .ok (.if_icmp .ne 6, 3) := by decide +kernel
theorem dX10_called_91 : decode cX10_called 91 = .ok (.iload 5, 2) := by decide +kernel
theorem dX10_called_93 : decode cX10_called 93 = .ok (.ireturn, 1) := by decide +kernel
theorem dX10_called_94 : decode cX10_called 94 = .ok (.iinc 4 1, 3) := by decide +kernel
theorem dX10_called_97 : decode cX10_called 97 = .ok (.iload_n 3, 1) := by decide +kernel
theorem dX10_called_98 : decode cX10_called 98 = .ok (.iload 6, 2) := by decide +kernel
theorem dX10_called_100 : decode cX10_called 100 = .ok (.iadd, 1) := by decide +kernel
theorem dX10_called_101 : decode cX10_called 101 = .ok (.istore_n 3, 1) := by decide +kernel
theorem dX10_called_102 : decode cX10_called 102 = .ok (.iinc 5 1, 3) := by decide +kernel
theorem dX10_called_105 : decode cX10_called 105 = .ok (.goto (-70), 3) := by decide +kernel
theorem dX10_called_108 : decode cX10_called 108 = .ok (.ldc 165, 2) := by decide +kernel
theorem dX10_called_110 : decode cX10_called 110 = .ok (.ireturn, 1) := by decide +kernel
theorem dX10_fit_0 : decode cX10_fit 0 = .ok (.aload_n 0, 1) := by decide +kernel
theorem dX10_fit_1 : decode cX10_fit 1 = .ok (.iload_n 1, 1) := by decide +kernel
theorem dX10_fit_2 : decode cX10_fit 2 = .ok (.invokevirtual 221, 3) := by decide +kernel
theorem dX10_fit_5 : decode cX10_fit 5 = .ok (.ifCond .eq 7, 3) := by decide +kernel
theorem dX10_fit_8 : decode cX10_fit 8 = .ok (.iload_n 2, 1) := by decide +kernel
theorem dX10_fit_9 : decode cX10_fit 9 = .ok (.ifCond .ge 6, 3) := by decide +kernel
theorem dX10_fit_12 : decode cX10_fit 12 = .ok (.ldc 79, 2) := by decide +kernel
theorem dX10_fit_14 : decode cX10_fit 14 = .ok (.ireturn, 1) := by decide +kernel
theorem dX10_fit_15 : decode cX10_fit 15 = .ok (.iconst 0, 1) := by decide +kernel
theorem dX10_fit_16 : decode cX10_fit 16 = .ok (.istore_n 3, 1) := by decide +kernel
theorem dX10_fit_17 : decode cX10_fit 17 = .ok (.aload_n 0, 1) := by decide +kernel
theorem dX10_fit_18 : decode cX10_fit 18 = .ok (.getfield 28, 3) := by decide +kernel
theorem dX10_fit_21 : decode cX10_fit 21 = .ok (.iconst 0, 1) := by decide +kernel
theorem dX10_fit_22 : decode cX10_fit 22 = .ok (.iaload, 1) := by decide +kernel
theorem dX10_fit_23 : decode cX10_fit 23 = .ok (.istore 4, 2) := by decide +kernel
theorem dX10_fit_25 : decode cX10_fit 25 = .ok (.iload 4, 2) := by decide +kernel
theorem dX10_fit_27 : decode cX10_fit 27 = .ok (.aload_n 0, 1) := by decide +kernel
theorem dX10_fit_28 : decode cX10_fit 28 = .ok (.getfield 28, 3) := by decide +kernel
theorem dX10_fit_31 : decode cX10_fit 31 = .ok (.iconst 0, 1) := by decide +kernel
theorem dX10_fit_32 : decode cX10_fit 32 = .ok (.iaload, 1) := by decide +kernel
theorem dX10_fit_33 : decode cX10_fit 33 = .ok (.bipush 100, 2) := by decide +kernel
theorem dX10_fit_35 : decode cX10_fit 35 = .ok (.iadd, 1) := by decide +kernel
theorem dX10_fit_36 : decode cX10_fit 36 = .ok (.if_icmp .ge 38, 3) := by decide +kernel
theorem dX10_fit_39 : decode cX10_fit 39 = .ok (.aload_n 0, 1) := by decide +kernel
theorem dX10_fit_40 : decode cX10_fit 40 = .ok (.iload 4, 2) := by decide +kernel
theorem dX10_fit_42 : decode cX10_fit 42 = .ok (.invokevirtual 233, 3) := by decide +kernel
theorem dX10_fit_45 : decode cX10_fit 45 = .ok (.aload_n 0, 1) := by decide +kernel
theorem dX10_fit_46 : decode cX10_fit 46 = .ok (.getfield 25, 3) := by decide +kernel
theorem dX10_fit_49 : decode cX10_fit 49 = .ok (.bipush 49, 2) := by decide +kernel
theorem dX10_fit_51 : decode cX10_fit 51 = .ok (.iload_n 1, 1) := by decide +kernel
theorem dX10_fit_52 : decode cX10_fit 52 = .ok (.iadd, 1) := by decide +kernel
theorem dX10_fit_53 : decode cX10_fit 53 = .ok (.iaload, 1) := by decide +kernel
theorem dX10_fit_54 : decode cX10_fit 54 = .ok (.if_icmp .lt 14, 3) := by decide +kernel
theorem dX10_fit_57 : decode cX10_fit 57 = .ok (.iload_n 3, 1) := by decide +kernel
theorem dX10_fit_58 : decode cX10_fit 58 = .ok (.iload_n 2, 1) := by decide +kernel
theorem dX10_fit_59 : decode cX10_fit 59 = .ok (.if_icmp .ne 6, 3) := by decide +kernel
theorem dX10_fit_62 : decode cX10_fit 62 = .ok (.iload 4, 2) := by decide +kernel
theorem dX10_fit_64 : decode cX10_fit 64 = .ok (.ireturn, 1) := by decide +kernel
theorem dX10_fit_65 : decode cX10_fit 65 = .ok (.iinc 3 1, 3) := by decide +kernel
theorem dX10_fit_68 : decode cX10_fit 68 = .ok (.iinc 4 1, 3) := by decide +kernel
theorem dX10_fit_71 : decode cX10_fit 71 = .ok (.goto (-46), 3) := by decide +kernel
theorem dX10_fit_74 : decode cX10_fit 74 = .ok (.ldc 165, 2) := by decide +kernel
theorem dX10_fit_76 : decode cX10_fit 76 = .ok (.ireturn, 1) := by decide +kernel
theorem dX10_highest_0 : decode cX10_highest 0 = .ok (.aload_n 0, 1) := by decide +kernel
theorem dX10_highest_1 : decode cX10_highest 1 = .ok (.invokevirtual 196, 3) := by decide +kernel
theorem dX10_highest_4 : decode cX10_highest 4 = .ok (.ifCond .ne 6, 3) := by decide +kernel
theorem dX10_highest_7 : decode cX10_highest 7 = .ok (.ldc 199, 2) := by decide +kernel
theorem dX10_highest_9 : decode cX10_highest 9 = .ok (.ireturn, 1) := by decide +kernel
theorem dX10_highest_10 : decode cX10_highest 10 = .ok (.iload_n 1, 1) := by decide +kernel
theorem dX10_highest_11 : decode cX10_highest 11 = .ok (.i2l, 1) := by decide +kernel
theorem dX10_highest_12 : decode cX10_highest 12 = .ok (.lconst 1, 1) := by decide +kernel
theorem dX10_highest_13 : decode cX10_highest 13 = .ok (.ldc2_w 241, 3) := by decide +kernel
theorem dX10_highest_16 : decode cX10_highest 16 = .ok (.invokestatic 64, 3) := by decide +kernel
theorem dX10_highest_19 : decode cX10_highest 19 = .ok (.ifCond .eq 13, 3) := by decide +kernel
theorem dX10_highest_22 : decode cX10_highest 22 = .ok (.iload_n 2, 1) := by decide +kernel
theorem dX10_highest_23 : decode cX10_highest 23 = .ok (.i2l, 1) := by decide +kernel
theorem dX10_highest_24 : decode cX10_highest 24 = .ok (.lconst 0, 1) := by decide +kernel
theorem dX10_highest_25 : decode cX10_highest 25 = .ok (.lconst 1, 1) := by decide +kernel
theorem dX10_highest_26 : decode cX10_highest 26 = .ok (.invokestatic 64, 3) := by decide +kernel
theorem dX10_highest_29 : decode cX10_highest 29 = .ok (.ifCond .ne 6, 3) := by decide +kernel
theorem dX10_highest_32 : decode cX10_highest 32 = .ok (.ldc 79, 2) := by decide +kernel
theorem dX10_highest_34 : decode cX10_highest 34 = .ok (.ireturn, 1) := by decide +kernel
theorem dX10_highest_35 : decode cX10_highest 35 = .ok (.aload_n 0, 1) := by decide +kernel
theorem dX10_highest_36 : decode cX10_highest 36 = .ok (.getfield 28, 3) := by decide +kernel
theorem dX10_highest_39 : decode cX10_highest 39 = .ok (.iconst 0, 1) := by decide +kernel
theorem dX10_highest_40 : decode cX10_highest 40 = .ok (.iaload, 1) := by decide +kernel
theorem dX10_highest_41 : decode cX10_highest 41 = .ok (.istore_n 3, 1) := by decide +kernel
theorem dX10_highest_42 : decode cX10_highest 42 = .ok (.aload_n 0, 1) := by decide +kernel
theorem dX10_highest_43 : decode cX10_highest 43 = .ok (.getfield 28, 3) := by decide +kernel
theorem dX10_highest_46 : decode cX10_highest 46 = .ok (.iconst 0, 1) := by decide +kernel
theorem dX10_highest_47 : decode cX10_highest 47 = .ok (.iaload, 1) := by decide +kernel
theorem dX10_highest_48 : decode cX10_highest 48 = .ok (.istore 4, 2) := by decide +kernel
theorem dX10_highest_50 : decode cX10_highest 50 = .ok (.iload 4, 2) := by decide +kernel
theorem dX10_highest_52 : decode cX10_highest 52 = .ok (.aload_n 0, 1) := by decide +kernel
theorem dX10_highest_53 : decode cX10_highest 53 = .ok (.getfield 28, 3) := by decide +kernel
theorem dX10_highest_56 : decode cX10_highest 56 = .ok (.iconst 0, 1) := by decide +kernel
theorem dX10_highest_57 : decode cX10_highest 57 = .ok (.iaload, 1) := by decide +kernel
theorem dX10_highest_58 : decode cX10_highest 58 = .ok (.iload_n 1, 1) := by decide +kernel
theorem dX10_highest_59 : decode cX10_highest 59 = .ok (.iadd, 1) := by decide +kernel
theorem dX10_highest_60 : decode cX10_highest 60 = .ok (.if_icmp .ge 30, 3) := by decide +kernel
theorem dX10_highest_63 : decode cX10_highest 63 = .ok (.aload_n 0, 1) := by decide +kernel
theorem dX10_highest_64 : decode cX10_highest 64 = .ok (.iload 4, 2) := by decide +kernel
theorem dX10_highest_66 : decode cX10_highest 66 = .ok (.invokevirtual 233, 3) := by decide +kernel
theorem dX10_highest_69 : decode cX10_highest 69 = .ok (.aload_n 0, 1) := by decide +kernel
theorem dX10_highest_70 : decode cX10_highest 70 = .ok (.iload_n 3, 1) := by decide +kernel
theorem dX10_highest_71 : decode cX10_highest 71 = .ok (.invokevirtual 233, 3) := by decide +kernel
theorem dX10_highest_74 : decode cX10_highest 74 = .ok (.if_icmp .le 8, 3) := by decide +kernel
theorem dX10_highest_77 : decode cX10_highest 77 = .ok (.iload 4, 2) := by decide +kernel
theorem dX10_highest_79 : decode cX10_highest 79 = .ok (.goto 4, 3) := by decide +kernel
theorem dX10_highest_82 : decode cX10_highest 82 = .ok (.iload_n 3, 1) := by decide +kernel
theorem dX10_highest_83 : decode cX10_highest 83 = .ok (.istore_n 3, 1) := by decide +kernel
theorem dX10_highest_84 : decode cX10_highest 84 = .ok (.iinc 4 1, 3) := by decide +kernel
theorem dX10_highest_87 : decode cX10_highest 87 = .ok (.goto (-37), 3) := by decide +kernel
theorem dX10_highest_90 : decode cX10_highest 90 = .ok (.iload_n 2, 1) := by decide +kernel
theorem dX10_highest_91 : decode cX10_highest 91 = .ok (.ifCond .ne 7, 3) := by decide +kernel
theorem dX10_highest_94 : decode cX10_highest 94 = .ok (.iload_n 3, 1) := by decide +kernel
theorem dX10_highest_95 : decode cX10_highest 95 = .ok (.goto 8, 3) := by decide +kernel
theorem dX10_highest_98 : decode cX10_highest 98 = .ok (.aload_n 0, 1) := by decide +kernel
theorem dX10_highest_99 : decode cX10_highest 99 = .ok (.iload_n 3, 1) := by decide +kernel
theorem dX10_highest_100 : decode cX10_highest 100 = .ok (.invokevirtual 233, 3) := by decide +kernel
theorem dX10_highest_103 : decode cX10_highest 103 = .ok (.ireturn, 1) := by decide +kernel
theorem dX10_lays_0 : decode cX10_lays 0 = .ok (.iload_n 1, 1) := by decide +kernel
theorem dX10_lays_1 : decode cX10_lays 1 = .ok (.istore_n 3, 1) := by decide +kernel
theorem dX10_lays_2 : decode cX10_lays 2 = .ok (.iconst 0, 1) := by decide +kernel
theorem dX10_lays_3 : decode cX10_lays 3 = .ok (.istore 4, 2) := by decide +kernel
theorem dX10_lays_5 : decode cX10_lays 5 = .ok (.iload_n 2, 1) := by decide +kernel
theorem dX10_lays_6 : decode cX10_lays 6 = .ok (.iconst 1, 1) := by decide +kernel
theorem dX10_lays_7 : decode cX10_lays 7 = .ok (.isub, 1) := by decide +kernel
theorem dX10_lays_8 : decode cX10_lays 8 = .ok (.istore 5, 2) := by decide +kernel
theorem dX10_lays_10 : decode cX10_lays 10 = .ok (.iload 5, 2) := by decide +kernel
theorem dX10_lays_12 : decode cX10_lays 12 = .ok (.ifCond .lt 37, 3) := by decide +kernel
theorem dX10_lays_15 : decode cX10_lays 15 = .ok (.aload_n 0, 1) := by decide +kernel
theorem dX10_lays_16 : decode cX10_lays 16 = .ok (.getfield 53, 3) := by decide +kernel
theorem dX10_lays_19 : decode cX10_lays 19 = .ok (.iload 5, 2) := by decide +kernel
theorem dX10_lays_21 : decode cX10_lays 21 = .ok (.iload_n 3, 1) := by decide +kernel
theorem dX10_lays_22 : decode cX10_lays 22 = .ok (.iload_n 2, 1) := by decide +kernel
theorem dX10_lays_23 : decode cX10_lays 23 = .ok (.irem, 1) := by decide +kernel
theorem dX10_lays_24 : decode cX10_lays 24 = .ok (.iastore, 1) := by decide +kernel
theorem dX10_lays_25 : decode cX10_lays 25 = .ok (.iload_n 3, 1) := by decide +kernel
theorem dX10_lays_26 : decode cX10_lays 26 = .ok (.iload_n 2, 1) := by decide +kernel
theorem dX10_lays_27 : decode cX10_lays 27 = .ok (.idiv, 1) := by decide +kernel
theorem dX10_lays_28 : decode cX10_lays 28 = .ok (.istore_n 3, 1) := by decide +kernel
theorem dX10_lays_29 : decode cX10_lays 29 = .ok (.iload 4, 2) := by decide +kernel
theorem dX10_lays_31 : decode cX10_lays 31 = .ok (.iconst 1, 1) := by decide +kernel
theorem dX10_lays_32 : decode cX10_lays 32 = .ok (.aload_n 0, 1) := by decide +kernel
theorem dX10_lays_33 : decode cX10_lays 33 = .ok (.getfield 53, 3) := by decide +kernel
theorem dX10_lays_36 : decode cX10_lays 36 = .ok (.iload 5, 2) := by decide +kernel
theorem dX10_lays_38 : decode cX10_lays 38 = .ok (.iaload, 1) := by decide +kernel
theorem dX10_lays_39 : decode cX10_lays 39 = .ok (.ishl, 1) := by decide +kernel
theorem dX10_lays_40 : decode cX10_lays 40 = .ok (.ior, 1) := by decide +kernel
theorem dX10_lays_41 : decode cX10_lays 41 = .ok (.istore 4, 2) := by decide +kernel
theorem dX10_lays_43 : decode cX10_lays 43 = .ok (.iinc 5 (-1), 3) := by decide +kernel
theorem dX10_lays_46 : decode cX10_lays 46 = .ok (.goto (-36), 3) := by decide +kernel
theorem dX10_lays_49 : decode cX10_lays 49 = .ok (.iload 4, 2) := by decide +kernel
theorem dX10_lays_51 : decode cX10_lays 51 = .ok (.iconst 1, 1) := by decide +kernel
theorem dX10_lays_52 : decode cX10_lays 52 = .ok (.iload_n 2, 1) := by decide +kernel
theorem dX10_lays_53 : decode cX10_lays 53 = .ok (.ishl, 1) := by decide +kernel
theorem dX10_lays_54 : decode cX10_lays 54 = .ok (.iconst 1, 1) := by decide +kernel
theorem dX10_lays_55 : decode cX10_lays 55 = .ok (.isub, 1) := by decide +kernel
theorem dX10_lays_56 : decode cX10_lays 56 = .ok (.if_icmp .ne 7, 3) := by decide +kernel
theorem dX10_lays_59 : decode cX10_lays 59 = .ok (.iconst 1, 1) := by decide +kernel
theorem dX10_lays_60 : decode cX10_lays 60 = .ok (.goto 4, 3) := by decide +kernel
theorem dX10_lays_63 : decode cX10_lays 63 = .ok (.iconst 0, 1) := by decide +kernel
theorem dX10_lays_64 : decode cX10_lays 64 = .ok (.ireturn, 1) := by decide +kernel
theorem dX10_order_0 : decode cX10_order 0 = .ok (.aload_n 0, 1) := by decide +kernel
theorem dX10_order_1 : decode cX10_order 1 = .ok (.invokevirtual 196, 3) := by decide +kernel
theorem dX10_order_4 : decode cX10_order 4 = .ok (.ifCond .ne 6, 3) := by decide +kernel
theorem dX10_order_7 : decode cX10_order 7 = .ok (.ldc 199, 2) := by decide +kernel
theorem dX10_order_9 : decode cX10_order 9 = .ok (.ireturn, 1) := by decide +kernel
theorem dX10_order_10 : decode cX10_order 10 = .ok (.iload_n 1, 1) := by decide +kernel
theorem dX10_order_11 : decode cX10_order 11 = .ok (.i2l, 1) := by decide +kernel
theorem dX10_order_12 : decode cX10_order 12 = .ok (.lconst 1, 1) := by decide +kernel
theorem dX10_order_13 : decode cX10_order 13 = .ok (.ldc2_w 243, 3) := by decide +kernel
theorem dX10_order_16 : decode cX10_order 16 = .ok (.invokestatic 64, 3) := by decide +kernel
theorem dX10_order_19 : decode cX10_order 19 = .ok (.ifCond .eq 23, 3) := by decide +kernel
theorem dX10_order_22 : decode cX10_order 22 = .ok (.iload_n 2, 1) := by decide +kernel
theorem dX10_order_23 : decode cX10_order 23 = .ok (.i2l, 1) := by decide +kernel
theorem dX10_order_24 : decode cX10_order 24 = .ok (.ldc2_w 245, 3) := by decide +kernel
theorem dX10_order_27 : decode cX10_order 27 = .ok (.aload_n 0, 1) := by decide +kernel
theorem dX10_order_28 : decode cX10_order 28 = .ok (.getfield 25, 3) := by decide +kernel
theorem dX10_order_31 : decode cX10_order 31 = .ok (.iconst 5, 1) := by decide +kernel
theorem dX10_order_32 : decode cX10_order 32 = .ok (.iaload, 1) := by decide +kernel
theorem dX10_order_33 : decode cX10_order 33 = .ok (.iconst 1, 1) := by decide +kernel
theorem dX10_order_34 : decode cX10_order 34 = .ok (.isub, 1) := by decide +kernel
theorem dX10_order_35 : decode cX10_order 35 = .ok (.i2l, 1) := by decide +kernel
theorem dX10_order_36 : decode cX10_order 36 = .ok (.invokestatic 64, 3) := by decide +kernel
theorem dX10_order_39 : decode cX10_order 39 = .ok (.ifCond .ne 6, 3) := by decide +kernel
theorem dX10_order_42 : decode cX10_order 42 = .ok (.ldc 79, 2) := by decide +kernel
theorem dX10_order_44 : decode cX10_order 44 = .ok (.ireturn, 1) := by decide +kernel
theorem dX10_order_45 : decode cX10_order 45 = .ok (.aload_n 0, 1) := by decide +kernel
theorem dX10_order_46 : decode cX10_order 46 = .ok (.getfield 25, 3) := by decide +kernel
theorem dX10_order_49 : decode cX10_order 49 = .ok (.iconst 5, 1) := by decide +kernel
theorem dX10_order_50 : decode cX10_order 50 = .ok (.iaload, 1) := by decide +kernel
theorem dX10_order_51 : decode cX10_order 51 = .ok (.istore_n 3, 1) := by decide +kernel
theorem dX10_order_52 : decode cX10_order 52 = .ok (.iconst 1, 1) := by decide +kernel
theorem dX10_order_53 : decode cX10_order 53 = .ok (.istore 4, 2) := by decide +kernel
theorem dX10_order_55 : decode cX10_order 55 = .ok (.iconst 0, 1) := by decide +kernel
theorem dX10_order_56 : decode cX10_order 56 = .ok (.istore 5, 2) := by decide +kernel
theorem dX10_order_58 : decode cX10_order 58 = .ok (.iload 5, 2) := by decide +kernel
theorem dX10_order_60 : decode cX10_order 60 = .ok (.iload_n 3, 1) := by decide +kernel
theorem dX10_order_61 : decode cX10_order 61 = .ok (.if_icmp .ge 15, 3) := by decide +kernel
theorem dX10_order_64 : decode cX10_order 64 = .ok (.iload 4, 2) := by decide +kernel
theorem dX10_order_66 : decode cX10_order 66 = .ok (.iload_n 3, 1) := by decide +kernel
theorem dX10_order_67 : decode cX10_order 67 = .ok (.imul, 1) := by decide +kernel
theorem dX10_order_68 : decode cX10_order 68 = .ok (.istore 4, 2) := by decide +kernel
theorem dX10_order_70 : decode cX10_order 70 = .ok (.iinc 5 1, 3) := by decide +kernel
theorem dX10_order_73 : decode cX10_order 73 = .ok (.goto (-15), 3) := by decide +kernel
theorem dX10_order_76 : decode cX10_order 76 = .ok (.iconst (-1), 1) := by decide +kernel
theorem dX10_order_77 : decode cX10_order 77 = .ok (.istore 5, 2) := by decide +kernel
theorem dX10_order_79 : decode cX10_order 79 = .ok (.iconst 0, 1) := by decide +kernel
theorem dX10_order_80 : decode cX10_order 80 = .ok (.istore 6, 2) := by decide +kernel
theorem dX10_order_82 : decode cX10_order 82 = .ok (.iload 6, 2) := by decide +kernel
theorem dX10_order_84 : decode cX10_order 84 = .ok (.iload 4, 2) := by decide +kernel
theorem dX10_order_86 : decode cX10_order 86 = .ok (.if_icmp .ge 106, 3) := by decide +kernel
theorem dX10_order_89 : decode cX10_order 89 = .ok (.aload_n 0, 1) := by decide +kernel
theorem dX10_order_90 : decode cX10_order 90 = .ok (.iload 6, 2) := by decide +kernel
theorem dX10_order_92 : decode cX10_order 92 = .ok (.iload_n 3, 1) := by decide +kernel
theorem dX10_order_93 : decode cX10_order 93 = .ok (.invokevirtual 247, 3) := by decide +kernel
theorem dX10_order_96 : decode cX10_order 96 = .ok (.ifCond .eq 90, 3) := by decide +kernel
theorem dX10_order_99 : decode cX10_order 99 = .ok (.aload_n 0, 1) := by decide +kernel
theorem dX10_order_100 : decode cX10_order 100 = .ok (.invokevirtual 205, 3) := by decide +kernel
theorem dX10_order_103 : decode cX10_order 103 = .ok (.iconst 0, 1) := by decide +kernel
theorem dX10_order_104 : decode cX10_order 104 = .ok (.istore 7, 2) := by decide +kernel
theorem dX10_order_106 : decode cX10_order 106 = .ok (.iload 7, 2) := by decide +kernel
theorem dX10_order_108 : decode cX10_order 108 = .ok (.iload_n 3, 1) := by decide +kernel
theorem dX10_order_109 : decode cX10_order 109 = .ok (.if_icmp .ge 25, 3) := by decide +kernel
theorem dX10_order_112 : decode cX10_order 112 = .ok (.aload_n 0, 1) := by decide +kernel
theorem dX10_order_113 : decode cX10_order 113 = .ok (.getfield 50, 3) := by decide +kernel
theorem dX10_order_116 : decode cX10_order 116 = .ok (.iconst 5, 1) := by decide +kernel
theorem dX10_order_117 : decode cX10_order 117 = .ok (.iload 7, 2) := by decide +kernel
theorem dX10_order_119 : decode cX10_order 119 = .ok (.iadd, 1) := by decide +kernel
theorem dX10_order_120 : decode cX10_order 120 = .ok (.aload_n 0, 1) := by decide +kernel
theorem dX10_order_121 : decode cX10_order 121 = .ok (.getfield 53, 3) := by decide +kernel
theorem dX10_order_124 : decode cX10_order 124 = .ok (.iload 7, 2) := by decide +kernel
theorem dX10_order_126 : decode cX10_order 126 = .ok (.iaload, 1) := by decide +kernel
theorem dX10_order_127 : decode cX10_order 127 = .ok (.iastore, 1) := by decide +kernel
theorem dX10_order_128 : decode cX10_order 128 = .ok (.iinc 7 1, 3) := by decide +kernel
theorem dX10_order_131 : decode cX10_order 131 = .ok (.goto (-25), 3) := by decide +kernel
theorem dX10_order_134 : decode cX10_order 134 = .ok (.aload_n 0, 1) := by decide +kernel
theorem dX10_order_135 : decode cX10_order 135 = .ok (.iload_n 1, 1) := by decide +kernel
theorem dX10_order_136 : decode cX10_order 136 = .ok (.invokevirtual 208, 3) := by decide +kernel
theorem dX10_order_139 : decode cX10_order 139 = .ok (.aload_n 0, 1) := by decide +kernel
theorem dX10_order_140 : decode cX10_order 140 = .ok (.iconst 1, 1) := by decide +kernel
theorem dX10_order_141 : decode cX10_order 141 = .ok (.invokevirtual 238, 3) := by decide +kernel
theorem dX10_order_144 : decode cX10_order 144 = .ok (.istore 7, 2) := by decide +kernel
theorem dX10_order_146 : decode cX10_order 146 = .ok (.iload 7, 2) := by decide +kernel
theorem dX10_order_148 : decode cX10_order 148 = .ok (.iload 5, 2) := by decide +kernel
theorem dX10_order_150 : decode cX10_order 150 = .ok (.if_icmp .le 36, 3) := by decide +kernel
theorem dX10_order_153 : decode cX10_order 153 = .ok (.iload 7, 2) := by decide +kernel
theorem dX10_order_155 : decode cX10_order 155 = .ok (.istore 5, 2) := by decide +kernel
theorem dX10_order_157 : decode cX10_order 157 = .ok (.iconst 0, 1) := by decide +kernel
theorem dX10_order_158 : decode cX10_order 158 = .ok (.istore 8, 2) := by decide +kernel
theorem dX10_order_160 : decode cX10_order 160 = .ok (.iload 8, 2) := by decide +kernel
theorem dX10_order_162 : decode cX10_order 162 = .ok (.iload_n 3, 1) := by decide +kernel
theorem dX10_order_163 : decode cX10_order 163 = .ok (.if_icmp .ge 23, 3) := by decide +kernel
theorem dX10_order_166 : decode cX10_order 166 = .ok (.aload_n 0, 1) := by decide +kernel
theorem dX10_order_167 : decode cX10_order 167 = .ok (.getfield 56, 3) := by decide +kernel
theorem dX10_order_170 : decode cX10_order 170 = .ok (.iload 8, 2) := by decide +kernel
theorem dX10_order_172 : decode cX10_order 172 = .ok (.aload_n 0, 1) := by decide +kernel
theorem dX10_order_173 : decode cX10_order 173 = .ok (.getfield 53, 3) := by decide +kernel
theorem dX10_order_176 : decode cX10_order 176 = .ok (.iload 8, 2) := by decide +kernel
theorem dX10_order_178 : decode cX10_order 178 = .ok (.iaload, 1) := by decide +kernel
theorem dX10_order_179 : decode cX10_order 179 = .ok (.iastore, 1) := by decide +kernel
theorem dX10_order_180 : decode cX10_order 180 = .ok (.iinc 8 1, 3) := by decide +kernel
theorem dX10_order_183 : decode cX10_order 183 = .ok (.goto (-23), 3) := by decide +kernel
theorem dX10_order_186 : decode cX10_order 186 = .ok (.iinc 6 1, 3) := by decide +kernel
theorem dX10_order_189 : decode cX10_order 189 = .ok (.goto (-107), 3) := by decide +kernel
theorem dX10_order_192 : decode cX10_order 192 = .ok (.iload_n 2, 1) := by decide +kernel
theorem dX10_order_193 : decode cX10_order 193 = .ok (.iconst (-1), 1) := by decide +kernel
theorem dX10_order_194 : decode cX10_order 194 = .ok (.if_icmp .ne 8, 3) := by decide +kernel
theorem dX10_order_197 : decode cX10_order 197 = .ok (.iload 5, 2) := by decide +kernel
theorem dX10_order_199 : decode cX10_order 199 = .ok (.goto 9, 3) := by decide +kernel
theorem dX10_order_202 : decode cX10_order 202 = .ok (.aload_n 0, 1) := by decide +kernel
theorem dX10_order_203 : decode cX10_order 203 = .ok (.getfield 56, 3) := by decide +kernel
theorem dX10_order_206 : decode cX10_order 206 = .ok (.iload_n 2, 1) := by decide +kernel
theorem dX10_order_207 : decode cX10_order 207 = .ok (.iaload, 1) := by decide +kernel
theorem dX10_order_208 : decode cX10_order 208 = .ok (.ireturn, 1) := by decide +kernel
theorem dX10_laws_0 : decode cX10_laws 0 = .ok (.aload_n 0, 1) := by decide +kernel
theorem dX10_laws_1 : decode cX10_laws 1 = .ok (.invokevirtual 196, 3) := by decide +kernel
theorem dX10_laws_4 : decode cX10_laws 4 = .ok (.ifCond .ne 6, 3) := by decide +kernel
theorem dX10_laws_7 : decode cX10_laws 7 = .ok (.ldc 199, 2) := by decide +kernel
theorem dX10_laws_9 : decode cX10_laws 9 = .ok (.ireturn, 1) := by decide +kernel
theorem dX10_laws_10 : decode cX10_laws 10 = .ok (.iload_n 1, 1) := by decide +kernel
theorem dX10_laws_11 : decode cX10_laws 11 = .ok (.i2l, 1) := by decide +kernel
theorem dX10_laws_12 : decode cX10_laws 12 = .ok (.lconst 1, 1) := by decide +kernel
theorem dX10_laws_13 : decode cX10_laws 13 = .ok (.ldc2_w 236, 3) := by decide +kernel
theorem dX10_laws_16 : decode cX10_laws 16 = .ok (.invokestatic 64, 3) := by decide +kernel
theorem dX10_laws_19 : decode cX10_laws 19 = .ok (.ifCond .eq 13, 3) := by decide +kernel
theorem dX10_laws_22 : decode cX10_laws 22 = .ok (.iload_n 2, 1) := by decide +kernel
theorem dX10_laws_23 : decode cX10_laws 23 = .ok (.i2l, 1) := by decide +kernel
theorem dX10_laws_24 : decode cX10_laws 24 = .ok (.lconst 0, 1) := by decide +kernel
theorem dX10_laws_25 : decode cX10_laws 25 = .ok (.lconst 1, 1) := by decide +kernel
theorem dX10_laws_26 : decode cX10_laws 26 = .ok (.invokestatic 64, 3) := by decide +kernel
theorem dX10_laws_29 : decode cX10_laws 29 = .ok (.ifCond .ne 6, 3) := by decide +kernel
theorem dX10_laws_32 : decode cX10_laws 32 = .ok (.ldc 79, 2) := by decide +kernel
theorem dX10_laws_34 : decode cX10_laws 34 = .ok (.ireturn, 1) := by decide +kernel
theorem dX10_laws_35 : decode cX10_laws 35 = .ok (.iconst 0, 1) := by decide +kernel
theorem dX10_laws_36 : decode cX10_laws 36 = .ok (.istore_n 3, 1) := by decide +kernel
theorem dX10_laws_37 : decode cX10_laws 37 = .ok (.iconst (-1), 1) := by decide +kernel
theorem dX10_laws_38 : decode cX10_laws 38 = .ok (.istore 4, 2) := by decide +kernel
theorem dX10_laws_40 : decode cX10_laws 40 = .ok (.iconst 2, 1) := by decide +kernel
theorem dX10_laws_41 : decode cX10_laws 41 = .ok (.istore 5, 2) := by decide +kernel
theorem dX10_laws_43 : decode cX10_laws 43 = .ok (.iload 5, 2) := by decide +kernel
theorem dX10_laws_45 : decode cX10_laws 45 = .ok (.bipush 12, 2) := by decide +kernel
theorem dX10_laws_47 : decode cX10_laws 47 = .ok (.if_icmp .gt 56, 3) := by decide +kernel
theorem dX10_laws_50 : decode cX10_laws 50 = .ok (.aload_n 0, 1) := by decide +kernel
theorem dX10_laws_51 : decode cX10_laws 51 = .ok (.invokevirtual 205, 3) := by decide +kernel
theorem dX10_laws_54 : decode cX10_laws 54 = .ok (.aload_n 0, 1) := by decide +kernel
theorem dX10_laws_55 : decode cX10_laws 55 = .ok (.getfield 50, 3) := by decide +kernel
theorem dX10_laws_58 : decode cX10_laws 58 = .ok (.iconst 1, 1) := by decide +kernel
theorem dX10_laws_59 : decode cX10_laws 59 = .ok (.iload 5, 2) := by decide +kernel
theorem dX10_laws_61 : decode cX10_laws 61 = .ok (.iastore, 1) := by decide +kernel
theorem dX10_laws_62 : decode cX10_laws 62 = .ok (.aload_n 0, 1) := by decide +kernel
theorem dX10_laws_63 : decode cX10_laws 63 = .ok (.iload_n 1, 1) := by decide +kernel
theorem dX10_laws_64 : decode cX10_laws 64 = .ok (.invokevirtual 208, 3) := by decide +kernel
theorem dX10_laws_67 : decode cX10_laws 67 = .ok (.aload_n 0, 1) := by decide +kernel
theorem dX10_laws_68 : decode cX10_laws 68 = .ok (.iconst 1, 1) := by decide +kernel
theorem dX10_laws_69 : decode cX10_laws 69 = .ok (.invokevirtual 238, 3) := by decide +kernel
theorem dX10_laws_72 : decode cX10_laws 72 = .ok (.istore 6, 2) := by decide +kernel
theorem dX10_laws_74 : decode cX10_laws 74 = .ok (.iload 6, 2) := by decide +kernel
theorem dX10_laws_76 : decode cX10_laws 76 = .ok (.iload 4, 2) := by decide +kernel
theorem dX10_laws_78 : decode cX10_laws 78 = .ok (.if_icmp .le 8, 3) := by decide +kernel
theorem dX10_laws_81 : decode cX10_laws 81 = .ok (.iload 5, 2) := by decide +kernel
theorem dX10_laws_83 : decode cX10_laws 83 = .ok (.goto 4, 3) := by decide +kernel
theorem dX10_laws_86 : decode cX10_laws 86 = .ok (.iload_n 3, 1) := by decide +kernel
theorem dX10_laws_87 : decode cX10_laws 87 = .ok (.istore_n 3, 1) := by decide +kernel
theorem dX10_laws_88 : decode cX10_laws 88 = .ok (.iload 4, 2) := by decide +kernel
theorem dX10_laws_90 : decode cX10_laws 90 = .ok (.iload 6, 2) := by decide +kernel
theorem dX10_laws_92 : decode cX10_laws 92 = .ok (.invokestatic 169, 3) := by decide +kernel
theorem dX10_laws_95 : decode cX10_laws 95 = .ok (.istore 4, 2) := by decide +kernel
theorem dX10_laws_97 : decode cX10_laws 97 = .ok (.iinc 5 1, 3) := by decide +kernel
theorem dX10_laws_100 : decode cX10_laws 100 = .ok (.goto (-57), 3) := by decide +kernel
theorem dX10_laws_103 : decode cX10_laws 103 = .ok (.iload_n 2, 1) := by decide +kernel
theorem dX10_laws_104 : decode cX10_laws 104 = .ok (.ifCond .ne 7, 3) := by decide +kernel
theorem dX10_laws_107 : decode cX10_laws 107 = .ok (.iload_n 3, 1) := by decide +kernel
theorem dX10_laws_108 : decode cX10_laws 108 = .ok (.goto 5, 3) := by decide +kernel
theorem dX10_laws_111 : decode cX10_laws 111 = .ok (.iload 4, 2) := by decide +kernel
theorem dX10_laws_113 : decode cX10_laws 113 = .ok (.ireturn, 1) := by decide +kernel
theorem dX10_bribe_0 : decode cX10_bribe 0 = .ok (.aload_n 0, 1) := by decide +kernel
theorem dX10_bribe_1 : decode cX10_bribe 1 = .ok (.iload_n 1, 1) := by decide +kernel
theorem dX10_bribe_2 : decode cX10_bribe 2 = .ok (.invokevirtual 221, 3) := by decide +kernel
theorem dX10_bribe_5 : decode cX10_bribe 5 = .ok (.ifCond .eq 15, 3) := by decide +kernel
theorem dX10_bribe_8 : decode cX10_bribe 8 = .ok (.iload_n 2, 1) := by decide +kernel
theorem dX10_bribe_9 : decode cX10_bribe 9 = .ok (.i2l, 1) := by decide +kernel
theorem dX10_bribe_10 : decode cX10_bribe 10 = .ok (.lconst 0, 1) := by decide +kernel
theorem dX10_bribe_11 : decode cX10_bribe 11 = .ok (.ldc2_w 77, 3) := by decide +kernel
theorem dX10_bribe_14 : decode cX10_bribe 14 = .ok (.invokestatic 64, 3) := by decide +kernel
theorem dX10_bribe_17 : decode cX10_bribe 17 = .ok (.ifCond .ne 6, 3) := by decide +kernel
theorem dX10_bribe_20 : decode cX10_bribe 20 = .ok (.ldc 79, 2) := by decide +kernel
theorem dX10_bribe_22 : decode cX10_bribe 22 = .ok (.ireturn, 1) := by decide +kernel
theorem dX10_bribe_23 : decode cX10_bribe 23 = .ok (.aload_n 0, 1) := by decide +kernel
theorem dX10_bribe_24 : decode cX10_bribe 24 = .ok (.getfield 28, 3) := by decide +kernel
theorem dX10_bribe_27 : decode cX10_bribe 27 = .ok (.bipush 17, 2) := by decide +kernel
theorem dX10_bribe_29 : decode cX10_bribe 29 = .ok (.iload_n 1, 1) := by decide +kernel
theorem dX10_bribe_30 : decode cX10_bribe 30 = .ok (.iadd, 1) := by decide +kernel
theorem dX10_bribe_31 : decode cX10_bribe 31 = .ok (.iaload, 1) := by decide +kernel
theorem dX10_bribe_32 : decode cX10_bribe 32 = .ok (.ifCond .eq 6, 3) := by decide +kernel
theorem dX10_bribe_35 : decode cX10_bribe 35 = .ok (.ldc 199, 2) := by decide +kernel
theorem dX10_bribe_37 : decode cX10_bribe 37 = .ok (.ireturn, 1) := by decide +kernel
theorem dX10_bribe_38 : decode cX10_bribe 38 = .ok (.ldc 165, 2) := by decide +kernel
theorem dX10_bribe_40 : decode cX10_bribe 40 = .ok (.istore_n 3, 1) := by decide +kernel
theorem dX10_bribe_41 : decode cX10_bribe 41 = .ok (.ldc 165, 2) := by decide +kernel
theorem dX10_bribe_43 : decode cX10_bribe 43 = .ok (.istore 4, 2) := by decide +kernel
theorem dX10_bribe_45 : decode cX10_bribe 45 = .ok (.ldc 165, 2) := by decide +kernel
theorem dX10_bribe_47 : decode cX10_bribe 47 = .ok (.istore 5, 2) := by decide +kernel
theorem dX10_bribe_49 : decode cX10_bribe 49 = .ok (.bipush (-4), 2) := by decide +kernel
theorem dX10_bribe_51 : decode cX10_bribe 51 = .ok (.istore 6, 2) := by decide +kernel
theorem dX10_bribe_53 : decode cX10_bribe 53 = .ok (.iload 6, 2) := by decide +kernel
theorem dX10_bribe_55 : decode cX10_bribe 55 = .ok (.iconst 4, 1) := by decide +kernel
theorem dX10_bribe_56 : decode cX10_bribe 56 = .ok (.if_icmp .gt 111, 3) := by decide +kernel
theorem dX10_bribe_59 : decode cX10_bribe 59 = .ok (.aload_n 0, 1) := by decide +kernel
theorem dX10_bribe_60 : decode cX10_bribe 60 = .ok (.invokevirtual 205, 3) := by decide +kernel
theorem dX10_bribe_63 : decode cX10_bribe 63 = .ok (.aload_n 0, 1) := by decide +kernel
theorem dX10_bribe_64 : decode cX10_bribe 64 = .ok (.getfield 50, 3) := by decide +kernel
theorem dX10_bribe_67 : decode cX10_bribe 67 = .ok (.bipush 11, 2) := by decide +kernel
theorem dX10_bribe_69 : decode cX10_bribe 69 = .ok (.iload_n 1, 1) := by decide +kernel
theorem dX10_bribe_70 : decode cX10_bribe 70 = .ok (.iadd, 1) := by decide +kernel
theorem dX10_bribe_71 : decode cX10_bribe 71 = .ok (.iaload, 1) := by decide +kernel
theorem dX10_bribe_72 : decode cX10_bribe 72 = .ok (.istore 7, 2) := by decide +kernel
theorem dX10_bribe_74 : decode cX10_bribe 74 = .ok (.aload_n 0, 1) := by decide +kernel
theorem dX10_bribe_75 : decode cX10_bribe 75 = .ok (.getfield 50, 3) := by decide +kernel
theorem dX10_bribe_78 : decode cX10_bribe 78 = .ok (.iconst 2, 1) := by decide +kernel
theorem dX10_bribe_79 : decode cX10_bribe 79 = .ok (.iload 7, 2) := by decide +kernel
theorem dX10_bribe_81 : decode cX10_bribe 81 = .ok (.iadd, 1) := by decide +kernel
theorem dX10_bribe_82 : decode cX10_bribe 82 = .ok (.iconst 0, 1) := by decide +kernel
theorem dX10_bribe_83 : decode cX10_bribe 83 = .ok (.aload_n 0, 1) := by decide +kernel
theorem dX10_bribe_84 : decode cX10_bribe 84 = .ok (.getfield 50, 3) := by decide +kernel
theorem dX10_bribe_87 : decode cX10_bribe 87 = .ok (.iconst 2, 1) := by decide +kernel
theorem dX10_bribe_88 : decode cX10_bribe 88 = .ok (.iload 7, 2) := by decide +kernel
theorem dX10_bribe_90 : decode cX10_bribe 90 = .ok (.iadd, 1) := by decide +kernel
theorem dX10_bribe_91 : decode cX10_bribe 91 = .ok (.iaload, 1) := by decide +kernel
theorem dX10_bribe_92 : decode cX10_bribe 92 = .ok (.iload 6, 2) := by decide +kernel
theorem dX10_bribe_94 : decode cX10_bribe 94 = .ok (.iadd, 1) := by decide +kernel
theorem dX10_bribe_95 : decode cX10_bribe 95 = .ok (.invokestatic 169, 3) := by decide +kernel
theorem dX10_bribe_98 : decode cX10_bribe 98 = .ok (.iastore, 1) := by decide +kernel
theorem dX10_bribe_99 : decode cX10_bribe 99 = .ok (.aload_n 0, 1) := by decide +kernel
theorem dX10_bribe_100 : decode cX10_bribe 100 = .ok (.sipush 200, 3) := by decide +kernel
theorem dX10_bribe_103 : decode cX10_bribe 103 = .ok (.invokevirtual 208, 3) := by decide +kernel
theorem dX10_bribe_106 : decode cX10_bribe 106 = .ok (.aload_n 0, 1) := by decide +kernel
theorem dX10_bribe_107 : decode cX10_bribe 107 = .ok (.getfield 50, 3) := by decide +kernel
theorem dX10_bribe_110 : decode cX10_bribe 110 = .ok (.bipush 17, 2) := by decide +kernel
theorem dX10_bribe_112 : decode cX10_bribe 112 = .ok (.iload_n 1, 1) := by decide +kernel
theorem dX10_bribe_113 : decode cX10_bribe 113 = .ok (.iadd, 1) := by decide +kernel
theorem dX10_bribe_114 : decode cX10_bribe 114 = .ok (.iaload, 1) := by decide +kernel
theorem dX10_bribe_115 : decode cX10_bribe 115 = .ok (.iconst 1, 1) := by decide +kernel
theorem dX10_bribe_116 : decode cX10_bribe 116 = .ok (.if_icmp .ne 45, 3) := by decide +kernel
theorem dX10_bribe_119 : decode cX10_bribe 119 = .ok (.iload 4, 2) := by decide +kernel
theorem dX10_bribe_121 : decode cX10_bribe 121 = .ok (.ldc 165, 2) := by decide +kernel
theorem dX10_bribe_123 : decode cX10_bribe 123 = .ok (.if_icmp .eq 17, 3) := by decide +kernel
theorem dX10_bribe_126 : decode cX10_bribe 126 = .ok (.aload_n 0, 1) := by decide +kernel
theorem dX10_bribe_127 : decode cX10_bribe 127 = .ok (.getfield 50, 3) := by decide +kernel
theorem dX10_bribe_130 : decode cX10_bribe 130 = .ok (.bipush 23, 2) := by decide +kernel
theorem dX10_bribe_132 : decode cX10_bribe 132 = .ok (.iload_n 1, 1) := by decide +kernel
theorem dX10_bribe_133 : decode cX10_bribe 133 = .ok (.iadd, 1) := by decide +kernel
theorem dX10_bribe_134 : decode cX10_bribe 134 = .ok (.iaload, 1) := by decide +kernel
theorem dX10_bribe_135 : decode cX10_bribe 135 = .ok (.iload 4, 2) := by decide +kernel
theorem dX10_bribe_137 : decode cX10_bribe 137 = .ok (.if_icmp .ge 24, 3) := by decide +kernel
theorem dX10_bribe_140 : decode cX10_bribe 140 = .ok (.iload 6, 2) := by decide +kernel
theorem dX10_bribe_142 : decode cX10_bribe 142 = .ok (.istore_n 3, 1) := by decide +kernel
theorem dX10_bribe_143 : decode cX10_bribe 143 = .ok (.aload_n 0, 1) := by decide +kernel
theorem dX10_bribe_144 : decode cX10_bribe 144 = .ok (.getfield 50, 3) := by decide +kernel
theorem dX10_bribe_147 : decode cX10_bribe 147 = .ok (.bipush 23, 2) := by decide +kernel
theorem dX10_bribe_149 : decode cX10_bribe 149 = .ok (.iload_n 1, 1) := by decide +kernel
theorem dX10_bribe_150 : decode cX10_bribe 150 = .ok (.iadd, 1) := by decide +kernel
theorem dX10_bribe_151 : decode cX10_bribe 151 = .ok (.iaload, 1) := by decide +kernel
theorem dX10_bribe_152 : decode cX10_bribe 152 = .ok (.istore 4, 2) := by decide +kernel
theorem dX10_bribe_154 : decode cX10_bribe 154 = .ok (.aload_n 0, 1) := by decide +kernel
theorem dX10_bribe_155 : decode cX10_bribe 155 = .ok (.iconst 2, 1) := by decide +kernel
theorem dX10_bribe_156 : decode cX10_bribe 156 = .ok (.invokevirtual 238, 3) := by decide +kernel
theorem dX10_bribe_159 : decode cX10_bribe 159 = .ok (.istore 5, 2) := by decide +kernel
theorem dX10_bribe_161 : decode cX10_bribe 161 = .ok (.iinc 6 1, 3) := by decide +kernel
theorem dX10_bribe_164 : decode cX10_bribe 164 = .ok (.goto (-111), 3) := by decide +kernel
theorem dX10_bribe_167 : decode cX10_bribe 167 = .ok (.iload_n 2, 1) := by decide +kernel
theorem dX10_bribe_168 : decode cX10_bribe 168 = .ok (.ifCond .ne 7, 3) := by decide +kernel
theorem dX10_bribe_171 : decode cX10_bribe 171 = .ok (.iload_n 3, 1) := by decide +kernel
theorem dX10_bribe_172 : decode cX10_bribe 172 = .ok (.goto 15, 3) := by decide +kernel
theorem dX10_bribe_175 : decode cX10_bribe 175 = .ok (.iload_n 2, 1) := by decide +kernel
theorem dX10_bribe_176 : decode cX10_bribe 176 = .ok (.iconst 1, 1) := by decide +kernel
theorem dX10_bribe_177 : decode cX10_bribe 177 = .ok (.if_icmp .ne 8, 3) := by decide +kernel
theorem dX10_bribe_180 : decode cX10_bribe 180 = .ok (.iload 4, 2) := by decide +kernel
theorem dX10_bribe_182 : decode cX10_bribe 182 = .ok (.goto 5, 3) := by decide +kernel
theorem dX10_bribe_185 : decode cX10_bribe 185 = .ok (.iload 5, 2) := by decide +kernel
theorem dX10_bribe_187 : decode cX10_bribe 187 = .ok (.ireturn, 1) := by decide +kernel
theorem dX10_heed_0 : decode cX10_heed 0 = .ok (.aload_n 0, 1) := by decide +kernel
theorem dX10_heed_1 : decode cX10_heed 1 = .ok (.iload_n 1, 1) := by decide +kernel
theorem dX10_heed_2 : decode cX10_heed 2 = .ok (.invokevirtual 221, 3) := by decide +kernel
theorem dX10_heed_5 : decode cX10_heed 5 = .ok (.ifCond .ne 6, 3) := by decide +kernel
theorem dX10_heed_8 : decode cX10_heed 8 = .ok (.ldc 79, 2) := by decide +kernel
theorem dX10_heed_10 : decode cX10_heed 10 = .ok (.ireturn, 1) := by decide +kernel
theorem dX10_heed_11 : decode cX10_heed 11 = .ok (.aload_n 0, 1) := by decide +kernel
theorem dX10_heed_12 : decode cX10_heed 12 = .ok (.getfield 28, 3) := by decide +kernel
theorem dX10_heed_15 : decode cX10_heed 15 = .ok (.bipush 17, 2) := by decide +kernel
theorem dX10_heed_17 : decode cX10_heed 17 = .ok (.iload_n 1, 1) := by decide +kernel
theorem dX10_heed_18 : decode cX10_heed 18 = .ok (.iadd, 1) := by decide +kernel
theorem dX10_heed_19 : decode cX10_heed 19 = .ok (.iaload, 1) := by decide +kernel
theorem dX10_heed_20 : decode cX10_heed 20 = .ok (.ifCond .eq 6, 3) := by decide +kernel
theorem dX10_heed_23 : decode cX10_heed 23 = .ok (.ldc 199, 2) := by decide +kernel
theorem dX10_heed_25 : decode cX10_heed 25 = .ok (.ireturn, 1) := by decide +kernel
theorem dX10_heed_26 : decode cX10_heed 26 = .ok (.ldc 165, 2) := by decide +kernel
theorem dX10_heed_28 : decode cX10_heed 28 = .ok (.istore_n 2, 1) := by decide +kernel
theorem dX10_heed_29 : decode cX10_heed 29 = .ok (.ldc 165, 2) := by decide +kernel
theorem dX10_heed_31 : decode cX10_heed 31 = .ok (.istore_n 3, 1) := by decide +kernel
theorem dX10_heed_32 : decode cX10_heed 32 = .ok (.iconst 0, 1) := by decide +kernel
theorem dX10_heed_33 : decode cX10_heed 33 = .ok (.istore 4, 2) := by decide +kernel
theorem dX10_heed_35 : decode cX10_heed 35 = .ok (.iload 4, 2) := by decide +kernel
theorem dX10_heed_37 : decode cX10_heed 37 = .ok (.aload_n 0, 1) := by decide +kernel
theorem dX10_heed_38 : decode cX10_heed 38 = .ok (.getfield 25, 3) := by decide +kernel
theorem dX10_heed_41 : decode cX10_heed 41 = .ok (.iconst 4, 1) := by decide +kernel
theorem dX10_heed_42 : decode cX10_heed 42 = .ok (.iaload, 1) := by decide +kernel
theorem dX10_heed_43 : decode cX10_heed 43 = .ok (.if_icmp .ge 76, 3) := by decide +kernel
theorem dX10_heed_46 : decode cX10_heed 46 = .ok (.aload_n 0, 1) := by decide +kernel
theorem dX10_heed_47 : decode cX10_heed 47 = .ok (.invokevirtual 205, 3) := by decide +kernel
theorem dX10_heed_50 : decode cX10_heed 50 = .ok (.aload_n 0, 1) := by decide +kernel
theorem dX10_heed_51 : decode cX10_heed 51 = .ok (.getfield 50, 3) := by decide +kernel
theorem dX10_heed_54 : decode cX10_heed 54 = .ok (.bipush 11, 2) := by decide +kernel
theorem dX10_heed_56 : decode cX10_heed 56 = .ok (.iload_n 1, 1) := by decide +kernel
theorem dX10_heed_57 : decode cX10_heed 57 = .ok (.iadd, 1) := by decide +kernel
theorem dX10_heed_58 : decode cX10_heed 58 = .ok (.iload 4, 2) := by decide +kernel
theorem dX10_heed_60 : decode cX10_heed 60 = .ok (.iastore, 1) := by decide +kernel
theorem dX10_heed_61 : decode cX10_heed 61 = .ok (.aload_n 0, 1) := by decide +kernel
theorem dX10_heed_62 : decode cX10_heed 62 = .ok (.sipush 200, 3) := by decide +kernel
theorem dX10_heed_65 : decode cX10_heed 65 = .ok (.invokevirtual 208, 3) := by decide +kernel
theorem dX10_heed_68 : decode cX10_heed 68 = .ok (.aload_n 0, 1) := by decide +kernel
theorem dX10_heed_69 : decode cX10_heed 69 = .ok (.getfield 50, 3) := by decide +kernel
theorem dX10_heed_72 : decode cX10_heed 72 = .ok (.bipush 17, 2) := by decide +kernel
theorem dX10_heed_74 : decode cX10_heed 74 = .ok (.iload_n 1, 1) := by decide +kernel
theorem dX10_heed_75 : decode cX10_heed 75 = .ok (.iadd, 1) := by decide +kernel
theorem dX10_heed_76 : decode cX10_heed 76 = .ok (.iaload, 1) := by decide +kernel
theorem dX10_heed_77 : decode cX10_heed 77 = .ok (.iconst 1, 1) := by decide +kernel
theorem dX10_heed_78 : decode cX10_heed 78 = .ok (.if_icmp .ne 35, 3) := by decide +kernel
theorem dX10_heed_81 : decode cX10_heed 81 = .ok (.iload_n 3, 1) := by decide +kernel
theorem dX10_heed_82 : decode cX10_heed 82 = .ok (.ldc 165, 2) := by decide +kernel
theorem dX10_heed_84 : decode cX10_heed 84 = .ok (.if_icmp .eq 16, 3) := by decide +kernel
theorem dX10_heed_87 : decode cX10_heed 87 = .ok (.aload_n 0, 1) := by decide +kernel
theorem dX10_heed_88 : decode cX10_heed 88 = .ok (.getfield 50, 3) := by decide +kernel
theorem dX10_heed_91 : decode cX10_heed 91 = .ok (.bipush 23, 2) := by decide +kernel
theorem dX10_heed_93 : decode cX10_heed 93 = .ok (.iload_n 1, 1) := by decide +kernel
theorem dX10_heed_94 : decode cX10_heed 94 = .ok (.iadd, 1) := by decide +kernel
theorem dX10_heed_95 : decode cX10_heed 95 = .ok (.iaload, 1) := by decide +kernel
theorem dX10_heed_96 : decode cX10_heed 96 = .ok (.iload_n 3, 1) := by decide +kernel
theorem dX10_heed_97 : decode cX10_heed 97 = .ok (.if_icmp .ge 16, 3) := by decide +kernel
theorem dX10_heed_100 : decode cX10_heed 100 = .ok (.iload 4, 2) := by decide +kernel
theorem dX10_heed_102 : decode cX10_heed 102 = .ok (.istore_n 2, 1) := by decide +kernel
theorem dX10_heed_103 : decode cX10_heed 103 = .ok (.aload_n 0, 1) := by decide +kernel
theorem dX10_heed_104 : decode cX10_heed 104 = .ok (.getfield 50, 3) := by decide +kernel
theorem dX10_heed_107 : decode cX10_heed 107 = .ok (.bipush 23, 2) := by decide +kernel
theorem dX10_heed_109 : decode cX10_heed 109 = .ok (.iload_n 1, 1) := by decide +kernel
theorem dX10_heed_110 : decode cX10_heed 110 = .ok (.iadd, 1) := by decide +kernel
theorem dX10_heed_111 : decode cX10_heed 111 = .ok (.iaload, 1) := by decide +kernel
theorem dX10_heed_112 : decode cX10_heed 112 = .ok (.istore_n 3, 1) := by decide +kernel
theorem dX10_heed_113 : decode cX10_heed 113 = .ok (.iinc 4 1, 3) := by decide +kernel
theorem dX10_heed_116 : decode cX10_heed 116 = .ok (.goto (-81), 3) := by decide +kernel
theorem dX10_heed_119 : decode cX10_heed 119 = .ok (.iload_n 2, 1) := by decide +kernel
theorem dX10_heed_120 : decode cX10_heed 120 = .ok (.ireturn, 1) := by decide +kernel
theorem dX10_callers_0 : decode cX10_callers 0 = .ok (.iconst 0, 1) := by decide +kernel
theorem dX10_callers_1 : decode cX10_callers 1 = .ok (.istore_n 1, 1) := by decide +kernel
theorem dX10_callers_2 : decode cX10_callers 2 = .ok (.iconst 0, 1) := by decide +kernel
theorem dX10_callers_3 : decode cX10_callers 3 = .ok (.istore_n 2, 1) := by decide +kernel
theorem dX10_callers_4 : decode cX10_callers 4 = .ok (.iload_n 2, 1) := by decide +kernel
theorem dX10_callers_5 : decode cX10_callers 5 = .ok (.aload_n 0, 1) := by decide +kernel
theorem dX10_callers_6 : decode cX10_callers 6 = .ok (.getfield 25, 3) := by decide +kernel
theorem dX10_callers_9 : decode cX10_callers 9 = .ok (.iconst 4, 1) := by decide +kernel
theorem dX10_callers_10 : decode cX10_callers 10 = .ok (.iaload, 1) := by decide +kernel
theorem dX10_callers_11 : decode cX10_callers 11 = .ok (.if_icmp .ge 59, 3) := by decide +kernel
theorem dX10_callers_14 : decode cX10_callers 14 = .ok (.iload_n 1, 1) := by decide +kernel
theorem dX10_callers_15 : decode cX10_callers 15 = .ok (.aload_n 0, 1) := by decide +kernel
theorem dX10_callers_16 : decode cX10_callers 16 = .ok (.getfield 50, 3) := by decide +kernel
theorem dX10_callers_19 : decode cX10_callers 19 = .ok (.iconst 2, 1) := by decide +kernel
theorem dX10_callers_20 : decode cX10_callers 20 = .ok (.iload_n 2, 1) := by decide +kernel
theorem dX10_callers_21 : decode cX10_callers 21 = .ok (.iadd, 1) := by decide +kernel
theorem dX10_callers_22 : decode cX10_callers 22 = .ok (.iaload, 1) := by decide +kernel
theorem dX10_callers_23 : decode cX10_callers 23 = .ok (.aload_n 0, 1) := by decide +kernel
theorem dX10_callers_24 : decode cX10_callers 24 = .ok (.getfield 25, 3) := by decide +kernel
theorem dX10_callers_27 : decode cX10_callers 27 = .ok (.bipush 46, 2) := by decide +kernel
theorem dX10_callers_29 : decode cX10_callers 29 = .ok (.iload_n 2, 1) := by decide +kernel
theorem dX10_callers_30 : decode cX10_callers 30 = .ok (.iadd, 1) := by decide +kernel
theorem dX10_callers_31 : decode cX10_callers 31 = .ok (.iaload, 1) := by decide +kernel
theorem dX10_callers_32 : decode cX10_callers 32 = .ok (.aload_n 0, 1) := by decide +kernel
theorem dX10_callers_33 : decode cX10_callers 33 = .ok (.aload_n 0, 1) := by decide +kernel
theorem dX10_callers_34 : decode cX10_callers 34 = .ok (.getfield 50, 3) := by decide +kernel
theorem dX10_callers_37 : decode cX10_callers 37 = .ok (.iconst 0, 1) := by decide +kernel
theorem dX10_callers_38 : decode cX10_callers 38 = .ok (.iaload, 1) := by decide +kernel
theorem dX10_callers_39 : decode cX10_callers 39 = .ok (.invokevirtual 176, 3) := by decide +kernel
theorem dX10_callers_42 : decode cX10_callers 42 = .ok (.invokestatic 186, 3) := by decide +kernel
theorem dX10_callers_45 : decode cX10_callers 45 = .ok (.aload_n 0, 1) := by decide +kernel
theorem dX10_callers_46 : decode cX10_callers 46 = .ok (.getfield 50, 3) := by decide +kernel
theorem dX10_callers_49 : decode cX10_callers 49 = .ok (.iconst 1, 1) := by decide +kernel
theorem dX10_callers_50 : decode cX10_callers 50 = .ok (.iaload, 1) := by decide +kernel
theorem dX10_callers_51 : decode cX10_callers 51 = .ok (.invokestatic 189, 3) := by decide +kernel
theorem dX10_callers_54 : decode cX10_callers 54 = .ok (.ifCond .eq 7, 3) := by decide +kernel
theorem dX10_callers_57 : decode cX10_callers 57 = .ok (.iconst 1, 1) := by decide +kernel
theorem dX10_callers_58 : decode cX10_callers 58 = .ok (.goto 4, 3) := by decide +kernel
theorem dX10_callers_61 : decode cX10_callers 61 = .ok (.iconst 0, 1) := by decide +kernel
theorem dX10_callers_62 : decode cX10_callers 62 = .ok (.iadd, 1) := by decide +kernel
theorem dX10_callers_63 : decode cX10_callers 63 = .ok (.istore_n 1, 1) := by decide +kernel
theorem dX10_callers_64 : decode cX10_callers 64 = .ok (.iinc 2 1, 3) := by decide +kernel
theorem dX10_callers_67 : decode cX10_callers 67 = .ok (.goto (-63), 3) := by decide +kernel
theorem dX10_callers_70 : decode cX10_callers 70 = .ok (.iload_n 1, 1) := by decide +kernel
theorem dX10_callers_71 : decode cX10_callers 71 = .ok (.ireturn, 1) := by decide +kernel
theorem dX10_agreed_0 : decode cX10_agreed 0 = .ok (.aload_n 0, 1) := by decide +kernel
theorem dX10_agreed_1 : decode cX10_agreed 1 = .ok (.invokevirtual 196, 3) := by decide +kernel
theorem dX10_agreed_4 : decode cX10_agreed 4 = .ok (.ifCond .ne 6, 3) := by decide +kernel
theorem dX10_agreed_7 : decode cX10_agreed 7 = .ok (.ldc 199, 2) := by decide +kernel
theorem dX10_agreed_9 : decode cX10_agreed 9 = .ok (.ireturn, 1) := by decide +kernel
theorem dX10_agreed_10 : decode cX10_agreed 10 = .ok (.iload_n 1, 1) := by decide +kernel
theorem dX10_agreed_11 : decode cX10_agreed 11 = .ok (.i2l, 1) := by decide +kernel
theorem dX10_agreed_12 : decode cX10_agreed 12 = .ok (.lconst 1, 1) := by decide +kernel
theorem dX10_agreed_13 : decode cX10_agreed 13 = .ok (.ldc2_w 241, 3) := by decide +kernel
theorem dX10_agreed_16 : decode cX10_agreed 16 = .ok (.invokestatic 64, 3) := by decide +kernel
theorem dX10_agreed_19 : decode cX10_agreed 19 = .ok (.ifCond .eq 13, 3) := by decide +kernel
theorem dX10_agreed_22 : decode cX10_agreed 22 = .ok (.iload_n 2, 1) := by decide +kernel
theorem dX10_agreed_23 : decode cX10_agreed 23 = .ok (.i2l, 1) := by decide +kernel
theorem dX10_agreed_24 : decode cX10_agreed 24 = .ok (.lconst 0, 1) := by decide +kernel
theorem dX10_agreed_25 : decode cX10_agreed 25 = .ok (.lconst 1, 1) := by decide +kernel
theorem dX10_agreed_26 : decode cX10_agreed 26 = .ok (.invokestatic 64, 3) := by decide +kernel
theorem dX10_agreed_29 : decode cX10_agreed 29 = .ok (.ifCond .ne 6, 3) := by decide +kernel
theorem dX10_agreed_32 : decode cX10_agreed 32 = .ok (.ldc 79, 2) := by decide +kernel
theorem dX10_agreed_34 : decode cX10_agreed 34 = .ok (.ireturn, 1) := by decide +kernel
theorem dX10_agreed_35 : decode cX10_agreed 35 = .ok (.aload_n 0, 1) := by decide +kernel
theorem dX10_agreed_36 : decode cX10_agreed 36 = .ok (.invokevirtual 205, 3) := by decide +kernel
theorem dX10_agreed_39 : decode cX10_agreed 39 = .ok (.iconst 0, 1) := by decide +kernel
theorem dX10_agreed_40 : decode cX10_agreed 40 = .ok (.istore_n 3, 1) := by decide +kernel
theorem dX10_agreed_41 : decode cX10_agreed 41 = .ok (.ldc 165, 2) := by decide +kernel
theorem dX10_agreed_43 : decode cX10_agreed 43 = .ok (.istore 4, 2) := by decide +kernel
theorem dX10_agreed_45 : decode cX10_agreed 45 = .ok (.iconst 0, 1) := by decide +kernel
theorem dX10_agreed_46 : decode cX10_agreed 46 = .ok (.istore 5, 2) := by decide +kernel
theorem dX10_agreed_48 : decode cX10_agreed 48 = .ok (.iload 5, 2) := by decide +kernel
theorem dX10_agreed_50 : decode cX10_agreed 50 = .ok (.iload_n 1, 1) := by decide +kernel
theorem dX10_agreed_51 : decode cX10_agreed 51 = .ok (.if_icmp .ge 67, 3) := by decide +kernel
theorem dX10_agreed_54 : decode cX10_agreed 54 = .ok (.aload_n 0, 1) := by decide +kernel
theorem dX10_agreed_55 : decode cX10_agreed 55 = .ok (.invokevirtual 250, 3) := by decide +kernel
theorem dX10_agreed_58 : decode cX10_agreed 58 = .ok (.iconst 1, 1) := by decide +kernel
theorem dX10_agreed_59 : decode cX10_agreed 59 = .ok (.if_icmp .le 7, 3) := by decide +kernel
theorem dX10_agreed_62 : decode cX10_agreed 62 = .ok (.iconst 1, 1) := by decide +kernel
theorem dX10_agreed_63 : decode cX10_agreed 63 = .ok (.goto 4, 3) := by decide +kernel
theorem dX10_agreed_66 : decode cX10_agreed 66 = .ok (.iconst 0, 1) := by decide +kernel
theorem dX10_agreed_67 : decode cX10_agreed 67 = .ok (.istore 6, 2) := by decide +kernel
theorem dX10_agreed_69 : decode cX10_agreed 69 = .ok (.iload_n 3, 1) := by decide +kernel
theorem dX10_agreed_70 : decode cX10_agreed 70 = .ok (.iload 6, 2) := by decide +kernel
theorem dX10_agreed_72 : decode cX10_agreed 72 = .ok (.ifCond .eq 7, 3) := by decide +kernel
theorem dX10_agreed_75 : decode cX10_agreed 75 = .ok (.iconst 1, 1) := by decide +kernel
theorem dX10_agreed_76 : decode cX10_agreed 76 = .ok (.goto 4, 3) := by decide +kernel
theorem dX10_agreed_79 : decode cX10_agreed 79 = .ok (.iconst 0, 1) := by decide +kernel
theorem dX10_agreed_80 : decode cX10_agreed 80 = .ok (.iadd, 1) := by decide +kernel
theorem dX10_agreed_81 : decode cX10_agreed 81 = .ok (.istore_n 3, 1) := by decide +kernel
theorem dX10_agreed_82 : decode cX10_agreed 82 = .ok (.iload 6, 2) := by decide +kernel
theorem dX10_agreed_84 : decode cX10_agreed 84 = .ok (.ifCond .eq 19, 3) := by decide +kernel
theorem dX10_agreed_87 : decode cX10_agreed 87 = .ok (.iload 4, 2) := by decide +kernel
theorem dX10_agreed_89 : decode cX10_agreed 89 = .ok (.ldc 165, 2) := by decide +kernel
theorem dX10_agreed_91 : decode cX10_agreed 91 = .ok (.if_icmp .ne 12, 3) := by decide +kernel
theorem dX10_agreed_94 : decode cX10_agreed 94 = .ok (.aload_n 0, 1) := by decide +kernel
theorem dX10_agreed_95 : decode cX10_agreed 95 = .ok (.getfield 50, 3) := by decide +kernel
theorem dX10_agreed_98 : decode cX10_agreed 98 = .ok (.iconst 0, 1) := by decide +kernel
theorem dX10_agreed_99 : decode cX10_agreed 99 = .ok (.iaload, 1) := by decide +kernel
theorem dX10_agreed_100 : decode cX10_agreed 100 = .ok (.goto 5, 3) := by decide +kernel
theorem dX10_agreed_103 : decode cX10_agreed 103 = .ok (.iload 4, 2) := by decide +kernel
theorem dX10_agreed_105 : decode cX10_agreed 105 = .ok (.istore 4, 2) := by decide +kernel
theorem dX10_agreed_107 : decode cX10_agreed 107 = .ok (.aload_n 0, 1) := by decide +kernel
theorem dX10_agreed_108 : decode cX10_agreed 108 = .ok (.iconst 1, 1) := by decide +kernel
theorem dX10_agreed_109 : decode cX10_agreed 109 = .ok (.invokevirtual 208, 3) := by decide +kernel
theorem dX10_agreed_112 : decode cX10_agreed 112 = .ok (.iinc 5 1, 3) := by decide +kernel
theorem dX10_agreed_115 : decode cX10_agreed 115 = .ok (.goto (-67), 3) := by decide +kernel
theorem dX10_agreed_118 : decode cX10_agreed 118 = .ok (.iload_n 2, 1) := by decide +kernel
theorem dX10_agreed_119 : decode cX10_agreed 119 = .ok (.ifCond .ne 7, 3) := by decide +kernel
theorem dX10_agreed_122 : decode cX10_agreed 122 = .ok (.iload_n 3, 1) := by decide +kernel
theorem dX10_agreed_123 : decode cX10_agreed 123 = .ok (.goto 5, 3) := by decide +kernel
theorem dX10_agreed_126 : decode cX10_agreed 126 = .ok (.iload 4, 2) := by decide +kernel
theorem dX10_agreed_128 : decode cX10_agreed 128 = .ok (.ireturn, 1) := by decide +kernel
theorem dX10_hasCalled_0 : decode cX10_hasCalled 0 = .ok (.iload_n 1, 1) := by decide +kernel
theorem dX10_hasCalled_1 : decode cX10_hasCalled 1 = .ok (.istore 5, 2) := by decide +kernel
theorem dX10_hasCalled_3 : decode cX10_hasCalled 3 = .ok (.iconst 0, 1) := by decide +kernel
theorem dX10_hasCalled_4 : decode cX10_hasCalled 4 = .ok (.istore 6, 2) := by decide +kernel
theorem dX10_hasCalled_6 : decode cX10_hasCalled 6 = .ok (.aload_n 0, 1) := by decide +kernel
theorem dX10_hasCalled_7 : decode cX10_hasCalled 7 = .ok (.getfield 16, 3) := by decide +kernel
theorem dX10_hasCalled_10 : decode cX10_hasCalled 10 = .ok (.iload_n 3, 1) := by decide +kernel
theorem dX10_hasCalled_11 : decode cX10_hasCalled 11 = .ok (.iload 4, 2) := by decide +kernel
theorem dX10_hasCalled_13 : decode cX10_hasCalled 13 = .ok (.iadd, 1) := by decide +kernel
theorem dX10_hasCalled_14 : decode cX10_hasCalled 14 = .ok (.iconst 1, 1) := by decide +kernel
theorem dX10_hasCalled_15 : decode cX10_hasCalled 15 = .ok (.isub, 1) := by decide +kernel
theorem dX10_hasCalled_16 : decode cX10_hasCalled 16 = .ok (.iaload, 1) := by decide +kernel
theorem dX10_hasCalled_17 : decode cX10_hasCalled 17 = .ok (.istore 7, 2) := by decide +kernel
theorem dX10_hasCalled_19 : decode cX10_hasCalled 19 = .ok (.iconst 1, 1) := by decide +kernel
theorem dX10_hasCalled_20 : decode cX10_hasCalled 20 = .ok (.istore 8, 2) := by decide +kernel
theorem dX10_hasCalled_22 : decode cX10_hasCalled 22 = .ok (.iconst 0, 1) := by decide +kernel
theorem dX10_hasCalled_23 : decode cX10_hasCalled 23 = .ok (.istore 9, 2) := by decide +kernel
theorem dX10_hasCalled_25 : decode cX10_hasCalled 25 = .ok (.iload 9, 2) := by decide +kernel
theorem dX10_hasCalled_27 : decode cX10_hasCalled 27 = .ok (.iload 7, 2) := by decide +kernel
theorem dX10_hasCalled_29 : decode cX10_hasCalled 29 = .ok (.if_icmp .gt 103, 3) := by decide +kernel
theorem dX10_hasCalled_32 : decode cX10_hasCalled 32 = .ok (.iload 8, 2) := by decide +kernel
theorem dX10_hasCalled_34 : decode cX10_hasCalled 34 = .ok (.ifCond .eq 98, 3) := by decide +kernel
theorem dX10_hasCalled_37 : decode cX10_hasCalled 37 = .ok (.iload_n 2, 1) := by decide +kernel
theorem dX10_hasCalled_38 : decode cX10_hasCalled 38 = .ok (.aload_n 0, 1) := by decide +kernel
theorem dX10_hasCalled_39 : decode cX10_hasCalled 39 = .ok (.iload 9, 2) := by decide +kernel
theorem dX10_hasCalled_41 : decode cX10_hasCalled 41 = .ok (.invokevirtual 176, 3) := by decide +kernel
theorem dX10_hasCalled_44 : decode cX10_hasCalled 44 = .ok (.invokestatic 186, 3) := by decide +kernel
theorem dX10_hasCalled_47 : decode cX10_hasCalled 47 = .ok (.istore 10, 2) := by decide +kernel
theorem dX10_hasCalled_49 : decode cX10_hasCalled 49 = .ok (.aload_n 0, 1) := by decide +kernel
theorem dX10_hasCalled_50 : decode cX10_hasCalled 50 = .ok (.getfield 16, 3) := by decide +kernel
theorem dX10_hasCalled_53 : decode cX10_hasCalled 53 = .ok (.iload_n 3, 1) := by decide +kernel
theorem dX10_hasCalled_54 : decode cX10_hasCalled 54 = .ok (.iload 6, 2) := by decide +kernel
theorem dX10_hasCalled_56 : decode cX10_hasCalled 56 = .ok (.iadd, 1) := by decide +kernel
theorem dX10_hasCalled_57 : decode cX10_hasCalled 57 = .ok (.iaload, 1) := by decide +kernel
theorem dX10_hasCalled_58 : decode cX10_hasCalled 58 = .ok (.iload 9, 2) := by decide +kernel
theorem dX10_hasCalled_60 : decode cX10_hasCalled 60 = .ok (.if_icmp .ne 7, 3) := by decide +kernel
theorem dX10_hasCalled_63 : decode cX10_hasCalled 63 = .ok (.iconst 1, 1) := by decide +kernel
theorem dX10_hasCalled_64 : decode cX10_hasCalled 64 = .ok (.goto 4, 3) := by decide +kernel
theorem dX10_hasCalled_67 : decode cX10_hasCalled 67 = .ok (.iconst 0, 1) := by decide +kernel
theorem dX10_hasCalled_68 : decode cX10_hasCalled 68 = .ok (.istore 11, 2) := by decide +kernel
theorem dX10_hasCalled_70 : decode cX10_hasCalled 70 = .ok (.iload 5, 2) := by decide +kernel
theorem dX10_hasCalled_72 : decode cX10_hasCalled 72 = .ok (.iload 10, 2) := by decide +kernel
theorem dX10_hasCalled_74 : decode cX10_hasCalled 74 = .ok (.aload_n 0, 1) := by decide +kernel
theorem dX10_hasCalled_75 : decode cX10_hasCalled 75 = .ok (.getfield 28, 3) := by decide +kernel
theorem dX10_hasCalled_78 : decode cX10_hasCalled 78 = .ok (.iconst 1, 1) := by decide +kernel
theorem dX10_hasCalled_79 : decode cX10_hasCalled 79 = .ok (.iaload, 1) := by decide +kernel
theorem dX10_hasCalled_80 : decode cX10_hasCalled 80 = .ok (.invokestatic 189, 3) := by decide +kernel
theorem dX10_hasCalled_83 : decode cX10_hasCalled 83 = .ok (.iload 11, 2) := by decide +kernel
theorem dX10_hasCalled_85 : decode cX10_hasCalled 85 = .ok (.if_icmp .ne 7, 3) := by decide +kernel
theorem dX10_hasCalled_88 : decode cX10_hasCalled 88 = .ok (.iconst 1, 1) := by decide +kernel
theorem dX10_hasCalled_89 : decode cX10_hasCalled 89 = .ok (.goto 4, 3) := by decide +kernel
theorem dX10_hasCalled_92 : decode cX10_hasCalled 92 = .ok (.iconst 0, 1) := by decide +kernel
theorem dX10_hasCalled_93 : decode cX10_hasCalled 93 = .ok (.istore 8, 2) := by decide +kernel
theorem dX10_hasCalled_95 : decode cX10_hasCalled 95 = .ok (.iload 6, 2) := by decide +kernel
theorem dX10_hasCalled_97 : decode cX10_hasCalled 97 = .ok (.iload 11, 2) := by decide +kernel
theorem dX10_hasCalled_99 : decode cX10_hasCalled 99 = .ok (.ifCond .eq 16, 3) := by decide +kernel
theorem dX10_hasCalled_102 : decode cX10_hasCalled 102 = .ok (.iload 6, 2) := by decide +kernel
theorem dX10_hasCalled_104 : decode cX10_hasCalled 104 = .ok (.iload 4, 2) := by decide +kernel
theorem dX10_hasCalled_106 : decode cX10_hasCalled 106 = .ok (.iconst 1, 1) := by decide +kernel
theorem dX10_hasCalled_107 : decode cX10_hasCalled 107 = .ok (.isub, 1) := by decide +kernel
theorem dX10_hasCalled_108 : decode cX10_hasCalled 108 = .ok (.if_icmp .ge 7, 3) := by decide +kernel
theorem dX10_hasCalled_111 : decode cX10_hasCalled 111 = .ok (.iconst 1, 1) := by decide +kernel
theorem dX10_hasCalled_112 : decode cX10_hasCalled 112 = .ok (.goto 4, 3) := by decide +kernel
theorem dX10_hasCalled_115 : decode cX10_hasCalled 115 = .ok (.iconst 0, 1) := by decide +kernel
theorem dX10_hasCalled_116 : decode cX10_hasCalled 116 = .ok (.iadd, 1) := by decide +kernel
theorem dX10_hasCalled_117 : decode cX10_hasCalled 117 = .ok (.istore 6, 2) := by decide +kernel
theorem dX10_hasCalled_119 : decode cX10_hasCalled 119 = .ok (.iload 5, 2) := by decide +kernel
theorem dX10_hasCalled_121 : decode cX10_hasCalled 121 = .ok (.iload 10, 2) := by decide +kernel
theorem dX10_hasCalled_123 : decode cX10_hasCalled 123 = .ok (.iadd, 1) := by decide +kernel
theorem dX10_hasCalled_124 : decode cX10_hasCalled 124 = .ok (.istore 5, 2) := by decide +kernel
theorem dX10_hasCalled_126 : decode cX10_hasCalled 126 = .ok (.iinc 9 1, 3) := by decide +kernel
theorem dX10_hasCalled_129 : decode cX10_hasCalled 129 = .ok (.goto (-104), 3) := by decide +kernel
theorem dX10_hasCalled_132 : decode cX10_hasCalled 132 = .ok (.iload 8, 2) := by decide +kernel
theorem dX10_hasCalled_134 : decode cX10_hasCalled 134 = .ok (.ireturn, 1) := by decide +kernel
theorem dX10_log_0 : decode cX10_log 0 = .ok (.aload_n 0, 1) := by decide +kernel
theorem dX10_log_1 : decode cX10_log 1 = .ok (.invokevirtual 196, 3) := by decide +kernel
theorem dX10_log_4 : decode cX10_log 4 = .ok (.ifCond .ne 6, 3) := by decide +kernel
theorem dX10_log_7 : decode cX10_log 7 = .ok (.ldc 199, 2) := by decide +kernel
theorem dX10_log_9 : decode cX10_log 9 = .ok (.ireturn, 1) := by decide +kernel
theorem dX10_log_10 : decode cX10_log 10 = .ok (.iload_n 1, 1) := by decide +kernel
theorem dX10_log_11 : decode cX10_log 11 = .ok (.invokestatic 73, 3) := by decide +kernel
theorem dX10_log_14 : decode cX10_log 14 = .ok (.ifCond .eq 26, 3) := by decide +kernel
theorem dX10_log_17 : decode cX10_log 17 = .ok (.iload_n 3, 1) := by decide +kernel
theorem dX10_log_18 : decode cX10_log 18 = .ok (.i2l, 1) := by decide +kernel
theorem dX10_log_19 : decode cX10_log 19 = .ok (.lconst 1, 1) := by decide +kernel
theorem dX10_log_20 : decode cX10_log 20 = .ok (.ldc2_w 254, 3) := by decide +kernel
theorem dX10_log_23 : decode cX10_log 23 = .ok (.invokestatic 64, 3) := by decide +kernel
theorem dX10_log_26 : decode cX10_log 26 = .ok (.ifCond .eq 14, 3) := by decide +kernel
theorem dX10_log_29 : decode cX10_log 29 = .ok (.iload 4, 2) := by decide +kernel
theorem dX10_log_31 : decode cX10_log 31 = .ok (.i2l, 1) := by decide +kernel
theorem dX10_log_32 : decode cX10_log 32 = .ok (.lconst 0, 1) := by decide +kernel
theorem dX10_log_33 : decode cX10_log 33 = .ok (.lconst 1, 1) := by decide +kernel
theorem dX10_log_34 : decode cX10_log 34 = .ok (.invokestatic 64, 3) := by decide +kernel
theorem dX10_log_37 : decode cX10_log 37 = .ok (.ifCond .ne 6, 3) := by decide +kernel
theorem dX10_log_40 : decode cX10_log 40 = .ok (.ldc 79, 2) := by decide +kernel
theorem dX10_log_42 : decode cX10_log 42 = .ok (.ireturn, 1) := by decide +kernel
theorem dX10_log_43 : decode cX10_log 43 = .ok (.aload_n 0, 1) := by decide +kernel
theorem dX10_log_44 : decode cX10_log 44 = .ok (.getfield 7, 3) := by decide +kernel
theorem dX10_log_47 : decode cX10_log 47 = .ok (.iload_n 1, 1) := by decide +kernel
theorem dX10_log_48 : decode cX10_log 48 = .ok (.iaload, 1) := by decide +kernel
theorem dX10_log_49 : decode cX10_log 49 = .ok (.ifCond .ge 9, 3) := by decide +kernel
theorem dX10_log_52 : decode cX10_log 52 = .ok (.aload_n 0, 1) := by decide +kernel
theorem dX10_log_53 : decode cX10_log 53 = .ok (.iconst 1, 1) := by decide +kernel
theorem dX10_log_54 : decode cX10_log 54 = .ok (.invokevirtual 80, 3) := by decide +kernel
theorem dX10_log_57 : decode cX10_log 57 = .ok (.ireturn, 1) := by decide +kernel
theorem dX10_log_58 : decode cX10_log 58 = .ok (.iload_n 2, 1) := by decide +kernel
theorem dX10_log_59 : decode cX10_log 59 = .ok (.ifCond .lt 19, 3) := by decide +kernel
theorem dX10_log_62 : decode cX10_log 62 = .ok (.iload_n 2, 1) := by decide +kernel
theorem dX10_log_63 : decode cX10_log 63 = .ok (.i2l, 1) := by decide +kernel
theorem dX10_log_64 : decode cX10_log 64 = .ok (.iload_n 3, 1) := by decide +kernel
theorem dX10_log_65 : decode cX10_log 65 = .ok (.i2l, 1) := by decide +kernel
theorem dX10_log_66 : decode cX10_log 66 = .ok (.ladd, 1) := by decide +kernel
theorem dX10_log_67 : decode cX10_log 67 = .ok (.aload_n 0, 1) := by decide +kernel
theorem dX10_log_68 : decode cX10_log 68 = .ok (.getfield 13, 3) := by decide +kernel
theorem dX10_log_71 : decode cX10_log 71 = .ok (.iload_n 1, 1) := by decide +kernel
theorem dX10_log_72 : decode cX10_log 72 = .ok (.iaload, 1) := by decide +kernel
theorem dX10_log_73 : decode cX10_log 73 = .ok (.i2l, 1) := by decide +kernel
theorem dX10_log_74 : decode cX10_log 74 = .ok (.lcmp, 1) := by decide +kernel
theorem dX10_log_75 : decode cX10_log 75 = .ok (.ifCond .le 9, 3) := by decide +kernel
theorem dX10_log_78 : decode cX10_log 78 = .ok (.aload_n 0, 1) := by decide +kernel
theorem dX10_log_79 : decode cX10_log 79 = .ok (.iconst 2, 1) := by decide +kernel
theorem dX10_log_80 : decode cX10_log 80 = .ok (.invokevirtual 80, 3) := by decide +kernel
theorem dX10_log_83 : decode cX10_log 83 = .ok (.ireturn, 1) := by decide +kernel
theorem dX10_log_84 : decode cX10_log 84 = .ok (.bipush 40, 2) := by decide +kernel
theorem dX10_log_86 : decode cX10_log 86 = .ok (.iload_n 1, 1) := by decide +kernel
theorem dX10_log_87 : decode cX10_log 87 = .ok (.imul, 1) := by decide +kernel
theorem dX10_log_88 : decode cX10_log 88 = .ok (.iload_n 2, 1) := by decide +kernel
theorem dX10_log_89 : decode cX10_log 89 = .ok (.iadd, 1) := by decide +kernel
theorem dX10_log_90 : decode cX10_log 90 = .ok (.istore 5, 2) := by decide +kernel
theorem dX10_log_92 : decode cX10_log 92 = .ok (.iconst 0, 1) := by decide +kernel
theorem dX10_log_93 : decode cX10_log 93 = .ok (.istore 6, 2) := by decide +kernel
theorem dX10_log_95 : decode cX10_log 95 = .ok (.iload 6, 2) := by decide +kernel
theorem dX10_log_97 : decode cX10_log 97 = .ok (.iload_n 3, 1) := by decide +kernel
theorem dX10_log_98 : decode cX10_log 98 = .ok (.if_icmp .ge 56, 3) := by decide +kernel
theorem dX10_log_101 : decode cX10_log 101 = .ok (.aload_n 0, 1) := by decide +kernel
theorem dX10_log_102 : decode cX10_log 102 = .ok (.getfield 16, 3) := by decide +kernel
theorem dX10_log_105 : decode cX10_log 105 = .ok (.iload 5, 2) := by decide +kernel
theorem dX10_log_107 : decode cX10_log 107 = .ok (.iload 6, 2) := by decide +kernel
theorem dX10_log_109 : decode cX10_log 109 = .ok (.iadd, 1) := by decide +kernel
theorem dX10_log_110 : decode cX10_log 110 = .ok (.iaload, 1) := by decide +kernel
theorem dX10_log_111 : decode cX10_log 111 = .ok (.i2l, 1) := by decide +kernel
theorem dX10_log_112 : decode cX10_log 112 = .ok (.iload 6, 2) := by decide +kernel
theorem dX10_log_114 : decode cX10_log 114 = .ok (.ifCond .ne 7, 3) := by decide +kernel
theorem dX10_log_117 : decode cX10_log 117 = .ok (.lconst 0, 1) := by decide +kernel
theorem dX10_log_118 : decode cX10_log 118 = .ok (.goto 18, 3) := by decide +kernel
theorem dX10_log_121 : decode cX10_log 121 = .ok (.aload_n 0, 1) := by decide +kernel
theorem dX10_log_122 : decode cX10_log 122 = .ok (.getfield 16, 3) := by decide +kernel
theorem dX10_log_125 : decode cX10_log 125 = .ok (.iload 5, 2) := by decide +kernel
theorem dX10_log_127 : decode cX10_log 127 = .ok (.iload 6, 2) := by decide +kernel
theorem dX10_log_129 : decode cX10_log 129 = .ok (.iadd, 1) := by decide +kernel
theorem dX10_log_130 : decode cX10_log 130 = .ok (.iconst 1, 1) := by decide +kernel
theorem dX10_log_131 : decode cX10_log 131 = .ok (.isub, 1) := by decide +kernel
theorem dX10_log_132 : decode cX10_log 132 = .ok (.iaload, 1) := by decide +kernel
theorem dX10_log_133 : decode cX10_log 133 = .ok (.i2l, 1) := by decide +kernel
theorem dX10_log_134 : decode cX10_log 134 = .ok (.lconst 1, 1) := by decide +kernel
theorem dX10_log_135 : decode cX10_log 135 = .ok (.ladd, 1) := by decide +kernel
theorem dX10_log_136 : decode cX10_log 136 = .ok (.ldc2_w 256, 3) := by decide +kernel
theorem dX10_log_139 : decode cX10_log 139 = .ok (.invokestatic 64, 3) := by decide +kernel
theorem dX10_log_142 : decode cX10_log 142 = .ok (.ifCond .ne 6, 3) := by decide +kernel
theorem dX10_log_145 : decode cX10_log 145 = .ok (.ldc 79, 2) := by decide +kernel
theorem dX10_log_147 : decode cX10_log 147 = .ok (.ireturn, 1) := by decide +kernel
theorem dX10_log_148 : decode cX10_log 148 = .ok (.iinc 6 1, 3) := by decide +kernel
theorem dX10_log_151 : decode cX10_log 151 = .ok (.goto (-56), 3) := by decide +kernel
theorem dX10_log_154 : decode cX10_log 154 = .ok (.iconst 0, 1) := by decide +kernel
theorem dX10_log_155 : decode cX10_log 155 = .ok (.istore 6, 2) := by decide +kernel
theorem dX10_log_157 : decode cX10_log 157 = .ok (.ldc 165, 2) := by decide +kernel
theorem dX10_log_159 : decode cX10_log 159 = .ok (.istore 7, 2) := by decide +kernel
theorem dX10_log_161 : decode cX10_log 161 = .ok (.iconst 0, 1) := by decide +kernel
theorem dX10_log_162 : decode cX10_log 162 = .ok (.istore 8, 2) := by decide +kernel
theorem dX10_log_164 : decode cX10_log 164 = .ok (.iload 8, 2) := by decide +kernel
theorem dX10_log_166 : decode cX10_log 166 = .ok (.bipush 72, 2) := by decide +kernel
theorem dX10_log_168 : decode cX10_log 168 = .ok (.if_icmp .ge 64, 3) := by decide +kernel
theorem dX10_log_171 : decode cX10_log 171 = .ok (.aload_n 0, 1) := by decide +kernel
theorem dX10_log_172 : decode cX10_log 172 = .ok (.iload 8, 2) := by decide +kernel
theorem dX10_log_174 : decode cX10_log 174 = .ok (.bipush 8, 2) := by decide +kernel
theorem dX10_log_176 : decode cX10_log 176 = .ok (.idiv, 1) := by decide +kernel
theorem dX10_log_177 : decode cX10_log 177 = .ok (.iload 8, 2) := by decide +kernel
theorem dX10_log_179 : decode cX10_log 179 = .ok (.bipush 8, 2) := by decide +kernel
theorem dX10_log_181 : decode cX10_log 181 = .ok (.irem, 1) := by decide +kernel
theorem dX10_log_182 : decode cX10_log 182 = .ok (.iload 5, 2) := by decide +kernel
theorem dX10_log_184 : decode cX10_log 184 = .ok (.iload_n 3, 1) := by decide +kernel
theorem dX10_log_185 : decode cX10_log 185 = .ok (.invokevirtual 258, 3) := by decide +kernel
theorem dX10_log_188 : decode cX10_log 188 = .ok (.istore 9, 2) := by decide +kernel
theorem dX10_log_190 : decode cX10_log 190 = .ok (.iload 6, 2) := by decide +kernel
theorem dX10_log_192 : decode cX10_log 192 = .ok (.iload 9, 2) := by decide +kernel
theorem dX10_log_194 : decode cX10_log 194 = .ok (.ifCond .eq 7, 3) := by decide +kernel
theorem dX10_log_197 : decode cX10_log 197 = .ok (.iconst 1, 1) := by decide +kernel
theorem dX10_log_198 : decode cX10_log 198 = .ok (.goto 4, 3) := by decide +kernel
theorem dX10_log_201 : decode cX10_log 201 = .ok (.iconst 0, 1) := by decide +kernel
theorem dX10_log_202 : decode cX10_log 202 = .ok (.iadd, 1) := by decide +kernel
theorem dX10_log_203 : decode cX10_log 203 = .ok (.istore 6, 2) := by decide +kernel
theorem dX10_log_205 : decode cX10_log 205 = .ok (.iload 9, 2) := by decide +kernel
theorem dX10_log_207 : decode cX10_log 207 = .ok (.ifCond .eq 15, 3) := by decide +kernel
theorem dX10_log_210 : decode cX10_log 210 = .ok (.iload 7, 2) := by decide +kernel
theorem dX10_log_212 : decode cX10_log 212 = .ok (.ldc 165, 2) := by decide +kernel
theorem dX10_log_214 : decode cX10_log 214 = .ok (.if_icmp .ne 8, 3) := by decide +kernel
theorem dX10_log_217 : decode cX10_log 217 = .ok (.iload 8, 2) := by decide +kernel
theorem dX10_log_219 : decode cX10_log 219 = .ok (.goto 5, 3) := by decide +kernel
theorem dX10_log_222 : decode cX10_log 222 = .ok (.iload 7, 2) := by decide +kernel
theorem dX10_log_224 : decode cX10_log 224 = .ok (.istore 7, 2) := by decide +kernel
theorem dX10_log_226 : decode cX10_log 226 = .ok (.iinc 8 1, 3) := by decide +kernel
theorem dX10_log_229 : decode cX10_log 229 = .ok (.goto (-65), 3) := by decide +kernel
theorem dX10_log_232 : decode cX10_log 232 = .ok (.aload_n 0, 1) := by decide +kernel
theorem dX10_log_233 : decode cX10_log 233 = .ok (.iload 4, 2) := by decide +kernel
theorem dX10_log_235 : decode cX10_log 235 = .ok (.ifCond .ne 8, 3) := by decide +kernel
theorem dX10_log_238 : decode cX10_log 238 = .ok (.iload 6, 2) := by decide +kernel
theorem dX10_log_240 : decode cX10_log 240 = .ok (.goto 5, 3) := by decide +kernel
theorem dX10_log_243 : decode cX10_log 243 = .ok (.iload 7, 2) := by decide +kernel
theorem dX10_log_245 : decode cX10_log 245 = .ok (.invokevirtual 84, 3) := by decide +kernel
theorem dX10_log_248 : decode cX10_log 248 = .ok (.ireturn, 1) := by decide +kernel
theorem dX10_wreck_0 : decode cX10_wreck 0 = .ok (.aload_n 0, 1) := by decide +kernel
theorem dX10_wreck_1 : decode cX10_wreck 1 = .ok (.invokevirtual 196, 3) := by decide +kernel
theorem dX10_wreck_4 : decode cX10_wreck 4 = .ok (.ifCond .ne 6, 3) := by decide +kernel
theorem dX10_wreck_7 : decode cX10_wreck 7 = .ok (.ldc 199, 2) := by decide +kernel
theorem dX10_wreck_9 : decode cX10_wreck 9 = .ok (.ireturn, 1) := by decide +kernel
theorem dX10_wreck_10 : decode cX10_wreck 10 = .ok (.iload_n 1, 1) := by decide +kernel
theorem dX10_wreck_11 : decode cX10_wreck 11 = .ok (.i2l, 1) := by decide +kernel
theorem dX10_wreck_12 : decode cX10_wreck 12 = .ok (.lconst 0, 1) := by decide +kernel
theorem dX10_wreck_13 : decode cX10_wreck 13 = .ok (.ldc2_w 262, 3) := by decide +kernel
theorem dX10_wreck_16 : decode cX10_wreck 16 = .ok (.invokestatic 64, 3) := by decide +kernel
theorem dX10_wreck_19 : decode cX10_wreck 19 = .ok (.ifCond .eq 38, 3) := by decide +kernel
theorem dX10_wreck_22 : decode cX10_wreck 22 = .ok (.iload_n 2, 1) := by decide +kernel
theorem dX10_wreck_23 : decode cX10_wreck 23 = .ok (.i2l, 1) := by decide +kernel
theorem dX10_wreck_24 : decode cX10_wreck 24 = .ok (.lconst 1, 1) := by decide +kernel
theorem dX10_wreck_25 : decode cX10_wreck 25 = .ok (.ldc2_w 262, 3) := by decide +kernel
theorem dX10_wreck_28 : decode cX10_wreck 28 = .ok (.invokestatic 64, 3) := by decide +kernel
theorem dX10_wreck_31 : decode cX10_wreck 31 = .ok (.ifCond .eq 26, 3) := by decide +kernel
theorem dX10_wreck_34 : decode cX10_wreck 34 = .ok (.iload_n 3, 1) := by decide +kernel
theorem dX10_wreck_35 : decode cX10_wreck 35 = .ok (.i2l, 1) := by decide +kernel
theorem dX10_wreck_36 : decode cX10_wreck 36 = .ok (.lconst 1, 1) := by decide +kernel
theorem dX10_wreck_37 : decode cX10_wreck 37 = .ok (.ldc2_w 241, 3) := by decide +kernel
theorem dX10_wreck_40 : decode cX10_wreck 40 = .ok (.invokestatic 64, 3) := by decide +kernel
theorem dX10_wreck_43 : decode cX10_wreck 43 = .ok (.ifCond .eq 14, 3) := by decide +kernel
theorem dX10_wreck_46 : decode cX10_wreck 46 = .ok (.iload 4, 2) := by decide +kernel
theorem dX10_wreck_48 : decode cX10_wreck 48 = .ok (.i2l, 1) := by decide +kernel
theorem dX10_wreck_49 : decode cX10_wreck 49 = .ok (.lconst 0, 1) := by decide +kernel
theorem dX10_wreck_50 : decode cX10_wreck 50 = .ok (.lconst 1, 1) := by decide +kernel
theorem dX10_wreck_51 : decode cX10_wreck 51 = .ok (.invokestatic 64, 3) := by decide +kernel
theorem dX10_wreck_54 : decode cX10_wreck 54 = .ok (.ifCond .ne 6, 3) := by decide +kernel
theorem dX10_wreck_57 : decode cX10_wreck 57 = .ok (.ldc 79, 2) := by decide +kernel
theorem dX10_wreck_59 : decode cX10_wreck 59 = .ok (.ireturn, 1) := by decide +kernel
theorem dX10_wreck_60 : decode cX10_wreck 60 = .ok (.aload_n 0, 1) := by decide +kernel
theorem dX10_wreck_61 : decode cX10_wreck 61 = .ok (.invokevirtual 205, 3) := by decide +kernel
theorem dX10_wreck_64 : decode cX10_wreck 64 = .ok (.iconst 0, 1) := by decide +kernel
theorem dX10_wreck_65 : decode cX10_wreck 65 = .ok (.istore 5, 2) := by decide +kernel
theorem dX10_wreck_67 : decode cX10_wreck 67 = .ok (.ldc 165, 2) := by decide +kernel
theorem dX10_wreck_69 : decode cX10_wreck 69 = .ok (.istore 6, 2) := by decide +kernel
theorem dX10_wreck_71 : decode cX10_wreck 71 = .ok (.iconst 0, 1) := by decide +kernel
theorem dX10_wreck_72 : decode cX10_wreck 72 = .ok (.istore 7, 2) := by decide +kernel
theorem dX10_wreck_74 : decode cX10_wreck 74 = .ok (.iload 7, 2) := by decide +kernel
theorem dX10_wreck_76 : decode cX10_wreck 76 = .ok (.iload_n 3, 1) := by decide +kernel
theorem dX10_wreck_77 : decode cX10_wreck 77 = .ok (.if_icmp .ge 84, 3) := by decide +kernel
theorem dX10_wreck_80 : decode cX10_wreck 80 = .ok (.aload_n 0, 1) := by decide +kernel
theorem dX10_wreck_81 : decode cX10_wreck 81 = .ok (.invokevirtual 250, 3) := by decide +kernel
theorem dX10_wreck_84 : decode cX10_wreck 84 = .ok (.ifCond .le 23, 3) := by decide +kernel
theorem dX10_wreck_87 : decode cX10_wreck 87 = .ok (.iload_n 1, 1) := by decide +kernel
theorem dX10_wreck_88 : decode cX10_wreck 88 = .ok (.aload_n 0, 1) := by decide +kernel
theorem dX10_wreck_89 : decode cX10_wreck 89 = .ok (.aload_n 0, 1) := by decide +kernel
theorem dX10_wreck_90 : decode cX10_wreck 90 = .ok (.getfield 50, 3) := by decide +kernel
theorem dX10_wreck_93 : decode cX10_wreck 93 = .ok (.iconst 0, 1) := by decide +kernel
theorem dX10_wreck_94 : decode cX10_wreck 94 = .ok (.iaload, 1) := by decide +kernel
theorem dX10_wreck_95 : decode cX10_wreck 95 = .ok (.invokevirtual 233, 3) := by decide +kernel
theorem dX10_wreck_98 : decode cX10_wreck 98 = .ok (.isub, 1) := by decide +kernel
theorem dX10_wreck_99 : decode cX10_wreck 99 = .ok (.iload_n 2, 1) := by decide +kernel
theorem dX10_wreck_100 : decode cX10_wreck 100 = .ok (.if_icmp .ne 7, 3) := by decide +kernel
theorem dX10_wreck_103 : decode cX10_wreck 103 = .ok (.iconst 1, 1) := by decide +kernel
theorem dX10_wreck_104 : decode cX10_wreck 104 = .ok (.goto 4, 3) := by decide +kernel
theorem dX10_wreck_107 : decode cX10_wreck 107 = .ok (.iconst 0, 1) := by decide +kernel
theorem dX10_wreck_108 : decode cX10_wreck 108 = .ok (.istore 8, 2) := by decide +kernel
theorem dX10_wreck_110 : decode cX10_wreck 110 = .ok (.iload 5, 2) := by decide +kernel
theorem dX10_wreck_112 : decode cX10_wreck 112 = .ok (.iload 8, 2) := by decide +kernel
theorem dX10_wreck_114 : decode cX10_wreck 114 = .ok (.ifCond .eq 7, 3) := by decide +kernel
theorem dX10_wreck_117 : decode cX10_wreck 117 = .ok (.iconst 1, 1) := by decide +kernel
theorem dX10_wreck_118 : decode cX10_wreck 118 = .ok (.goto 4, 3) := by decide +kernel
theorem dX10_wreck_121 : decode cX10_wreck 121 = .ok (.iconst 0, 1) := by decide +kernel
theorem dX10_wreck_122 : decode cX10_wreck 122 = .ok (.iadd, 1) := by decide +kernel
theorem dX10_wreck_123 : decode cX10_wreck 123 = .ok (.istore 5, 2) := by decide +kernel
theorem dX10_wreck_125 : decode cX10_wreck 125 = .ok (.iload 8, 2) := by decide +kernel
theorem dX10_wreck_127 : decode cX10_wreck 127 = .ok (.ifCond .eq 19, 3) := by decide +kernel
theorem dX10_wreck_130 : decode cX10_wreck 130 = .ok (.iload 6, 2) := by decide +kernel
theorem dX10_wreck_132 : decode cX10_wreck 132 = .ok (.ldc 165, 2) := by decide +kernel
theorem dX10_wreck_134 : decode cX10_wreck 134 = .ok (.if_icmp .ne 12, 3) := by decide +kernel
theorem dX10_wreck_137 : decode cX10_wreck 137 = .ok (.aload_n 0, 1) := by decide +kernel
theorem dX10_wreck_138 : decode cX10_wreck 138 = .ok (.getfield 50, 3) := by decide +kernel
theorem dX10_wreck_141 : decode cX10_wreck 141 = .ok (.iconst 0, 1) := by decide +kernel
theorem dX10_wreck_142 : decode cX10_wreck 142 = .ok (.iaload, 1) := by decide +kernel
theorem dX10_wreck_143 : decode cX10_wreck 143 = .ok (.goto 5, 3) := by decide +kernel
theorem dX10_wreck_146 : decode cX10_wreck 146 = .ok (.iload 6, 2) := by decide +kernel
theorem dX10_wreck_148 : decode cX10_wreck 148 = .ok (.istore 6, 2) := by decide +kernel
theorem dX10_wreck_150 : decode cX10_wreck 150 = .ok (.aload_n 0, 1) := by decide +kernel
theorem dX10_wreck_151 : decode cX10_wreck 151 = .ok (.iconst 1, 1) := by decide +kernel
theorem dX10_wreck_152 : decode cX10_wreck 152 = .ok (.invokevirtual 208, 3) := by decide +kernel
theorem dX10_wreck_155 : decode cX10_wreck 155 = .ok (.iinc 7 1, 3) := by decide +kernel
theorem dX10_wreck_158 : decode cX10_wreck 158 = .ok (.goto (-84), 3) := by decide +kernel
theorem dX10_wreck_161 : decode cX10_wreck 161 = .ok (.iload 4, 2) := by decide +kernel
theorem dX10_wreck_163 : decode cX10_wreck 163 = .ok (.ifCond .ne 8, 3) := by decide +kernel
theorem dX10_wreck_166 : decode cX10_wreck 166 = .ok (.iload 5, 2) := by decide +kernel
theorem dX10_wreck_168 : decode cX10_wreck 168 = .ok (.goto 5, 3) := by decide +kernel
theorem dX10_wreck_171 : decode cX10_wreck 171 = .ok (.iload 6, 2) := by decide +kernel
theorem dX10_wreck_173 : decode cX10_wreck 173 = .ok (.ireturn, 1) := by decide +kernel
theorem dX10_season_0 : decode cX10_season 0 = .ok (.aload_n 0, 1) := by decide +kernel
theorem dX10_season_1 : decode cX10_season 1 = .ok (.invokevirtual 196, 3) := by decide +kernel
theorem dX10_season_4 : decode cX10_season 4 = .ok (.ifCond .ne 6, 3) := by decide +kernel
theorem dX10_season_7 : decode cX10_season 7 = .ok (.ldc 199, 2) := by decide +kernel
theorem dX10_season_9 : decode cX10_season 9 = .ok (.ireturn, 1) := by decide +kernel
theorem dX10_season_10 : decode cX10_season 10 = .ok (.iload_n 1, 1) := by decide +kernel
theorem dX10_season_11 : decode cX10_season 11 = .ok (.i2l, 1) := by decide +kernel
theorem dX10_season_12 : decode cX10_season 12 = .ok (.lconst 0, 1) := by decide +kernel
theorem dX10_season_13 : decode cX10_season 13 = .ok (.ldc2_w 241, 3) := by decide +kernel
theorem dX10_season_16 : decode cX10_season 16 = .ok (.invokestatic 64, 3) := by decide +kernel
theorem dX10_season_19 : decode cX10_season 19 = .ok (.ifCond .eq 25, 3) := by decide +kernel
theorem dX10_season_22 : decode cX10_season 22 = .ok (.iload_n 2, 1) := by decide +kernel
theorem dX10_season_23 : decode cX10_season 23 = .ok (.i2l, 1) := by decide +kernel
theorem dX10_season_24 : decode cX10_season 24 = .ok (.lconst 1, 1) := by decide +kernel
theorem dX10_season_25 : decode cX10_season 25 = .ok (.ldc2_w 264, 3) := by decide +kernel
theorem dX10_season_28 : decode cX10_season 28 = .ok (.invokestatic 64, 3) := by decide +kernel
theorem dX10_season_31 : decode cX10_season 31 = .ok (.ifCond .eq 13, 3) := by decide +kernel
theorem dX10_season_34 : decode cX10_season 34 = .ok (.iload_n 3, 1) := by decide +kernel
theorem dX10_season_35 : decode cX10_season 35 = .ok (.i2l, 1) := by decide +kernel
theorem dX10_season_36 : decode cX10_season 36 = .ok (.lconst 0, 1) := by decide +kernel
theorem dX10_season_37 : decode cX10_season 37 = .ok (.lconst 1, 1) := by decide +kernel
theorem dX10_season_38 : decode cX10_season 38 = .ok (.invokestatic 64, 3) := by decide +kernel
theorem dX10_season_41 : decode cX10_season 41 = .ok (.ifCond .ne 6, 3) := by decide +kernel
theorem dX10_season_44 : decode cX10_season 44 = .ok (.ldc 79, 2) := by decide +kernel
theorem dX10_season_46 : decode cX10_season 46 = .ok (.ireturn, 1) := by decide +kernel
theorem dX10_season_47 : decode cX10_season 47 = .ok (.aload_n 0, 1) := by decide +kernel
theorem dX10_season_48 : decode cX10_season 48 = .ok (.invokevirtual 205, 3) := by decide +kernel
theorem dX10_season_51 : decode cX10_season 51 = .ok (.iload_n 2, 1) := by decide +kernel
theorem dX10_season_52 : decode cX10_season 52 = .ok (.i2l, 1) := by decide +kernel
theorem dX10_season_53 : decode cX10_season 53 = .ok (.lstore 4, 2) := by decide +kernel
theorem dX10_season_55 : decode cX10_season 55 = .ok (.iconst 0, 1) := by decide +kernel
theorem dX10_season_56 : decode cX10_season 56 = .ok (.istore 6, 2) := by decide +kernel
theorem dX10_season_58 : decode cX10_season 58 = .ok (.iload 6, 2) := by decide +kernel
theorem dX10_season_60 : decode cX10_season 60 = .ok (.iload_n 1, 1) := by decide +kernel
theorem dX10_season_61 : decode cX10_season 61 = .ok (.if_icmp .ge 45, 3) := by decide +kernel
theorem dX10_season_64 : decode cX10_season 64 = .ok (.lload 4, 2) := by decide +kernel
theorem dX10_season_66 : decode cX10_season 66 = .ok (.ldc2_w 266, 3) := by decide +kernel
theorem dX10_season_69 : decode cX10_season 69 = .ok (.lmul, 1) := by decide +kernel
theorem dX10_season_70 : decode cX10_season 70 = .ok (.ldc2_w 268, 3) := by decide +kernel
theorem dX10_season_73 : decode cX10_season 73 = .ok (.lrem, 1) := by decide +kernel
theorem dX10_season_74 : decode cX10_season 74 = .ok (.lstore 4, 2) := by decide +kernel
theorem dX10_season_76 : decode cX10_season 76 = .ok (.aload_n 0, 1) := by decide +kernel
theorem dX10_season_77 : decode cX10_season 77 = .ok (.lload 4, 2) := by decide +kernel
theorem dX10_season_79 : decode cX10_season 79 = .ok (.ldc2_w 270, 3) := by decide +kernel
theorem dX10_season_82 : decode cX10_season 82 = .ok (.lrem, 1) := by decide +kernel
theorem dX10_season_83 : decode cX10_season 83 = .ok (.l2i, 1) := by decide +kernel
theorem dX10_season_84 : decode cX10_season 84 = .ok (.iconst 1, 1) := by decide +kernel
theorem dX10_season_85 : decode cX10_season 85 = .ok (.iadd, 1) := by decide +kernel
theorem dX10_season_86 : decode cX10_season 86 = .ok (.lload 4, 2) := by decide +kernel
theorem dX10_season_88 : decode cX10_season 88 = .ok (.ldc2_w 270, 3) := by decide +kernel
theorem dX10_season_91 : decode cX10_season 91 = .ok (.ldiv, 1) := by decide +kernel
theorem dX10_season_92 : decode cX10_season 92 = .ok (.ldc2_w 272, 3) := by decide +kernel
theorem dX10_season_95 : decode cX10_season 95 = .ok (.lrem, 1) := by decide +kernel
theorem dX10_season_96 : decode cX10_season 96 = .ok (.l2i, 1) := by decide +kernel
theorem dX10_season_97 : decode cX10_season 97 = .ok (.invokevirtual 192, 3) := by decide +kernel
theorem dX10_season_100 : decode cX10_season 100 = .ok (.iinc 6 1, 3) := by decide +kernel
theorem dX10_season_103 : decode cX10_season 103 = .ok (.goto (-45), 3) := by decide +kernel
theorem dX10_season_106 : decode cX10_season 106 = .ok (.aload_n 0, 1) := by decide +kernel
theorem dX10_season_107 : decode cX10_season 107 = .ok (.iload_n 3, 1) := by decide +kernel
theorem dX10_season_108 : decode cX10_season 108 = .ok (.iconst 1, 1) := by decide +kernel
theorem dX10_season_109 : decode cX10_season 109 = .ok (.iadd, 1) := by decide +kernel
theorem dX10_season_110 : decode cX10_season 110 = .ok (.invokevirtual 238, 3) := by decide +kernel
theorem dX10_season_113 : decode cX10_season 113 = .ok (.ireturn, 1) := by decide +kernel
theorem dX10_image_0 : decode cX10_image 0 = .ok (.iload_n 1, 1) := by decide +kernel
theorem dX10_image_1 : decode cX10_image 1 = .ok (.i2l, 1) := by decide +kernel
theorem dX10_image_2 : decode cX10_image 2 = .ok (.lconst 0, 1) := by decide +kernel
theorem dX10_image_3 : decode cX10_image 3 = .ok (.lconst 1, 1) := by decide +kernel
theorem dX10_image_4 : decode cX10_image 4 = .ok (.invokestatic 64, 3) := by decide +kernel
theorem dX10_image_7 : decode cX10_image 7 = .ok (.ifCond .ne 6, 3) := by decide +kernel
theorem dX10_image_10 : decode cX10_image 10 = .ok (.ldc 79, 2) := by decide +kernel
theorem dX10_image_12 : decode cX10_image 12 = .ok (.ireturn, 1) := by decide +kernel
theorem dX10_image_13 : decode cX10_image 13 = .ok (.aload_n 0, 1) := by decide +kernel
theorem dX10_image_14 : decode cX10_image 14 = .ok (.invokevirtual 196, 3) := by decide +kernel
theorem dX10_image_17 : decode cX10_image 17 = .ok (.ifCond .ne 6, 3) := by decide +kernel
theorem dX10_image_20 : decode cX10_image 20 = .ok (.ldc 199, 2) := by decide +kernel
theorem dX10_image_22 : decode cX10_image 22 = .ok (.ireturn, 1) := by decide +kernel
theorem dX10_image_23 : decode cX10_image 23 = .ok (.iconst 0, 1) := by decide +kernel
theorem dX10_image_24 : decode cX10_image 24 = .ok (.istore_n 2, 1) := by decide +kernel
theorem dX10_image_25 : decode cX10_image 25 = .ok (.iload_n 2, 1) := by decide +kernel
theorem dX10_image_26 : decode cX10_image 26 = .ok (.bipush 55, 2) := by decide +kernel
theorem dX10_image_28 : decode cX10_image 28 = .ok (.if_icmp .ge 26, 3) := by decide +kernel
theorem dX10_image_31 : decode cX10_image 31 = .ok (.aload_n 0, 1) := by decide +kernel
theorem dX10_image_32 : decode cX10_image 32 = .ok (.getfield 34, 3) := by decide +kernel
theorem dX10_image_35 : decode cX10_image 35 = .ok (.bipush 84, 2) := by decide +kernel
theorem dX10_image_37 : decode cX10_image 37 = .ok (.iload_n 1, 1) := by decide +kernel
theorem dX10_image_38 : decode cX10_image 38 = .ok (.imul, 1) := by decide +kernel
theorem dX10_image_39 : decode cX10_image 39 = .ok (.iload_n 2, 1) := by decide +kernel
theorem dX10_image_40 : decode cX10_image 40 = .ok (.iadd, 1) := by decide +kernel
theorem dX10_image_41 : decode cX10_image 41 = .ok (.aload_n 0, 1) := by decide +kernel
theorem dX10_image_42 : decode cX10_image 42 = .ok (.getfield 25, 3) := by decide +kernel
theorem dX10_image_45 : decode cX10_image 45 = .ok (.iload_n 2, 1) := by decide +kernel
theorem dX10_image_46 : decode cX10_image 46 = .ok (.iaload, 1) := by decide +kernel
theorem dX10_image_47 : decode cX10_image 47 = .ok (.iastore, 1) := by decide +kernel
theorem dX10_image_48 : decode cX10_image 48 = .ok (.iinc 2 1, 3) := by decide +kernel
theorem dX10_image_51 : decode cX10_image 51 = .ok (.goto (-26), 3) := by decide +kernel
theorem dX10_image_54 : decode cX10_image 54 = .ok (.iconst 0, 1) := by decide +kernel
theorem dX10_image_55 : decode cX10_image 55 = .ok (.istore_n 2, 1) := by decide +kernel
theorem dX10_image_56 : decode cX10_image 56 = .ok (.iload_n 2, 1) := by decide +kernel
theorem dX10_image_57 : decode cX10_image 57 = .ok (.bipush 29, 2) := by decide +kernel
theorem dX10_image_59 : decode cX10_image 59 = .ok (.if_icmp .ge 29, 3) := by decide +kernel
theorem dX10_image_62 : decode cX10_image 62 = .ok (.aload_n 0, 1) := by decide +kernel
theorem dX10_image_63 : decode cX10_image 63 = .ok (.getfield 34, 3) := by decide +kernel
theorem dX10_image_66 : decode cX10_image 66 = .ok (.bipush 84, 2) := by decide +kernel
theorem dX10_image_68 : decode cX10_image 68 = .ok (.iload_n 1, 1) := by decide +kernel
theorem dX10_image_69 : decode cX10_image 69 = .ok (.imul, 1) := by decide +kernel
theorem dX10_image_70 : decode cX10_image 70 = .ok (.bipush 55, 2) := by decide +kernel
theorem dX10_image_72 : decode cX10_image 72 = .ok (.iadd, 1) := by decide +kernel
theorem dX10_image_73 : decode cX10_image 73 = .ok (.iload_n 2, 1) := by decide +kernel
theorem dX10_image_74 : decode cX10_image 74 = .ok (.iadd, 1) := by decide +kernel
theorem dX10_image_75 : decode cX10_image 75 = .ok (.aload_n 0, 1) := by decide +kernel
theorem dX10_image_76 : decode cX10_image 76 = .ok (.getfield 28, 3) := by decide +kernel
theorem dX10_image_79 : decode cX10_image 79 = .ok (.iload_n 2, 1) := by decide +kernel
theorem dX10_image_80 : decode cX10_image 80 = .ok (.iaload, 1) := by decide +kernel
theorem dX10_image_81 : decode cX10_image 81 = .ok (.iastore, 1) := by decide +kernel
theorem dX10_image_82 : decode cX10_image 82 = .ok (.iinc 2 1, 3) := by decide +kernel
theorem dX10_image_85 : decode cX10_image 85 = .ok (.goto (-29), 3) := by decide +kernel
theorem dX10_image_88 : decode cX10_image 88 = .ok (.aload_n 0, 1) := by decide +kernel
theorem dX10_image_89 : decode cX10_image 89 = .ok (.getfield 37, 3) := by decide +kernel
theorem dX10_image_92 : decode cX10_image 92 = .ok (.iload_n 1, 1) := by decide +kernel
theorem dX10_image_93 : decode cX10_image 93 = .ok (.iconst 1, 1) := by decide +kernel
theorem dX10_image_94 : decode cX10_image 94 = .ok (.bastore, 1) := by decide +kernel
theorem dX10_image_95 : decode cX10_image 95 = .ok (.iconst 1, 1) := by decide +kernel
theorem dX10_image_96 : decode cX10_image 96 = .ok (.ireturn, 1) := by decide +kernel
theorem dX10_restore_0 : decode cX10_restore 0 = .ok (.iload_n 1, 1) := by decide +kernel
theorem dX10_restore_1 : decode cX10_restore 1 = .ok (.i2l, 1) := by decide +kernel
theorem dX10_restore_2 : decode cX10_restore 2 = .ok (.lconst 0, 1) := by decide +kernel
theorem dX10_restore_3 : decode cX10_restore 3 = .ok (.lconst 1, 1) := by decide +kernel
theorem dX10_restore_4 : decode cX10_restore 4 = .ok (.invokestatic 64, 3) := by decide +kernel
theorem dX10_restore_7 : decode cX10_restore 7 = .ok (.ifCond .ne 6, 3) := by decide +kernel
theorem dX10_restore_10 : decode cX10_restore 10 = .ok (.ldc 79, 2) := by decide +kernel
theorem dX10_restore_12 : decode cX10_restore 12 = .ok (.ireturn, 1) := by decide +kernel
theorem dX10_restore_13 : decode cX10_restore 13 = .ok (.aload_n 0, 1) := by decide +kernel
theorem dX10_restore_14 : decode cX10_restore 14 = .ok (.getfield 37, 3) := by decide +kernel
theorem dX10_restore_17 : decode cX10_restore 17 = .ok (.iload_n 1, 1) := by decide +kernel
theorem dX10_restore_18 : decode cX10_restore 18 = .ok (.baload, 1) := by decide +kernel
theorem dX10_restore_19 : decode cX10_restore 19 = .ok (.ifCond .ne 6, 3) := by decide +kernel
theorem dX10_restore_22 : decode cX10_restore 22 = .ok (.ldc 199, 2) := by decide +kernel
theorem dX10_restore_24 : decode cX10_restore 24 = .ok (.ireturn, 1) := by decide +kernel
theorem dX10_restore_25 : decode cX10_restore 25 = .ok (.iconst 0, 1) := by decide +kernel
theorem dX10_restore_26 : decode cX10_restore 26 = .ok (.istore_n 2, 1) := by decide +kernel
theorem dX10_restore_27 : decode cX10_restore 27 = .ok (.iload_n 2, 1) := by decide +kernel
theorem dX10_restore_28 : decode cX10_restore 28 = .ok (.bipush 55, 2) := by decide +kernel
theorem dX10_restore_30 : decode cX10_restore 30 = .ok (.if_icmp .ge 26, 3) := by decide +kernel
theorem dX10_restore_33 : decode cX10_restore 33 = .ok (.aload_n 0, 1) := by decide +kernel
theorem dX10_restore_34 : decode cX10_restore 34 = .ok (.getfield 25, 3) := by decide +kernel
theorem dX10_restore_37 : decode cX10_restore 37 = .ok (.iload_n 2, 1) := by decide +kernel
theorem dX10_restore_38 : decode cX10_restore 38 = .ok (.aload_n 0, 1) := by decide +kernel
theorem dX10_restore_39 : decode cX10_restore 39 = .ok (.getfield 34, 3) := by decide +kernel
theorem dX10_restore_42 : decode cX10_restore 42 = .ok (.bipush 84, 2) := by decide +kernel
theorem dX10_restore_44 : decode cX10_restore 44 = .ok (.iload_n 1, 1) := by decide +kernel
theorem dX10_restore_45 : decode cX10_restore 45 = .ok (.imul, 1) := by decide +kernel
theorem dX10_restore_46 : decode cX10_restore 46 = .ok (.iload_n 2, 1) := by decide +kernel
theorem dX10_restore_47 : decode cX10_restore 47 = .ok (.iadd, 1) := by decide +kernel
theorem dX10_restore_48 : decode cX10_restore 48 = .ok (.iaload, 1) := by decide +kernel
theorem dX10_restore_49 : decode cX10_restore 49 = .ok (.iastore, 1) := by decide +kernel
theorem dX10_restore_50 : decode cX10_restore 50 = .ok (.iinc 2 1, 3) := by decide +kernel
theorem dX10_restore_53 : decode cX10_restore 53 = .ok (.goto (-26), 3) := by decide +kernel
theorem dX10_restore_56 : decode cX10_restore 56 = .ok (.iconst 0, 1) := by decide +kernel
theorem dX10_restore_57 : decode cX10_restore 57 = .ok (.istore_n 2, 1) := by decide +kernel
theorem dX10_restore_58 : decode cX10_restore 58 = .ok (.iload_n 2, 1) := by decide +kernel
theorem dX10_restore_59 : decode cX10_restore 59 = .ok (.bipush 29, 2) := by decide +kernel
theorem dX10_restore_61 : decode cX10_restore 61 = .ok (.if_icmp .ge 29, 3) := by decide +kernel
theorem dX10_restore_64 : decode cX10_restore 64 = .ok (.aload_n 0, 1) := by decide +kernel
theorem dX10_restore_65 : decode cX10_restore 65 = .ok (.getfield 28, 3) := by decide +kernel
theorem dX10_restore_68 : decode cX10_restore 68 = .ok (.iload_n 2, 1) := by decide +kernel
theorem dX10_restore_69 : decode cX10_restore 69 = .ok (.aload_n 0, 1) := by decide +kernel
theorem dX10_restore_70 : decode cX10_restore 70 = .ok (.getfield 34, 3) := by decide +kernel
theorem dX10_restore_73 : decode cX10_restore 73 = .ok (.bipush 84, 2) := by decide +kernel
theorem dX10_restore_75 : decode cX10_restore 75 = .ok (.iload_n 1, 1) := by decide +kernel
theorem dX10_restore_76 : decode cX10_restore 76 = .ok (.imul, 1) := by decide +kernel
theorem dX10_restore_77 : decode cX10_restore 77 = .ok (.bipush 55, 2) := by decide +kernel
theorem dX10_restore_79 : decode cX10_restore 79 = .ok (.iadd, 1) := by decide +kernel
theorem dX10_restore_80 : decode cX10_restore 80 = .ok (.iload_n 2, 1) := by decide +kernel
theorem dX10_restore_81 : decode cX10_restore 81 = .ok (.iadd, 1) := by decide +kernel
theorem dX10_restore_82 : decode cX10_restore 82 = .ok (.iaload, 1) := by decide +kernel
theorem dX10_restore_83 : decode cX10_restore 83 = .ok (.iastore, 1) := by decide +kernel
theorem dX10_restore_84 : decode cX10_restore 84 = .ok (.iinc 2 1, 3) := by decide +kernel
theorem dX10_restore_87 : decode cX10_restore 87 = .ok (.goto (-29), 3) := by decide +kernel
theorem dX10_restore_90 : decode cX10_restore 90 = .ok (.aload_n 0, 1) := by decide +kernel
theorem dX10_restore_91 : decode cX10_restore 91 = .ok (.iconst 0, 1) := by decide +kernel
theorem dX10_restore_92 : decode cX10_restore 92 = .ok (.putfield 166, 3) := by decide +kernel
theorem dX10_restore_95 : decode cX10_restore 95 = .ok (.iconst 1, 1) := by decide +kernel
theorem dX10_restore_96 : decode cX10_restore 96 = .ok (.ireturn, 1) := by decide +kernel
theorem dX10_isSwell_0 : decode cX10_isSwell 0 = .ok (.iload_n 1, 1) := by decide +kernel
theorem dX10_isSwell_1 : decode cX10_isSwell 1 = .ok (.i2l, 1) := by decide +kernel
theorem dX10_isSwell_2 : decode cX10_isSwell 2 = .ok (.lconst 0, 1) := by decide +kernel
theorem dX10_isSwell_3 : decode cX10_isSwell 3 = .ok (.aload_n 0, 1) := by decide +kernel
theorem dX10_isSwell_4 : decode cX10_isSwell 4 = .ok (.getfield 25, 3) := by decide +kernel
theorem dX10_isSwell_7 : decode cX10_isSwell 7 = .ok (.iconst 3, 1) := by decide +kernel
theorem dX10_isSwell_8 : decode cX10_isSwell 8 = .ok (.iaload, 1) := by decide +kernel
theorem dX10_isSwell_9 : decode cX10_isSwell 9 = .ok (.iconst 1, 1) := by decide +kernel
theorem dX10_isSwell_10 : decode cX10_isSwell 10 = .ok (.isub, 1) := by decide +kernel
theorem dX10_isSwell_11 : decode cX10_isSwell 11 = .ok (.i2l, 1) := by decide +kernel
theorem dX10_isSwell_12 : decode cX10_isSwell 12 = .ok (.invokestatic 64, 3) := by decide +kernel
theorem dX10_isSwell_15 : decode cX10_isSwell 15 = .ok (.ireturn, 1) := by decide +kernel
theorem dX10_kind_0 : decode cX10_kind 0 = .ok (.aload_n 0, 1) := by decide +kernel
theorem dX10_kind_1 : decode cX10_kind 1 = .ok (.iload_n 1, 1) := by decide +kernel
theorem dX10_kind_2 : decode cX10_kind 2 = .ok (.invokevirtual 274, 3) := by decide +kernel
theorem dX10_kind_5 : decode cX10_kind 5 = .ok (.ifCond .eq 15, 3) := by decide +kernel
theorem dX10_kind_8 : decode cX10_kind 8 = .ok (.aload_n 0, 1) := by decide +kernel
theorem dX10_kind_9 : decode cX10_kind 9 = .ok (.getfield 25, 3) := by decide +kernel
theorem dX10_kind_12 : decode cX10_kind 12 = .ok (.bipush 6, 2) := by decide +kernel
theorem dX10_kind_14 : decode cX10_kind 14 = .ok (.iload_n 1, 1) := by decide +kernel
theorem dX10_kind_15 : decode cX10_kind 15 = .ok (.iadd, 1) := by decide +kernel
theorem dX10_kind_16 : decode cX10_kind 16 = .ok (.iaload, 1) := by decide +kernel
theorem dX10_kind_17 : decode cX10_kind 17 = .ok (.goto 5, 3) := by decide +kernel
theorem dX10_kind_20 : decode cX10_kind 20 = .ok (.ldc 79, 2) := by decide +kernel
theorem dX10_kind_22 : decode cX10_kind 22 = .ok (.ireturn, 1) := by decide +kernel
theorem dX10_as_0 : decode cX10_as 0 = .ok (.aload_n 0, 1) := by decide +kernel
theorem dX10_as_1 : decode cX10_as 1 = .ok (.iload_n 1, 1) := by decide +kernel
theorem dX10_as_2 : decode cX10_as 2 = .ok (.invokevirtual 274, 3) := by decide +kernel
theorem dX10_as_5 : decode cX10_as 5 = .ok (.ifCond .eq 15, 3) := by decide +kernel
theorem dX10_as_8 : decode cX10_as 8 = .ok (.iload_n 2, 1) := by decide +kernel
theorem dX10_as_9 : decode cX10_as 9 = .ok (.i2l, 1) := by decide +kernel
theorem dX10_as_10 : decode cX10_as 10 = .ok (.lconst 0, 1) := by decide +kernel
theorem dX10_as_11 : decode cX10_as 11 = .ok (.ldc2_w 270, 3) := by decide +kernel
theorem dX10_as_14 : decode cX10_as 14 = .ok (.invokestatic 64, 3) := by decide +kernel
theorem dX10_as_17 : decode cX10_as 17 = .ok (.ifCond .ne 6, 3) := by decide +kernel
theorem dX10_as_20 : decode cX10_as 20 = .ok (.ldc 79, 2) := by decide +kernel
theorem dX10_as_22 : decode cX10_as 22 = .ok (.ireturn, 1) := by decide +kernel
theorem dX10_as_23 : decode cX10_as 23 = .ok (.aload_n 0, 1) := by decide +kernel
theorem dX10_as_24 : decode cX10_as 24 = .ok (.getfield 25, 3) := by decide +kernel
theorem dX10_as_27 : decode cX10_as 27 = .ok (.bipush 6, 2) := by decide +kernel
theorem dX10_as_29 : decode cX10_as 29 = .ok (.iload_n 1, 1) := by decide +kernel
theorem dX10_as_30 : decode cX10_as 30 = .ok (.iadd, 1) := by decide +kernel
theorem dX10_as_31 : decode cX10_as 31 = .ok (.iaload, 1) := by decide +kernel
theorem dX10_as_32 : decode cX10_as 32 = .ok (.istore_n 3, 1) := by decide +kernel
theorem dX10_as_33 : decode cX10_as 33 = .ok (.iload_n 2, 1) := by decide +kernel
theorem dX10_as_34 : decode cX10_as 34 = .ok (.iconst 1, 1) := by decide +kernel
theorem dX10_as_35 : decode cX10_as 35 = .ok (.if_icmp .ne 17, 3) := by decide +kernel
theorem dX10_as_38 : decode cX10_as 38 = .ok (.iload_n 3, 1) := by decide +kernel
theorem dX10_as_39 : decode cX10_as 39 = .ok (.iconst 2, 1) := by decide +kernel
theorem dX10_as_40 : decode cX10_as 40 = .ok (.if_icmp .eq 8, 3) := by decide +kernel
theorem dX10_as_43 : decode cX10_as 43 = .ok (.iload_n 3, 1) := by decide +kernel
theorem dX10_as_44 : decode cX10_as 44 = .ok (.iconst 3, 1) := by decide +kernel
theorem dX10_as_45 : decode cX10_as 45 = .ok (.if_icmp .ne 7, 3) := by decide +kernel
theorem dX10_as_48 : decode cX10_as 48 = .ok (.iconst 1, 1) := by decide +kernel
theorem dX10_as_49 : decode cX10_as 49 = .ok (.goto 4, 3) := by decide +kernel
theorem dX10_as_52 : decode cX10_as 52 = .ok (.iconst 0, 1) := by decide +kernel
theorem dX10_as_53 : decode cX10_as 53 = .ok (.istore 4, 2) := by decide +kernel
theorem dX10_as_55 : decode cX10_as 55 = .ok (.iload_n 2, 1) := by decide +kernel
theorem dX10_as_56 : decode cX10_as 56 = .ok (.ifCond .eq 23, 3) := by decide +kernel
theorem dX10_as_59 : decode cX10_as 59 = .ok (.iload_n 2, 1) := by decide +kernel
theorem dX10_as_60 : decode cX10_as 60 = .ok (.iload_n 3, 1) := by decide +kernel
theorem dX10_as_61 : decode cX10_as 61 = .ok (.if_icmp .eq 18, 3) := by decide +kernel
theorem dX10_as_64 : decode cX10_as 64 = .ok (.iload 4, 2) := by decide +kernel
theorem dX10_as_66 : decode cX10_as 66 = .ok (.ifCond .ne 13, 3) := by decide +kernel
theorem dX10_as_69 : decode cX10_as 69 = .ok (.iload_n 2, 1) := by decide +kernel
theorem dX10_as_70 : decode cX10_as 70 = .ok (.iconst 4, 1) := by decide +kernel
theorem dX10_as_71 : decode cX10_as 71 = .ok (.if_icmp .ne 12, 3) := by decide +kernel
theorem dX10_as_74 : decode cX10_as 74 = .ok (.iload_n 3, 1) := by decide +kernel
theorem dX10_as_75 : decode cX10_as 75 = .ok (.iconst 5, 1) := by decide +kernel
theorem dX10_as_76 : decode cX10_as 76 = .ok (.if_icmp .ne 7, 3) := by decide +kernel
theorem dX10_as_79 : decode cX10_as 79 = .ok (.iconst 1, 1) := by decide +kernel
theorem dX10_as_80 : decode cX10_as 80 = .ok (.goto 4, 3) := by decide +kernel
theorem dX10_as_83 : decode cX10_as 83 = .ok (.iconst 0, 1) := by decide +kernel
theorem dX10_as_84 : decode cX10_as 84 = .ok (.istore 5, 2) := by decide +kernel
theorem dX10_as_86 : decode cX10_as 86 = .ok (.iload 5, 2) := by decide +kernel
theorem dX10_as_88 : decode cX10_as 88 = .ok (.ifCond .eq 11, 3) := by decide +kernel
theorem dX10_as_91 : decode cX10_as 91 = .ok (.aload_n 0, 1) := by decide +kernel
theorem dX10_as_92 : decode cX10_as 92 = .ok (.iload_n 1, 1) := by decide +kernel
theorem dX10_as_93 : decode cX10_as 93 = .ok (.invokevirtual 84, 3) := by decide +kernel
theorem dX10_as_96 : decode cX10_as 96 = .ok (.goto 8, 3) := by decide +kernel
theorem dX10_as_99 : decode cX10_as 99 = .ok (.aload_n 0, 1) := by decide +kernel
theorem dX10_as_100 : decode cX10_as 100 = .ok (.iconst 3, 1) := by decide +kernel
theorem dX10_as_101 : decode cX10_as 101 = .ok (.invokevirtual 80, 3) := by decide +kernel
theorem dX10_as_104 : decode cX10_as 104 = .ok (.ireturn, 1) := by decide +kernel
theorem dX10_leaves_0 : decode cX10_leaves 0 = .ok (.aload_n 0, 1) := by decide +kernel
theorem dX10_leaves_1 : decode cX10_leaves 1 = .ok (.getfield 277, 3) := by decide +kernel
theorem dX10_leaves_4 : decode cX10_leaves 4 = .ok (.bipush 16, 2) := by decide +kernel
theorem dX10_leaves_6 : decode cX10_leaves 6 = .ok (.if_icmp .ge 23, 3) := by decide +kernel
theorem dX10_leaves_9 : decode cX10_leaves 9 = .ok (.aload_n 0, 1) := by decide +kernel
theorem dX10_leaves_10 : decode cX10_leaves 10 = .ok (.getfield 59, 3) := by decide +kernel
theorem dX10_leaves_13 : decode cX10_leaves 13 = .ok (.aload_n 0, 1) := by decide +kernel
theorem dX10_leaves_14 : decode cX10_leaves 14 = .ok (.getfield 277, 3) := by decide +kernel
theorem dX10_leaves_17 : decode cX10_leaves 17 = .ok (.iload_n 1, 1) := by decide +kernel
theorem dX10_leaves_18 : decode cX10_leaves 18 = .ok (.iastore, 1) := by decide +kernel
theorem dX10_leaves_19 : decode cX10_leaves 19 = .ok (.aload_n 0, 1) := by decide +kernel
theorem dX10_leaves_20 : decode cX10_leaves 20 = .ok (.dup, 1) := by decide +kernel
theorem dX10_leaves_21 : decode cX10_leaves 21 = .ok (.getfield 277, 3) := by decide +kernel
theorem dX10_leaves_24 : decode cX10_leaves 24 = .ok (.iconst 1, 1) := by decide +kernel
theorem dX10_leaves_25 : decode cX10_leaves 25 = .ok (.iadd, 1) := by decide +kernel
theorem dX10_leaves_26 : decode cX10_leaves 26 = .ok (.putfield 277, 3) := by decide +kernel
theorem dX10_leaves_29 : decode cX10_leaves 29 = .ok (.return_, 1) := by decide +kernel
theorem dX10_plainMark_0 : decode cX10_plainMark 0 = .ok (.aload_n 0, 1) := by decide +kernel
theorem dX10_plainMark_1 : decode cX10_plainMark 1 = .ok (.getfield 25, 3) := by decide +kernel
theorem dX10_plainMark_4 : decode cX10_plainMark 4 = .ok (.bipush 6, 2) := by decide +kernel
theorem dX10_plainMark_6 : decode cX10_plainMark 6 = .ok (.iload_n 1, 1) := by decide +kernel
theorem dX10_plainMark_7 : decode cX10_plainMark 7 = .ok (.iadd, 1) := by decide +kernel
theorem dX10_plainMark_8 : decode cX10_plainMark 8 = .ok (.iaload, 1) := by decide +kernel
theorem dX10_plainMark_9 : decode cX10_plainMark 9 = .ok (.istore_n 2, 1) := by decide +kernel
theorem dX10_plainMark_10 : decode cX10_plainMark 10 = .ok (.iload_n 2, 1) := by decide +kernel
theorem dX10_plainMark_11 : decode cX10_plainMark 11 = .ok (.iconst 3, 1) := by decide +kernel
theorem dX10_plainMark_12 : decode cX10_plainMark 12 = .ok (.if_icmp .ne 12, 3) := by decide +kernel
theorem dX10_plainMark_15 : decode cX10_plainMark 15 = .ok (.aload_n 0, 1) := by decide +kernel
theorem dX10_plainMark_16 : decode cX10_plainMark 16 = .ok (.bipush 22, 2) := by decide +kernel
theorem dX10_plainMark_18 : decode cX10_plainMark 18 = .ok (.invokevirtual 280, 3) := by decide +kernel
theorem dX10_plainMark_21 : decode cX10_plainMark 21 = .ok (.goto 14, 3) := by decide +kernel
theorem dX10_plainMark_24 : decode cX10_plainMark 24 = .ok (.iload_n 2, 1) := by decide +kernel
theorem dX10_plainMark_25 : decode cX10_plainMark 25 = .ok (.iconst 2, 1) := by decide +kernel
theorem dX10_plainMark_26 : decode cX10_plainMark 26 = .ok (.if_icmp .ne 9, 3) := by decide +kernel
theorem dX10_plainMark_29 : decode cX10_plainMark 29 = .ok (.aload_n 0, 1) := by decide +kernel
theorem dX10_plainMark_30 : decode cX10_plainMark 30 = .ok (.bipush 24, 2) := by decide +kernel
theorem dX10_plainMark_32 : decode cX10_plainMark 32 = .ok (.invokevirtual 280, 3) := by decide +kernel
theorem dX10_plainMark_35 : decode cX10_plainMark 35 = .ok (.aload_n 0, 1) := by decide +kernel
theorem dX10_plainMark_36 : decode cX10_plainMark 36 = .ok (.bipush 21, 2) := by decide +kernel
theorem dX10_plainMark_38 : decode cX10_plainMark 38 = .ok (.invokevirtual 280, 3) := by decide +kernel
theorem dX10_plainMark_41 : decode cX10_plainMark 41 = .ok (.aload_n 0, 1) := by decide +kernel
theorem dX10_plainMark_42 : decode cX10_plainMark 42 = .ok (.bipush 20, 2) := by decide +kernel
theorem dX10_plainMark_44 : decode cX10_plainMark 44 = .ok (.invokevirtual 280, 3) := by decide +kernel
theorem dX10_plainMark_47 : decode cX10_plainMark 47 = .ok (.iload_n 1, 1) := by decide +kernel
theorem dX10_plainMark_48 : decode cX10_plainMark 48 = .ok (.iload_n 2, 1) := by decide +kernel
theorem dX10_plainMark_49 : decode cX10_plainMark 49 = .ok (.aload_n 0, 1) := by decide +kernel
theorem dX10_plainMark_50 : decode cX10_plainMark 50 = .ok (.getfield 25, 3) := by decide +kernel
theorem dX10_plainMark_53 : decode cX10_plainMark 53 = .ok (.bipush 26, 2) := by decide +kernel
theorem dX10_plainMark_55 : decode cX10_plainMark 55 = .ok (.iload_n 1, 1) := by decide +kernel
theorem dX10_plainMark_56 : decode cX10_plainMark 56 = .ok (.iadd, 1) := by decide +kernel
theorem dX10_plainMark_57 : decode cX10_plainMark 57 = .ok (.iaload, 1) := by decide +kernel
theorem dX10_plainMark_58 : decode cX10_plainMark 58 = .ok (.invokestatic 173, 3) := by decide +kernel
theorem dX10_plainMark_61 : decode cX10_plainMark 61 = .ok (.iadd, 1) := by decide +kernel
theorem dX10_plainMark_62 : decode cX10_plainMark 62 = .ok (.istore_n 3, 1) := by decide +kernel
theorem dX10_plainMark_63 : decode cX10_plainMark 63 = .ok (.iload_n 2, 1) := by decide +kernel
theorem dX10_plainMark_64 : decode cX10_plainMark 64 = .ok (.iconst 3, 1) := by decide +kernel
theorem dX10_plainMark_65 : decode cX10_plainMark 65 = .ok (.if_icmp .ne 11, 3) := by decide +kernel
theorem dX10_plainMark_68 : decode cX10_plainMark 68 = .ok (.iload_n 3, 1) := by decide +kernel
theorem dX10_plainMark_69 : decode cX10_plainMark 69 = .ok (.sipush 1000, 3) := by decide +kernel
theorem dX10_plainMark_72 : decode cX10_plainMark 72 = .ok (.isub, 1) := by decide +kernel
theorem dX10_plainMark_73 : decode cX10_plainMark 73 = .ok (.goto 15, 3) := by decide +kernel
theorem dX10_plainMark_76 : decode cX10_plainMark 76 = .ok (.iload_n 2, 1) := by decide +kernel
theorem dX10_plainMark_77 : decode cX10_plainMark 77 = .ok (.iconst 2, 1) := by decide +kernel
theorem dX10_plainMark_78 : decode cX10_plainMark 78 = .ok (.if_icmp .ne 9, 3) := by decide +kernel
theorem dX10_plainMark_81 : decode cX10_plainMark 81 = .ok (.iconst 2, 1) := by decide +kernel
theorem dX10_plainMark_82 : decode cX10_plainMark 82 = .ok (.iload_n 3, 1) := by decide +kernel
theorem dX10_plainMark_83 : decode cX10_plainMark 83 = .ok (.imul, 1) := by decide +kernel
theorem dX10_plainMark_84 : decode cX10_plainMark 84 = .ok (.goto 4, 3) := by decide +kernel
theorem dX10_plainMark_87 : decode cX10_plainMark 87 = .ok (.iload_n 3, 1) := by decide +kernel
theorem dX10_plainMark_88 : decode cX10_plainMark 88 = .ok (.ireturn, 1) := by decide +kernel
theorem dX10_sizeOf_0 : decode cX10_sizeOf 0 = .ok (.aload_n 0, 1) := by decide +kernel
theorem dX10_sizeOf_1 : decode cX10_sizeOf 1 = .ok (.getfield 25, 3) := by decide +kernel
theorem dX10_sizeOf_4 : decode cX10_sizeOf 4 = .ok (.bipush 6, 2) := by decide +kernel
theorem dX10_sizeOf_6 : decode cX10_sizeOf 6 = .ok (.iload_n 1, 1) := by decide +kernel
theorem dX10_sizeOf_7 : decode cX10_sizeOf 7 = .ok (.iadd, 1) := by decide +kernel
theorem dX10_sizeOf_8 : decode cX10_sizeOf 8 = .ok (.iaload, 1) := by decide +kernel
theorem dX10_sizeOf_9 : decode cX10_sizeOf 9 = .ok (.istore_n 2, 1) := by decide +kernel
theorem dX10_sizeOf_10 : decode cX10_sizeOf 10 = .ok (.aload_n 0, 1) := by decide +kernel
theorem dX10_sizeOf_11 : decode cX10_sizeOf 11 = .ok (.getfield 25, 3) := by decide +kernel
theorem dX10_sizeOf_14 : decode cX10_sizeOf 14 = .ok (.bipush 26, 2) := by decide +kernel
theorem dX10_sizeOf_16 : decode cX10_sizeOf 16 = .ok (.iload_n 1, 1) := by decide +kernel
theorem dX10_sizeOf_17 : decode cX10_sizeOf 17 = .ok (.iadd, 1) := by decide +kernel
theorem dX10_sizeOf_18 : decode cX10_sizeOf 18 = .ok (.iaload, 1) := by decide +kernel
theorem dX10_sizeOf_19 : decode cX10_sizeOf 19 = .ok (.istore_n 3, 1) := by decide +kernel
theorem dX10_sizeOf_20 : decode cX10_sizeOf 20 = .ok (.iload_n 2, 1) := by decide +kernel
theorem dX10_sizeOf_21 : decode cX10_sizeOf 21 = .ok (.iconst 4, 1) := by decide +kernel
theorem dX10_sizeOf_22 : decode cX10_sizeOf 22 = .ok (.if_icmp .lt 45, 3) := by decide +kernel
theorem dX10_sizeOf_25 : decode cX10_sizeOf 25 = .ok (.iload_n 2, 1) := by decide +kernel
theorem dX10_sizeOf_26 : decode cX10_sizeOf 26 = .ok (.iconst 5, 1) := by decide +kernel
theorem dX10_sizeOf_27 : decode cX10_sizeOf 27 = .ok (.if_icmp .ne 9, 3) := by decide +kernel
theorem dX10_sizeOf_30 : decode cX10_sizeOf 30 = .ok (.aload_n 0, 1) := by decide +kernel
theorem dX10_sizeOf_31 : decode cX10_sizeOf 31 = .ok (.bipush 14, 2) := by decide +kernel
theorem dX10_sizeOf_33 : decode cX10_sizeOf 33 = .ok (.invokevirtual 280, 3) := by decide +kernel
theorem dX10_sizeOf_36 : decode cX10_sizeOf 36 = .ok (.aload_n 0, 1) := by decide +kernel
theorem dX10_sizeOf_37 : decode cX10_sizeOf 37 = .ok (.bipush 13, 2) := by decide +kernel
theorem dX10_sizeOf_39 : decode cX10_sizeOf 39 = .ok (.invokevirtual 280, 3) := by decide +kernel
theorem dX10_sizeOf_42 : decode cX10_sizeOf 42 = .ok (.aload_n 0, 1) := by decide +kernel
theorem dX10_sizeOf_43 : decode cX10_sizeOf 43 = .ok (.bipush 10, 2) := by decide +kernel
theorem dX10_sizeOf_45 : decode cX10_sizeOf 45 = .ok (.invokevirtual 280, 3) := by decide +kernel
theorem dX10_sizeOf_48 : decode cX10_sizeOf 48 = .ok (.iload_n 2, 1) := by decide +kernel
theorem dX10_sizeOf_49 : decode cX10_sizeOf 49 = .ok (.iconst 5, 1) := by decide +kernel
theorem dX10_sizeOf_50 : decode cX10_sizeOf 50 = .ok (.if_icmp .ne 12, 3) := by decide +kernel
theorem dX10_sizeOf_53 : decode cX10_sizeOf 53 = .ok (.iconst 2, 1) := by decide +kernel
theorem dX10_sizeOf_54 : decode cX10_sizeOf 54 = .ok (.iload_n 3, 1) := by decide +kernel
theorem dX10_sizeOf_55 : decode cX10_sizeOf 55 = .ok (.bipush 100, 2) := by decide +kernel
theorem dX10_sizeOf_57 : decode cX10_sizeOf 57 = .ok (.isub, 1) := by decide +kernel
theorem dX10_sizeOf_58 : decode cX10_sizeOf 58 = .ok (.imul, 1) := by decide +kernel
theorem dX10_sizeOf_59 : decode cX10_sizeOf 59 = .ok (.goto 7, 3) := by decide +kernel
theorem dX10_sizeOf_62 : decode cX10_sizeOf 62 = .ok (.iload_n 3, 1) := by decide +kernel
theorem dX10_sizeOf_63 : decode cX10_sizeOf 63 = .ok (.bipush 100, 2) := by decide +kernel
theorem dX10_sizeOf_65 : decode cX10_sizeOf 65 = .ok (.isub, 1) := by decide +kernel
theorem dX10_sizeOf_66 : decode cX10_sizeOf 66 = .ok (.ireturn, 1) := by decide +kernel
theorem dX10_sizeOf_67 : decode cX10_sizeOf 67 = .ok (.iload_n 2, 1) := by decide +kernel
theorem dX10_sizeOf_68 : decode cX10_sizeOf 68 = .ok (.iconst 2, 1) := by decide +kernel
theorem dX10_sizeOf_69 : decode cX10_sizeOf 69 = .ok (.if_icmp .ne 9, 3) := by decide +kernel
theorem dX10_sizeOf_72 : decode cX10_sizeOf 72 = .ok (.aload_n 0, 1) := by decide +kernel
theorem dX10_sizeOf_73 : decode cX10_sizeOf 73 = .ok (.bipush 12, 2) := by decide +kernel
theorem dX10_sizeOf_75 : decode cX10_sizeOf 75 = .ok (.invokevirtual 280, 3) := by decide +kernel
theorem dX10_sizeOf_78 : decode cX10_sizeOf 78 = .ok (.aload_n 0, 1) := by decide +kernel
theorem dX10_sizeOf_79 : decode cX10_sizeOf 79 = .ok (.bipush 11, 2) := by decide +kernel
theorem dX10_sizeOf_81 : decode cX10_sizeOf 81 = .ok (.invokevirtual 280, 3) := by decide +kernel
theorem dX10_sizeOf_84 : decode cX10_sizeOf 84 = .ok (.aload_n 0, 1) := by decide +kernel
theorem dX10_sizeOf_85 : decode cX10_sizeOf 85 = .ok (.bipush 10, 2) := by decide +kernel
theorem dX10_sizeOf_87 : decode cX10_sizeOf 87 = .ok (.invokevirtual 280, 3) := by decide +kernel
theorem dX10_sizeOf_90 : decode cX10_sizeOf 90 = .ok (.iload_n 3, 1) := by decide +kernel
theorem dX10_sizeOf_91 : decode cX10_sizeOf 91 = .ok (.aload_n 0, 1) := by decide +kernel
theorem dX10_sizeOf_92 : decode cX10_sizeOf 92 = .ok (.iload_n 1, 1) := by decide +kernel
theorem dX10_sizeOf_93 : decode cX10_sizeOf 93 = .ok (.invokevirtual 283, 3) := by decide +kernel
theorem dX10_sizeOf_96 : decode cX10_sizeOf 96 = .ok (.iadd, 1) := by decide +kernel
theorem dX10_sizeOf_97 : decode cX10_sizeOf 97 = .ok (.istore 4, 2) := by decide +kernel
theorem dX10_sizeOf_99 : decode cX10_sizeOf 99 = .ok (.iload_n 2, 1) := by decide +kernel
theorem dX10_sizeOf_100 : decode cX10_sizeOf 100 = .ok (.iconst 2, 1) := by decide +kernel
theorem dX10_sizeOf_101 : decode cX10_sizeOf 101 = .ok (.if_icmp .ne 9, 3) := by decide +kernel
theorem dX10_sizeOf_104 : decode cX10_sizeOf 104 = .ok (.iload 4, 2) := by decide +kernel
theorem dX10_sizeOf_106 : decode cX10_sizeOf 106 = .ok (.ineg, 1) := by decide +kernel
theorem dX10_sizeOf_107 : decode cX10_sizeOf 107 = .ok (.goto 5, 3) := by decide +kernel
theorem dX10_sizeOf_110 : decode cX10_sizeOf 110 = .ok (.iload 4, 2) := by decide +kernel
theorem dX10_sizeOf_112 : decode cX10_sizeOf 112 = .ok (.ireturn, 1) := by decide +kernel
theorem dX10_markOf_0 : decode cX10_markOf 0 = .ok (.aload_n 0, 1) := by decide +kernel
theorem dX10_markOf_1 : decode cX10_markOf 1 = .ok (.getfield 25, 3) := by decide +kernel
theorem dX10_markOf_4 : decode cX10_markOf 4 = .ok (.bipush 6, 2) := by decide +kernel
theorem dX10_markOf_6 : decode cX10_markOf 6 = .ok (.iload_n 1, 1) := by decide +kernel
theorem dX10_markOf_7 : decode cX10_markOf 7 = .ok (.iadd, 1) := by decide +kernel
theorem dX10_markOf_8 : decode cX10_markOf 8 = .ok (.iaload, 1) := by decide +kernel
theorem dX10_markOf_9 : decode cX10_markOf 9 = .ok (.iconst 4, 1) := by decide +kernel
theorem dX10_markOf_10 : decode cX10_markOf 10 = .ok (.if_icmp .ge 9, 3) := by decide +kernel
theorem dX10_markOf_13 : decode cX10_markOf 13 = .ok (.aload_n 0, 1) := by decide +kernel
theorem dX10_markOf_14 : decode cX10_markOf 14 = .ok (.iload_n 1, 1) := by decide +kernel
theorem dX10_markOf_15 : decode cX10_markOf 15 = .ok (.invokevirtual 283, 3) := by decide +kernel
theorem dX10_markOf_18 : decode cX10_markOf 18 = .ok (.ireturn, 1) := by decide +kernel
theorem dX10_markOf_19 : decode cX10_markOf 19 = .ok (.aload_n 0, 1) := by decide +kernel
theorem dX10_markOf_20 : decode cX10_markOf 20 = .ok (.bipush 23, 2) := by decide +kernel
theorem dX10_markOf_22 : decode cX10_markOf 22 = .ok (.invokevirtual 280, 3) := by decide +kernel
theorem dX10_markOf_25 : decode cX10_markOf 25 = .ok (.aload_n 0, 1) := by decide +kernel
theorem dX10_markOf_26 : decode cX10_markOf 26 = .ok (.bipush 20, 2) := by decide +kernel
theorem dX10_markOf_28 : decode cX10_markOf 28 = .ok (.invokevirtual 280, 3) := by decide +kernel
theorem dX10_markOf_31 : decode cX10_markOf 31 = .ok (.iload_n 1, 1) := by decide +kernel
theorem dX10_markOf_32 : decode cX10_markOf 32 = .ok (.aload_n 0, 1) := by decide +kernel
theorem dX10_markOf_33 : decode cX10_markOf 33 = .ok (.iload_n 1, 1) := by decide +kernel
theorem dX10_markOf_34 : decode cX10_markOf 34 = .ok (.invokevirtual 286, 3) := by decide +kernel
theorem dX10_markOf_37 : decode cX10_markOf 37 = .ok (.isub, 1) := by decide +kernel
theorem dX10_markOf_38 : decode cX10_markOf 38 = .ok (.ireturn, 1) := by decide +kernel
theorem dX10_ask_0 : decode cX10_ask 0 = .ok (.aload_n 0, 1) := by decide +kernel
theorem dX10_ask_1 : decode cX10_ask 1 = .ok (.iload_n 1, 1) := by decide +kernel
theorem dX10_ask_2 : decode cX10_ask 2 = .ok (.invokevirtual 274, 3) := by decide +kernel
theorem dX10_ask_5 : decode cX10_ask 5 = .ok (.ifCond .eq 13, 3) := by decide +kernel
theorem dX10_ask_8 : decode cX10_ask 8 = .ok (.iload_n 2, 1) := by decide +kernel
theorem dX10_ask_9 : decode cX10_ask 9 = .ok (.i2l, 1) := by decide +kernel
theorem dX10_ask_10 : decode cX10_ask 10 = .ok (.lconst 0, 1) := by decide +kernel
theorem dX10_ask_11 : decode cX10_ask 11 = .ok (.lconst 1, 1) := by decide +kernel
theorem dX10_ask_12 : decode cX10_ask 12 = .ok (.invokestatic 64, 3) := by decide +kernel
theorem dX10_ask_15 : decode cX10_ask 15 = .ok (.ifCond .ne 6, 3) := by decide +kernel
theorem dX10_ask_18 : decode cX10_ask 18 = .ok (.ldc 79, 2) := by decide +kernel
theorem dX10_ask_20 : decode cX10_ask 20 = .ok (.ireturn, 1) := by decide +kernel
theorem dX10_ask_21 : decode cX10_ask 21 = .ok (.aload_n 0, 1) := by decide +kernel
theorem dX10_ask_22 : decode cX10_ask 22 = .ok (.iconst 0, 1) := by decide +kernel
theorem dX10_ask_23 : decode cX10_ask 23 = .ok (.putfield 277, 3) := by decide +kernel
theorem dX10_ask_26 : decode cX10_ask 26 = .ok (.iload_n 2, 1) := by decide +kernel
theorem dX10_ask_27 : decode cX10_ask 27 = .ok (.ifCond .ne 11, 3) := by decide +kernel
theorem dX10_ask_30 : decode cX10_ask 30 = .ok (.aload_n 0, 1) := by decide +kernel
theorem dX10_ask_31 : decode cX10_ask 31 = .ok (.iload_n 1, 1) := by decide +kernel
theorem dX10_ask_32 : decode cX10_ask 32 = .ok (.invokevirtual 286, 3) := by decide +kernel
theorem dX10_ask_35 : decode cX10_ask 35 = .ok (.goto 8, 3) := by decide +kernel
theorem dX10_ask_38 : decode cX10_ask 38 = .ok (.aload_n 0, 1) := by decide +kernel
theorem dX10_ask_39 : decode cX10_ask 39 = .ok (.iload_n 1, 1) := by decide +kernel
theorem dX10_ask_40 : decode cX10_ask 40 = .ok (.invokevirtual 289, 3) := by decide +kernel
theorem dX10_ask_43 : decode cX10_ask 43 = .ok (.ireturn, 1) := by decide +kernel
theorem dX10_trace_0 : decode cX10_trace 0 = .ok (.iload_n 1, 1) := by decide +kernel
theorem dX10_trace_1 : decode cX10_trace 1 = .ok (.i2l, 1) := by decide +kernel
theorem dX10_trace_2 : decode cX10_trace 2 = .ok (.lconst 0, 1) := by decide +kernel
theorem dX10_trace_3 : decode cX10_trace 3 = .ok (.aload_n 0, 1) := by decide +kernel
theorem dX10_trace_4 : decode cX10_trace 4 = .ok (.getfield 277, 3) := by decide +kernel
theorem dX10_trace_7 : decode cX10_trace 7 = .ok (.iconst 1, 1) := by decide +kernel
theorem dX10_trace_8 : decode cX10_trace 8 = .ok (.isub, 1) := by decide +kernel
theorem dX10_trace_9 : decode cX10_trace 9 = .ok (.i2l, 1) := by decide +kernel
theorem dX10_trace_10 : decode cX10_trace 10 = .ok (.invokestatic 64, 3) := by decide +kernel
theorem dX10_trace_13 : decode cX10_trace 13 = .ok (.ifCond .eq 12, 3) := by decide +kernel
theorem dX10_trace_16 : decode cX10_trace 16 = .ok (.aload_n 0, 1) := by decide +kernel
theorem dX10_trace_17 : decode cX10_trace 17 = .ok (.getfield 59, 3) := by decide +kernel
theorem dX10_trace_20 : decode cX10_trace 20 = .ok (.iload_n 1, 1) := by decide +kernel
theorem dX10_trace_21 : decode cX10_trace 21 = .ok (.iaload, 1) := by decide +kernel
theorem dX10_trace_22 : decode cX10_trace 22 = .ok (.goto 5, 3) := by decide +kernel
theorem dX10_trace_25 : decode cX10_trace 25 = .ok (.ldc 165, 2) := by decide +kernel
theorem dX10_trace_27 : decode cX10_trace 27 = .ok (.ireturn, 1) := by decide +kernel
theorem dX10_count_0 : decode cX10_count 0 = .ok (.iload_n 1, 1) := by decide +kernel
theorem dX10_count_1 : decode cX10_count 1 = .ok (.i2l, 1) := by decide +kernel
theorem dX10_count_2 : decode cX10_count 2 = .ok (.lconst 0, 1) := by decide +kernel
theorem dX10_count_3 : decode cX10_count 3 = .ok (.ldc2_w 292, 3) := by decide +kernel
theorem dX10_count_6 : decode cX10_count 6 = .ok (.invokestatic 64, 3) := by decide +kernel
theorem dX10_count_9 : decode cX10_count 9 = .ok (.ifCond .ne 6, 3) := by decide +kernel
theorem dX10_count_12 : decode cX10_count 12 = .ok (.ldc 79, 2) := by decide +kernel
theorem dX10_count_14 : decode cX10_count 14 = .ok (.ireturn, 1) := by decide +kernel
theorem dX10_count_15 : decode cX10_count 15 = .ok (.iconst 0, 1) := by decide +kernel
theorem dX10_count_16 : decode cX10_count 16 = .ok (.istore_n 2, 1) := by decide +kernel
theorem dX10_count_17 : decode cX10_count 17 = .ok (.iconst 0, 1) := by decide +kernel
theorem dX10_count_18 : decode cX10_count 18 = .ok (.istore_n 3, 1) := by decide +kernel
theorem dX10_count_19 : decode cX10_count 19 = .ok (.iload_n 3, 1) := by decide +kernel
theorem dX10_count_20 : decode cX10_count 20 = .ok (.bipush 8, 2) := by decide +kernel
theorem dX10_count_22 : decode cX10_count 22 = .ok (.if_icmp .ge 26, 3) := by decide +kernel
theorem dX10_count_25 : decode cX10_count 25 = .ok (.iload_n 2, 1) := by decide +kernel
theorem dX10_count_26 : decode cX10_count 26 = .ok (.aload_n 0, 1) := by decide +kernel
theorem dX10_count_27 : decode cX10_count 27 = .ok (.getfield 7, 3) := by decide +kernel
theorem dX10_count_30 : decode cX10_count 30 = .ok (.iload_n 3, 1) := by decide +kernel
theorem dX10_count_31 : decode cX10_count 31 = .ok (.iaload, 1) := by decide +kernel
theorem dX10_count_32 : decode cX10_count 32 = .ok (.ifCond .ge 7, 3) := by decide +kernel
theorem dX10_count_35 : decode cX10_count 35 = .ok (.iconst 0, 1) := by decide +kernel
theorem dX10_count_36 : decode cX10_count 36 = .ok (.goto 4, 3) := by decide +kernel
theorem dX10_count_39 : decode cX10_count 39 = .ok (.iconst 1, 1) := by decide +kernel
theorem dX10_count_40 : decode cX10_count 40 = .ok (.iadd, 1) := by decide +kernel
theorem dX10_count_41 : decode cX10_count 41 = .ok (.istore_n 2, 1) := by decide +kernel
theorem dX10_count_42 : decode cX10_count 42 = .ok (.iinc 3 1, 3) := by decide +kernel
theorem dX10_count_45 : decode cX10_count 45 = .ok (.goto (-26), 3) := by decide +kernel
theorem dX10_count_48 : decode cX10_count 48 = .ok (.aload_n 0, 1) := by decide +kernel
theorem dX10_count_49 : decode cX10_count 49 = .ok (.invokevirtual 205, 3) := by decide +kernel
theorem dX10_count_52 : decode cX10_count 52 = .ok (.iload_n 1, 1) := by decide +kernel
theorem dX10_count_53 : decode cX10_count 53 = .ok (.ifCond .ne 7, 3) := by decide +kernel
theorem dX10_count_56 : decode cX10_count 56 = .ok (.iload_n 2, 1) := by decide +kernel
theorem dX10_count_57 : decode cX10_count 57 = .ok (.goto 37, 3) := by decide +kernel
theorem dX10_count_60 : decode cX10_count 60 = .ok (.iload_n 1, 1) := by decide +kernel
theorem dX10_count_61 : decode cX10_count 61 = .ok (.iconst 1, 1) := by decide +kernel
theorem dX10_count_62 : decode cX10_count 62 = .ok (.if_icmp .ne 12, 3) := by decide +kernel
theorem dX10_count_65 : decode cX10_count 65 = .ok (.aload_n 0, 1) := by decide +kernel
theorem dX10_count_66 : decode cX10_count 66 = .ok (.getfield 25, 3) := by decide +kernel
theorem dX10_count_69 : decode cX10_count 69 = .ok (.iconst 3, 1) := by decide +kernel
theorem dX10_count_70 : decode cX10_count 70 = .ok (.iaload, 1) := by decide +kernel
theorem dX10_count_71 : decode cX10_count 71 = .ok (.goto 23, 3) := by decide +kernel
theorem dX10_count_74 : decode cX10_count 74 = .ok (.iload_n 1, 1) := by decide +kernel
theorem dX10_count_75 : decode cX10_count 75 = .ok (.iconst 2, 1) := by decide +kernel
theorem dX10_count_76 : decode cX10_count 76 = .ok (.if_icmp .ne 12, 3) := by decide +kernel
theorem dX10_count_79 : decode cX10_count 79 = .ok (.aload_n 0, 1) := by decide +kernel
theorem dX10_count_80 : decode cX10_count 80 = .ok (.getfield 25, 3) := by decide +kernel
theorem dX10_count_83 : decode cX10_count 83 = .ok (.iconst 4, 1) := by decide +kernel
theorem dX10_count_84 : decode cX10_count 84 = .ok (.iaload, 1) := by decide +kernel
theorem dX10_count_85 : decode cX10_count 85 = .ok (.goto 9, 3) := by decide +kernel
theorem dX10_count_88 : decode cX10_count 88 = .ok (.aload_n 0, 1) := by decide +kernel
theorem dX10_count_89 : decode cX10_count 89 = .ok (.getfield 25, 3) := by decide +kernel
theorem dX10_count_92 : decode cX10_count 92 = .ok (.iconst 5, 1) := by decide +kernel
theorem dX10_count_93 : decode cX10_count 93 = .ok (.iaload, 1) := by decide +kernel
theorem dX10_count_94 : decode cX10_count 94 = .ok (.istore_n 3, 1) := by decide +kernel
theorem dX10_count_95 : decode cX10_count 95 = .ok (.iload_n 1, 1) := by decide +kernel
theorem dX10_count_96 : decode cX10_count 96 = .ok (.iconst 5, 1) := by decide +kernel
theorem dX10_count_97 : decode cX10_count 97 = .ok (.if_icmp .ne 12, 3) := by decide +kernel
theorem dX10_count_100 : decode cX10_count 100 = .ok (.aload_n 0, 1) := by decide +kernel
theorem dX10_count_101 : decode cX10_count 101 = .ok (.getfield 28, 3) := by decide +kernel
theorem dX10_count_104 : decode cX10_count 104 = .ok (.iconst 1, 1) := by decide +kernel
theorem dX10_count_105 : decode cX10_count 105 = .ok (.iaload, 1) := by decide +kernel
theorem dX10_count_106 : decode cX10_count 106 = .ok (.goto 34, 3) := by decide +kernel
theorem dX10_count_109 : decode cX10_count 109 = .ok (.iload_n 1, 1) := by decide +kernel
theorem dX10_count_110 : decode cX10_count 110 = .ok (.bipush 6, 2) := by decide +kernel
theorem dX10_count_112 : decode cX10_count 112 = .ok (.if_icmp .ne 11, 3) := by decide +kernel
theorem dX10_count_115 : decode cX10_count 115 = .ok (.aload_n 0, 1) := by decide +kernel
theorem dX10_count_116 : decode cX10_count 116 = .ok (.iconst 0, 1) := by decide +kernel
theorem dX10_count_117 : decode cX10_count 117 = .ok (.invokevirtual 238, 3) := by decide +kernel
theorem dX10_count_120 : decode cX10_count 120 = .ok (.goto 20, 3) := by decide +kernel
theorem dX10_count_123 : decode cX10_count 123 = .ok (.iload_n 1, 1) := by decide +kernel
theorem dX10_count_124 : decode cX10_count 124 = .ok (.bipush 7, 2) := by decide +kernel
theorem dX10_count_126 : decode cX10_count 126 = .ok (.if_icmp .ne 10, 3) := by decide +kernel
theorem dX10_count_129 : decode cX10_count 129 = .ok (.aload_n 0, 1) := by decide +kernel
theorem dX10_count_130 : decode cX10_count 130 = .ok (.getfield 166, 3) := by decide +kernel
theorem dX10_count_133 : decode cX10_count 133 = .ok (.goto 7, 3) := by decide +kernel
theorem dX10_count_136 : decode cX10_count 136 = .ok (.aload_n 0, 1) := by decide +kernel
theorem dX10_count_137 : decode cX10_count 137 = .ok (.getfield 89, 3) := by decide +kernel
theorem dX10_count_140 : decode cX10_count 140 = .ok (.istore 4, 2) := by decide +kernel
theorem dX10_count_142 : decode cX10_count 142 = .ok (.iload_n 1, 1) := by decide +kernel
theorem dX10_count_143 : decode cX10_count 143 = .ok (.iconst 4, 1) := by decide +kernel
theorem dX10_count_144 : decode cX10_count 144 = .ok (.if_icmp .ge 7, 3) := by decide +kernel
theorem dX10_count_147 : decode cX10_count 147 = .ok (.iload_n 3, 1) := by decide +kernel
theorem dX10_count_148 : decode cX10_count 148 = .ok (.goto 19, 3) := by decide +kernel
theorem dX10_count_151 : decode cX10_count 151 = .ok (.iload_n 1, 1) := by decide +kernel
theorem dX10_count_152 : decode cX10_count 152 = .ok (.iconst 4, 1) := by decide +kernel
theorem dX10_count_153 : decode cX10_count 153 = .ok (.if_icmp .ne 12, 3) := by decide +kernel
theorem dX10_count_156 : decode cX10_count 156 = .ok (.aload_n 0, 1) := by decide +kernel
theorem dX10_count_157 : decode cX10_count 157 = .ok (.getfield 28, 3) := by decide +kernel
theorem dX10_count_160 : decode cX10_count 160 = .ok (.iconst 0, 1) := by decide +kernel
theorem dX10_count_161 : decode cX10_count 161 = .ok (.iaload, 1) := by decide +kernel
theorem dX10_count_162 : decode cX10_count 162 = .ok (.goto 5, 3) := by decide +kernel
theorem dX10_count_165 : decode cX10_count 165 = .ok (.iload 4, 2) := by decide +kernel
theorem dX10_count_167 : decode cX10_count 167 = .ok (.ireturn, 1) := by decide +kernel
theorem dX10_status_0 : decode cX10_status 0 = .ok (.aload_n 0, 1) := by decide +kernel
theorem dX10_status_1 : decode cX10_status 1 = .ok (.getfield 68, 3) := by decide +kernel
theorem dX10_status_4 : decode cX10_status 4 = .ok (.ireturn, 1) := by decide +kernel
