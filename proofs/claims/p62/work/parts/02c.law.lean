theorem dL_cell_0 : decode cL_cell 0 = .ok (.aload_n 0, 1) := by decide +kernel
theorem dL_cell_1 : decode cL_cell 1 = .ok (.arraylength, 1) := by decide +kernel
theorem dL_cell_2 : decode cL_cell 2 = .ok (.ifCond .ne 7, 3) := by decide +kernel
theorem dL_cell_5 : decode cL_cell 5 = .ok (.iconst 0, 1) := by decide +kernel
theorem dL_cell_6 : decode cL_cell 6 = .ok (.goto 17, 3) := by decide +kernel
theorem dL_cell_9 : decode cL_cell 9 = .ok (.aload_n 0, 1) := by decide +kernel
theorem dL_cell_10 : decode cL_cell 10 = .ok (.iload_n 1, 1) := by decide +kernel
theorem dL_cell_11 : decode cL_cell 11 = .ok (.aload_n 0, 1) := by decide +kernel
theorem dL_cell_12 : decode cL_cell 12 = .ok (.arraylength, 1) := by decide +kernel
theorem dL_cell_13 : decode cL_cell 13 = .ok (.irem, 1) := by decide +kernel
theorem dL_cell_14 : decode cL_cell 14 = .ok (.iaload, 1) := by decide +kernel
theorem dL_cell_15 : decode cL_cell 15 = .ok (.ldc 7, 2) := by decide +kernel
theorem dL_cell_17 : decode cL_cell 17 = .ok (.iload_n 1, 1) := by decide +kernel
theorem dL_cell_18 : decode cL_cell 18 = .ok (.aload_n 0, 1) := by decide +kernel
theorem dL_cell_19 : decode cL_cell 19 = .ok (.arraylength, 1) := by decide +kernel
theorem dL_cell_20 : decode cL_cell 20 = .ok (.idiv, 1) := by decide +kernel
theorem dL_cell_21 : decode cL_cell 21 = .ok (.imul, 1) := by decide +kernel
theorem dL_cell_22 : decode cL_cell 22 = .ok (.ixor, 1) := by decide +kernel
theorem dL_cell_23 : decode cL_cell 23 = .ok (.ireturn, 1) := by decide +kernel
theorem dL_pick_0 : decode cL_pick 0 = .ok (.aload_n 0, 1) := by decide +kernel
theorem dL_pick_1 : decode cL_pick 1 = .ok (.iload_n 1, 1) := by decide +kernel
theorem dL_pick_2 : decode cL_pick 2 = .ok (.invokestatic 8, 3) := by decide +kernel
theorem dL_pick_5 : decode cL_pick 5 = .ok (.ldc 14, 2) := by decide +kernel
theorem dL_pick_7 : decode cL_pick 7 = .ok (.iand, 1) := by decide +kernel
theorem dL_pick_8 : decode cL_pick 8 = .ok (.iload_n 2, 1) := by decide +kernel
theorem dL_pick_9 : decode cL_pick 9 = .ok (.irem, 1) := by decide +kernel
theorem dL_pick_10 : decode cL_pick 10 = .ok (.ireturn, 1) := by decide +kernel
theorem dL_four_0 : decode cL_four 0 = .ok (.iconst 0, 1) := by decide +kernel
theorem dL_four_1 : decode cL_four 1 = .ok (.istore_n 2, 1) := by decide +kernel
theorem dL_four_2 : decode cL_four 2 = .ok (.iload_n 1, 1) := by decide +kernel
theorem dL_four_3 : decode cL_four 3 = .ok (.istore_n 3, 1) := by decide +kernel
theorem dL_four_4 : decode cL_four 4 = .ok (.iload_n 3, 1) := by decide +kernel
theorem dL_four_5 : decode cL_four 5 = .ok (.iload_n 1, 1) := by decide +kernel
theorem dL_four_6 : decode cL_four 6 = .ok (.iconst 4, 1) := by decide +kernel
theorem dL_four_7 : decode cL_four 7 = .ok (.iadd, 1) := by decide +kernel
theorem dL_four_8 : decode cL_four 8 = .ok (.if_icmp .ge 32, 3) := by decide +kernel
theorem dL_four_11 : decode cL_four 11 = .ok (.iload_n 2, 1) := by decide +kernel
theorem dL_four_12 : decode cL_four 12 = .ok (.bipush 8, 2) := by decide +kernel
theorem dL_four_14 : decode cL_four 14 = .ok (.ishl, 1) := by decide +kernel
theorem dL_four_15 : decode cL_four 15 = .ok (.iload_n 3, 1) := by decide +kernel
theorem dL_four_16 : decode cL_four 16 = .ok (.aload_n 0, 1) := by decide +kernel
theorem dL_four_17 : decode cL_four 17 = .ok (.invokevirtual 15, 3) := by decide +kernel
theorem dL_four_20 : decode cL_four 20 = .ok (.if_icmp .ge 11, 3) := by decide +kernel
theorem dL_four_23 : decode cL_four 23 = .ok (.aload_n 0, 1) := by decide +kernel
theorem dL_four_24 : decode cL_four 24 = .ok (.iload_n 3, 1) := by decide +kernel
theorem dL_four_25 : decode cL_four 25 = .ok (.invokevirtual 21, 3) := by decide +kernel
theorem dL_four_28 : decode cL_four 28 = .ok (.goto 4, 3) := by decide +kernel
theorem dL_four_31 : decode cL_four 31 = .ok (.iconst 0, 1) := by decide +kernel
theorem dL_four_32 : decode cL_four 32 = .ok (.ior, 1) := by decide +kernel
theorem dL_four_33 : decode cL_four 33 = .ok (.istore_n 2, 1) := by decide +kernel
theorem dL_four_34 : decode cL_four 34 = .ok (.iinc 3 1, 3) := by decide +kernel
theorem dL_four_37 : decode cL_four 37 = .ok (.goto (-33), 3) := by decide +kernel
theorem dL_four_40 : decode cL_four 40 = .ok (.iload_n 2, 1) := by decide +kernel
theorem dL_four_41 : decode cL_four 41 = .ok (.ireturn, 1) := by decide +kernel
theorem dL_feeds_0 : decode cL_feeds 0 = .ok (.iconst 0, 1) := by decide +kernel
theorem dL_feeds_1 : decode cL_feeds 1 = .ok (.istore_n 2, 1) := by decide +kernel
theorem dL_feeds_2 : decode cL_feeds 2 = .ok (.iconst 0, 1) := by decide +kernel
theorem dL_feeds_3 : decode cL_feeds 3 = .ok (.istore_n 3, 1) := by decide +kernel
theorem dL_feeds_4 : decode cL_feeds 4 = .ok (.iload_n 3, 1) := by decide +kernel
theorem dL_feeds_5 : decode cL_feeds 5 = .ok (.aload_n 1, 1) := by decide +kernel
theorem dL_feeds_6 : decode cL_feeds 6 = .ok (.invokevirtual 15, 3) := by decide +kernel
theorem dL_feeds_9 : decode cL_feeds 9 = .ok (.if_icmp .ge 50, 3) := by decide +kernel
theorem dL_feeds_12 : decode cL_feeds 12 = .ok (.aload_n 0, 1) := by decide +kernel
theorem dL_feeds_13 : decode cL_feeds 13 = .ok (.aload_n 1, 1) := by decide +kernel
theorem dL_feeds_14 : decode cL_feeds 14 = .ok (.iload_n 3, 1) := by decide +kernel
theorem dL_feeds_15 : decode cL_feeds 15 = .ok (.invokestatic 25, 3) := by decide +kernel
theorem dL_feeds_18 : decode cL_feeds 18 = .ok (.aload_n 1, 1) := by decide +kernel
theorem dL_feeds_19 : decode cL_feeds 19 = .ok (.iload_n 3, 1) := by decide +kernel
theorem dL_feeds_20 : decode cL_feeds 20 = .ok (.iconst 4, 1) := by decide +kernel
theorem dL_feeds_21 : decode cL_feeds 21 = .ok (.iadd, 1) := by decide +kernel
theorem dL_feeds_22 : decode cL_feeds 22 = .ok (.invokestatic 25, 3) := by decide +kernel
theorem dL_feeds_25 : decode cL_feeds 25 = .ok (.aload_n 1, 1) := by decide +kernel
theorem dL_feeds_26 : decode cL_feeds 26 = .ok (.iload_n 3, 1) := by decide +kernel
theorem dL_feeds_27 : decode cL_feeds 27 = .ok (.bipush 8, 2) := by decide +kernel
theorem dL_feeds_29 : decode cL_feeds 29 = .ok (.iadd, 1) := by decide +kernel
theorem dL_feeds_30 : decode cL_feeds 30 = .ok (.invokestatic 25, 3) := by decide +kernel
theorem dL_feeds_33 : decode cL_feeds 33 = .ok (.aload_n 1, 1) := by decide +kernel
theorem dL_feeds_34 : decode cL_feeds 34 = .ok (.iload_n 3, 1) := by decide +kernel
theorem dL_feeds_35 : decode cL_feeds 35 = .ok (.bipush 12, 2) := by decide +kernel
theorem dL_feeds_37 : decode cL_feeds 37 = .ok (.iadd, 1) := by decide +kernel
theorem dL_feeds_38 : decode cL_feeds 38 = .ok (.invokestatic 25, 3) := by decide +kernel
theorem dL_feeds_41 : decode cL_feeds 41 = .ok (.aload_n 1, 1) := by decide +kernel
theorem dL_feeds_42 : decode cL_feeds 42 = .ok (.iload_n 3, 1) := by decide +kernel
theorem dL_feeds_43 : decode cL_feeds 43 = .ok (.bipush 16, 2) := by decide +kernel
theorem dL_feeds_45 : decode cL_feeds 45 = .ok (.iadd, 1) := by decide +kernel
theorem dL_feeds_46 : decode cL_feeds 46 = .ok (.invokestatic 25, 3) := by decide +kernel
theorem dL_feeds_49 : decode cL_feeds 49 = .ok (.invokevirtual 29, 3) := by decide +kernel
theorem dL_feeds_52 : decode cL_feeds 52 = .ok (.istore_n 2, 1) := by decide +kernel
theorem dL_feeds_53 : decode cL_feeds 53 = .ok (.iinc 3 20, 3) := by decide +kernel
theorem dL_feeds_56 : decode cL_feeds 56 = .ok (.goto (-52), 3) := by decide +kernel
theorem dL_feeds_59 : decode cL_feeds 59 = .ok (.iload_n 2, 1) := by decide +kernel
theorem dL_feeds_60 : decode cL_feeds 60 = .ok (.aload_n 1, 1) := by decide +kernel
theorem dL_feeds_61 : decode cL_feeds 61 = .ok (.invokevirtual 15, 3) := by decide +kernel
theorem dL_feeds_64 : decode cL_feeds 64 = .ok (.if_icmp .ne 7, 3) := by decide +kernel
theorem dL_feeds_67 : decode cL_feeds 67 = .ok (.iconst 1, 1) := by decide +kernel
theorem dL_feeds_68 : decode cL_feeds 68 = .ok (.goto 4, 3) := by decide +kernel
theorem dL_feeds_71 : decode cL_feeds 71 = .ok (.iconst 0, 1) := by decide +kernel
theorem dL_feeds_72 : decode cL_feeds 72 = .ok (.ireturn, 1) := by decide +kernel
theorem dL_name_0 : decode cL_name 0 = .ok (.new 35, 3) := by decide +kernel
theorem dL_name_3 : decode cL_name 3 = .ok (.dup, 1) := by decide +kernel
theorem dL_name_4 : decode cL_name 4 = .ok (.invokespecial 37, 3) := by decide +kernel
theorem dL_name_7 : decode cL_name 7 = .ok (.ldc 38, 2) := by decide +kernel
theorem dL_name_9 : decode cL_name 9 = .ok (.invokevirtual 40, 3) := by decide +kernel
theorem dL_name_12 : decode cL_name 12 = .ok (.bipush 97, 2) := by decide +kernel
theorem dL_name_14 : decode cL_name 14 = .ok (.iload_n 0, 1) := by decide +kernel
theorem dL_name_15 : decode cL_name 15 = .ok (.iadd, 1) := by decide +kernel
theorem dL_name_16 : decode cL_name 16 = .ok (.i2c, 1) := by decide +kernel
theorem dL_name_17 : decode cL_name 17 = .ok (.invokevirtual 43, 3) := by decide +kernel
theorem dL_name_20 : decode cL_name 20 = .ok (.invokevirtual 46, 3) := by decide +kernel
theorem dL_name_23 : decode cL_name 23 = .ok (.areturn, 1) := by decide +kernel
theorem dL_isMember_0 : decode cL_isMember 0 = .ok (.iconst 0, 1) := by decide +kernel
theorem dL_isMember_1 : decode cL_isMember 1 = .ok (.istore_n 3, 1) := by decide +kernel
theorem dL_isMember_2 : decode cL_isMember 2 = .ok (.iconst 0, 1) := by decide +kernel
theorem dL_isMember_3 : decode cL_isMember 3 = .ok (.istore 4, 2) := by decide +kernel
theorem dL_isMember_5 : decode cL_isMember 5 = .ok (.iload 4, 2) := by decide +kernel
theorem dL_isMember_7 : decode cL_isMember 7 = .ok (.aload_n 1, 1) := by decide +kernel
theorem dL_isMember_8 : decode cL_isMember 8 = .ok (.getfield 50, 3) := by decide +kernel
theorem dL_isMember_11 : decode cL_isMember 11 = .ok (.if_icmp .ge 19, 3) := by decide +kernel
theorem dL_isMember_14 : decode cL_isMember 14 = .ok (.iload_n 3, 1) := by decide +kernel
theorem dL_isMember_15 : decode cL_isMember 15 = .ok (.aload_n 1, 1) := by decide +kernel
theorem dL_isMember_16 : decode cL_isMember 16 = .ok (.getfield 56, 3) := by decide +kernel
theorem dL_isMember_19 : decode cL_isMember 19 = .ok (.iload 4, 2) := by decide +kernel
theorem dL_isMember_21 : decode cL_isMember 21 = .ok (.iaload, 1) := by decide +kernel
theorem dL_isMember_22 : decode cL_isMember 22 = .ok (.iadd, 1) := by decide +kernel
theorem dL_isMember_23 : decode cL_isMember 23 = .ok (.istore_n 3, 1) := by decide +kernel
theorem dL_isMember_24 : decode cL_isMember 24 = .ok (.iinc 4 1, 3) := by decide +kernel
theorem dL_isMember_27 : decode cL_isMember 27 = .ok (.goto (-22), 3) := by decide +kernel
theorem dL_isMember_30 : decode cL_isMember 30 = .ok (.iconst 0, 1) := by decide +kernel
theorem dL_isMember_31 : decode cL_isMember 31 = .ok (.istore 4, 2) := by decide +kernel
theorem dL_isMember_33 : decode cL_isMember 33 = .ok (.iload 4, 2) := by decide +kernel
theorem dL_isMember_35 : decode cL_isMember 35 = .ok (.aload_n 1, 1) := by decide +kernel
theorem dL_isMember_36 : decode cL_isMember 36 = .ok (.getfield 60, 3) := by decide +kernel
theorem dL_isMember_39 : decode cL_isMember 39 = .ok (.if_icmp .ge 33, 3) := by decide +kernel
theorem dL_isMember_42 : decode cL_isMember 42 = .ok (.aload_n 0, 1) := by decide +kernel
theorem dL_isMember_43 : decode cL_isMember 43 = .ok (.iload_n 2, 1) := by decide +kernel
theorem dL_isMember_44 : decode cL_isMember 44 = .ok (.iload 4, 2) := by decide +kernel
theorem dL_isMember_46 : decode cL_isMember 46 = .ok (.invokevirtual 63, 3) := by decide +kernel
theorem dL_isMember_49 : decode cL_isMember 49 = .ok (.aload_n 1, 1) := by decide +kernel
theorem dL_isMember_50 : decode cL_isMember 50 = .ok (.getfield 67, 3) := by decide +kernel
theorem dL_isMember_53 : decode cL_isMember 53 = .ok (.bipush 16, 2) := by decide +kernel
theorem dL_isMember_55 : decode cL_isMember 55 = .ok (.iload_n 2, 1) := by decide +kernel
theorem dL_isMember_56 : decode cL_isMember 56 = .ok (.imul, 1) := by decide +kernel
theorem dL_isMember_57 : decode cL_isMember 57 = .ok (.iload 4, 2) := by decide +kernel
theorem dL_isMember_59 : decode cL_isMember 59 = .ok (.iadd, 1) := by decide +kernel
theorem dL_isMember_60 : decode cL_isMember 60 = .ok (.iaload, 1) := by decide +kernel
theorem dL_isMember_61 : decode cL_isMember 61 = .ok (.if_icmp .eq 5, 3) := by decide +kernel
theorem dL_isMember_64 : decode cL_isMember 64 = .ok (.iconst 0, 1) := by decide +kernel
theorem dL_isMember_65 : decode cL_isMember 65 = .ok (.ireturn, 1) := by decide +kernel
theorem dL_isMember_66 : decode cL_isMember 66 = .ok (.iinc 4 1, 3) := by decide +kernel
theorem dL_isMember_69 : decode cL_isMember 69 = .ok (.goto (-36), 3) := by decide +kernel
theorem dL_isMember_72 : decode cL_isMember 72 = .ok (.aload_n 0, 1) := by decide +kernel
theorem dL_isMember_73 : decode cL_isMember 73 = .ok (.iload_n 2, 1) := by decide +kernel
theorem dL_isMember_74 : decode cL_isMember 74 = .ok (.invokevirtual 70, 3) := by decide +kernel
theorem dL_isMember_77 : decode cL_isMember 77 = .ok (.aload_n 1, 1) := by decide +kernel
theorem dL_isMember_78 : decode cL_isMember 78 = .ok (.getfield 56, 3) := by decide +kernel
theorem dL_isMember_81 : decode cL_isMember 81 = .ok (.iload_n 2, 1) := by decide +kernel
theorem dL_isMember_82 : decode cL_isMember 82 = .ok (.iaload, 1) := by decide +kernel
theorem dL_isMember_83 : decode cL_isMember 83 = .ok (.if_icmp .ne 75, 3) := by decide +kernel
theorem dL_isMember_86 : decode cL_isMember 86 = .ok (.aload_n 0, 1) := by decide +kernel
theorem dL_isMember_87 : decode cL_isMember 87 = .ok (.iload_n 2, 1) := by decide +kernel
theorem dL_isMember_88 : decode cL_isMember 88 = .ok (.invokevirtual 73, 3) := by decide +kernel
theorem dL_isMember_91 : decode cL_isMember 91 = .ok (.aload_n 1, 1) := by decide +kernel
theorem dL_isMember_92 : decode cL_isMember 92 = .ok (.getfield 76, 3) := by decide +kernel
theorem dL_isMember_95 : decode cL_isMember 95 = .ok (.iload_n 2, 1) := by decide +kernel
theorem dL_isMember_96 : decode cL_isMember 96 = .ok (.iaload, 1) := by decide +kernel
theorem dL_isMember_97 : decode cL_isMember 97 = .ok (.if_icmp .ne 61, 3) := by decide +kernel
theorem dL_isMember_100 : decode cL_isMember 100 = .ok (.aload_n 0, 1) := by decide +kernel
theorem dL_isMember_101 : decode cL_isMember 101 = .ok (.iload_n 2, 1) := by decide +kernel
theorem dL_isMember_102 : decode cL_isMember 102 = .ok (.invokevirtual 78, 3) := by decide +kernel
theorem dL_isMember_105 : decode cL_isMember 105 = .ok (.aload_n 1, 1) := by decide +kernel
theorem dL_isMember_106 : decode cL_isMember 106 = .ok (.getfield 81, 3) := by decide +kernel
theorem dL_isMember_109 : decode cL_isMember 109 = .ok (.iload_n 2, 1) := by decide +kernel
theorem dL_isMember_110 : decode cL_isMember 110 = .ok (.iaload, 1) := by decide +kernel
theorem dL_isMember_111 : decode cL_isMember 111 = .ok (.if_icmp .ne 47, 3) := by decide +kernel
theorem dL_isMember_114 : decode cL_isMember 114 = .ok (.aload_n 0, 1) := by decide +kernel
theorem dL_isMember_115 : decode cL_isMember 115 = .ok (.iload_n 2, 1) := by decide +kernel
theorem dL_isMember_116 : decode cL_isMember 116 = .ok (.invokevirtual 84, 3) := by decide +kernel
theorem dL_isMember_119 : decode cL_isMember 119 = .ok (.aload_n 1, 1) := by decide +kernel
theorem dL_isMember_120 : decode cL_isMember 120 = .ok (.getfield 87, 3) := by decide +kernel
theorem dL_isMember_123 : decode cL_isMember 123 = .ok (.iload_n 2, 1) := by decide +kernel
theorem dL_isMember_124 : decode cL_isMember 124 = .ok (.iaload, 1) := by decide +kernel
theorem dL_isMember_125 : decode cL_isMember 125 = .ok (.if_icmp .ne 33, 3) := by decide +kernel
theorem dL_isMember_128 : decode cL_isMember 128 = .ok (.aload_n 0, 1) := by decide +kernel
theorem dL_isMember_129 : decode cL_isMember 129 = .ok (.iload_n 2, 1) := by decide +kernel
theorem dL_isMember_130 : decode cL_isMember 130 = .ok (.invokevirtual 90, 3) := by decide +kernel
theorem dL_isMember_133 : decode cL_isMember 133 = .ok (.aload_n 1, 1) := by decide +kernel
theorem dL_isMember_134 : decode cL_isMember 134 = .ok (.iload_n 2, 1) := by decide +kernel
theorem dL_isMember_135 : decode cL_isMember 135 = .ok (.invokevirtual 93, 3) := by decide +kernel
theorem dL_isMember_138 : decode cL_isMember 138 = .ok (.if_icmp .ne 20, 3) := by decide +kernel
theorem dL_isMember_141 : decode cL_isMember 141 = .ok (.aload_n 0, 1) := by decide +kernel
theorem dL_isMember_142 : decode cL_isMember 142 = .ok (.iload_n 2, 1) := by decide +kernel
theorem dL_isMember_143 : decode cL_isMember 143 = .ok (.invokevirtual 96, 3) := by decide +kernel
theorem dL_isMember_146 : decode cL_isMember 146 = .ok (.aload_n 1, 1) := by decide +kernel
theorem dL_isMember_147 : decode cL_isMember 147 = .ok (.iload_n 2, 1) := by decide +kernel
theorem dL_isMember_148 : decode cL_isMember 148 = .ok (.invokevirtual 99, 3) := by decide +kernel
theorem dL_isMember_151 : decode cL_isMember 151 = .ok (.if_icmp .ne 7, 3) := by decide +kernel
theorem dL_isMember_154 : decode cL_isMember 154 = .ok (.iconst 1, 1) := by decide +kernel
theorem dL_isMember_155 : decode cL_isMember 155 = .ok (.goto 4, 3) := by decide +kernel
theorem dL_isMember_158 : decode cL_isMember 158 = .ok (.iconst 0, 1) := by decide +kernel
theorem dL_isMember_159 : decode cL_isMember 159 = .ok (.istore 4, 2) := by decide +kernel
theorem dL_isMember_161 : decode cL_isMember 161 = .ok (.iload 4, 2) := by decide +kernel
theorem dL_isMember_163 : decode cL_isMember 163 = .ok (.ifCond .eq 31, 3) := by decide +kernel
theorem dL_isMember_166 : decode cL_isMember 166 = .ok (.aload_n 0, 1) := by decide +kernel
theorem dL_isMember_167 : decode cL_isMember 167 = .ok (.iload_n 2, 1) := by decide +kernel
theorem dL_isMember_168 : decode cL_isMember 168 = .ok (.invokevirtual 102, 3) := by decide +kernel
theorem dL_isMember_171 : decode cL_isMember 171 = .ok (.invokestatic 106, 3) := by decide +kernel
theorem dL_isMember_174 : decode cL_isMember 174 = .ok (.aload_n 1, 1) := by decide +kernel
theorem dL_isMember_175 : decode cL_isMember 175 = .ok (.getfield 56, 3) := by decide +kernel
theorem dL_isMember_178 : decode cL_isMember 178 = .ok (.iload_n 2, 1) := by decide +kernel
theorem dL_isMember_179 : decode cL_isMember 179 = .ok (.iaload, 1) := by decide +kernel
theorem dL_isMember_180 : decode cL_isMember 180 = .ok (.i2f, 1) := by decide +kernel
theorem dL_isMember_181 : decode cL_isMember 181 = .ok (.iload_n 3, 1) := by decide +kernel
theorem dL_isMember_182 : decode cL_isMember 182 = .ok (.i2f, 1) := by decide +kernel
theorem dL_isMember_183 : decode cL_isMember 183 = .ok (.fdiv, 1) := by decide +kernel
theorem dL_isMember_184 : decode cL_isMember 184 = .ok (.invokestatic 106, 3) := by decide +kernel
theorem dL_isMember_187 : decode cL_isMember 187 = .ok (.if_icmp .ne 7, 3) := by decide +kernel
theorem dL_isMember_190 : decode cL_isMember 190 = .ok (.iconst 1, 1) := by decide +kernel
theorem dL_isMember_191 : decode cL_isMember 191 = .ok (.goto 4, 3) := by decide +kernel
theorem dL_isMember_194 : decode cL_isMember 194 = .ok (.iconst 0, 1) := by decide +kernel
theorem dL_isMember_195 : decode cL_isMember 195 = .ok (.ireturn, 1) := by decide +kernel
theorem dL_isMotion_0 : decode cL_isMotion 0 = .ok (.iconst 0, 1) := by decide +kernel
theorem dL_isMotion_1 : decode cL_isMotion 1 = .ok (.istore_n 3, 1) := by decide +kernel
theorem dL_isMotion_2 : decode cL_isMotion 2 = .ok (.iconst 0, 1) := by decide +kernel
theorem dL_isMotion_3 : decode cL_isMotion 3 = .ok (.istore 4, 2) := by decide +kernel
theorem dL_isMotion_5 : decode cL_isMotion 5 = .ok (.iload 4, 2) := by decide +kernel
theorem dL_isMotion_7 : decode cL_isMotion 7 = .ok (.aload_n 1, 1) := by decide +kernel
theorem dL_isMotion_8 : decode cL_isMotion 8 = .ok (.getfield 50, 3) := by decide +kernel
theorem dL_isMotion_11 : decode cL_isMotion 11 = .ok (.if_icmp .ge 24, 3) := by decide +kernel
theorem dL_isMotion_14 : decode cL_isMotion 14 = .ok (.iload_n 3, 1) := by decide +kernel
theorem dL_isMotion_15 : decode cL_isMotion 15 = .ok (.aload_n 1, 1) := by decide +kernel
theorem dL_isMotion_16 : decode cL_isMotion 16 = .ok (.getfield 67, 3) := by decide +kernel
theorem dL_isMotion_19 : decode cL_isMotion 19 = .ok (.bipush 16, 2) := by decide +kernel
theorem dL_isMotion_21 : decode cL_isMotion 21 = .ok (.iload 4, 2) := by decide +kernel
theorem dL_isMotion_23 : decode cL_isMotion 23 = .ok (.imul, 1) := by decide +kernel
theorem dL_isMotion_24 : decode cL_isMotion 24 = .ok (.iload_n 2, 1) := by decide +kernel
theorem dL_isMotion_25 : decode cL_isMotion 25 = .ok (.iadd, 1) := by decide +kernel
theorem dL_isMotion_26 : decode cL_isMotion 26 = .ok (.iaload, 1) := by decide +kernel
theorem dL_isMotion_27 : decode cL_isMotion 27 = .ok (.iadd, 1) := by decide +kernel
theorem dL_isMotion_28 : decode cL_isMotion 28 = .ok (.istore_n 3, 1) := by decide +kernel
theorem dL_isMotion_29 : decode cL_isMotion 29 = .ok (.iinc 4 1, 3) := by decide +kernel
theorem dL_isMotion_32 : decode cL_isMotion 32 = .ok (.goto (-27), 3) := by decide +kernel
theorem dL_isMotion_35 : decode cL_isMotion 35 = .ok (.aload_n 0, 1) := by decide +kernel
theorem dL_isMotion_36 : decode cL_isMotion 36 = .ok (.iload_n 2, 1) := by decide +kernel
theorem dL_isMotion_37 : decode cL_isMotion 37 = .ok (.invokevirtual 112, 3) := by decide +kernel
theorem dL_isMotion_40 : decode cL_isMotion 40 = .ok (.aload_n 1, 1) := by decide +kernel
theorem dL_isMotion_41 : decode cL_isMotion 41 = .ok (.getfield 115, 3) := by decide +kernel
theorem dL_isMotion_44 : decode cL_isMotion 44 = .ok (.iload_n 2, 1) := by decide +kernel
theorem dL_isMotion_45 : decode cL_isMotion 45 = .ok (.iaload, 1) := by decide +kernel
theorem dL_isMotion_46 : decode cL_isMotion 46 = .ok (.if_icmp .ne 89, 3) := by decide +kernel
theorem dL_isMotion_49 : decode cL_isMotion 49 = .ok (.aload_n 0, 1) := by decide +kernel
theorem dL_isMotion_50 : decode cL_isMotion 50 = .ok (.iload_n 2, 1) := by decide +kernel
theorem dL_isMotion_51 : decode cL_isMotion 51 = .ok (.invokevirtual 117, 3) := by decide +kernel
theorem dL_isMotion_54 : decode cL_isMotion 54 = .ok (.aload_n 1, 1) := by decide +kernel
theorem dL_isMotion_55 : decode cL_isMotion 55 = .ok (.getfield 120, 3) := by decide +kernel
theorem dL_isMotion_58 : decode cL_isMotion 58 = .ok (.iload_n 2, 1) := by decide +kernel
theorem dL_isMotion_59 : decode cL_isMotion 59 = .ok (.iaload, 1) := by decide +kernel
theorem dL_isMotion_60 : decode cL_isMotion 60 = .ok (.if_icmp .ne 75, 3) := by decide +kernel
theorem dL_isMotion_63 : decode cL_isMotion 63 = .ok (.aload_n 0, 1) := by decide +kernel
theorem dL_isMotion_64 : decode cL_isMotion 64 = .ok (.iload_n 2, 1) := by decide +kernel
theorem dL_isMotion_65 : decode cL_isMotion 65 = .ok (.invokevirtual 123, 3) := by decide +kernel
theorem dL_isMotion_68 : decode cL_isMotion 68 = .ok (.aload_n 1, 1) := by decide +kernel
theorem dL_isMotion_69 : decode cL_isMotion 69 = .ok (.getfield 126, 3) := by decide +kernel
theorem dL_isMotion_72 : decode cL_isMotion 72 = .ok (.iload_n 2, 1) := by decide +kernel
theorem dL_isMotion_73 : decode cL_isMotion 73 = .ok (.iaload, 1) := by decide +kernel
theorem dL_isMotion_74 : decode cL_isMotion 74 = .ok (.if_icmp .ne 61, 3) := by decide +kernel
theorem dL_isMotion_77 : decode cL_isMotion 77 = .ok (.aload_n 0, 1) := by decide +kernel
theorem dL_isMotion_78 : decode cL_isMotion 78 = .ok (.iload_n 2, 1) := by decide +kernel
theorem dL_isMotion_79 : decode cL_isMotion 79 = .ok (.invokevirtual 128, 3) := by decide +kernel
theorem dL_isMotion_82 : decode cL_isMotion 82 = .ok (.aload_n 1, 1) := by decide +kernel
theorem dL_isMotion_83 : decode cL_isMotion 83 = .ok (.iload_n 2, 1) := by decide +kernel
theorem dL_isMotion_84 : decode cL_isMotion 84 = .ok (.iconst 1, 1) := by decide +kernel
theorem dL_isMotion_85 : decode cL_isMotion 85 = .ok (.invokevirtual 131, 3) := by decide +kernel
theorem dL_isMotion_88 : decode cL_isMotion 88 = .ok (.if_icmp .ne 47, 3) := by decide +kernel
theorem dL_isMotion_91 : decode cL_isMotion 91 = .ok (.aload_n 0, 1) := by decide +kernel
theorem dL_isMotion_92 : decode cL_isMotion 92 = .ok (.iload_n 2, 1) := by decide +kernel
theorem dL_isMotion_93 : decode cL_isMotion 93 = .ok (.invokevirtual 134, 3) := by decide +kernel
theorem dL_isMotion_96 : decode cL_isMotion 96 = .ok (.aload_n 1, 1) := by decide +kernel
theorem dL_isMotion_97 : decode cL_isMotion 97 = .ok (.iload_n 2, 1) := by decide +kernel
theorem dL_isMotion_98 : decode cL_isMotion 98 = .ok (.iconst (-1), 1) := by decide +kernel
theorem dL_isMotion_99 : decode cL_isMotion 99 = .ok (.invokevirtual 131, 3) := by decide +kernel
theorem dL_isMotion_102 : decode cL_isMotion 102 = .ok (.if_icmp .ne 33, 3) := by decide +kernel
theorem dL_isMotion_105 : decode cL_isMotion 105 = .ok (.aload_n 0, 1) := by decide +kernel
theorem dL_isMotion_106 : decode cL_isMotion 106 = .ok (.iload_n 2, 1) := by decide +kernel
theorem dL_isMotion_107 : decode cL_isMotion 107 = .ok (.invokevirtual 137, 3) := by decide +kernel
theorem dL_isMotion_110 : decode cL_isMotion 110 = .ok (.aload_n 1, 1) := by decide +kernel
theorem dL_isMotion_111 : decode cL_isMotion 111 = .ok (.iload_n 2, 1) := by decide +kernel
theorem dL_isMotion_112 : decode cL_isMotion 112 = .ok (.invokevirtual 140, 3) := by decide +kernel
theorem dL_isMotion_115 : decode cL_isMotion 115 = .ok (.if_icmp .ne 20, 3) := by decide +kernel
theorem dL_isMotion_118 : decode cL_isMotion 118 = .ok (.aload_n 0, 1) := by decide +kernel
theorem dL_isMotion_119 : decode cL_isMotion 119 = .ok (.iload_n 2, 1) := by decide +kernel
theorem dL_isMotion_120 : decode cL_isMotion 120 = .ok (.invokevirtual 143, 3) := by decide +kernel
theorem dL_isMotion_123 : decode cL_isMotion 123 = .ok (.aload_n 1, 1) := by decide +kernel
theorem dL_isMotion_124 : decode cL_isMotion 124 = .ok (.iload_n 2, 1) := by decide +kernel
theorem dL_isMotion_125 : decode cL_isMotion 125 = .ok (.invokevirtual 146, 3) := by decide +kernel
theorem dL_isMotion_128 : decode cL_isMotion 128 = .ok (.if_icmp .ne 7, 3) := by decide +kernel
theorem dL_isMotion_131 : decode cL_isMotion 131 = .ok (.iconst 1, 1) := by decide +kernel
theorem dL_isMotion_132 : decode cL_isMotion 132 = .ok (.goto 4, 3) := by decide +kernel
theorem dL_isMotion_135 : decode cL_isMotion 135 = .ok (.iconst 0, 1) := by decide +kernel
theorem dL_isMotion_136 : decode cL_isMotion 136 = .ok (.istore 4, 2) := by decide +kernel
theorem dL_isMotion_138 : decode cL_isMotion 138 = .ok (.iload 4, 2) := by decide +kernel
theorem dL_isMotion_140 : decode cL_isMotion 140 = .ok (.ifCond .eq 65, 3) := by decide +kernel
theorem dL_isMotion_143 : decode cL_isMotion 143 = .ok (.aload_n 0, 1) := by decide +kernel
theorem dL_isMotion_144 : decode cL_isMotion 144 = .ok (.iload_n 2, 1) := by decide +kernel
theorem dL_isMotion_145 : decode cL_isMotion 145 = .ok (.invokevirtual 147, 3) := by decide +kernel
theorem dL_isMotion_148 : decode cL_isMotion 148 = .ok (.aload_n 1, 1) := by decide +kernel
theorem dL_isMotion_149 : decode cL_isMotion 149 = .ok (.iload_n 2, 1) := by decide +kernel
theorem dL_isMotion_150 : decode cL_isMotion 150 = .ok (.iconst 1, 1) := by decide +kernel
theorem dL_isMotion_151 : decode cL_isMotion 151 = .ok (.invokevirtual 131, 3) := by decide +kernel
theorem dL_isMotion_154 : decode cL_isMotion 154 = .ok (.aload_n 1, 1) := by decide +kernel
theorem dL_isMotion_155 : decode cL_isMotion 155 = .ok (.iload_n 2, 1) := by decide +kernel
theorem dL_isMotion_156 : decode cL_isMotion 156 = .ok (.iconst (-1), 1) := by decide +kernel
theorem dL_isMotion_157 : decode cL_isMotion 157 = .ok (.invokevirtual 131, 3) := by decide +kernel
theorem dL_isMotion_160 : decode cL_isMotion 160 = .ok (.if_icmp .le 7, 3) := by decide +kernel
theorem dL_isMotion_163 : decode cL_isMotion 163 = .ok (.iconst 1, 1) := by decide +kernel
theorem dL_isMotion_164 : decode cL_isMotion 164 = .ok (.goto 4, 3) := by decide +kernel
theorem dL_isMotion_167 : decode cL_isMotion 167 = .ok (.iconst 0, 1) := by decide +kernel
theorem dL_isMotion_168 : decode cL_isMotion 168 = .ok (.if_icmp .ne 37, 3) := by decide +kernel
theorem dL_isMotion_171 : decode cL_isMotion 171 = .ok (.aload_n 0, 1) := by decide +kernel
theorem dL_isMotion_172 : decode cL_isMotion 172 = .ok (.iload_n 2, 1) := by decide +kernel
theorem dL_isMotion_173 : decode cL_isMotion 173 = .ok (.invokevirtual 151, 3) := by decide +kernel
theorem dL_isMotion_176 : decode cL_isMotion 176 = .ok (.aload_n 1, 1) := by decide +kernel
theorem dL_isMotion_177 : decode cL_isMotion 177 = .ok (.iload_n 2, 1) := by decide +kernel
theorem dL_isMotion_178 : decode cL_isMotion 178 = .ok (.invokevirtual 154, 3) := by decide +kernel
theorem dL_isMotion_181 : decode cL_isMotion 181 = .ok (.if_icmp .ne 24, 3) := by decide +kernel
theorem dL_isMotion_184 : decode cL_isMotion 184 = .ok (.aload_n 0, 1) := by decide +kernel
theorem dL_isMotion_185 : decode cL_isMotion 185 = .ok (.iload_n 2, 1) := by decide +kernel
theorem dL_isMotion_186 : decode cL_isMotion 186 = .ok (.invokevirtual 157, 3) := by decide +kernel
theorem dL_isMotion_189 : decode cL_isMotion 189 = .ok (.iload_n 3, 1) := by decide +kernel
theorem dL_isMotion_190 : decode cL_isMotion 190 = .ok (.i2d, 1) := by decide +kernel
theorem dL_isMotion_191 : decode cL_isMotion 191 = .ok (.aload_n 1, 1) := by decide +kernel
theorem dL_isMotion_192 : decode cL_isMotion 192 = .ok (.getfield 50, 3) := by decide +kernel
theorem dL_isMotion_195 : decode cL_isMotion 195 = .ok (.i2d, 1) := by decide +kernel
theorem dL_isMotion_196 : decode cL_isMotion 196 = .ok (.ddiv, 1) := by decide +kernel
theorem dL_isMotion_197 : decode cL_isMotion 197 = .ok (.dcmp .l, 1) := by decide +kernel
theorem dL_isMotion_198 : decode cL_isMotion 198 = .ok (.ifCond .ne 7, 3) := by decide +kernel
theorem dL_isMotion_201 : decode cL_isMotion 201 = .ok (.iconst 1, 1) := by decide +kernel
theorem dL_isMotion_202 : decode cL_isMotion 202 = .ok (.goto 4, 3) := by decide +kernel
theorem dL_isMotion_205 : decode cL_isMotion 205 = .ok (.iconst 0, 1) := by decide +kernel
theorem dL_isMotion_206 : decode cL_isMotion 206 = .ok (.ireturn, 1) := by decide +kernel
theorem dL_isAs_0 : decode cL_isAs 0 = .ok (.iconst 0, 1) := by decide +kernel
theorem dL_isAs_1 : decode cL_isAs 1 = .ok (.istore_n 2, 1) := by decide +kernel
theorem dL_isAs_2 : decode cL_isAs 2 = .ok (.iload_n 2, 1) := by decide +kernel
theorem dL_isAs_3 : decode cL_isAs 3 = .ok (.aload_n 1, 1) := by decide +kernel
theorem dL_isAs_4 : decode cL_isAs 4 = .ok (.getfield 50, 3) := by decide +kernel
theorem dL_isAs_7 : decode cL_isAs 7 = .ok (.if_icmp .ge 20, 3) := by decide +kernel
theorem dL_isAs_10 : decode cL_isAs 10 = .ok (.aload_n 0, 1) := by decide +kernel
theorem dL_isAs_11 : decode cL_isAs 11 = .ok (.aload_n 1, 1) := by decide +kernel
theorem dL_isAs_12 : decode cL_isAs 12 = .ok (.iload_n 2, 1) := by decide +kernel
theorem dL_isAs_13 : decode cL_isAs 13 = .ok (.invokestatic 161, 3) := by decide +kernel
theorem dL_isAs_16 : decode cL_isAs 16 = .ok (.ifCond .ne 5, 3) := by decide +kernel
theorem dL_isAs_19 : decode cL_isAs 19 = .ok (.iconst 0, 1) := by decide +kernel
theorem dL_isAs_20 : decode cL_isAs 20 = .ok (.ireturn, 1) := by decide +kernel
theorem dL_isAs_21 : decode cL_isAs 21 = .ok (.iinc 2 1, 3) := by decide +kernel
theorem dL_isAs_24 : decode cL_isAs 24 = .ok (.goto (-22), 3) := by decide +kernel
theorem dL_isAs_27 : decode cL_isAs 27 = .ok (.iconst 0, 1) := by decide +kernel
theorem dL_isAs_28 : decode cL_isAs 28 = .ok (.istore_n 2, 1) := by decide +kernel
theorem dL_isAs_29 : decode cL_isAs 29 = .ok (.iload_n 2, 1) := by decide +kernel
theorem dL_isAs_30 : decode cL_isAs 30 = .ok (.aload_n 1, 1) := by decide +kernel
theorem dL_isAs_31 : decode cL_isAs 31 = .ok (.getfield 60, 3) := by decide +kernel
theorem dL_isAs_34 : decode cL_isAs 34 = .ok (.if_icmp .ge 20, 3) := by decide +kernel
theorem dL_isAs_37 : decode cL_isAs 37 = .ok (.aload_n 0, 1) := by decide +kernel
theorem dL_isAs_38 : decode cL_isAs 38 = .ok (.aload_n 1, 1) := by decide +kernel
theorem dL_isAs_39 : decode cL_isAs 39 = .ok (.iload_n 2, 1) := by decide +kernel
theorem dL_isAs_40 : decode cL_isAs 40 = .ok (.invokestatic 165, 3) := by decide +kernel
theorem dL_isAs_43 : decode cL_isAs 43 = .ok (.ifCond .ne 5, 3) := by decide +kernel
theorem dL_isAs_46 : decode cL_isAs 46 = .ok (.iconst 0, 1) := by decide +kernel
theorem dL_isAs_47 : decode cL_isAs 47 = .ok (.ireturn, 1) := by decide +kernel
theorem dL_isAs_48 : decode cL_isAs 48 = .ok (.iinc 2 1, 3) := by decide +kernel
theorem dL_isAs_51 : decode cL_isAs 51 = .ok (.goto (-22), 3) := by decide +kernel
theorem dL_isAs_54 : decode cL_isAs 54 = .ok (.iconst 0, 1) := by decide +kernel
theorem dL_isAs_55 : decode cL_isAs 55 = .ok (.istore_n 2, 1) := by decide +kernel
theorem dL_isAs_56 : decode cL_isAs 56 = .ok (.iload_n 2, 1) := by decide +kernel
theorem dL_isAs_57 : decode cL_isAs 57 = .ok (.aload_n 1, 1) := by decide +kernel
theorem dL_isAs_58 : decode cL_isAs 58 = .ok (.getfield 168, 3) := by decide +kernel
theorem dL_isAs_61 : decode cL_isAs 61 = .ok (.if_icmp .ge 106, 3) := by decide +kernel
theorem dL_isAs_64 : decode cL_isAs 64 = .ok (.aload_n 1, 1) := by decide +kernel
theorem dL_isAs_65 : decode cL_isAs 65 = .ok (.getfield 171, 3) := by decide +kernel
theorem dL_isAs_68 : decode cL_isAs 68 = .ok (.iload_n 2, 1) := by decide +kernel
theorem dL_isAs_69 : decode cL_isAs 69 = .ok (.iaload, 1) := by decide +kernel
theorem dL_isAs_70 : decode cL_isAs 70 = .ok (.ifCond .lt 7, 3) := by decide +kernel
theorem dL_isAs_73 : decode cL_isAs 73 = .ok (.iconst 1, 1) := by decide +kernel
theorem dL_isAs_74 : decode cL_isAs 74 = .ok (.goto 4, 3) := by decide +kernel
theorem dL_isAs_77 : decode cL_isAs 77 = .ok (.iconst 0, 1) := by decide +kernel
theorem dL_isAs_78 : decode cL_isAs 78 = .ok (.istore_n 3, 1) := by decide +kernel
theorem dL_isAs_79 : decode cL_isAs 79 = .ok (.aload_n 0, 1) := by decide +kernel
theorem dL_isAs_80 : decode cL_isAs 80 = .ok (.iload_n 2, 1) := by decide +kernel
theorem dL_isAs_81 : decode cL_isAs 81 = .ok (.invokevirtual 174, 3) := by decide +kernel
theorem dL_isAs_84 : decode cL_isAs 84 = .ok (.aload_n 1, 1) := by decide +kernel
theorem dL_isAs_85 : decode cL_isAs 85 = .ok (.getfield 171, 3) := by decide +kernel
theorem dL_isAs_88 : decode cL_isAs 88 = .ok (.iload_n 2, 1) := by decide +kernel
theorem dL_isAs_89 : decode cL_isAs 89 = .ok (.iaload, 1) := by decide +kernel
theorem dL_isAs_90 : decode cL_isAs 90 = .ok (.if_icmp .ne 69, 3) := by decide +kernel
theorem dL_isAs_93 : decode cL_isAs 93 = .ok (.aload_n 0, 1) := by decide +kernel
theorem dL_isAs_94 : decode cL_isAs 94 = .ok (.iload_n 2, 1) := by decide +kernel
theorem dL_isAs_95 : decode cL_isAs 95 = .ok (.invokevirtual 176, 3) := by decide +kernel
theorem dL_isAs_98 : decode cL_isAs 98 = .ok (.iload_n 3, 1) := by decide +kernel
theorem dL_isAs_99 : decode cL_isAs 99 = .ok (.ifCond .eq 12, 3) := by decide +kernel
theorem dL_isAs_102 : decode cL_isAs 102 = .ok (.aload_n 1, 1) := by decide +kernel
theorem dL_isAs_103 : decode cL_isAs 103 = .ok (.getfield 179, 3) := by decide +kernel
theorem dL_isAs_106 : decode cL_isAs 106 = .ok (.iload_n 2, 1) := by decide +kernel
theorem dL_isAs_107 : decode cL_isAs 107 = .ok (.iaload, 1) := by decide +kernel
theorem dL_isAs_108 : decode cL_isAs 108 = .ok (.goto 4, 3) := by decide +kernel
theorem dL_isAs_111 : decode cL_isAs 111 = .ok (.iconst 0, 1) := by decide +kernel
theorem dL_isAs_112 : decode cL_isAs 112 = .ok (.if_icmp .ne 47, 3) := by decide +kernel
theorem dL_isAs_115 : decode cL_isAs 115 = .ok (.aload_n 0, 1) := by decide +kernel
theorem dL_isAs_116 : decode cL_isAs 116 = .ok (.iload_n 2, 1) := by decide +kernel
theorem dL_isAs_117 : decode cL_isAs 117 = .ok (.invokevirtual 182, 3) := by decide +kernel
theorem dL_isAs_120 : decode cL_isAs 120 = .ok (.iload_n 3, 1) := by decide +kernel
theorem dL_isAs_121 : decode cL_isAs 121 = .ok (.ifCond .eq 16, 3) := by decide +kernel
theorem dL_isAs_124 : decode cL_isAs 124 = .ok (.aload_n 1, 1) := by decide +kernel
theorem dL_isAs_125 : decode cL_isAs 125 = .ok (.getfield 185, 3) := by decide +kernel
theorem dL_isAs_128 : decode cL_isAs 128 = .ok (.iload_n 2, 1) := by decide +kernel
theorem dL_isAs_129 : decode cL_isAs 129 = .ok (.baload, 1) := by decide +kernel
theorem dL_isAs_130 : decode cL_isAs 130 = .ok (.ifCond .eq 7, 3) := by decide +kernel
theorem dL_isAs_133 : decode cL_isAs 133 = .ok (.iconst 1, 1) := by decide +kernel
theorem dL_isAs_134 : decode cL_isAs 134 = .ok (.goto 4, 3) := by decide +kernel
theorem dL_isAs_137 : decode cL_isAs 137 = .ok (.iconst 0, 1) := by decide +kernel
theorem dL_isAs_138 : decode cL_isAs 138 = .ok (.if_icmp .ne 21, 3) := by decide +kernel
theorem dL_isAs_141 : decode cL_isAs 141 = .ok (.iload_n 3, 1) := by decide +kernel
theorem dL_isAs_142 : decode cL_isAs 142 = .ok (.ifCond .eq 19, 3) := by decide +kernel
theorem dL_isAs_145 : decode cL_isAs 145 = .ok (.aload_n 0, 1) := by decide +kernel
theorem dL_isAs_146 : decode cL_isAs 146 = .ok (.iload_n 2, 1) := by decide +kernel
theorem dL_isAs_147 : decode cL_isAs 147 = .ok (.invokevirtual 188, 3) := by decide +kernel
theorem dL_isAs_150 : decode cL_isAs 150 = .ok (.aload_n 1, 1) := by decide +kernel
theorem dL_isAs_151 : decode cL_isAs 151 = .ok (.getfield 191, 3) := by decide +kernel
theorem dL_isAs_154 : decode cL_isAs 154 = .ok (.iload_n 2, 1) := by decide +kernel
theorem dL_isAs_155 : decode cL_isAs 155 = .ok (.iaload, 1) := by decide +kernel
theorem dL_isAs_156 : decode cL_isAs 156 = .ok (.if_icmp .eq 5, 3) := by decide +kernel
theorem dL_isAs_159 : decode cL_isAs 159 = .ok (.iconst 0, 1) := by decide +kernel
theorem dL_isAs_160 : decode cL_isAs 160 = .ok (.ireturn, 1) := by decide +kernel
theorem dL_isAs_161 : decode cL_isAs 161 = .ok (.iinc 2 1, 3) := by decide +kernel
theorem dL_isAs_164 : decode cL_isAs 164 = .ok (.goto (-108), 3) := by decide +kernel
theorem dL_isAs_167 : decode cL_isAs 167 = .ok (.iconst 0, 1) := by decide +kernel
theorem dL_isAs_168 : decode cL_isAs 168 = .ok (.istore_n 2, 1) := by decide +kernel
theorem dL_isAs_169 : decode cL_isAs 169 = .ok (.iload_n 2, 1) := by decide +kernel
theorem dL_isAs_170 : decode cL_isAs 170 = .ok (.iconst 4, 1) := by decide +kernel
theorem dL_isAs_171 : decode cL_isAs 171 = .ok (.if_icmp .ge 39, 3) := by decide +kernel
theorem dL_isAs_174 : decode cL_isAs 174 = .ok (.aload_n 0, 1) := by decide +kernel
theorem dL_isAs_175 : decode cL_isAs 175 = .ok (.iload_n 2, 1) := by decide +kernel
theorem dL_isAs_176 : decode cL_isAs 176 = .ok (.invokevirtual 194, 3) := by decide +kernel
theorem dL_isAs_179 : decode cL_isAs 179 = .ok (.aload_n 1, 1) := by decide +kernel
theorem dL_isAs_180 : decode cL_isAs 180 = .ok (.invokevirtual 197, 3) := by decide +kernel
theorem dL_isAs_183 : decode cL_isAs 183 = .ok (.ifCond .ne 7, 3) := by decide +kernel
theorem dL_isAs_186 : decode cL_isAs 186 = .ok (.iconst (-1), 1) := by decide +kernel
theorem dL_isAs_187 : decode cL_isAs 187 = .ok (.goto 12, 3) := by decide +kernel
theorem dL_isAs_190 : decode cL_isAs 190 = .ok (.aload_n 1, 1) := by decide +kernel
theorem dL_isAs_191 : decode cL_isAs 191 = .ok (.aload_n 1, 1) := by decide +kernel
theorem dL_isAs_192 : decode cL_isAs 192 = .ok (.iload_n 2, 1) := by decide +kernel
theorem dL_isAs_193 : decode cL_isAs 193 = .ok (.invokevirtual 200, 3) := by decide +kernel
theorem dL_isAs_196 : decode cL_isAs 196 = .ok (.invokevirtual 201, 3) := by decide +kernel
theorem dL_isAs_199 : decode cL_isAs 199 = .ok (.if_icmp .eq 5, 3) := by decide +kernel
theorem dL_isAs_202 : decode cL_isAs 202 = .ok (.iconst 0, 1) := by decide +kernel
theorem dL_isAs_203 : decode cL_isAs 203 = .ok (.ireturn, 1) := by decide +kernel
theorem dL_isAs_204 : decode cL_isAs 204 = .ok (.iinc 2 1, 3) := by decide +kernel
theorem dL_isAs_207 : decode cL_isAs 207 = .ok (.goto (-38), 3) := by decide +kernel
theorem dL_isAs_210 : decode cL_isAs 210 = .ok (.aload_n 0, 1) := by decide +kernel
theorem dL_isAs_211 : decode cL_isAs 211 = .ok (.invokevirtual 204, 3) := by decide +kernel
theorem dL_isAs_214 : decode cL_isAs 214 = .ok (.aload_n 1, 1) := by decide +kernel
theorem dL_isAs_215 : decode cL_isAs 215 = .ok (.getfield 50, 3) := by decide +kernel
theorem dL_isAs_218 : decode cL_isAs 218 = .ok (.if_icmp .ne 73, 3) := by decide +kernel
theorem dL_isAs_221 : decode cL_isAs 221 = .ok (.aload_n 0, 1) := by decide +kernel
theorem dL_isAs_222 : decode cL_isAs 222 = .ok (.invokevirtual 207, 3) := by decide +kernel
theorem dL_isAs_225 : decode cL_isAs 225 = .ok (.aload_n 1, 1) := by decide +kernel
theorem dL_isAs_226 : decode cL_isAs 226 = .ok (.getfield 60, 3) := by decide +kernel
theorem dL_isAs_229 : decode cL_isAs 229 = .ok (.if_icmp .ne 62, 3) := by decide +kernel
theorem dL_isAs_232 : decode cL_isAs 232 = .ok (.aload_n 0, 1) := by decide +kernel
theorem dL_isAs_233 : decode cL_isAs 233 = .ok (.invokevirtual 210, 3) := by decide +kernel
theorem dL_isAs_236 : decode cL_isAs 236 = .ok (.aload_n 1, 1) := by decide +kernel
theorem dL_isAs_237 : decode cL_isAs 237 = .ok (.getfield 168, 3) := by decide +kernel
theorem dL_isAs_240 : decode cL_isAs 240 = .ok (.if_icmp .ne 51, 3) := by decide +kernel
theorem dL_isAs_243 : decode cL_isAs 243 = .ok (.aload_n 0, 1) := by decide +kernel
theorem dL_isAs_244 : decode cL_isAs 244 = .ok (.invokevirtual 213, 3) := by decide +kernel
theorem dL_isAs_247 : decode cL_isAs 247 = .ok (.aload_n 1, 1) := by decide +kernel
theorem dL_isAs_248 : decode cL_isAs 248 = .ok (.getfield 216, 3) := by decide +kernel
theorem dL_isAs_251 : decode cL_isAs 251 = .ok (.if_icmp .ne 40, 3) := by decide +kernel
theorem dL_isAs_254 : decode cL_isAs 254 = .ok (.aload_n 0, 1) := by decide +kernel
theorem dL_isAs_255 : decode cL_isAs 255 = .ok (.invokevirtual 218, 3) := by decide +kernel
theorem dL_isAs_258 : decode cL_isAs 258 = .ok (.aload_n 1, 1) := by decide +kernel
theorem dL_isAs_259 : decode cL_isAs 259 = .ok (.invokevirtual 221, 3) := by decide +kernel
theorem dL_isAs_262 : decode cL_isAs 262 = .ok (.if_icmp .ne 29, 3) := by decide +kernel
theorem dL_isAs_265 : decode cL_isAs 265 = .ok (.aload_n 0, 1) := by decide +kernel
theorem dL_isAs_266 : decode cL_isAs 266 = .ok (.invokevirtual 224, 3) := by decide +kernel
theorem dL_isAs_269 : decode cL_isAs 269 = .ok (.aload_n 1, 1) := by decide +kernel
theorem dL_isAs_270 : decode cL_isAs 270 = .ok (.getfield 227, 3) := by decide +kernel
theorem dL_isAs_273 : decode cL_isAs 273 = .ok (.if_icmp .ne 18, 3) := by decide +kernel
theorem dL_isAs_276 : decode cL_isAs 276 = .ok (.aload_n 0, 1) := by decide +kernel
theorem dL_isAs_277 : decode cL_isAs 277 = .ok (.invokevirtual 229, 3) := by decide +kernel
theorem dL_isAs_280 : decode cL_isAs 280 = .ok (.aload_n 1, 1) := by decide +kernel
theorem dL_isAs_281 : decode cL_isAs 281 = .ok (.invokevirtual 197, 3) := by decide +kernel
theorem dL_isAs_284 : decode cL_isAs 284 = .ok (.if_icmp .ne 7, 3) := by decide +kernel
theorem dL_isAs_287 : decode cL_isAs 287 = .ok (.iconst 1, 1) := by decide +kernel
theorem dL_isAs_288 : decode cL_isAs 288 = .ok (.goto 4, 3) := by decide +kernel
theorem dL_isAs_291 : decode cL_isAs 291 = .ok (.iconst 0, 1) := by decide +kernel
theorem dL_isAs_292 : decode cL_isAs 292 = .ok (.istore_n 2, 1) := by decide +kernel
theorem dL_isAs_293 : decode cL_isAs 293 = .ok (.iload_n 2, 1) := by decide +kernel
theorem dL_isAs_294 : decode cL_isAs 294 = .ok (.ifCond .eq 47, 3) := by decide +kernel
theorem dL_isAs_297 : decode cL_isAs 297 = .ok (.aload_n 0, 1) := by decide +kernel
theorem dL_isAs_298 : decode cL_isAs 298 = .ok (.invokevirtual 232, 3) := by decide +kernel
theorem dL_isAs_301 : decode cL_isAs 301 = .ok (.aload_n 1, 1) := by decide +kernel
theorem dL_isAs_302 : decode cL_isAs 302 = .ok (.getfield 235, 3) := by decide +kernel
theorem dL_isAs_305 : decode cL_isAs 305 = .ok (.if_icmp .ne 36, 3) := by decide +kernel
theorem dL_isAs_308 : decode cL_isAs 308 = .ok (.aload_n 0, 1) := by decide +kernel
theorem dL_isAs_309 : decode cL_isAs 309 = .ok (.invokevirtual 237, 3) := by decide +kernel
theorem dL_isAs_312 : decode cL_isAs 312 = .ok (.aload_n 1, 1) := by decide +kernel
theorem dL_isAs_313 : decode cL_isAs 313 = .ok (.getfield 240, 3) := by decide +kernel
theorem dL_isAs_316 : decode cL_isAs 316 = .ok (.if_icmp .ne 25, 3) := by decide +kernel
theorem dL_isAs_319 : decode cL_isAs 319 = .ok (.aload_n 0, 1) := by decide +kernel
theorem dL_isAs_320 : decode cL_isAs 320 = .ok (.invokevirtual 243, 3) := by decide +kernel
theorem dL_isAs_323 : decode cL_isAs 323 = .ok (.aload_n 1, 1) := by decide +kernel
theorem dL_isAs_324 : decode cL_isAs 324 = .ok (.getfield 246, 3) := by decide +kernel
theorem dL_isAs_327 : decode cL_isAs 327 = .ok (.if_icmp .ne 14, 3) := by decide +kernel
theorem dL_isAs_330 : decode cL_isAs 330 = .ok (.aload_n 0, 1) := by decide +kernel
theorem dL_isAs_331 : decode cL_isAs 331 = .ok (.invokevirtual 249, 3) := by decide +kernel
theorem dL_isAs_334 : decode cL_isAs 334 = .ok (.ifCond .ne 7, 3) := by decide +kernel
theorem dL_isAs_337 : decode cL_isAs 337 = .ok (.iconst 1, 1) := by decide +kernel
theorem dL_isAs_338 : decode cL_isAs 338 = .ok (.goto 4, 3) := by decide +kernel
theorem dL_isAs_341 : decode cL_isAs 341 = .ok (.iconst 0, 1) := by decide +kernel
theorem dL_isAs_342 : decode cL_isAs 342 = .ok (.ireturn, 1) := by decide +kernel
theorem dL_isForetold_0 : decode cL_isForetold 0 = .ok (.bipush 12, 2) := by decide +kernel
theorem dL_isForetold_2 : decode cL_isForetold 2 = .ok (.newarray .int, 2) := by decide +kernel
theorem dL_isForetold_4 : decode cL_isForetold 4 = .ok (.astore 4, 2) := by decide +kernel
theorem dL_isForetold_6 : decode cL_isForetold 6 = .ok (.iconst (-1), 1) := by decide +kernel
theorem dL_isForetold_7 : decode cL_isForetold 7 = .ok (.istore 5, 2) := by decide +kernel
theorem dL_isForetold_9 : decode cL_isForetold 9 = .ok (.aload_n 1, 1) := by decide +kernel
theorem dL_isForetold_10 : decode cL_isForetold 10 = .ok (.invokevirtual 252, 3) := by decide +kernel
theorem dL_isForetold_13 : decode cL_isForetold 13 = .ok (.astore 6, 2) := by decide +kernel
theorem dL_isForetold_15 : decode cL_isForetold 15 = .ok (.iconst 0, 1) := by decide +kernel
theorem dL_isForetold_16 : decode cL_isForetold 16 = .ok (.istore 7, 2) := by decide +kernel
theorem dL_isForetold_18 : decode cL_isForetold 18 = .ok (.iload 7, 2) := by decide +kernel
theorem dL_isForetold_20 : decode cL_isForetold 20 = .ok (.sipush 300, 3) := by decide +kernel
theorem dL_isForetold_23 : decode cL_isForetold 23 = .ok (.if_icmp .gt 130, 3) := by decide +kernel
theorem dL_isForetold_26 : decode cL_isForetold 26 = .ok (.iconst 0, 1) := by decide +kernel
theorem dL_isForetold_27 : decode cL_isForetold 27 = .ok (.istore 8, 2) := by decide +kernel
theorem dL_isForetold_29 : decode cL_isForetold 29 = .ok (.iload 8, 2) := by decide +kernel
theorem dL_isForetold_31 : decode cL_isForetold 31 = .ok (.aload_n 1, 1) := by decide +kernel
theorem dL_isForetold_32 : decode cL_isForetold 32 = .ok (.getfield 50, 3) := by decide +kernel
theorem dL_isForetold_35 : decode cL_isForetold 35 = .ok (.if_icmp .ge 51, 3) := by decide +kernel
theorem dL_isForetold_38 : decode cL_isForetold 38 = .ok (.aload 4, 2) := by decide +kernel
theorem dL_isForetold_40 : decode cL_isForetold 40 = .ok (.iload 8, 2) := by decide +kernel
theorem dL_isForetold_42 : decode cL_isForetold 42 = .ok (.aload 4, 2) := by decide +kernel
theorem dL_isForetold_44 : decode cL_isForetold 44 = .ok (.iload 8, 2) := by decide +kernel
theorem dL_isForetold_46 : decode cL_isForetold 46 = .ok (.iaload, 1) := by decide +kernel
theorem dL_isForetold_47 : decode cL_isForetold 47 = .ok (.ifCond .ne 27, 3) := by decide +kernel
theorem dL_isForetold_50 : decode cL_isForetold 50 = .ok (.aload_n 1, 1) := by decide +kernel
theorem dL_isForetold_51 : decode cL_isForetold 51 = .ok (.iload 8, 2) := by decide +kernel
theorem dL_isForetold_53 : decode cL_isForetold 53 = .ok (.invokevirtual 99, 3) := by decide +kernel
theorem dL_isForetold_56 : decode cL_isForetold 56 = .ok (.ifCond .lt 18, 3) := by decide +kernel
theorem dL_isForetold_59 : decode cL_isForetold 59 = .ok (.aload 6, 2) := by decide +kernel
theorem dL_isForetold_61 : decode cL_isForetold 61 = .ok (.iload 8, 2) := by decide +kernel
theorem dL_isForetold_63 : decode cL_isForetold 63 = .ok (.invokevirtual 99, 3) := by decide +kernel
theorem dL_isForetold_66 : decode cL_isForetold 66 = .ok (.ifCond .ge 8, 3) := by decide +kernel
theorem dL_isForetold_69 : decode cL_isForetold 69 = .ok (.iload 7, 2) := by decide +kernel
theorem dL_isForetold_71 : decode cL_isForetold 71 = .ok (.goto 8, 3) := by decide +kernel
theorem dL_isForetold_74 : decode cL_isForetold 74 = .ok (.aload 4, 2) := by decide +kernel
theorem dL_isForetold_76 : decode cL_isForetold 76 = .ok (.iload 8, 2) := by decide +kernel
theorem dL_isForetold_78 : decode cL_isForetold 78 = .ok (.iaload, 1) := by decide +kernel
theorem dL_isForetold_79 : decode cL_isForetold 79 = .ok (.iastore, 1) := by decide +kernel
theorem dL_isForetold_80 : decode cL_isForetold 80 = .ok (.iinc 8 1, 3) := by decide +kernel
theorem dL_isForetold_83 : decode cL_isForetold 83 = .ok (.goto (-54), 3) := by decide +kernel
theorem dL_isForetold_86 : decode cL_isForetold 86 = .ok (.iload_n 2, 1) := by decide +kernel
theorem dL_isForetold_87 : decode cL_isForetold 87 = .ok (.aload_n 1, 1) := by decide +kernel
theorem dL_isForetold_88 : decode cL_isForetold 88 = .ok (.getfield 60, 3) := by decide +kernel
theorem dL_isForetold_91 : decode cL_isForetold 91 = .ok (.if_icmp .ge 51, 3) := by decide +kernel
theorem dL_isForetold_94 : decode cL_isForetold 94 = .ok (.iload 5, 2) := by decide +kernel
theorem dL_isForetold_96 : decode cL_isForetold 96 = .ok (.ifCond .ge 17, 3) := by decide +kernel
theorem dL_isForetold_99 : decode cL_isForetold 99 = .ok (.aload 6, 2) := by decide +kernel
theorem dL_isForetold_101 : decode cL_isForetold 101 = .ok (.iload_n 2, 1) := by decide +kernel
theorem dL_isForetold_102 : decode cL_isForetold 102 = .ok (.invokevirtual 146, 3) := by decide +kernel
theorem dL_isForetold_105 : decode cL_isForetold 105 = .ok (.ifCond .ne 8, 3) := by decide +kernel
theorem dL_isForetold_108 : decode cL_isForetold 108 = .ok (.iload 7, 2) := by decide +kernel
theorem dL_isForetold_110 : decode cL_isForetold 110 = .ok (.goto 5, 3) := by decide +kernel
theorem dL_isForetold_113 : decode cL_isForetold 113 = .ok (.iload 5, 2) := by decide +kernel
theorem dL_isForetold_115 : decode cL_isForetold 115 = .ok (.istore 5, 2) := by decide +kernel
theorem dL_isForetold_117 : decode cL_isForetold 117 = .ok (.iload 7, 2) := by decide +kernel
theorem dL_isForetold_119 : decode cL_isForetold 119 = .ok (.iload_n 3, 1) := by decide +kernel
theorem dL_isForetold_120 : decode cL_isForetold 120 = .ok (.if_icmp .ne 22, 3) := by decide +kernel
theorem dL_isForetold_123 : decode cL_isForetold 123 = .ok (.aload_n 0, 1) := by decide +kernel
theorem dL_isForetold_124 : decode cL_isForetold 124 = .ok (.iload_n 2, 1) := by decide +kernel
theorem dL_isForetold_125 : decode cL_isForetold 125 = .ok (.iload 7, 2) := by decide +kernel
theorem dL_isForetold_127 : decode cL_isForetold 127 = .ok (.invokevirtual 256, 3) := by decide +kernel
theorem dL_isForetold_130 : decode cL_isForetold 130 = .ok (.aload 6, 2) := by decide +kernel
theorem dL_isForetold_132 : decode cL_isForetold 132 = .ok (.getfield 126, 3) := by decide +kernel
theorem dL_isForetold_135 : decode cL_isForetold 135 = .ok (.iload_n 2, 1) := by decide +kernel
theorem dL_isForetold_136 : decode cL_isForetold 136 = .ok (.iaload, 1) := by decide +kernel
theorem dL_isForetold_137 : decode cL_isForetold 137 = .ok (.if_icmp .eq 5, 3) := by decide +kernel
theorem dL_isForetold_140 : decode cL_isForetold 140 = .ok (.iconst 0, 1) := by decide +kernel
theorem dL_isForetold_141 : decode cL_isForetold 141 = .ok (.ireturn, 1) := by decide +kernel
theorem dL_isForetold_142 : decode cL_isForetold 142 = .ok (.aload 6, 2) := by decide +kernel
theorem dL_isForetold_144 : decode cL_isForetold 144 = .ok (.invokevirtual 259, 3) := by decide +kernel
theorem dL_isForetold_147 : decode cL_isForetold 147 = .ok (.iinc 7 1, 3) := by decide +kernel
theorem dL_isForetold_150 : decode cL_isForetold 150 = .ok (.goto (-132), 3) := by decide +kernel
theorem dL_isForetold_153 : decode cL_isForetold 153 = .ok (.iconst 0, 1) := by decide +kernel
theorem dL_isForetold_154 : decode cL_isForetold 154 = .ok (.istore 7, 2) := by decide +kernel
theorem dL_isForetold_156 : decode cL_isForetold 156 = .ok (.iload 7, 2) := by decide +kernel
theorem dL_isForetold_158 : decode cL_isForetold 158 = .ok (.aload_n 1, 1) := by decide +kernel
theorem dL_isForetold_159 : decode cL_isForetold 159 = .ok (.getfield 50, 3) := by decide +kernel
theorem dL_isForetold_162 : decode cL_isForetold 162 = .ok (.if_icmp .ge 37, 3) := by decide +kernel
theorem dL_isForetold_165 : decode cL_isForetold 165 = .ok (.aload_n 0, 1) := by decide +kernel
theorem dL_isForetold_166 : decode cL_isForetold 166 = .ok (.iload 7, 2) := by decide +kernel
theorem dL_isForetold_168 : decode cL_isForetold 168 = .ok (.invokevirtual 262, 3) := by decide +kernel
theorem dL_isForetold_171 : decode cL_isForetold 171 = .ok (.aload 4, 2) := by decide +kernel
theorem dL_isForetold_173 : decode cL_isForetold 173 = .ok (.iload 7, 2) := by decide +kernel
theorem dL_isForetold_175 : decode cL_isForetold 175 = .ok (.iaload, 1) := by decide +kernel
theorem dL_isForetold_176 : decode cL_isForetold 176 = .ok (.ifCond .ne 7, 3) := by decide +kernel
theorem dL_isForetold_179 : decode cL_isForetold 179 = .ok (.iconst (-1), 1) := by decide +kernel
theorem dL_isForetold_180 : decode cL_isForetold 180 = .ok (.goto 8, 3) := by decide +kernel
theorem dL_isForetold_183 : decode cL_isForetold 183 = .ok (.aload 4, 2) := by decide +kernel
theorem dL_isForetold_185 : decode cL_isForetold 185 = .ok (.iload 7, 2) := by decide +kernel
theorem dL_isForetold_187 : decode cL_isForetold 187 = .ok (.iaload, 1) := by decide +kernel
theorem dL_isForetold_188 : decode cL_isForetold 188 = .ok (.if_icmp .eq 5, 3) := by decide +kernel
theorem dL_isForetold_191 : decode cL_isForetold 191 = .ok (.iconst 0, 1) := by decide +kernel
theorem dL_isForetold_192 : decode cL_isForetold 192 = .ok (.ireturn, 1) := by decide +kernel
theorem dL_isForetold_193 : decode cL_isForetold 193 = .ok (.iinc 7 1, 3) := by decide +kernel
theorem dL_isForetold_196 : decode cL_isForetold 196 = .ok (.goto (-40), 3) := by decide +kernel
theorem dL_isForetold_199 : decode cL_isForetold 199 = .ok (.iload_n 2, 1) := by decide +kernel
theorem dL_isForetold_200 : decode cL_isForetold 200 = .ok (.aload_n 1, 1) := by decide +kernel
theorem dL_isForetold_201 : decode cL_isForetold 201 = .ok (.getfield 60, 3) := by decide +kernel
theorem dL_isForetold_204 : decode cL_isForetold 204 = .ok (.if_icmp .ge 13, 3) := by decide +kernel
theorem dL_isForetold_207 : decode cL_isForetold 207 = .ok (.aload_n 0, 1) := by decide +kernel
theorem dL_isForetold_208 : decode cL_isForetold 208 = .ok (.iload_n 2, 1) := by decide +kernel
theorem dL_isForetold_209 : decode cL_isForetold 209 = .ok (.invokevirtual 265, 3) := by decide +kernel
theorem dL_isForetold_212 : decode cL_isForetold 212 = .ok (.iload 5, 2) := by decide +kernel
theorem dL_isForetold_214 : decode cL_isForetold 214 = .ok (.if_icmp .ne 7, 3) := by decide +kernel
theorem dL_isForetold_217 : decode cL_isForetold 217 = .ok (.iconst 1, 1) := by decide +kernel
theorem dL_isForetold_218 : decode cL_isForetold 218 = .ok (.goto 4, 3) := by decide +kernel
theorem dL_isForetold_221 : decode cL_isForetold 221 = .ok (.iconst 0, 1) := by decide +kernel
theorem dL_isForetold_222 : decode cL_isForetold 222 = .ok (.ireturn, 1) := by decide +kernel
theorem dL_speaks_0 : decode cL_speaks 0 = .ok (.iload_n 2, 1) := by decide +kernel
theorem dL_speaks_1 : decode cL_speaks 1 = .ok (.ifCond .eq 190, 3) := by decide +kernel
theorem dL_speaks_4 : decode cL_speaks 4 = .ok (.iload 4, 2) := by decide +kernel
theorem dL_speaks_6 : decode cL_speaks 6 = .ok (.iconst 1, 1) := by decide +kernel
theorem dL_speaks_7 : decode cL_speaks 7 = .ok (.aload_n 1, 1) := by decide +kernel
theorem dL_speaks_8 : decode cL_speaks 8 = .ok (.getfield 60, 3) := by decide +kernel
theorem dL_speaks_11 : decode cL_speaks 11 = .ok (.invokestatic 268, 3) := by decide +kernel
theorem dL_speaks_14 : decode cL_speaks 14 = .ok (.irem, 1) := by decide +kernel
theorem dL_speaks_15 : decode cL_speaks 15 = .ok (.istore 5, 2) := by decide +kernel
theorem dL_speaks_17 : decode cL_speaks 17 = .ok (.iconst 0, 1) := by decide +kernel
theorem dL_speaks_18 : decode cL_speaks 18 = .ok (.istore 6, 2) := by decide +kernel
theorem dL_speaks_20 : decode cL_speaks 20 = .ok (.iload 6, 2) := by decide +kernel
theorem dL_speaks_22 : decode cL_speaks 22 = .ok (.aload_n 1, 1) := by decide +kernel
theorem dL_speaks_23 : decode cL_speaks 23 = .ok (.getfield 60, 3) := by decide +kernel
theorem dL_speaks_26 : decode cL_speaks 26 = .ok (.if_icmp .ge 30, 3) := by decide +kernel
theorem dL_speaks_29 : decode cL_speaks 29 = .ok (.aload_n 1, 1) := by decide +kernel
theorem dL_speaks_30 : decode cL_speaks 30 = .ok (.getfield 120, 3) := by decide +kernel
theorem dL_speaks_33 : decode cL_speaks 33 = .ok (.iload 5, 2) := by decide +kernel
theorem dL_speaks_35 : decode cL_speaks 35 = .ok (.iaload, 1) := by decide +kernel
theorem dL_speaks_36 : decode cL_speaks 36 = .ok (.ifCond .le 20, 3) := by decide +kernel
theorem dL_speaks_39 : decode cL_speaks 39 = .ok (.iload 5, 2) := by decide +kernel
theorem dL_speaks_41 : decode cL_speaks 41 = .ok (.iconst 1, 1) := by decide +kernel
theorem dL_speaks_42 : decode cL_speaks 42 = .ok (.iadd, 1) := by decide +kernel
theorem dL_speaks_43 : decode cL_speaks 43 = .ok (.aload_n 1, 1) := by decide +kernel
theorem dL_speaks_44 : decode cL_speaks 44 = .ok (.getfield 60, 3) := by decide +kernel
theorem dL_speaks_47 : decode cL_speaks 47 = .ok (.irem, 1) := by decide +kernel
theorem dL_speaks_48 : decode cL_speaks 48 = .ok (.istore 5, 2) := by decide +kernel
theorem dL_speaks_50 : decode cL_speaks 50 = .ok (.iinc 6 1, 3) := by decide +kernel
theorem dL_speaks_53 : decode cL_speaks 53 = .ok (.goto (-33), 3) := by decide +kernel
theorem dL_speaks_56 : decode cL_speaks 56 = .ok (.aload_n 1, 1) := by decide +kernel
theorem dL_speaks_57 : decode cL_speaks 57 = .ok (.getfield 60, 3) := by decide +kernel
theorem dL_speaks_60 : decode cL_speaks 60 = .ok (.ifCond .eq 29, 3) := by decide +kernel
theorem dL_speaks_63 : decode cL_speaks 63 = .ok (.aload_n 1, 1) := by decide +kernel
theorem dL_speaks_64 : decode cL_speaks 64 = .ok (.getfield 120, 3) := by decide +kernel
theorem dL_speaks_67 : decode cL_speaks 67 = .ok (.iload 5, 2) := by decide +kernel
theorem dL_speaks_69 : decode cL_speaks 69 = .ok (.iaload, 1) := by decide +kernel
theorem dL_speaks_70 : decode cL_speaks 70 = .ok (.ifCond .gt 19, 3) := by decide +kernel
theorem dL_speaks_73 : decode cL_speaks 73 = .ok (.aload_n 1, 1) := by decide +kernel
theorem dL_speaks_74 : decode cL_speaks 74 = .ok (.iload_n 3, 1) := by decide +kernel
theorem dL_speaks_75 : decode cL_speaks 75 = .ok (.invokevirtual 99, 3) := by decide +kernel
theorem dL_speaks_78 : decode cL_speaks 78 = .ok (.ifCond .ge 11, 3) := by decide +kernel
theorem dL_speaks_81 : decode cL_speaks 81 = .ok (.aload_n 1, 1) := by decide +kernel
theorem dL_speaks_82 : decode cL_speaks 82 = .ok (.iload_n 3, 1) := by decide +kernel
theorem dL_speaks_83 : decode cL_speaks 83 = .ok (.invokevirtual 93, 3) := by decide +kernel
theorem dL_speaks_86 : decode cL_speaks 86 = .ok (.ifCond .lt 5, 3) := by decide +kernel
theorem dL_speaks_89 : decode cL_speaks 89 = .ok (.iconst (-1), 1) := by decide +kernel
theorem dL_speaks_90 : decode cL_speaks 90 = .ok (.ireturn, 1) := by decide +kernel
theorem dL_speaks_91 : decode cL_speaks 91 = .ok (.iload 4, 2) := by decide +kernel
theorem dL_speaks_93 : decode cL_speaks 93 = .ok (.bipush 7, 2) := by decide +kernel
theorem dL_speaks_95 : decode cL_speaks 95 = .ok (.irem, 1) := by decide +kernel
theorem dL_speaks_96 : decode cL_speaks 96 = .ok (.ifCond .ne 18, 3) := by decide +kernel
theorem dL_speaks_99 : decode cL_speaks 99 = .ok (.iload 4, 2) := by decide +kernel
theorem dL_speaks_101 : decode cL_speaks 101 = .ok (.iconst 2, 1) := by decide +kernel
theorem dL_speaks_102 : decode cL_speaks 102 = .ok (.irem, 1) := by decide +kernel
theorem dL_speaks_103 : decode cL_speaks 103 = .ok (.ifCond .ne 7, 3) := by decide +kernel
theorem dL_speaks_106 : decode cL_speaks 106 = .ok (.iconst 1, 1) := by decide +kernel
theorem dL_speaks_107 : decode cL_speaks 107 = .ok (.goto 27, 3) := by decide +kernel
theorem dL_speaks_110 : decode cL_speaks 110 = .ok (.iconst 0, 1) := by decide +kernel
theorem dL_speaks_111 : decode cL_speaks 111 = .ok (.goto 23, 3) := by decide +kernel
theorem dL_speaks_114 : decode cL_speaks 114 = .ok (.aload_n 1, 1) := by decide +kernel
theorem dL_speaks_115 : decode cL_speaks 115 = .ok (.getfield 67, 3) := by decide +kernel
theorem dL_speaks_118 : decode cL_speaks 118 = .ok (.bipush 16, 2) := by decide +kernel
theorem dL_speaks_120 : decode cL_speaks 120 = .ok (.iload_n 3, 1) := by decide +kernel
theorem dL_speaks_121 : decode cL_speaks 121 = .ok (.imul, 1) := by decide +kernel
theorem dL_speaks_122 : decode cL_speaks 122 = .ok (.iload 5, 2) := by decide +kernel
theorem dL_speaks_124 : decode cL_speaks 124 = .ok (.iadd, 1) := by decide +kernel
theorem dL_speaks_125 : decode cL_speaks 125 = .ok (.iaload, 1) := by decide +kernel
theorem dL_speaks_126 : decode cL_speaks 126 = .ok (.ifCond .le 7, 3) := by decide +kernel
theorem dL_speaks_129 : decode cL_speaks 129 = .ok (.iconst 1, 1) := by decide +kernel
theorem dL_speaks_130 : decode cL_speaks 130 = .ok (.goto 4, 3) := by decide +kernel
theorem dL_speaks_133 : decode cL_speaks 133 = .ok (.iconst 0, 1) := by decide +kernel
theorem dL_speaks_134 : decode cL_speaks 134 = .ok (.istore 6, 2) := by decide +kernel
theorem dL_speaks_136 : decode cL_speaks 136 = .ok (.aload_n 1, 1) := by decide +kernel
theorem dL_speaks_137 : decode cL_speaks 137 = .ok (.invokevirtual 197, 3) := by decide +kernel
theorem dL_speaks_140 : decode cL_speaks 140 = .ok (.istore 7, 2) := by decide +kernel
theorem dL_speaks_142 : decode cL_speaks 142 = .ok (.aload_n 1, 1) := by decide +kernel
theorem dL_speaks_143 : decode cL_speaks 143 = .ok (.getfield 273, 3) := by decide +kernel
theorem dL_speaks_146 : decode cL_speaks 146 = .ok (.iload 7, 2) := by decide +kernel
theorem dL_speaks_148 : decode cL_speaks 148 = .ok (.iconst 1, 1) := by decide +kernel
theorem dL_speaks_149 : decode cL_speaks 149 = .ok (.iload_n 3, 1) := by decide +kernel
theorem dL_speaks_150 : decode cL_speaks 150 = .ok (.iadd, 1) := by decide +kernel
theorem dL_speaks_151 : decode cL_speaks 151 = .ok (.bipush 16, 2) := by decide +kernel
theorem dL_speaks_153 : decode cL_speaks 153 = .ok (.iload 5, 2) := by decide +kernel
theorem dL_speaks_155 : decode cL_speaks 155 = .ok (.imul, 1) := by decide +kernel
theorem dL_speaks_156 : decode cL_speaks 156 = .ok (.iadd, 1) := by decide +kernel
theorem dL_speaks_157 : decode cL_speaks 157 = .ok (.iload 6, 2) := by decide +kernel
theorem dL_speaks_159 : decode cL_speaks 159 = .ok (.ifCond .eq 9, 3) := by decide +kernel
theorem dL_speaks_162 : decode cL_speaks 162 = .ok (.sipush 256, 3) := by decide +kernel
theorem dL_speaks_165 : decode cL_speaks 165 = .ok (.goto 4, 3) := by decide +kernel
theorem dL_speaks_168 : decode cL_speaks 168 = .ok (.iconst 0, 1) := by decide +kernel
theorem dL_speaks_169 : decode cL_speaks 169 = .ok (.iadd, 1) := by decide +kernel
theorem dL_speaks_170 : decode cL_speaks 170 = .ok (.iastore, 1) := by decide +kernel
theorem dL_speaks_171 : decode cL_speaks 171 = .ok (.aload_n 0, 1) := by decide +kernel
theorem dL_speaks_172 : decode cL_speaks 172 = .ok (.iload_n 3, 1) := by decide +kernel
theorem dL_speaks_173 : decode cL_speaks 173 = .ok (.iload 5, 2) := by decide +kernel
theorem dL_speaks_175 : decode cL_speaks 175 = .ok (.iload 6, 2) := by decide +kernel
theorem dL_speaks_177 : decode cL_speaks 177 = .ok (.invokevirtual 276, 3) := by decide +kernel
theorem dL_speaks_180 : decode cL_speaks 180 = .ok (.iload 7, 2) := by decide +kernel
theorem dL_speaks_182 : decode cL_speaks 182 = .ok (.if_icmp .ne 7, 3) := by decide +kernel
theorem dL_speaks_185 : decode cL_speaks 185 = .ok (.iconst 1, 1) := by decide +kernel
theorem dL_speaks_186 : decode cL_speaks 186 = .ok (.goto 4, 3) := by decide +kernel
theorem dL_speaks_189 : decode cL_speaks 189 = .ok (.iconst 0, 1) := by decide +kernel
theorem dL_speaks_190 : decode cL_speaks 190 = .ok (.ireturn, 1) := by decide +kernel
theorem dL_speaks_191 : decode cL_speaks 191 = .ok (.iload 4, 2) := by decide +kernel
theorem dL_speaks_193 : decode cL_speaks 193 = .ok (.aload_n 1, 1) := by decide +kernel
theorem dL_speaks_194 : decode cL_speaks 194 = .ok (.getfield 168, 3) := by decide +kernel
theorem dL_speaks_197 : decode cL_speaks 197 = .ok (.irem, 1) := by decide +kernel
theorem dL_speaks_198 : decode cL_speaks 198 = .ok (.istore 5, 2) := by decide +kernel
theorem dL_speaks_200 : decode cL_speaks 200 = .ok (.iconst 0, 1) := by decide +kernel
theorem dL_speaks_201 : decode cL_speaks 201 = .ok (.istore 6, 2) := by decide +kernel
theorem dL_speaks_203 : decode cL_speaks 203 = .ok (.iload 6, 2) := by decide +kernel
theorem dL_speaks_205 : decode cL_speaks 205 = .ok (.aload_n 1, 1) := by decide +kernel
theorem dL_speaks_206 : decode cL_speaks 206 = .ok (.getfield 168, 3) := by decide +kernel
theorem dL_speaks_209 : decode cL_speaks 209 = .ok (.if_icmp .ge 30, 3) := by decide +kernel
theorem dL_speaks_212 : decode cL_speaks 212 = .ok (.aload_n 1, 1) := by decide +kernel
theorem dL_speaks_213 : decode cL_speaks 213 = .ok (.getfield 171, 3) := by decide +kernel
theorem dL_speaks_216 : decode cL_speaks 216 = .ok (.iload 5, 2) := by decide +kernel
theorem dL_speaks_218 : decode cL_speaks 218 = .ok (.iaload, 1) := by decide +kernel
theorem dL_speaks_219 : decode cL_speaks 219 = .ok (.ifCond .ge 20, 3) := by decide +kernel
theorem dL_speaks_222 : decode cL_speaks 222 = .ok (.iload 5, 2) := by decide +kernel
theorem dL_speaks_224 : decode cL_speaks 224 = .ok (.iconst 1, 1) := by decide +kernel
theorem dL_speaks_225 : decode cL_speaks 225 = .ok (.iadd, 1) := by decide +kernel
theorem dL_speaks_226 : decode cL_speaks 226 = .ok (.aload_n 1, 1) := by decide +kernel
theorem dL_speaks_227 : decode cL_speaks 227 = .ok (.getfield 168, 3) := by decide +kernel
theorem dL_speaks_230 : decode cL_speaks 230 = .ok (.irem, 1) := by decide +kernel
theorem dL_speaks_231 : decode cL_speaks 231 = .ok (.istore 5, 2) := by decide +kernel
theorem dL_speaks_233 : decode cL_speaks 233 = .ok (.iinc 6 1, 3) := by decide +kernel
theorem dL_speaks_236 : decode cL_speaks 236 = .ok (.goto (-33), 3) := by decide +kernel
theorem dL_speaks_239 : decode cL_speaks 239 = .ok (.iload_n 3, 1) := by decide +kernel
theorem dL_speaks_240 : decode cL_speaks 240 = .ok (.istore 6, 2) := by decide +kernel
theorem dL_speaks_242 : decode cL_speaks 242 = .ok (.iconst 0, 1) := by decide +kernel
theorem dL_speaks_243 : decode cL_speaks 243 = .ok (.istore 7, 2) := by decide +kernel
theorem dL_speaks_245 : decode cL_speaks 245 = .ok (.iload 7, 2) := by decide +kernel
theorem dL_speaks_247 : decode cL_speaks 247 = .ok (.aload_n 1, 1) := by decide +kernel
theorem dL_speaks_248 : decode cL_speaks 248 = .ok (.getfield 50, 3) := by decide +kernel
theorem dL_speaks_251 : decode cL_speaks 251 = .ok (.if_icmp .ge 94, 3) := by decide +kernel
theorem dL_speaks_254 : decode cL_speaks 254 = .ok (.aload_n 1, 1) := by decide +kernel
theorem dL_speaks_255 : decode cL_speaks 255 = .ok (.getfield 171, 3) := by decide +kernel
theorem dL_speaks_258 : decode cL_speaks 258 = .ok (.iload 5, 2) := by decide +kernel
theorem dL_speaks_260 : decode cL_speaks 260 = .ok (.iaload, 1) := by decide +kernel
theorem dL_speaks_261 : decode cL_speaks 261 = .ok (.ifCond .lt 84, 3) := by decide +kernel
theorem dL_speaks_264 : decode cL_speaks 264 = .ok (.aload_n 1, 1) := by decide +kernel
theorem dL_speaks_265 : decode cL_speaks 265 = .ok (.iload 6, 2) := by decide +kernel
theorem dL_speaks_267 : decode cL_speaks 267 = .ok (.invokevirtual 93, 3) := by decide +kernel
theorem dL_speaks_270 : decode cL_speaks 270 = .ok (.ifCond .ge 58, 3) := by decide +kernel
theorem dL_speaks_273 : decode cL_speaks 273 = .ok (.aload_n 1, 1) := by decide +kernel
theorem dL_speaks_274 : decode cL_speaks 274 = .ok (.getfield 280, 3) := by decide +kernel
theorem dL_speaks_277 : decode cL_speaks 277 = .ok (.iload 5, 2) := by decide +kernel
theorem dL_speaks_279 : decode cL_speaks 279 = .ok (.baload, 1) := by decide +kernel
theorem dL_speaks_280 : decode cL_speaks 280 = .ok (.ifCond .eq 27, 3) := by decide +kernel
theorem dL_speaks_283 : decode cL_speaks 283 = .ok (.aload_n 1, 1) := by decide +kernel
theorem dL_speaks_284 : decode cL_speaks 284 = .ok (.getfield 67, 3) := by decide +kernel
theorem dL_speaks_287 : decode cL_speaks 287 = .ok (.bipush 16, 2) := by decide +kernel
theorem dL_speaks_289 : decode cL_speaks 289 = .ok (.iload 6, 2) := by decide +kernel
theorem dL_speaks_291 : decode cL_speaks 291 = .ok (.imul, 1) := by decide +kernel
theorem dL_speaks_292 : decode cL_speaks 292 = .ok (.aload_n 1, 1) := by decide +kernel
theorem dL_speaks_293 : decode cL_speaks 293 = .ok (.getfield 191, 3) := by decide +kernel
theorem dL_speaks_296 : decode cL_speaks 296 = .ok (.iload 5, 2) := by decide +kernel
theorem dL_speaks_298 : decode cL_speaks 298 = .ok (.iaload, 1) := by decide +kernel
theorem dL_speaks_299 : decode cL_speaks 299 = .ok (.iadd, 1) := by decide +kernel
theorem dL_speaks_300 : decode cL_speaks 300 = .ok (.iaload, 1) := by decide +kernel
theorem dL_speaks_301 : decode cL_speaks 301 = .ok (.ifCond .lt 44, 3) := by decide +kernel
theorem dL_speaks_304 : decode cL_speaks 304 = .ok (.goto 24, 3) := by decide +kernel
theorem dL_speaks_307 : decode cL_speaks 307 = .ok (.aload_n 1, 1) := by decide +kernel
theorem dL_speaks_308 : decode cL_speaks 308 = .ok (.getfield 67, 3) := by decide +kernel
theorem dL_speaks_311 : decode cL_speaks 311 = .ok (.bipush 16, 2) := by decide +kernel
theorem dL_speaks_313 : decode cL_speaks 313 = .ok (.iload 6, 2) := by decide +kernel
theorem dL_speaks_315 : decode cL_speaks 315 = .ok (.imul, 1) := by decide +kernel
theorem dL_speaks_316 : decode cL_speaks 316 = .ok (.aload_n 1, 1) := by decide +kernel
theorem dL_speaks_317 : decode cL_speaks 317 = .ok (.getfield 191, 3) := by decide +kernel
theorem dL_speaks_320 : decode cL_speaks 320 = .ok (.iload 5, 2) := by decide +kernel
theorem dL_speaks_322 : decode cL_speaks 322 = .ok (.iaload, 1) := by decide +kernel
theorem dL_speaks_323 : decode cL_speaks 323 = .ok (.iadd, 1) := by decide +kernel
theorem dL_speaks_324 : decode cL_speaks 324 = .ok (.iaload, 1) := by decide +kernel
theorem dL_speaks_325 : decode cL_speaks 325 = .ok (.ifCond .gt 20, 3) := by decide +kernel
theorem dL_speaks_328 : decode cL_speaks 328 = .ok (.iload 6, 2) := by decide +kernel
theorem dL_speaks_330 : decode cL_speaks 330 = .ok (.iconst 1, 1) := by decide +kernel
theorem dL_speaks_331 : decode cL_speaks 331 = .ok (.iadd, 1) := by decide +kernel
theorem dL_speaks_332 : decode cL_speaks 332 = .ok (.aload_n 1, 1) := by decide +kernel
theorem dL_speaks_333 : decode cL_speaks 333 = .ok (.getfield 50, 3) := by decide +kernel
theorem dL_speaks_336 : decode cL_speaks 336 = .ok (.irem, 1) := by decide +kernel
theorem dL_speaks_337 : decode cL_speaks 337 = .ok (.istore 6, 2) := by decide +kernel
theorem dL_speaks_339 : decode cL_speaks 339 = .ok (.iinc 7 1, 3) := by decide +kernel
theorem dL_speaks_342 : decode cL_speaks 342 = .ok (.goto (-97), 3) := by decide +kernel
theorem dL_speaks_345 : decode cL_speaks 345 = .ok (.aload_n 1, 1) := by decide +kernel
theorem dL_speaks_346 : decode cL_speaks 346 = .ok (.getfield 171, 3) := by decide +kernel
theorem dL_speaks_349 : decode cL_speaks 349 = .ok (.iload 5, 2) := by decide +kernel
theorem dL_speaks_351 : decode cL_speaks 351 = .ok (.iaload, 1) := by decide +kernel
theorem dL_speaks_352 : decode cL_speaks 352 = .ok (.ifCond .lt 84, 3) := by decide +kernel
theorem dL_speaks_355 : decode cL_speaks 355 = .ok (.aload_n 1, 1) := by decide +kernel
theorem dL_speaks_356 : decode cL_speaks 356 = .ok (.getfield 185, 3) := by decide +kernel
theorem dL_speaks_359 : decode cL_speaks 359 = .ok (.iload 5, 2) := by decide +kernel
theorem dL_speaks_361 : decode cL_speaks 361 = .ok (.baload, 1) := by decide +kernel
theorem dL_speaks_362 : decode cL_speaks 362 = .ok (.ifCond .ne 74, 3) := by decide +kernel
theorem dL_speaks_365 : decode cL_speaks 365 = .ok (.aload_n 1, 1) := by decide +kernel
theorem dL_speaks_366 : decode cL_speaks 366 = .ok (.invokevirtual 221, 3) := by decide +kernel
theorem dL_speaks_369 : decode cL_speaks 369 = .ok (.ifCond .eq 67, 3) := by decide +kernel
theorem dL_speaks_372 : decode cL_speaks 372 = .ok (.aload_n 1, 1) := by decide +kernel
theorem dL_speaks_373 : decode cL_speaks 373 = .ok (.iload 6, 2) := by decide +kernel
theorem dL_speaks_375 : decode cL_speaks 375 = .ok (.invokevirtual 93, 3) := by decide +kernel
theorem dL_speaks_378 : decode cL_speaks 378 = .ok (.ifCond .ge 58, 3) := by decide +kernel
theorem dL_speaks_381 : decode cL_speaks 381 = .ok (.aload_n 1, 1) := by decide +kernel
theorem dL_speaks_382 : decode cL_speaks 382 = .ok (.getfield 280, 3) := by decide +kernel
theorem dL_speaks_385 : decode cL_speaks 385 = .ok (.iload 5, 2) := by decide +kernel
theorem dL_speaks_387 : decode cL_speaks 387 = .ok (.baload, 1) := by decide +kernel
theorem dL_speaks_388 : decode cL_speaks 388 = .ok (.ifCond .eq 27, 3) := by decide +kernel
theorem dL_speaks_391 : decode cL_speaks 391 = .ok (.aload_n 1, 1) := by decide +kernel
theorem dL_speaks_392 : decode cL_speaks 392 = .ok (.getfield 67, 3) := by decide +kernel
theorem dL_speaks_395 : decode cL_speaks 395 = .ok (.bipush 16, 2) := by decide +kernel
theorem dL_speaks_397 : decode cL_speaks 397 = .ok (.iload 6, 2) := by decide +kernel
theorem dL_speaks_399 : decode cL_speaks 399 = .ok (.imul, 1) := by decide +kernel
theorem dL_speaks_400 : decode cL_speaks 400 = .ok (.aload_n 1, 1) := by decide +kernel
theorem dL_speaks_401 : decode cL_speaks 401 = .ok (.getfield 191, 3) := by decide +kernel
theorem dL_speaks_404 : decode cL_speaks 404 = .ok (.iload 5, 2) := by decide +kernel
theorem dL_speaks_406 : decode cL_speaks 406 = .ok (.iaload, 1) := by decide +kernel
theorem dL_speaks_407 : decode cL_speaks 407 = .ok (.iadd, 1) := by decide +kernel
theorem dL_speaks_408 : decode cL_speaks 408 = .ok (.iaload, 1) := by decide +kernel
theorem dL_speaks_409 : decode cL_speaks 409 = .ok (.ifCond .lt 29, 3) := by decide +kernel
theorem dL_speaks_412 : decode cL_speaks 412 = .ok (.goto 24, 3) := by decide +kernel
theorem dL_speaks_415 : decode cL_speaks 415 = .ok (.aload_n 1, 1) := by decide +kernel
theorem dL_speaks_416 : decode cL_speaks 416 = .ok (.getfield 67, 3) := by decide +kernel
theorem dL_speaks_419 : decode cL_speaks 419 = .ok (.bipush 16, 2) := by decide +kernel
theorem dL_speaks_421 : decode cL_speaks 421 = .ok (.iload 6, 2) := by decide +kernel
theorem dL_speaks_423 : decode cL_speaks 423 = .ok (.imul, 1) := by decide +kernel
theorem dL_speaks_424 : decode cL_speaks 424 = .ok (.aload_n 1, 1) := by decide +kernel
theorem dL_speaks_425 : decode cL_speaks 425 = .ok (.getfield 191, 3) := by decide +kernel
theorem dL_speaks_428 : decode cL_speaks 428 = .ok (.iload 5, 2) := by decide +kernel
theorem dL_speaks_430 : decode cL_speaks 430 = .ok (.iaload, 1) := by decide +kernel
theorem dL_speaks_431 : decode cL_speaks 431 = .ok (.iadd, 1) := by decide +kernel
theorem dL_speaks_432 : decode cL_speaks 432 = .ok (.iaload, 1) := by decide +kernel
theorem dL_speaks_433 : decode cL_speaks 433 = .ok (.ifCond .gt 5, 3) := by decide +kernel
theorem dL_speaks_436 : decode cL_speaks 436 = .ok (.iconst (-1), 1) := by decide +kernel
theorem dL_speaks_437 : decode cL_speaks 437 = .ok (.ireturn, 1) := by decide +kernel
theorem dL_speaks_438 : decode cL_speaks 438 = .ok (.aload_n 1, 1) := by decide +kernel
theorem dL_speaks_439 : decode cL_speaks 439 = .ok (.getfield 185, 3) := by decide +kernel
theorem dL_speaks_442 : decode cL_speaks 442 = .ok (.iload 5, 2) := by decide +kernel
theorem dL_speaks_444 : decode cL_speaks 444 = .ok (.iconst 1, 1) := by decide +kernel
theorem dL_speaks_445 : decode cL_speaks 445 = .ok (.bastore, 1) := by decide +kernel
theorem dL_speaks_446 : decode cL_speaks 446 = .ok (.aload_n 1, 1) := by decide +kernel
theorem dL_speaks_447 : decode cL_speaks 447 = .ok (.dup, 1) := by decide +kernel
theorem dL_speaks_448 : decode cL_speaks 448 = .ok (.getfield 246, 3) := by decide +kernel
theorem dL_speaks_451 : decode cL_speaks 451 = .ok (.iconst 1, 1) := by decide +kernel
theorem dL_speaks_452 : decode cL_speaks 452 = .ok (.iadd, 1) := by decide +kernel
theorem dL_speaks_453 : decode cL_speaks 453 = .ok (.putfield 246, 3) := by decide +kernel
theorem dL_speaks_456 : decode cL_speaks 456 = .ok (.aload_n 0, 1) := by decide +kernel
theorem dL_speaks_457 : decode cL_speaks 457 = .ok (.iload 6, 2) := by decide +kernel
theorem dL_speaks_459 : decode cL_speaks 459 = .ok (.iload 5, 2) := by decide +kernel
theorem dL_speaks_461 : decode cL_speaks 461 = .ok (.invokevirtual 283, 3) := by decide +kernel
theorem dL_speaks_464 : decode cL_speaks 464 = .ok (.aload_n 1, 1) := by decide +kernel
theorem dL_speaks_465 : decode cL_speaks 465 = .ok (.invokevirtual 221, 3) := by decide +kernel
theorem dL_speaks_468 : decode cL_speaks 468 = .ok (.if_icmp .ne 7, 3) := by decide +kernel
theorem dL_speaks_471 : decode cL_speaks 471 = .ok (.iconst 1, 1) := by decide +kernel
theorem dL_speaks_472 : decode cL_speaks 472 = .ok (.goto 4, 3) := by decide +kernel
theorem dL_speaks_475 : decode cL_speaks 475 = .ok (.iconst 0, 1) := by decide +kernel
theorem dL_speaks_476 : decode cL_speaks 476 = .ok (.ireturn, 1) := by decide +kernel
theorem dL_decides_0 : decode cL_decides 0 = .ok (.iload_n 3, 1) := by decide +kernel
theorem dL_decides_1 : decode cL_decides 1 = .ok (.iconst 1, 1) := by decide +kernel
theorem dL_decides_2 : decode cL_decides 2 = .ok (.aload_n 1, 1) := by decide +kernel
theorem dL_decides_3 : decode cL_decides 3 = .ok (.getfield 60, 3) := by decide +kernel
theorem dL_decides_6 : decode cL_decides 6 = .ok (.invokestatic 268, 3) := by decide +kernel
theorem dL_decides_9 : decode cL_decides 9 = .ok (.irem, 1) := by decide +kernel
theorem dL_decides_10 : decode cL_decides 10 = .ok (.istore 4, 2) := by decide +kernel
theorem dL_decides_12 : decode cL_decides 12 = .ok (.iconst 0, 1) := by decide +kernel
theorem dL_decides_13 : decode cL_decides 13 = .ok (.istore 5, 2) := by decide +kernel
theorem dL_decides_15 : decode cL_decides 15 = .ok (.iload 5, 2) := by decide +kernel
theorem dL_decides_17 : decode cL_decides 17 = .ok (.aload_n 1, 1) := by decide +kernel
theorem dL_decides_18 : decode cL_decides 18 = .ok (.getfield 60, 3) := by decide +kernel
theorem dL_decides_21 : decode cL_decides 21 = .ok (.if_icmp .ge 46, 3) := by decide +kernel
theorem dL_decides_24 : decode cL_decides 24 = .ok (.iload_n 2, 1) := by decide +kernel
theorem dL_decides_25 : decode cL_decides 25 = .ok (.ifCond .eq 15, 3) := by decide +kernel
theorem dL_decides_28 : decode cL_decides 28 = .ok (.aload_n 1, 1) := by decide +kernel
theorem dL_decides_29 : decode cL_decides 29 = .ok (.iload 4, 2) := by decide +kernel
theorem dL_decides_31 : decode cL_decides 31 = .ok (.invokevirtual 146, 3) := by decide +kernel
theorem dL_decides_34 : decode cL_decides 34 = .ok (.ifCond .le 33, 3) := by decide +kernel
theorem dL_decides_37 : decode cL_decides 37 = .ok (.goto 13, 3) := by decide +kernel
theorem dL_decides_40 : decode cL_decides 40 = .ok (.aload_n 1, 1) := by decide +kernel
theorem dL_decides_41 : decode cL_decides 41 = .ok (.getfield 120, 3) := by decide +kernel
theorem dL_decides_44 : decode cL_decides 44 = .ok (.iload 4, 2) := by decide +kernel
theorem dL_decides_46 : decode cL_decides 46 = .ok (.iaload, 1) := by decide +kernel
theorem dL_decides_47 : decode cL_decides 47 = .ok (.ifCond .le 20, 3) := by decide +kernel
theorem dL_decides_50 : decode cL_decides 50 = .ok (.iload 4, 2) := by decide +kernel
theorem dL_decides_52 : decode cL_decides 52 = .ok (.iconst 1, 1) := by decide +kernel
theorem dL_decides_53 : decode cL_decides 53 = .ok (.iadd, 1) := by decide +kernel
theorem dL_decides_54 : decode cL_decides 54 = .ok (.aload_n 1, 1) := by decide +kernel
theorem dL_decides_55 : decode cL_decides 55 = .ok (.getfield 60, 3) := by decide +kernel
theorem dL_decides_58 : decode cL_decides 58 = .ok (.irem, 1) := by decide +kernel
theorem dL_decides_59 : decode cL_decides 59 = .ok (.istore 4, 2) := by decide +kernel
theorem dL_decides_61 : decode cL_decides 61 = .ok (.iinc 5 1, 3) := by decide +kernel
theorem dL_decides_64 : decode cL_decides 64 = .ok (.goto (-49), 3) := by decide +kernel
theorem dL_decides_67 : decode cL_decides 67 = .ok (.aload_n 1, 1) := by decide +kernel
theorem dL_decides_68 : decode cL_decides 68 = .ok (.getfield 60, 3) := by decide +kernel
theorem dL_decides_71 : decode cL_decides 71 = .ok (.ifCond .eq 35, 3) := by decide +kernel
theorem dL_decides_74 : decode cL_decides 74 = .ok (.iload_n 2, 1) := by decide +kernel
theorem dL_decides_75 : decode cL_decides 75 = .ok (.ifCond .eq 12, 3) := by decide +kernel
theorem dL_decides_78 : decode cL_decides 78 = .ok (.aload_n 1, 1) := by decide +kernel
theorem dL_decides_79 : decode cL_decides 79 = .ok (.iload 4, 2) := by decide +kernel
theorem dL_decides_81 : decode cL_decides 81 = .ok (.invokevirtual 146, 3) := by decide +kernel
theorem dL_decides_84 : decode cL_decides 84 = .ok (.ifCond .gt 22, 3) := by decide +kernel
theorem dL_decides_87 : decode cL_decides 87 = .ok (.aload_n 1, 1) := by decide +kernel
theorem dL_decides_88 : decode cL_decides 88 = .ok (.getfield 120, 3) := by decide +kernel
theorem dL_decides_91 : decode cL_decides 91 = .ok (.iload 4, 2) := by decide +kernel
theorem dL_decides_93 : decode cL_decides 93 = .ok (.iaload, 1) := by decide +kernel
theorem dL_decides_94 : decode cL_decides 94 = .ok (.ifCond .gt 12, 3) := by decide +kernel
theorem dL_decides_97 : decode cL_decides 97 = .ok (.aload_n 1, 1) := by decide +kernel
theorem dL_decides_98 : decode cL_decides 98 = .ok (.iload 4, 2) := by decide +kernel
theorem dL_decides_100 : decode cL_decides 100 = .ok (.invokevirtual 286, 3) := by decide +kernel
theorem dL_decides_103 : decode cL_decides 103 = .ok (.ifCond .eq 5, 3) := by decide +kernel
theorem dL_decides_106 : decode cL_decides 106 = .ok (.iconst (-1), 1) := by decide +kernel
theorem dL_decides_107 : decode cL_decides 107 = .ok (.ireturn, 1) := by decide +kernel
theorem dL_decides_108 : decode cL_decides 108 = .ok (.iload_n 2, 1) := by decide +kernel
theorem dL_decides_109 : decode cL_decides 109 = .ok (.ifCond .eq 24, 3) := by decide +kernel
theorem dL_decides_112 : decode cL_decides 112 = .ok (.aload_n 0, 1) := by decide +kernel
theorem dL_decides_113 : decode cL_decides 113 = .ok (.iload 4, 2) := by decide +kernel
theorem dL_decides_115 : decode cL_decides 115 = .ok (.invokevirtual 289, 3) := by decide +kernel
theorem dL_decides_118 : decode cL_decides 118 = .ok (.aload_n 1, 1) := by decide +kernel
theorem dL_decides_119 : decode cL_decides 119 = .ok (.iload 4, 2) := by decide +kernel
theorem dL_decides_121 : decode cL_decides 121 = .ok (.invokevirtual 292, 3) := by decide +kernel
theorem dL_decides_124 : decode cL_decides 124 = .ok (.if_icmp .ne 7, 3) := by decide +kernel
theorem dL_decides_127 : decode cL_decides 127 = .ok (.iconst 1, 1) := by decide +kernel
theorem dL_decides_128 : decode cL_decides 128 = .ok (.goto 4, 3) := by decide +kernel
theorem dL_decides_131 : decode cL_decides 131 = .ok (.iconst 0, 1) := by decide +kernel
theorem dL_decides_132 : decode cL_decides 132 = .ok (.ireturn, 1) := by decide +kernel
theorem dL_decides_133 : decode cL_decides 133 = .ok (.aload_n 1, 1) := by decide +kernel
theorem dL_decides_134 : decode cL_decides 134 = .ok (.getfield 120, 3) := by decide +kernel
theorem dL_decides_137 : decode cL_decides 137 = .ok (.iload 4, 2) := by decide +kernel
theorem dL_decides_139 : decode cL_decides 139 = .ok (.iconst 3, 1) := by decide +kernel
theorem dL_decides_140 : decode cL_decides 140 = .ok (.iastore, 1) := by decide +kernel
theorem dL_decides_141 : decode cL_decides 141 = .ok (.aload_n 0, 1) := by decide +kernel
theorem dL_decides_142 : decode cL_decides 142 = .ok (.iload 4, 2) := by decide +kernel
theorem dL_decides_144 : decode cL_decides 144 = .ok (.invokevirtual 294, 3) := by decide +kernel
theorem dL_decides_147 : decode cL_decides 147 = .ok (.aload_n 1, 1) := by decide +kernel
theorem dL_decides_148 : decode cL_decides 148 = .ok (.iload 4, 2) := by decide +kernel
theorem dL_decides_150 : decode cL_decides 150 = .ok (.invokevirtual 297, 3) := by decide +kernel
theorem dL_decides_153 : decode cL_decides 153 = .ok (.if_icmp .ne 7, 3) := by decide +kernel
theorem dL_decides_156 : decode cL_decides 156 = .ok (.iconst 1, 1) := by decide +kernel
theorem dL_decides_157 : decode cL_decides 157 = .ok (.goto 4, 3) := by decide +kernel
theorem dL_decides_160 : decode cL_decides 160 = .ok (.iconst 0, 1) := by decide +kernel
theorem dL_decides_161 : decode cL_decides 161 = .ok (.ireturn, 1) := by decide +kernel
theorem dL_acts_0 : decode cL_acts 0 = .ok (.aload_n 2, 1) := by decide +kernel
theorem dL_acts_1 : decode cL_acts 1 = .ok (.iload_n 3, 1) := by decide +kernel
theorem dL_acts_2 : decode cL_acts 2 = .ok (.bipush 22, 2) := by decide +kernel
theorem dL_acts_4 : decode cL_acts 4 = .ok (.invokestatic 300, 3) := by decide +kernel
theorem dL_acts_7 : decode cL_acts 7 = .ok (.istore 4, 2) := by decide +kernel
theorem dL_acts_9 : decode cL_acts 9 = .ok (.aload_n 2, 1) := by decide +kernel
theorem dL_acts_10 : decode cL_acts 10 = .ok (.iload_n 3, 1) := by decide +kernel
theorem dL_acts_11 : decode cL_acts 11 = .ok (.iconst 1, 1) := by decide +kernel
theorem dL_acts_12 : decode cL_acts 12 = .ok (.iadd, 1) := by decide +kernel
theorem dL_acts_13 : decode cL_acts 13 = .ok (.aload_n 1, 1) := by decide +kernel
theorem dL_acts_14 : decode cL_acts 14 = .ok (.getfield 50, 3) := by decide +kernel
theorem dL_acts_17 : decode cL_acts 17 = .ok (.invokestatic 300, 3) := by decide +kernel
theorem dL_acts_20 : decode cL_acts 20 = .ok (.istore 5, 2) := by decide +kernel
theorem dL_acts_22 : decode cL_acts 22 = .ok (.aload_n 2, 1) := by decide +kernel
theorem dL_acts_23 : decode cL_acts 23 = .ok (.iload_n 3, 1) := by decide +kernel
theorem dL_acts_24 : decode cL_acts 24 = .ok (.iconst 2, 1) := by decide +kernel
theorem dL_acts_25 : decode cL_acts 25 = .ok (.iadd, 1) := by decide +kernel
theorem dL_acts_26 : decode cL_acts 26 = .ok (.sipush 1000, 3) := by decide +kernel
theorem dL_acts_29 : decode cL_acts 29 = .ok (.invokestatic 300, 3) := by decide +kernel
theorem dL_acts_32 : decode cL_acts 32 = .ok (.istore 6, 2) := by decide +kernel
theorem dL_acts_34 : decode cL_acts 34 = .ok (.iload 4, 2) := by decide +kernel
theorem dL_acts_36 : decode cL_acts 36 = .ok (.iconst 3, 1) := by decide +kernel
theorem dL_acts_37 : decode cL_acts 37 = .ok (.if_icmp .lt 10, 3) := by decide +kernel
theorem dL_acts_40 : decode cL_acts 40 = .ok (.aload_n 1, 1) := by decide +kernel
theorem dL_acts_41 : decode cL_acts 41 = .ok (.getfield 60, 3) := by decide +kernel
theorem dL_acts_44 : decode cL_acts 44 = .ok (.ifCond .ne 110, 3) := by decide +kernel
theorem dL_acts_47 : decode cL_acts 47 = .ok (.aload_n 1, 1) := by decide +kernel
theorem dL_acts_48 : decode cL_acts 48 = .ok (.getfield 60, 3) := by decide +kernel
theorem dL_acts_51 : decode cL_acts 51 = .ok (.bipush 16, 2) := by decide +kernel
theorem dL_acts_53 : decode cL_acts 53 = .ok (.if_icmp .ne 5, 3) := by decide +kernel
theorem dL_acts_56 : decode cL_acts 56 = .ok (.iconst (-1), 1) := by decide +kernel
theorem dL_acts_57 : decode cL_acts 57 = .ok (.ireturn, 1) := by decide +kernel
theorem dL_acts_58 : decode cL_acts 58 = .ok (.aload_n 1, 1) := by decide +kernel
theorem dL_acts_59 : decode cL_acts 59 = .ok (.getfield 60, 3) := by decide +kernel
theorem dL_acts_62 : decode cL_acts 62 = .ok (.istore 7, 2) := by decide +kernel
theorem dL_acts_64 : decode cL_acts 64 = .ok (.aload_n 1, 1) := by decide +kernel
theorem dL_acts_65 : decode cL_acts 65 = .ok (.getfield 115, 3) := by decide +kernel
theorem dL_acts_68 : decode cL_acts 68 = .ok (.iload 7, 2) := by decide +kernel
theorem dL_acts_70 : decode cL_acts 70 = .ok (.iload 5, 2) := by decide +kernel
theorem dL_acts_72 : decode cL_acts 72 = .ok (.iastore, 1) := by decide +kernel
theorem dL_acts_73 : decode cL_acts 73 = .ok (.iconst 0, 1) := by decide +kernel
theorem dL_acts_74 : decode cL_acts 74 = .ok (.istore 8, 2) := by decide +kernel
theorem dL_acts_76 : decode cL_acts 76 = .ok (.iload 8, 2) := by decide +kernel
theorem dL_acts_78 : decode cL_acts 78 = .ok (.aload_n 1, 1) := by decide +kernel
theorem dL_acts_79 : decode cL_acts 79 = .ok (.getfield 50, 3) := by decide +kernel
theorem dL_acts_82 : decode cL_acts 82 = .ok (.if_icmp .ge 40, 3) := by decide +kernel
theorem dL_acts_85 : decode cL_acts 85 = .ok (.aload_n 1, 1) := by decide +kernel
theorem dL_acts_86 : decode cL_acts 86 = .ok (.getfield 67, 3) := by decide +kernel
theorem dL_acts_89 : decode cL_acts 89 = .ok (.bipush 16, 2) := by decide +kernel
theorem dL_acts_91 : decode cL_acts 91 = .ok (.iload 8, 2) := by decide +kernel
theorem dL_acts_93 : decode cL_acts 93 = .ok (.imul, 1) := by decide +kernel
theorem dL_acts_94 : decode cL_acts 94 = .ok (.iload 7, 2) := by decide +kernel
theorem dL_acts_96 : decode cL_acts 96 = .ok (.iadd, 1) := by decide +kernel
theorem dL_acts_97 : decode cL_acts 97 = .ok (.iconst 5, 1) := by decide +kernel
theorem dL_acts_98 : decode cL_acts 98 = .ok (.aload_n 1, 1) := by decide +kernel
theorem dL_acts_99 : decode cL_acts 99 = .ok (.getfield 304, 3) := by decide +kernel
theorem dL_acts_102 : decode cL_acts 102 = .ok (.iload 8, 2) := by decide +kernel
theorem dL_acts_104 : decode cL_acts 104 = .ok (.iaload, 1) := by decide +kernel
theorem dL_acts_105 : decode cL_acts 105 = .ok (.iload 6, 2) := by decide +kernel
theorem dL_acts_107 : decode cL_acts 107 = .ok (.bipush 21, 2) := by decide +kernel
theorem dL_acts_109 : decode cL_acts 109 = .ok (.irem, 1) := by decide +kernel
theorem dL_acts_110 : decode cL_acts 110 = .ok (.isub, 1) := by decide +kernel
theorem dL_acts_111 : decode cL_acts 111 = .ok (.invokestatic 307, 3) := by decide +kernel
theorem dL_acts_114 : decode cL_acts 114 = .ok (.isub, 1) := by decide +kernel
theorem dL_acts_115 : decode cL_acts 115 = .ok (.iastore, 1) := by decide +kernel
theorem dL_acts_116 : decode cL_acts 116 = .ok (.iinc 8 1, 3) := by decide +kernel
theorem dL_acts_119 : decode cL_acts 119 = .ok (.goto (-43), 3) := by decide +kernel
theorem dL_acts_122 : decode cL_acts 122 = .ok (.aload_n 1, 1) := by decide +kernel
theorem dL_acts_123 : decode cL_acts 123 = .ok (.dup, 1) := by decide +kernel
theorem dL_acts_124 : decode cL_acts 124 = .ok (.getfield 60, 3) := by decide +kernel
theorem dL_acts_127 : decode cL_acts 127 = .ok (.iconst 1, 1) := by decide +kernel
theorem dL_acts_128 : decode cL_acts 128 = .ok (.iadd, 1) := by decide +kernel
theorem dL_acts_129 : decode cL_acts 129 = .ok (.putfield 60, 3) := by decide +kernel
theorem dL_acts_132 : decode cL_acts 132 = .ok (.aload_n 0, 1) := by decide +kernel
theorem dL_acts_133 : decode cL_acts 133 = .ok (.iload 5, 2) := by decide +kernel
theorem dL_acts_135 : decode cL_acts 135 = .ok (.iload 6, 2) := by decide +kernel
theorem dL_acts_137 : decode cL_acts 137 = .ok (.bipush 21, 2) := by decide +kernel
theorem dL_acts_139 : decode cL_acts 139 = .ok (.irem, 1) := by decide +kernel
theorem dL_acts_140 : decode cL_acts 140 = .ok (.invokevirtual 310, 3) := by decide +kernel
theorem dL_acts_143 : decode cL_acts 143 = .ok (.iload 7, 2) := by decide +kernel
theorem dL_acts_145 : decode cL_acts 145 = .ok (.if_icmp .ne 7, 3) := by decide +kernel
theorem dL_acts_148 : decode cL_acts 148 = .ok (.iconst 1, 1) := by decide +kernel
theorem dL_acts_149 : decode cL_acts 149 = .ok (.goto 4, 3) := by decide +kernel
theorem dL_acts_152 : decode cL_acts 152 = .ok (.iconst 0, 1) := by decide +kernel
theorem dL_acts_153 : decode cL_acts 153 = .ok (.ireturn, 1) := by decide +kernel
theorem dL_acts_154 : decode cL_acts 154 = .ok (.iload 4, 2) := by decide +kernel
theorem dL_acts_156 : decode cL_acts 156 = .ok (.bipush 11, 2) := by decide +kernel
theorem dL_acts_158 : decode cL_acts 158 = .ok (.if_icmp .ge 25, 3) := by decide +kernel
theorem dL_acts_161 : decode cL_acts 161 = .ok (.aload_n 0, 1) := by decide +kernel
theorem dL_acts_162 : decode cL_acts 162 = .ok (.aload_n 1, 1) := by decide +kernel
theorem dL_acts_163 : decode cL_acts 163 = .ok (.iload 4, 2) := by decide +kernel
theorem dL_acts_165 : decode cL_acts 165 = .ok (.bipush 9, 2) := by decide +kernel
theorem dL_acts_167 : decode cL_acts 167 = .ok (.if_icmp .ge 7, 3) := by decide +kernel
theorem dL_acts_170 : decode cL_acts 170 = .ok (.iconst 1, 1) := by decide +kernel
theorem dL_acts_171 : decode cL_acts 171 = .ok (.goto 4, 3) := by decide +kernel
theorem dL_acts_174 : decode cL_acts 174 = .ok (.iconst 0, 1) := by decide +kernel
theorem dL_acts_175 : decode cL_acts 175 = .ok (.iload 5, 2) := by decide +kernel
theorem dL_acts_177 : decode cL_acts 177 = .ok (.iload 6, 2) := by decide +kernel
theorem dL_acts_179 : decode cL_acts 179 = .ok (.invokestatic 313, 3) := by decide +kernel
theorem dL_acts_182 : decode cL_acts 182 = .ok (.ireturn, 1) := by decide +kernel
theorem dL_acts_183 : decode cL_acts 183 = .ok (.iload 4, 2) := by decide +kernel
theorem dL_acts_185 : decode cL_acts 185 = .ok (.bipush 14, 2) := by decide +kernel
theorem dL_acts_187 : decode cL_acts 187 = .ok (.if_icmp .ge 30, 3) := by decide +kernel
theorem dL_acts_190 : decode cL_acts 190 = .ok (.aload_n 0, 1) := by decide +kernel
theorem dL_acts_191 : decode cL_acts 191 = .ok (.aload_n 1, 1) := by decide +kernel
theorem dL_acts_192 : decode cL_acts 192 = .ok (.iload 4, 2) := by decide +kernel
theorem dL_acts_194 : decode cL_acts 194 = .ok (.bipush 13, 2) := by decide +kernel
theorem dL_acts_196 : decode cL_acts 196 = .ok (.if_icmp .lt 10, 3) := by decide +kernel
theorem dL_acts_199 : decode cL_acts 199 = .ok (.iload 6, 2) := by decide +kernel
theorem dL_acts_201 : decode cL_acts 201 = .ok (.iconst 3, 1) := by decide +kernel
theorem dL_acts_202 : decode cL_acts 202 = .ok (.irem, 1) := by decide +kernel
theorem dL_acts_203 : decode cL_acts 203 = .ok (.ifCond .le 7, 3) := by decide +kernel
theorem dL_acts_206 : decode cL_acts 206 = .ok (.iconst 1, 1) := by decide +kernel
theorem dL_acts_207 : decode cL_acts 207 = .ok (.goto 4, 3) := by decide +kernel
theorem dL_acts_210 : decode cL_acts 210 = .ok (.iconst 0, 1) := by decide +kernel
theorem dL_acts_211 : decode cL_acts 211 = .ok (.iload 6, 2) := by decide +kernel
theorem dL_acts_213 : decode cL_acts 213 = .ok (.invokestatic 317, 3) := by decide +kernel
theorem dL_acts_216 : decode cL_acts 216 = .ok (.ireturn, 1) := by decide +kernel
theorem dL_acts_217 : decode cL_acts 217 = .ok (.iload 4, 2) := by decide +kernel
theorem dL_acts_219 : decode cL_acts 219 = .ok (.bipush 14, 2) := by decide +kernel
theorem dL_acts_221 : decode cL_acts 221 = .ok (.if_icmp .ne 78, 3) := by decide +kernel
theorem dL_acts_224 : decode cL_acts 224 = .ok (.aload_n 1, 1) := by decide +kernel
theorem dL_acts_225 : decode cL_acts 225 = .ok (.getfield 81, 3) := by decide +kernel
theorem dL_acts_228 : decode cL_acts 228 = .ok (.iload 5, 2) := by decide +kernel
theorem dL_acts_230 : decode cL_acts 230 = .ok (.iaload, 1) := by decide +kernel
theorem dL_acts_231 : decode cL_acts 231 = .ok (.iconst 5, 1) := by decide +kernel
theorem dL_acts_232 : decode cL_acts 232 = .ok (.if_icmp .eq 14, 3) := by decide +kernel
theorem dL_acts_235 : decode cL_acts 235 = .ok (.aload_n 1, 1) := by decide +kernel
theorem dL_acts_236 : decode cL_acts 236 = .ok (.getfield 76, 3) := by decide +kernel
theorem dL_acts_239 : decode cL_acts 239 = .ok (.iload 5, 2) := by decide +kernel
theorem dL_acts_241 : decode cL_acts 241 = .ok (.iaload, 1) := by decide +kernel
theorem dL_acts_242 : decode cL_acts 242 = .ok (.iconst 2, 1) := by decide +kernel
theorem dL_acts_243 : decode cL_acts 243 = .ok (.if_icmp .ge 5, 3) := by decide +kernel
theorem dL_acts_246 : decode cL_acts 246 = .ok (.iconst (-1), 1) := by decide +kernel
theorem dL_acts_247 : decode cL_acts 247 = .ok (.ireturn, 1) := by decide +kernel
theorem dL_acts_248 : decode cL_acts 248 = .ok (.aload_n 1, 1) := by decide +kernel
theorem dL_acts_249 : decode cL_acts 249 = .ok (.getfield 81, 3) := by decide +kernel
theorem dL_acts_252 : decode cL_acts 252 = .ok (.iload 5, 2) := by decide +kernel
theorem dL_acts_254 : decode cL_acts 254 = .ok (.iconst 5, 1) := by decide +kernel
theorem dL_acts_255 : decode cL_acts 255 = .ok (.iastore, 1) := by decide +kernel
theorem dL_acts_256 : decode cL_acts 256 = .ok (.aload_n 1, 1) := by decide +kernel
theorem dL_acts_257 : decode cL_acts 257 = .ok (.getfield 76, 3) := by decide +kernel
theorem dL_acts_260 : decode cL_acts 260 = .ok (.iload 5, 2) := by decide +kernel
theorem dL_acts_262 : decode cL_acts 262 = .ok (.dup2, 1) := by decide +kernel
theorem dL_acts_263 : decode cL_acts 263 = .ok (.iaload, 1) := by decide +kernel
theorem dL_acts_264 : decode cL_acts 264 = .ok (.iconst 2, 1) := by decide +kernel
theorem dL_acts_265 : decode cL_acts 265 = .ok (.isub, 1) := by decide +kernel
theorem dL_acts_266 : decode cL_acts 266 = .ok (.iastore, 1) := by decide +kernel
theorem dL_acts_267 : decode cL_acts 267 = .ok (.aload_n 1, 1) := by decide +kernel
theorem dL_acts_268 : decode cL_acts 268 = .ok (.dup, 1) := by decide +kernel
theorem dL_acts_269 : decode cL_acts 269 = .ok (.getfield 321, 3) := by decide +kernel
theorem dL_acts_272 : decode cL_acts 272 = .ok (.iconst 1, 1) := by decide +kernel
theorem dL_acts_273 : decode cL_acts 273 = .ok (.iadd, 1) := by decide +kernel
theorem dL_acts_274 : decode cL_acts 274 = .ok (.putfield 321, 3) := by decide +kernel
theorem dL_acts_277 : decode cL_acts 277 = .ok (.aload_n 0, 1) := by decide +kernel
theorem dL_acts_278 : decode cL_acts 278 = .ok (.iload 5, 2) := by decide +kernel
theorem dL_acts_280 : decode cL_acts 280 = .ok (.invokevirtual 324, 3) := by decide +kernel
theorem dL_acts_283 : decode cL_acts 283 = .ok (.aload_n 1, 1) := by decide +kernel
theorem dL_acts_284 : decode cL_acts 284 = .ok (.getfield 76, 3) := by decide +kernel
theorem dL_acts_287 : decode cL_acts 287 = .ok (.iload 5, 2) := by decide +kernel
theorem dL_acts_289 : decode cL_acts 289 = .ok (.iaload, 1) := by decide +kernel
theorem dL_acts_290 : decode cL_acts 290 = .ok (.if_icmp .ne 7, 3) := by decide +kernel
theorem dL_acts_293 : decode cL_acts 293 = .ok (.iconst 1, 1) := by decide +kernel
theorem dL_acts_294 : decode cL_acts 294 = .ok (.goto 4, 3) := by decide +kernel
theorem dL_acts_297 : decode cL_acts 297 = .ok (.iconst 0, 1) := by decide +kernel
theorem dL_acts_298 : decode cL_acts 298 = .ok (.ireturn, 1) := by decide +kernel
theorem dL_acts_299 : decode cL_acts 299 = .ok (.iload 4, 2) := by decide +kernel
theorem dL_acts_301 : decode cL_acts 301 = .ok (.bipush 15, 2) := by decide +kernel
theorem dL_acts_303 : decode cL_acts 303 = .ok (.if_icmp .ne 36, 3) := by decide +kernel
theorem dL_acts_306 : decode cL_acts 306 = .ok (.aload_n 1, 1) := by decide +kernel
theorem dL_acts_307 : decode cL_acts 307 = .ok (.getfield 227, 3) := by decide +kernel
theorem dL_acts_310 : decode cL_acts 310 = .ok (.istore 7, 2) := by decide +kernel
theorem dL_acts_312 : decode cL_acts 312 = .ok (.aload_n 1, 1) := by decide +kernel
theorem dL_acts_313 : decode cL_acts 313 = .ok (.iload 6, 2) := by decide +kernel
theorem dL_acts_315 : decode cL_acts 315 = .ok (.iconst 4, 1) := by decide +kernel
theorem dL_acts_316 : decode cL_acts 316 = .ok (.irem, 1) := by decide +kernel
theorem dL_acts_317 : decode cL_acts 317 = .ok (.putfield 227, 3) := by decide +kernel
theorem dL_acts_320 : decode cL_acts 320 = .ok (.aload_n 0, 1) := by decide +kernel
theorem dL_acts_321 : decode cL_acts 321 = .ok (.iload 6, 2) := by decide +kernel
theorem dL_acts_323 : decode cL_acts 323 = .ok (.iconst 4, 1) := by decide +kernel
theorem dL_acts_324 : decode cL_acts 324 = .ok (.irem, 1) := by decide +kernel
theorem dL_acts_325 : decode cL_acts 325 = .ok (.invokevirtual 327, 3) := by decide +kernel
theorem dL_acts_328 : decode cL_acts 328 = .ok (.iload 7, 2) := by decide +kernel
theorem dL_acts_330 : decode cL_acts 330 = .ok (.if_icmp .ne 7, 3) := by decide +kernel
theorem dL_acts_333 : decode cL_acts 333 = .ok (.iconst 1, 1) := by decide +kernel
theorem dL_acts_334 : decode cL_acts 334 = .ok (.goto 4, 3) := by decide +kernel
theorem dL_acts_337 : decode cL_acts 337 = .ok (.iconst 0, 1) := by decide +kernel
theorem dL_acts_338 : decode cL_acts 338 = .ok (.ireturn, 1) := by decide +kernel
theorem dL_acts_339 : decode cL_acts 339 = .ok (.aload_n 1, 1) := by decide +kernel
theorem dL_acts_340 : decode cL_acts 340 = .ok (.getfield 330, 3) := by decide +kernel
theorem dL_acts_343 : decode cL_acts 343 = .ok (.istore 7, 2) := by decide +kernel
theorem dL_acts_345 : decode cL_acts 345 = .ok (.iload 4, 2) := by decide +kernel
theorem dL_acts_347 : decode cL_acts 347 = .ok (.bipush 16, 2) := by decide +kernel
theorem dL_acts_349 : decode cL_acts 349 = .ok (.if_icmp .ne 13, 3) := by decide +kernel
theorem dL_acts_352 : decode cL_acts 352 = .ok (.iconst 1, 1) := by decide +kernel
theorem dL_acts_353 : decode cL_acts 353 = .ok (.iload 6, 2) := by decide +kernel
theorem dL_acts_355 : decode cL_acts 355 = .ok (.bipush 60, 2) := by decide +kernel
theorem dL_acts_357 : decode cL_acts 357 = .ok (.irem, 1) := by decide +kernel
theorem dL_acts_358 : decode cL_acts 358 = .ok (.iadd, 1) := by decide +kernel
theorem dL_acts_359 : decode cL_acts 359 = .ok (.goto 9, 3) := by decide +kernel
theorem dL_acts_362 : decode cL_acts 362 = .ok (.iconst 1, 1) := by decide +kernel
theorem dL_acts_363 : decode cL_acts 363 = .ok (.iload 6, 2) := by decide +kernel
theorem dL_acts_365 : decode cL_acts 365 = .ok (.iconst 5, 1) := by decide +kernel
theorem dL_acts_366 : decode cL_acts 366 = .ok (.irem, 1) := by decide +kernel
theorem dL_acts_367 : decode cL_acts 367 = .ok (.iadd, 1) := by decide +kernel
theorem dL_acts_368 : decode cL_acts 368 = .ok (.istore 8, 2) := by decide +kernel
theorem dL_acts_370 : decode cL_acts 370 = .ok (.iconst 0, 1) := by decide +kernel
theorem dL_acts_371 : decode cL_acts 371 = .ok (.istore 9, 2) := by decide +kernel
theorem dL_acts_373 : decode cL_acts 373 = .ok (.iload 9, 2) := by decide +kernel
theorem dL_acts_375 : decode cL_acts 375 = .ok (.iload 8, 2) := by decide +kernel
theorem dL_acts_377 : decode cL_acts 377 = .ok (.if_icmp .ge 13, 3) := by decide +kernel
theorem dL_acts_380 : decode cL_acts 380 = .ok (.aload_n 1, 1) := by decide +kernel
theorem dL_acts_381 : decode cL_acts 381 = .ok (.invokevirtual 259, 3) := by decide +kernel
theorem dL_acts_384 : decode cL_acts 384 = .ok (.iinc 9 1, 3) := by decide +kernel
theorem dL_acts_387 : decode cL_acts 387 = .ok (.goto (-14), 3) := by decide +kernel
theorem dL_acts_390 : decode cL_acts 390 = .ok (.aload_n 0, 1) := by decide +kernel
theorem dL_acts_391 : decode cL_acts 391 = .ok (.iload 8, 2) := by decide +kernel
theorem dL_acts_393 : decode cL_acts 393 = .ok (.invokevirtual 333, 3) := by decide +kernel
theorem dL_acts_396 : decode cL_acts 396 = .ok (.aload_n 1, 1) := by decide +kernel
theorem dL_acts_397 : decode cL_acts 397 = .ok (.getfield 330, 3) := by decide +kernel
theorem dL_acts_400 : decode cL_acts 400 = .ok (.iload 7, 2) := by decide +kernel
theorem dL_acts_402 : decode cL_acts 402 = .ok (.isub, 1) := by decide +kernel
theorem dL_acts_403 : decode cL_acts 403 = .ok (.if_icmp .ne 7, 3) := by decide +kernel
theorem dL_acts_406 : decode cL_acts 406 = .ok (.iconst 1, 1) := by decide +kernel
theorem dL_acts_407 : decode cL_acts 407 = .ok (.goto 4, 3) := by decide +kernel
theorem dL_acts_410 : decode cL_acts 410 = .ok (.iconst 0, 1) := by decide +kernel
theorem dL_acts_411 : decode cL_acts 411 = .ok (.ireturn, 1) := by decide +kernel
theorem dL_begins_0 : decode cL_begins 0 = .ok (.aload_n 1, 1) := by decide +kernel
theorem dL_begins_1 : decode cL_begins 1 = .ok (.iconst 1, 1) := by decide +kernel
theorem dL_begins_2 : decode cL_begins 2 = .ok (.aload_n 2, 1) := by decide +kernel
theorem dL_begins_3 : decode cL_begins 3 = .ok (.iconst 0, 1) := by decide +kernel
theorem dL_begins_4 : decode cL_begins 4 = .ok (.iconst 4, 1) := by decide +kernel
theorem dL_begins_5 : decode cL_begins 5 = .ok (.invokestatic 300, 3) := by decide +kernel
theorem dL_begins_8 : decode cL_begins 8 = .ok (.iadd, 1) := by decide +kernel
theorem dL_begins_9 : decode cL_begins 9 = .ok (.putfield 168, 3) := by decide +kernel
theorem dL_begins_12 : decode cL_begins 12 = .ok (.aload_n 1, 1) := by decide +kernel
theorem dL_begins_13 : decode cL_begins 13 = .ok (.aload_n 2, 1) := by decide +kernel
theorem dL_begins_14 : decode cL_begins 14 = .ok (.iconst 1, 1) := by decide +kernel
theorem dL_begins_15 : decode cL_begins 15 = .ok (.iconst 4, 1) := by decide +kernel
theorem dL_begins_16 : decode cL_begins 16 = .ok (.invokestatic 300, 3) := by decide +kernel
theorem dL_begins_19 : decode cL_begins 19 = .ok (.putfield 336, 3) := by decide +kernel
theorem dL_begins_22 : decode cL_begins 22 = .ok (.aload_n 1, 1) := by decide +kernel
theorem dL_begins_23 : decode cL_begins 23 = .ok (.iconst 1, 1) := by decide +kernel
theorem dL_begins_24 : decode cL_begins 24 = .ok (.aload_n 2, 1) := by decide +kernel
theorem dL_begins_25 : decode cL_begins 25 = .ok (.iconst 2, 1) := by decide +kernel
theorem dL_begins_26 : decode cL_begins 26 = .ok (.bipush 6, 2) := by decide +kernel
theorem dL_begins_28 : decode cL_begins 28 = .ok (.invokestatic 300, 3) := by decide +kernel
theorem dL_begins_31 : decode cL_begins 31 = .ok (.iadd, 1) := by decide +kernel
theorem dL_begins_32 : decode cL_begins 32 = .ok (.putfield 339, 3) := by decide +kernel
theorem dL_begins_35 : decode cL_begins 35 = .ok (.aload_n 1, 1) := by decide +kernel
theorem dL_begins_36 : decode cL_begins 36 = .ok (.aload_n 2, 1) := by decide +kernel
theorem dL_begins_37 : decode cL_begins 37 = .ok (.iconst 3, 1) := by decide +kernel
theorem dL_begins_38 : decode cL_begins 38 = .ok (.bipush 21, 2) := by decide +kernel
theorem dL_begins_40 : decode cL_begins 40 = .ok (.invokestatic 300, 3) := by decide +kernel
theorem dL_begins_43 : decode cL_begins 43 = .ok (.putfield 342, 3) := by decide +kernel
theorem dL_begins_46 : decode cL_begins 46 = .ok (.aload_n 1, 1) := by decide +kernel
theorem dL_begins_47 : decode cL_begins 47 = .ok (.iconst 2, 1) := by decide +kernel
theorem dL_begins_48 : decode cL_begins 48 = .ok (.aload_n 2, 1) := by decide +kernel
theorem dL_begins_49 : decode cL_begins 49 = .ok (.iconst 4, 1) := by decide +kernel
theorem dL_begins_50 : decode cL_begins 50 = .ok (.bipush 12, 2) := by decide +kernel
theorem dL_begins_52 : decode cL_begins 52 = .ok (.invokestatic 300, 3) := by decide +kernel
theorem dL_begins_55 : decode cL_begins 55 = .ok (.iadd, 1) := by decide +kernel
theorem dL_begins_56 : decode cL_begins 56 = .ok (.putfield 345, 3) := by decide +kernel
theorem dL_begins_59 : decode cL_begins 59 = .ok (.aload_n 1, 1) := by decide +kernel
theorem dL_begins_60 : decode cL_begins 60 = .ok (.aload_n 2, 1) := by decide +kernel
theorem dL_begins_61 : decode cL_begins 61 = .ok (.iconst 5, 1) := by decide +kernel
theorem dL_begins_62 : decode cL_begins 62 = .ok (.iconst 4, 1) := by decide +kernel
theorem dL_begins_63 : decode cL_begins 63 = .ok (.invokestatic 300, 3) := by decide +kernel
theorem dL_begins_66 : decode cL_begins 66 = .ok (.putfield 348, 3) := by decide +kernel
theorem dL_begins_69 : decode cL_begins 69 = .ok (.aload_n 1, 1) := by decide +kernel
theorem dL_begins_70 : decode cL_begins 70 = .ok (.aload_n 2, 1) := by decide +kernel
theorem dL_begins_71 : decode cL_begins 71 = .ok (.bipush 6, 2) := by decide +kernel
theorem dL_begins_73 : decode cL_begins 73 = .ok (.iconst 4, 1) := by decide +kernel
theorem dL_begins_74 : decode cL_begins 74 = .ok (.invokestatic 300, 3) := by decide +kernel
theorem dL_begins_77 : decode cL_begins 77 = .ok (.putfield 351, 3) := by decide +kernel
theorem dL_begins_80 : decode cL_begins 80 = .ok (.aload_n 1, 1) := by decide +kernel
theorem dL_begins_81 : decode cL_begins 81 = .ok (.iconst 1, 1) := by decide +kernel
theorem dL_begins_82 : decode cL_begins 82 = .ok (.aload_n 2, 1) := by decide +kernel
theorem dL_begins_83 : decode cL_begins 83 = .ok (.bipush 7, 2) := by decide +kernel
theorem dL_begins_85 : decode cL_begins 85 = .ok (.bipush 12, 2) := by decide +kernel
theorem dL_begins_87 : decode cL_begins 87 = .ok (.invokestatic 300, 3) := by decide +kernel
theorem dL_begins_90 : decode cL_begins 90 = .ok (.iadd, 1) := by decide +kernel
theorem dL_begins_91 : decode cL_begins 91 = .ok (.putfield 50, 3) := by decide +kernel
theorem dL_begins_94 : decode cL_begins 94 = .ok (.new 35, 3) := by decide +kernel
theorem dL_begins_97 : decode cL_begins 97 = .ok (.dup, 1) := by decide +kernel
theorem dL_begins_98 : decode cL_begins 98 = .ok (.ldc_w 354, 3) := by decide +kernel
theorem dL_begins_101 : decode cL_begins 101 = .ok (.invokespecial 356, 3) := by decide +kernel
theorem dL_begins_104 : decode cL_begins 104 = .ok (.aload_n 1, 1) := by decide +kernel
theorem dL_begins_105 : decode cL_begins 105 = .ok (.getfield 168, 3) := by decide +kernel
theorem dL_begins_108 : decode cL_begins 108 = .ok (.invokevirtual 359, 3) := by decide +kernel
theorem dL_begins_111 : decode cL_begins 111 = .ok (.bipush 32, 2) := by decide +kernel
theorem dL_begins_113 : decode cL_begins 113 = .ok (.invokevirtual 43, 3) := by decide +kernel
theorem dL_begins_116 : decode cL_begins 116 = .ok (.aload_n 1, 1) := by decide +kernel
theorem dL_begins_117 : decode cL_begins 117 = .ok (.getfield 336, 3) := by decide +kernel
theorem dL_begins_120 : decode cL_begins 120 = .ok (.invokevirtual 359, 3) := by decide +kernel
theorem dL_begins_123 : decode cL_begins 123 = .ok (.bipush 32, 2) := by decide +kernel
theorem dL_begins_125 : decode cL_begins 125 = .ok (.invokevirtual 43, 3) := by decide +kernel
theorem dL_begins_128 : decode cL_begins 128 = .ok (.aload_n 1, 1) := by decide +kernel
theorem dL_begins_129 : decode cL_begins 129 = .ok (.getfield 339, 3) := by decide +kernel
theorem dL_begins_132 : decode cL_begins 132 = .ok (.invokevirtual 359, 3) := by decide +kernel
theorem dL_begins_135 : decode cL_begins 135 = .ok (.bipush 32, 2) := by decide +kernel
theorem dL_begins_137 : decode cL_begins 137 = .ok (.invokevirtual 43, 3) := by decide +kernel
theorem dL_begins_140 : decode cL_begins 140 = .ok (.aload_n 1, 1) := by decide +kernel
theorem dL_begins_141 : decode cL_begins 141 = .ok (.getfield 342, 3) := by decide +kernel
theorem dL_begins_144 : decode cL_begins 144 = .ok (.invokevirtual 359, 3) := by decide +kernel
theorem dL_begins_147 : decode cL_begins 147 = .ok (.bipush 32, 2) := by decide +kernel
theorem dL_begins_149 : decode cL_begins 149 = .ok (.invokevirtual 43, 3) := by decide +kernel
theorem dL_begins_152 : decode cL_begins 152 = .ok (.aload_n 1, 1) := by decide +kernel
theorem dL_begins_153 : decode cL_begins 153 = .ok (.getfield 345, 3) := by decide +kernel
theorem dL_begins_156 : decode cL_begins 156 = .ok (.invokevirtual 359, 3) := by decide +kernel
theorem dL_begins_159 : decode cL_begins 159 = .ok (.bipush 32, 2) := by decide +kernel
theorem dL_begins_161 : decode cL_begins 161 = .ok (.invokevirtual 43, 3) := by decide +kernel
theorem dL_begins_164 : decode cL_begins 164 = .ok (.aload_n 1, 1) := by decide +kernel
theorem dL_begins_165 : decode cL_begins 165 = .ok (.getfield 348, 3) := by decide +kernel
theorem dL_begins_168 : decode cL_begins 168 = .ok (.invokevirtual 359, 3) := by decide +kernel
theorem dL_begins_171 : decode cL_begins 171 = .ok (.bipush 32, 2) := by decide +kernel
theorem dL_begins_173 : decode cL_begins 173 = .ok (.invokevirtual 43, 3) := by decide +kernel
theorem dL_begins_176 : decode cL_begins 176 = .ok (.aload_n 1, 1) := by decide +kernel
theorem dL_begins_177 : decode cL_begins 177 = .ok (.getfield 351, 3) := by decide +kernel
theorem dL_begins_180 : decode cL_begins 180 = .ok (.invokevirtual 359, 3) := by decide +kernel
theorem dL_begins_183 : decode cL_begins 183 = .ok (.bipush 59, 2) := by decide +kernel
theorem dL_begins_185 : decode cL_begins 185 = .ok (.invokevirtual 43, 3) := by decide +kernel
theorem dL_begins_188 : decode cL_begins 188 = .ok (.astore_n 3, 1) := by decide +kernel
theorem dL_begins_189 : decode cL_begins 189 = .ok (.iconst 0, 1) := by decide +kernel
theorem dL_begins_190 : decode cL_begins 190 = .ok (.istore 4, 2) := by decide +kernel
theorem dL_begins_192 : decode cL_begins 192 = .ok (.iload 4, 2) := by decide +kernel
theorem dL_begins_194 : decode cL_begins 194 = .ok (.iconst 4, 1) := by decide +kernel
theorem dL_begins_195 : decode cL_begins 195 = .ok (.if_icmp .ge 17, 3) := by decide +kernel
theorem dL_begins_198 : decode cL_begins 198 = .ok (.aload_n 1, 1) := by decide +kernel
theorem dL_begins_199 : decode cL_begins 199 = .ok (.getfield 171, 3) := by decide +kernel
theorem dL_begins_202 : decode cL_begins 202 = .ok (.iload 4, 2) := by decide +kernel
theorem dL_begins_204 : decode cL_begins 204 = .ok (.iconst (-1), 1) := by decide +kernel
theorem dL_begins_205 : decode cL_begins 205 = .ok (.iastore, 1) := by decide +kernel
theorem dL_begins_206 : decode cL_begins 206 = .ok (.iinc 4 1, 3) := by decide +kernel
theorem dL_begins_209 : decode cL_begins 209 = .ok (.goto (-17), 3) := by decide +kernel
theorem dL_begins_212 : decode cL_begins 212 = .ok (.iconst 0, 1) := by decide +kernel
theorem dL_begins_213 : decode cL_begins 213 = .ok (.istore 4, 2) := by decide +kernel
theorem dL_begins_215 : decode cL_begins 215 = .ok (.iload 4, 2) := by decide +kernel
theorem dL_begins_217 : decode cL_begins 217 = .ok (.aload_n 1, 1) := by decide +kernel
theorem dL_begins_218 : decode cL_begins 218 = .ok (.getfield 50, 3) := by decide +kernel
theorem dL_begins_221 : decode cL_begins 221 = .ok (.if_icmp .ge 161, 3) := by decide +kernel
theorem dL_begins_224 : decode cL_begins 224 = .ok (.aload_n 1, 1) := by decide +kernel
theorem dL_begins_225 : decode cL_begins 225 = .ok (.getfield 56, 3) := by decide +kernel
theorem dL_begins_228 : decode cL_begins 228 = .ok (.iload 4, 2) := by decide +kernel
theorem dL_begins_230 : decode cL_begins 230 = .ok (.iconst 1, 1) := by decide +kernel
theorem dL_begins_231 : decode cL_begins 231 = .ok (.aload_n 2, 1) := by decide +kernel
theorem dL_begins_232 : decode cL_begins 232 = .ok (.bipush 8, 2) := by decide +kernel
theorem dL_begins_234 : decode cL_begins 234 = .ok (.iconst 3, 1) := by decide +kernel
theorem dL_begins_235 : decode cL_begins 235 = .ok (.iload 4, 2) := by decide +kernel
theorem dL_begins_237 : decode cL_begins 237 = .ok (.imul, 1) := by decide +kernel
theorem dL_begins_238 : decode cL_begins 238 = .ok (.iadd, 1) := by decide +kernel
theorem dL_begins_239 : decode cL_begins 239 = .ok (.bipush 9, 2) := by decide +kernel
theorem dL_begins_241 : decode cL_begins 241 = .ok (.invokestatic 300, 3) := by decide +kernel
theorem dL_begins_244 : decode cL_begins 244 = .ok (.iadd, 1) := by decide +kernel
theorem dL_begins_245 : decode cL_begins 245 = .ok (.iastore, 1) := by decide +kernel
theorem dL_begins_246 : decode cL_begins 246 = .ok (.aload_n 1, 1) := by decide +kernel
theorem dL_begins_247 : decode cL_begins 247 = .ok (.getfield 304, 3) := by decide +kernel
theorem dL_begins_250 : decode cL_begins 250 = .ok (.iload 4, 2) := by decide +kernel
theorem dL_begins_252 : decode cL_begins 252 = .ok (.aload_n 2, 1) := by decide +kernel
theorem dL_begins_253 : decode cL_begins 253 = .ok (.bipush 9, 2) := by decide +kernel
theorem dL_begins_255 : decode cL_begins 255 = .ok (.iconst 3, 1) := by decide +kernel
theorem dL_begins_256 : decode cL_begins 256 = .ok (.iload 4, 2) := by decide +kernel
theorem dL_begins_258 : decode cL_begins 258 = .ok (.imul, 1) := by decide +kernel
theorem dL_begins_259 : decode cL_begins 259 = .ok (.iadd, 1) := by decide +kernel
theorem dL_begins_260 : decode cL_begins 260 = .ok (.bipush 21, 2) := by decide +kernel
theorem dL_begins_262 : decode cL_begins 262 = .ok (.invokestatic 300, 3) := by decide +kernel
theorem dL_begins_265 : decode cL_begins 265 = .ok (.iastore, 1) := by decide +kernel
theorem dL_begins_266 : decode cL_begins 266 = .ok (.aload_n 1, 1) := by decide +kernel
theorem dL_begins_267 : decode cL_begins 267 = .ok (.getfield 76, 3) := by decide +kernel
theorem dL_begins_270 : decode cL_begins 270 = .ok (.iload 4, 2) := by decide +kernel
theorem dL_begins_272 : decode cL_begins 272 = .ok (.aload_n 2, 1) := by decide +kernel
theorem dL_begins_273 : decode cL_begins 273 = .ok (.bipush 10, 2) := by decide +kernel
theorem dL_begins_275 : decode cL_begins 275 = .ok (.iconst 3, 1) := by decide +kernel
theorem dL_begins_276 : decode cL_begins 276 = .ok (.iload 4, 2) := by decide +kernel
theorem dL_begins_278 : decode cL_begins 278 = .ok (.imul, 1) := by decide +kernel
theorem dL_begins_279 : decode cL_begins 279 = .ok (.iadd, 1) := by decide +kernel
theorem dL_begins_280 : decode cL_begins 280 = .ok (.bipush 12, 2) := by decide +kernel
theorem dL_begins_282 : decode cL_begins 282 = .ok (.invokestatic 300, 3) := by decide +kernel
theorem dL_begins_285 : decode cL_begins 285 = .ok (.iastore, 1) := by decide +kernel
theorem dL_begins_286 : decode cL_begins 286 = .ok (.aload_n 1, 1) := by decide +kernel
theorem dL_begins_287 : decode cL_begins 287 = .ok (.getfield 81, 3) := by decide +kernel
theorem dL_begins_290 : decode cL_begins 290 = .ok (.iload 4, 2) := by decide +kernel
theorem dL_begins_292 : decode cL_begins 292 = .ok (.iconst 5, 1) := by decide +kernel
theorem dL_begins_293 : decode cL_begins 293 = .ok (.iastore, 1) := by decide +kernel
theorem dL_begins_294 : decode cL_begins 294 = .ok (.aload_n 1, 1) := by decide +kernel
theorem dL_begins_295 : decode cL_begins 295 = .ok (.dup, 1) := by decide +kernel
theorem dL_begins_296 : decode cL_begins 296 = .ok (.getfield 362, 3) := by decide +kernel
theorem dL_begins_299 : decode cL_begins 299 = .ok (.aload_n 1, 1) := by decide +kernel
theorem dL_begins_300 : decode cL_begins 300 = .ok (.getfield 76, 3) := by decide +kernel
theorem dL_begins_303 : decode cL_begins 303 = .ok (.iload 4, 2) := by decide +kernel
theorem dL_begins_305 : decode cL_begins 305 = .ok (.iaload, 1) := by decide +kernel
theorem dL_begins_306 : decode cL_begins 306 = .ok (.iadd, 1) := by decide +kernel
theorem dL_begins_307 : decode cL_begins 307 = .ok (.putfield 362, 3) := by decide +kernel
theorem dL_begins_310 : decode cL_begins 310 = .ok (.aload_n 3, 1) := by decide +kernel
theorem dL_begins_311 : decode cL_begins 311 = .ok (.ldc_w 365, 3) := by decide +kernel
theorem dL_begins_314 : decode cL_begins 314 = .ok (.invokevirtual 40, 3) := by decide +kernel
theorem dL_begins_317 : decode cL_begins 317 = .ok (.iload 4, 2) := by decide +kernel
theorem dL_begins_319 : decode cL_begins 319 = .ok (.invokestatic 367, 3) := by decide +kernel
theorem dL_begins_322 : decode cL_begins 322 = .ok (.invokevirtual 40, 3) := by decide +kernel
theorem dL_begins_325 : decode cL_begins 325 = .ok (.bipush 32, 2) := by decide +kernel
theorem dL_begins_327 : decode cL_begins 327 = .ok (.invokevirtual 43, 3) := by decide +kernel
theorem dL_begins_330 : decode cL_begins 330 = .ok (.aload_n 1, 1) := by decide +kernel
theorem dL_begins_331 : decode cL_begins 331 = .ok (.getfield 56, 3) := by decide +kernel
theorem dL_begins_334 : decode cL_begins 334 = .ok (.iload 4, 2) := by decide +kernel
theorem dL_begins_336 : decode cL_begins 336 = .ok (.iaload, 1) := by decide +kernel
theorem dL_begins_337 : decode cL_begins 337 = .ok (.invokevirtual 359, 3) := by decide +kernel
theorem dL_begins_340 : decode cL_begins 340 = .ok (.bipush 32, 2) := by decide +kernel
theorem dL_begins_342 : decode cL_begins 342 = .ok (.invokevirtual 43, 3) := by decide +kernel
theorem dL_begins_345 : decode cL_begins 345 = .ok (.aload_n 1, 1) := by decide +kernel
theorem dL_begins_346 : decode cL_begins 346 = .ok (.getfield 304, 3) := by decide +kernel
theorem dL_begins_349 : decode cL_begins 349 = .ok (.iload 4, 2) := by decide +kernel
theorem dL_begins_351 : decode cL_begins 351 = .ok (.iaload, 1) := by decide +kernel
theorem dL_begins_352 : decode cL_begins 352 = .ok (.invokevirtual 359, 3) := by decide +kernel
theorem dL_begins_355 : decode cL_begins 355 = .ok (.bipush 32, 2) := by decide +kernel
theorem dL_begins_357 : decode cL_begins 357 = .ok (.invokevirtual 43, 3) := by decide +kernel
theorem dL_begins_360 : decode cL_begins 360 = .ok (.aload_n 1, 1) := by decide +kernel
theorem dL_begins_361 : decode cL_begins 361 = .ok (.getfield 76, 3) := by decide +kernel
theorem dL_begins_364 : decode cL_begins 364 = .ok (.iload 4, 2) := by decide +kernel
theorem dL_begins_366 : decode cL_begins 366 = .ok (.iaload, 1) := by decide +kernel
theorem dL_begins_367 : decode cL_begins 367 = .ok (.invokevirtual 359, 3) := by decide +kernel
theorem dL_begins_370 : decode cL_begins 370 = .ok (.bipush 59, 2) := by decide +kernel
theorem dL_begins_372 : decode cL_begins 372 = .ok (.invokevirtual 43, 3) := by decide +kernel
theorem dL_begins_375 : decode cL_begins 375 = .ok (.pop, 1) := by decide +kernel
theorem dL_begins_376 : decode cL_begins 376 = .ok (.iinc 4 1, 3) := by decide +kernel
theorem dL_begins_379 : decode cL_begins 379 = .ok (.goto (-164), 3) := by decide +kernel
theorem dL_begins_382 : decode cL_begins 382 = .ok (.aload_n 0, 1) := by decide +kernel
theorem dL_begins_383 : decode cL_begins 383 = .ok (.aload_n 3, 1) := by decide +kernel
theorem dL_begins_384 : decode cL_begins 384 = .ok (.invokevirtual 46, 3) := by decide +kernel
theorem dL_begins_387 : decode cL_begins 387 = .ok (.invokestatic 371, 3) := by decide +kernel
theorem dL_begins_390 : decode cL_begins 390 = .ok (.ifCond .eq 22, 3) := by decide +kernel
theorem dL_begins_393 : decode cL_begins 393 = .ok (.aload_n 0, 1) := by decide +kernel
theorem dL_begins_394 : decode cL_begins 394 = .ok (.invokevirtual 375, 3) := by decide +kernel
theorem dL_begins_397 : decode cL_begins 397 = .ok (.ifCond .ne 15, 3) := by decide +kernel
theorem dL_begins_400 : decode cL_begins 400 = .ok (.aload_n 0, 1) := by decide +kernel
theorem dL_begins_401 : decode cL_begins 401 = .ok (.invokevirtual 378, 3) := by decide +kernel
theorem dL_begins_404 : decode cL_begins 404 = .ok (.iconst (-1), 1) := by decide +kernel
theorem dL_begins_405 : decode cL_begins 405 = .ok (.if_icmp .ne 7, 3) := by decide +kernel
theorem dL_begins_408 : decode cL_begins 408 = .ok (.iconst 1, 1) := by decide +kernel
theorem dL_begins_409 : decode cL_begins 409 = .ok (.goto 4, 3) := by decide +kernel
theorem dL_begins_412 : decode cL_begins 412 = .ok (.iconst 0, 1) := by decide +kernel
theorem dL_begins_413 : decode cL_begins 413 = .ok (.ireturn, 1) := by decide +kernel
theorem dL_law_0 : decode cL_law 0 = .ok (.new 30, 3) := by decide +kernel
theorem dL_law_3 : decode cL_law 3 = .ok (.dup, 1) := by decide +kernel
theorem dL_law_4 : decode cL_law 4 = .ok (.invokespecial 381, 3) := by decide +kernel
theorem dL_law_7 : decode cL_law 7 = .ok (.astore_n 1, 1) := by decide +kernel
theorem dL_law_8 : decode cL_law 8 = .ok (.new 51, 3) := by decide +kernel
theorem dL_law_11 : decode cL_law 11 = .ok (.dup, 1) := by decide +kernel
theorem dL_law_12 : decode cL_law 12 = .ok (.invokespecial 382, 3) := by decide +kernel
theorem dL_law_15 : decode cL_law 15 = .ok (.astore_n 2, 1) := by decide +kernel
theorem dL_law_16 : decode cL_law 16 = .ok (.aload_n 1, 1) := by decide +kernel
theorem dL_law_17 : decode cL_law 17 = .ok (.aload_n 2, 1) := by decide +kernel
theorem dL_law_18 : decode cL_law 18 = .ok (.aload_n 0, 1) := by decide +kernel
theorem dL_law_19 : decode cL_law 19 = .ok (.invokestatic 383, 3) := by decide +kernel
theorem dL_law_22 : decode cL_law 22 = .ok (.ifCond .ne 5, 3) := by decide +kernel
theorem dL_law_25 : decode cL_law 25 = .ok (.iconst 0, 1) := by decide +kernel
theorem dL_law_26 : decode cL_law 26 = .ok (.ireturn, 1) := by decide +kernel
theorem dL_law_27 : decode cL_law 27 = .ok (.bipush 48, 2) := by decide +kernel
theorem dL_law_29 : decode cL_law 29 = .ok (.anewarray 51, 3) := by decide +kernel
theorem dL_law_32 : decode cL_law 32 = .ok (.astore_n 3, 1) := by decide +kernel
theorem dL_law_33 : decode cL_law 33 = .ok (.iconst 0, 1) := by decide +kernel
theorem dL_law_34 : decode cL_law 34 = .ok (.istore 4, 2) := by decide +kernel
theorem dL_law_36 : decode cL_law 36 = .ok (.iconst 0, 1) := by decide +kernel
theorem dL_law_37 : decode cL_law 37 = .ok (.istore 5, 2) := by decide +kernel
theorem dL_law_39 : decode cL_law 39 = .ok (.iload 5, 2) := by decide +kernel
theorem dL_law_41 : decode cL_law 41 = .ok (.bipush 46, 2) := by decide +kernel
theorem dL_law_43 : decode cL_law 43 = .ok (.if_icmp .ge 130, 3) := by decide +kernel
theorem dL_law_46 : decode cL_law 46 = .ok (.bipush 48, 2) := by decide +kernel
theorem dL_law_48 : decode cL_law 48 = .ok (.iconst 4, 1) := by decide +kernel
theorem dL_law_49 : decode cL_law 49 = .ok (.iload 5, 2) := by decide +kernel
theorem dL_law_51 : decode cL_law 51 = .ok (.imul, 1) := by decide +kernel
theorem dL_law_52 : decode cL_law 52 = .ok (.iadd, 1) := by decide +kernel
theorem dL_law_53 : decode cL_law 53 = .ok (.istore 6, 2) := by decide +kernel
theorem dL_law_55 : decode cL_law 55 = .ok (.aload_n 1, 1) := by decide +kernel
theorem dL_law_56 : decode cL_law 56 = .ok (.aload_n 2, 1) := by decide +kernel
theorem dL_law_57 : decode cL_law 57 = .ok (.invokestatic 387, 3) := by decide +kernel
theorem dL_law_60 : decode cL_law 60 = .ok (.ifCond .eq 46, 3) := by decide +kernel
theorem dL_law_63 : decode cL_law 63 = .ok (.iload 5, 2) := by decide +kernel
theorem dL_law_65 : decode cL_law 65 = .ok (.bipush 9, 2) := by decide +kernel
theorem dL_law_67 : decode cL_law 67 = .ok (.irem, 1) := by decide +kernel
theorem dL_law_68 : decode cL_law 68 = .ok (.bipush 8, 2) := by decide +kernel
theorem dL_law_70 : decode cL_law 70 = .ok (.if_icmp .ne 38, 3) := by decide +kernel
theorem dL_law_73 : decode cL_law 73 = .ok (.aload_n 1, 1) := by decide +kernel
theorem dL_law_74 : decode cL_law 74 = .ok (.aload_n 2, 1) := by decide +kernel
theorem dL_law_75 : decode cL_law 75 = .ok (.aload_n 0, 1) := by decide +kernel
theorem dL_law_76 : decode cL_law 76 = .ok (.iload 6, 2) := by decide +kernel
theorem dL_law_78 : decode cL_law 78 = .ok (.iconst 3, 1) := by decide +kernel
theorem dL_law_79 : decode cL_law 79 = .ok (.iadd, 1) := by decide +kernel
theorem dL_law_80 : decode cL_law 80 = .ok (.aload_n 2, 1) := by decide +kernel
theorem dL_law_81 : decode cL_law 81 = .ok (.getfield 60, 3) := by decide +kernel
theorem dL_law_84 : decode cL_law 84 = .ok (.iconst 1, 1) := by decide +kernel
theorem dL_law_85 : decode cL_law 85 = .ok (.iadd, 1) := by decide +kernel
theorem dL_law_86 : decode cL_law 86 = .ok (.invokestatic 300, 3) := by decide +kernel
theorem dL_law_89 : decode cL_law 89 = .ok (.aload_n 0, 1) := by decide +kernel
theorem dL_law_90 : decode cL_law 90 = .ok (.iload 6, 2) := by decide +kernel
theorem dL_law_92 : decode cL_law 92 = .ok (.iconst 3, 1) := by decide +kernel
theorem dL_law_93 : decode cL_law 93 = .ok (.iadd, 1) := by decide +kernel
theorem dL_law_94 : decode cL_law 94 = .ok (.sipush 301, 3) := by decide +kernel
theorem dL_law_97 : decode cL_law 97 = .ok (.invokestatic 300, 3) := by decide +kernel
theorem dL_law_100 : decode cL_law 100 = .ok (.invokestatic 391, 3) := by decide +kernel
theorem dL_law_103 : decode cL_law 103 = .ok (.ifCond .ne 5, 3) := by decide +kernel
theorem dL_law_106 : decode cL_law 106 = .ok (.iconst 0, 1) := by decide +kernel
theorem dL_law_107 : decode cL_law 107 = .ok (.ireturn, 1) := by decide +kernel
theorem dL_law_108 : decode cL_law 108 = .ok (.aload_n 2, 1) := by decide +kernel
theorem dL_law_109 : decode cL_law 109 = .ok (.invokevirtual 252, 3) := by decide +kernel
theorem dL_law_112 : decode cL_law 112 = .ok (.astore 7, 2) := by decide +kernel
theorem dL_law_114 : decode cL_law 114 = .ok (.aload_n 1, 1) := by decide +kernel
theorem dL_law_115 : decode cL_law 115 = .ok (.aload 7, 2) := by decide +kernel
theorem dL_law_117 : decode cL_law 117 = .ok (.aload_n 0, 1) := by decide +kernel
theorem dL_law_118 : decode cL_law 118 = .ok (.iload 6, 2) := by decide +kernel
theorem dL_law_120 : decode cL_law 120 = .ok (.invokestatic 395, 3) := by decide +kernel
theorem dL_law_123 : decode cL_law 123 = .ok (.istore 8, 2) := by decide +kernel
theorem dL_law_125 : decode cL_law 125 = .ok (.iload 8, 2) := by decide +kernel
theorem dL_law_127 : decode cL_law 127 = .ok (.ifCond .ne 5, 3) := by decide +kernel
theorem dL_law_130 : decode cL_law 130 = .ok (.iconst 0, 1) := by decide +kernel
theorem dL_law_131 : decode cL_law 131 = .ok (.ireturn, 1) := by decide +kernel
theorem dL_law_132 : decode cL_law 132 = .ok (.iload 8, 2) := by decide +kernel
theorem dL_law_134 : decode cL_law 134 = .ok (.ifCond .ge 6, 3) := by decide +kernel
theorem dL_law_137 : decode cL_law 137 = .ok (.goto 30, 3) := by decide +kernel
theorem dL_law_140 : decode cL_law 140 = .ok (.aload_n 3, 1) := by decide +kernel
theorem dL_law_141 : decode cL_law 141 = .ok (.iload 4, 2) := by decide +kernel
theorem dL_law_143 : decode cL_law 143 = .ok (.aload_n 2, 1) := by decide +kernel
theorem dL_law_144 : decode cL_law 144 = .ok (.aastore, 1) := by decide +kernel
theorem dL_law_145 : decode cL_law 145 = .ok (.iinc 4 1, 3) := by decide +kernel
theorem dL_law_148 : decode cL_law 148 = .ok (.aload 7, 2) := by decide +kernel
theorem dL_law_150 : decode cL_law 150 = .ok (.astore_n 2, 1) := by decide +kernel
theorem dL_law_151 : decode cL_law 151 = .ok (.aload_n 1, 1) := by decide +kernel
theorem dL_law_152 : decode cL_law 152 = .ok (.invokevirtual 399, 3) := by decide +kernel
theorem dL_law_155 : decode cL_law 155 = .ok (.bipush 8, 2) := by decide +kernel
theorem dL_law_157 : decode cL_law 157 = .ok (.iload 4, 2) := by decide +kernel
theorem dL_law_159 : decode cL_law 159 = .ok (.invokestatic 402, 3) := by decide +kernel
theorem dL_law_162 : decode cL_law 162 = .ok (.if_icmp .eq 5, 3) := by decide +kernel
theorem dL_law_165 : decode cL_law 165 = .ok (.iconst 0, 1) := by decide +kernel
theorem dL_law_166 : decode cL_law 166 = .ok (.ireturn, 1) := by decide +kernel
theorem dL_law_167 : decode cL_law 167 = .ok (.iinc 5 1, 3) := by decide +kernel
theorem dL_law_170 : decode cL_law 170 = .ok (.goto (-131), 3) := by decide +kernel
theorem dL_law_173 : decode cL_law 173 = .ok (.aload_n 1, 1) := by decide +kernel
theorem dL_law_174 : decode cL_law 174 = .ok (.aload_n 2, 1) := by decide +kernel
theorem dL_law_175 : decode cL_law 175 = .ok (.invokestatic 387, 3) := by decide +kernel
theorem dL_law_178 : decode cL_law 178 = .ok (.ifCond .ne 5, 3) := by decide +kernel
theorem dL_law_181 : decode cL_law 181 = .ok (.iconst 0, 1) := by decide +kernel
theorem dL_law_182 : decode cL_law 182 = .ok (.ireturn, 1) := by decide +kernel
theorem dL_law_183 : decode cL_law 183 = .ok (.bipush 8, 2) := by decide +kernel
theorem dL_law_185 : decode cL_law 185 = .ok (.iload 4, 2) := by decide +kernel
theorem dL_law_187 : decode cL_law 187 = .ok (.invokestatic 402, 3) := by decide +kernel
theorem dL_law_190 : decode cL_law 190 = .ok (.istore 5, 2) := by decide +kernel
theorem dL_law_192 : decode cL_law 192 = .ok (.iload 4, 2) := by decide +kernel
theorem dL_law_194 : decode cL_law 194 = .ok (.iconst 1, 1) := by decide +kernel
theorem dL_law_195 : decode cL_law 195 = .ok (.isub, 1) := by decide +kernel
theorem dL_law_196 : decode cL_law 196 = .ok (.istore 6, 2) := by decide +kernel
theorem dL_law_198 : decode cL_law 198 = .ok (.iload 5, 2) := by decide +kernel
theorem dL_law_200 : decode cL_law 200 = .ok (.ifCond .le 34, 3) := by decide +kernel
theorem dL_law_203 : decode cL_law 203 = .ok (.iinc 5 (-1), 3) := by decide +kernel
theorem dL_law_206 : decode cL_law 206 = .ok (.aload_n 1, 1) := by decide +kernel
theorem dL_law_207 : decode cL_law 207 = .ok (.invokevirtual 405, 3) := by decide +kernel
theorem dL_law_210 : decode cL_law 210 = .ok (.iload 5, 2) := by decide +kernel
theorem dL_law_212 : decode cL_law 212 = .ok (.if_icmp .ne 14, 3) := by decide +kernel
theorem dL_law_215 : decode cL_law 215 = .ok (.aload_n 1, 1) := by decide +kernel
theorem dL_law_216 : decode cL_law 216 = .ok (.aload_n 3, 1) := by decide +kernel
theorem dL_law_217 : decode cL_law 217 = .ok (.iload 6, 2) := by decide +kernel
theorem dL_law_219 : decode cL_law 219 = .ok (.aaload, 1) := by decide +kernel
theorem dL_law_220 : decode cL_law 220 = .ok (.invokestatic 387, 3) := by decide +kernel
theorem dL_law_223 : decode cL_law 223 = .ok (.ifCond .ne 5, 3) := by decide +kernel
theorem dL_law_226 : decode cL_law 226 = .ok (.iconst 0, 1) := by decide +kernel
theorem dL_law_227 : decode cL_law 227 = .ok (.ireturn, 1) := by decide +kernel
theorem dL_law_228 : decode cL_law 228 = .ok (.iinc 6 (-1), 3) := by decide +kernel
theorem dL_law_231 : decode cL_law 231 = .ok (.goto (-33), 3) := by decide +kernel
theorem dL_law_234 : decode cL_law 234 = .ok (.aload_n 1, 1) := by decide +kernel
theorem dL_law_235 : decode cL_law 235 = .ok (.invokevirtual 399, 3) := by decide +kernel
theorem dL_law_238 : decode cL_law 238 = .ok (.ifCond .ne 7, 3) := by decide +kernel
theorem dL_law_241 : decode cL_law 241 = .ok (.iconst 1, 1) := by decide +kernel
theorem dL_law_242 : decode cL_law 242 = .ok (.goto 4, 3) := by decide +kernel
theorem dL_law_245 : decode cL_law 245 = .ok (.iconst 0, 1) := by decide +kernel
theorem dL_law_246 : decode cL_law 246 = .ok (.ireturn, 1) := by decide +kernel
