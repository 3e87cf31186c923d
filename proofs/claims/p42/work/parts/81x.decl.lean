/-! what the bytes of the law say: sum and areUsed -/
theorem dL_sum_0 : decode cL_sum 0 = .ok (.aload_n 0, 1) := by decide +kernel
theorem dL_sum_1 : decode cL_sum 1 = .ok (.invokevirtual 201, 3) := by decide +kernel
theorem dL_sum_4 : decode cL_sum 4 = .ok (.i2l, 1) := by decide +kernel
theorem dL_sum_5 : decode cL_sum 5 = .ok (.lstore_n 2, 1) := by decide +kernel
theorem dL_sum_6 : decode cL_sum 6 = .ok (.iconst 0, 1) := by decide +kernel
theorem dL_sum_7 : decode cL_sum 7 = .ok (.istore 4, 2) := by decide +kernel
theorem dL_sum_9 : decode cL_sum 9 = .ok (.iload 4, 2) := by decide +kernel
theorem dL_sum_11 : decode cL_sum 11 = .ok (.bipush 6, 2) := by decide +kernel
theorem dL_sum_13 : decode cL_sum 13 = .ok (.if_icmp .ge 101, 3) := by decide +kernel
theorem dL_sum_16 : decode cL_sum 16 = .ok (.ldc2_w 213, 3) := by decide +kernel
theorem dL_sum_19 : decode cL_sum 19 = .ok (.lload_n 2, 1) := by decide +kernel
theorem dL_sum_20 : decode cL_sum 20 = .ok (.lmul, 1) := by decide +kernel
theorem dL_sum_21 : decode cL_sum 21 = .ok (.aload_n 0, 1) := by decide +kernel
theorem dL_sum_22 : decode cL_sum 22 = .ok (.iload 4, 2) := by decide +kernel
theorem dL_sum_24 : decode cL_sum 24 = .ok (.invokestatic 194, 3) := by decide +kernel
theorem dL_sum_27 : decode cL_sum 27 = .ok (.ladd, 1) := by decide +kernel
theorem dL_sum_28 : decode cL_sum 28 = .ok (.ldc2_w 215, 3) := by decide +kernel
theorem dL_sum_31 : decode cL_sum 31 = .ok (.aload_n 0, 1) := by decide +kernel
theorem dL_sum_32 : decode cL_sum 32 = .ok (.iload 4, 2) := by decide +kernel
theorem dL_sum_34 : decode cL_sum 34 = .ok (.iload_n 1, 1) := by decide +kernel
theorem dL_sum_35 : decode cL_sum 35 = .ok (.invokestatic 217, 3) := by decide +kernel
theorem dL_sum_38 : decode cL_sum 38 = .ok (.i2l, 1) := by decide +kernel
theorem dL_sum_39 : decode cL_sum 39 = .ok (.lmul, 1) := by decide +kernel
theorem dL_sum_40 : decode cL_sum 40 = .ok (.ladd, 1) := by decide +kernel
theorem dL_sum_41 : decode cL_sum 41 = .ok (.ldc2_w 219, 3) := by decide +kernel
theorem dL_sum_44 : decode cL_sum 44 = .ok (.aload_n 0, 1) := by decide +kernel
theorem dL_sum_45 : decode cL_sum 45 = .ok (.iload 4, 2) := by decide +kernel
theorem dL_sum_47 : decode cL_sum 47 = .ok (.iload_n 1, 1) := by decide +kernel
theorem dL_sum_48 : decode cL_sum 48 = .ok (.invokestatic 221, 3) := by decide +kernel
theorem dL_sum_51 : decode cL_sum 51 = .ok (.lmul, 1) := by decide +kernel
theorem dL_sum_52 : decode cL_sum 52 = .ok (.ladd, 1) := by decide +kernel
theorem dL_sum_53 : decode cL_sum 53 = .ok (.ldc2_w 224, 3) := by decide +kernel
theorem dL_sum_56 : decode cL_sum 56 = .ok (.aload_n 0, 1) := by decide +kernel
theorem dL_sum_57 : decode cL_sum 57 = .ok (.iload 4, 2) := by decide +kernel
theorem dL_sum_59 : decode cL_sum 59 = .ok (.iload_n 1, 1) := by decide +kernel
theorem dL_sum_60 : decode cL_sum 60 = .ok (.invokestatic 226, 3) := by decide +kernel
theorem dL_sum_63 : decode cL_sum 63 = .ok (.i2l, 1) := by decide +kernel
theorem dL_sum_64 : decode cL_sum 64 = .ok (.lmul, 1) := by decide +kernel
theorem dL_sum_65 : decode cL_sum 65 = .ok (.ladd, 1) := by decide +kernel
theorem dL_sum_66 : decode cL_sum 66 = .ok (.aload_n 0, 1) := by decide +kernel
theorem dL_sum_67 : decode cL_sum 67 = .ok (.iload 4, 2) := by decide +kernel
theorem dL_sum_69 : decode cL_sum 69 = .ok (.iload_n 1, 1) := by decide +kernel
theorem dL_sum_70 : decode cL_sum 70 = .ok (.invokestatic 228, 3) := by decide +kernel
theorem dL_sum_73 : decode cL_sum 73 = .ok (.i2l, 1) := by decide +kernel
theorem dL_sum_74 : decode cL_sum 74 = .ok (.ladd, 1) := by decide +kernel
theorem dL_sum_75 : decode cL_sum 75 = .ok (.lstore_n 2, 1) := by decide +kernel
theorem dL_sum_76 : decode cL_sum 76 = .ok (.iconst 0, 1) := by decide +kernel
theorem dL_sum_77 : decode cL_sum 77 = .ok (.istore 5, 2) := by decide +kernel
theorem dL_sum_79 : decode cL_sum 79 = .ok (.iload 5, 2) := by decide +kernel
theorem dL_sum_81 : decode cL_sum 81 = .ok (.bipush 6, 2) := by decide +kernel
theorem dL_sum_83 : decode cL_sum 83 = .ok (.if_icmp .ge 25, 3) := by decide +kernel
theorem dL_sum_86 : decode cL_sum 86 = .ok (.ldc2_w 213, 3) := by decide +kernel
theorem dL_sum_89 : decode cL_sum 89 = .ok (.lload_n 2, 1) := by decide +kernel
theorem dL_sum_90 : decode cL_sum 90 = .ok (.lmul, 1) := by decide +kernel
theorem dL_sum_91 : decode cL_sum 91 = .ok (.aload_n 0, 1) := by decide +kernel
theorem dL_sum_92 : decode cL_sum 92 = .ok (.iload 4, 2) := by decide +kernel
theorem dL_sum_94 : decode cL_sum 94 = .ok (.iload 5, 2) := by decide +kernel
theorem dL_sum_96 : decode cL_sum 96 = .ok (.iload_n 1, 1) := by decide +kernel
theorem dL_sum_97 : decode cL_sum 97 = .ok (.invokestatic 167, 3) := by decide +kernel
theorem dL_sum_100 : decode cL_sum 100 = .ok (.ladd, 1) := by decide +kernel
theorem dL_sum_101 : decode cL_sum 101 = .ok (.lstore_n 2, 1) := by decide +kernel
theorem dL_sum_102 : decode cL_sum 102 = .ok (.iinc 5 1, 3) := by decide +kernel
theorem dL_sum_105 : decode cL_sum 105 = .ok (.goto (-26), 3) := by decide +kernel
theorem dL_sum_108 : decode cL_sum 108 = .ok (.iinc 4 1, 3) := by decide +kernel
theorem dL_sum_111 : decode cL_sum 111 = .ok (.goto (-102), 3) := by decide +kernel
theorem dL_sum_114 : decode cL_sum 114 = .ok (.iconst 0, 1) := by decide +kernel
theorem dL_sum_115 : decode cL_sum 115 = .ok (.istore 4, 2) := by decide +kernel
theorem dL_sum_117 : decode cL_sum 117 = .ok (.iload 4, 2) := by decide +kernel
theorem dL_sum_119 : decode cL_sum 119 = .ok (.aload_n 0, 1) := by decide +kernel
theorem dL_sum_120 : decode cL_sum 120 = .ok (.invokevirtual 201, 3) := by decide +kernel
theorem dL_sum_123 : decode cL_sum 123 = .ok (.if_icmp .ge 32, 3) := by decide +kernel
theorem dL_sum_126 : decode cL_sum 126 = .ok (.ldc2_w 213, 3) := by decide +kernel
theorem dL_sum_129 : decode cL_sum 129 = .ok (.lload_n 2, 1) := by decide +kernel
theorem dL_sum_130 : decode cL_sum 130 = .ok (.lmul, 1) := by decide +kernel
theorem dL_sum_131 : decode cL_sum 131 = .ok (.aload_n 0, 1) := by decide +kernel
theorem dL_sum_132 : decode cL_sum 132 = .ok (.iload 4, 2) := by decide +kernel
theorem dL_sum_134 : decode cL_sum 134 = .ok (.invokestatic 173, 3) := by decide +kernel
theorem dL_sum_137 : decode cL_sum 137 = .ok (.i2l, 1) := by decide +kernel
theorem dL_sum_138 : decode cL_sum 138 = .ok (.ladd, 1) := by decide +kernel
theorem dL_sum_139 : decode cL_sum 139 = .ok (.aload_n 0, 1) := by decide +kernel
theorem dL_sum_140 : decode cL_sum 140 = .ok (.iload 4, 2) := by decide +kernel
theorem dL_sum_142 : decode cL_sum 142 = .ok (.iload_n 1, 1) := by decide +kernel
theorem dL_sum_143 : decode cL_sum 143 = .ok (.invokestatic 176, 3) := by decide +kernel
theorem dL_sum_146 : decode cL_sum 146 = .ok (.i2l, 1) := by decide +kernel
theorem dL_sum_147 : decode cL_sum 147 = .ok (.ladd, 1) := by decide +kernel
theorem dL_sum_148 : decode cL_sum 148 = .ok (.lstore_n 2, 1) := by decide +kernel
theorem dL_sum_149 : decode cL_sum 149 = .ok (.iinc 4 1, 3) := by decide +kernel
theorem dL_sum_152 : decode cL_sum 152 = .ok (.goto (-35), 3) := by decide +kernel
theorem dL_sum_155 : decode cL_sum 155 = .ok (.iconst 0, 1) := by decide +kernel
theorem dL_sum_156 : decode cL_sum 156 = .ok (.istore 4, 2) := by decide +kernel
theorem dL_sum_158 : decode cL_sum 158 = .ok (.iload 4, 2) := by decide +kernel
theorem dL_sum_160 : decode cL_sum 160 = .ok (.iconst 4, 1) := by decide +kernel
theorem dL_sum_161 : decode cL_sum 161 = .ok (.if_icmp .ge 23, 3) := by decide +kernel
theorem dL_sum_164 : decode cL_sum 164 = .ok (.ldc2_w 213, 3) := by decide +kernel
theorem dL_sum_167 : decode cL_sum 167 = .ok (.lload_n 2, 1) := by decide +kernel
theorem dL_sum_168 : decode cL_sum 168 = .ok (.lmul, 1) := by decide +kernel
theorem dL_sum_169 : decode cL_sum 169 = .ok (.aload_n 0, 1) := by decide +kernel
theorem dL_sum_170 : decode cL_sum 170 = .ok (.iload 4, 2) := by decide +kernel
theorem dL_sum_172 : decode cL_sum 172 = .ok (.invokestatic 185, 3) := by decide +kernel
theorem dL_sum_175 : decode cL_sum 175 = .ok (.i2l, 1) := by decide +kernel
theorem dL_sum_176 : decode cL_sum 176 = .ok (.ladd, 1) := by decide +kernel
theorem dL_sum_177 : decode cL_sum 177 = .ok (.lstore_n 2, 1) := by decide +kernel
theorem dL_sum_178 : decode cL_sum 178 = .ok (.iinc 4 1, 3) := by decide +kernel
theorem dL_sum_181 : decode cL_sum 181 = .ok (.goto (-23), 3) := by decide +kernel
theorem dL_sum_184 : decode cL_sum 184 = .ok (.lload_n 2, 1) := by decide +kernel
theorem dL_sum_185 : decode cL_sum 185 = .ok (.lreturn, 1) := by decide +kernel
theorem dL_areUsed_0 : decode cL_areUsed 0 = .ok (.iconst 1, 1) := by decide +kernel
theorem dL_areUsed_1 : decode cL_areUsed 1 = .ok (.istore_n 2, 1) := by decide +kernel
theorem dL_areUsed_2 : decode cL_areUsed 2 = .ok (.iconst 0, 1) := by decide +kernel
theorem dL_areUsed_3 : decode cL_areUsed 3 = .ok (.istore_n 3, 1) := by decide +kernel
theorem dL_areUsed_4 : decode cL_areUsed 4 = .ok (.iload_n 3, 1) := by decide +kernel
theorem dL_areUsed_5 : decode cL_areUsed 5 = .ok (.bipush 6, 2) := by decide +kernel
theorem dL_areUsed_7 : decode cL_areUsed 7 = .ok (.if_icmp .ge 76, 3) := by decide +kernel
theorem dL_areUsed_10 : decode cL_areUsed 10 = .ok (.iconst 0, 1) := by decide +kernel
theorem dL_areUsed_11 : decode cL_areUsed 11 = .ok (.istore 4, 2) := by decide +kernel
theorem dL_areUsed_13 : decode cL_areUsed 13 = .ok (.iconst 0, 1) := by decide +kernel
theorem dL_areUsed_14 : decode cL_areUsed 14 = .ok (.istore 5, 2) := by decide +kernel
theorem dL_areUsed_16 : decode cL_areUsed 16 = .ok (.iload 5, 2) := by decide +kernel
theorem dL_areUsed_18 : decode cL_areUsed 18 = .ok (.bipush 6, 2) := by decide +kernel
theorem dL_areUsed_20 : decode cL_areUsed 20 = .ok (.if_icmp .ge 38, 3) := by decide +kernel
theorem dL_areUsed_23 : decode cL_areUsed 23 = .ok (.iload 4, 2) := by decide +kernel
theorem dL_areUsed_25 : decode cL_areUsed 25 = .ok (.iload 5, 2) := by decide +kernel
theorem dL_areUsed_27 : decode cL_areUsed 27 = .ok (.iload_n 3, 1) := by decide +kernel
theorem dL_areUsed_28 : decode cL_areUsed 28 = .ok (.if_icmp .eq 20, 3) := by decide +kernel
theorem dL_areUsed_31 : decode cL_areUsed 31 = .ok (.aload_n 0, 1) := by decide +kernel
theorem dL_areUsed_32 : decode cL_areUsed 32 = .ok (.iload 5, 2) := by decide +kernel
theorem dL_areUsed_34 : decode cL_areUsed 34 = .ok (.iload_n 3, 1) := by decide +kernel
theorem dL_areUsed_35 : decode cL_areUsed 35 = .ok (.iload_n 1, 1) := by decide +kernel
theorem dL_areUsed_36 : decode cL_areUsed 36 = .ok (.invokestatic 167, 3) := by decide +kernel
theorem dL_areUsed_39 : decode cL_areUsed 39 = .ok (.lconst 0, 1) := by decide +kernel
theorem dL_areUsed_40 : decode cL_areUsed 40 = .ok (.lcmp, 1) := by decide +kernel
theorem dL_areUsed_41 : decode cL_areUsed 41 = .ok (.ifCond .le 7, 3) := by decide +kernel
theorem dL_areUsed_44 : decode cL_areUsed 44 = .ok (.iconst 1, 1) := by decide +kernel
theorem dL_areUsed_45 : decode cL_areUsed 45 = .ok (.goto 4, 3) := by decide +kernel
theorem dL_areUsed_48 : decode cL_areUsed 48 = .ok (.iconst 0, 1) := by decide +kernel
theorem dL_areUsed_49 : decode cL_areUsed 49 = .ok (.iadd, 1) := by decide +kernel
theorem dL_areUsed_50 : decode cL_areUsed 50 = .ok (.istore 4, 2) := by decide +kernel
theorem dL_areUsed_52 : decode cL_areUsed 52 = .ok (.iinc 5 1, 3) := by decide +kernel
theorem dL_areUsed_55 : decode cL_areUsed 55 = .ok (.goto (-39), 3) := by decide +kernel
theorem dL_areUsed_58 : decode cL_areUsed 58 = .ok (.iload_n 2, 1) := by decide +kernel
theorem dL_areUsed_59 : decode cL_areUsed 59 = .ok (.aload_n 0, 1) := by decide +kernel
theorem dL_areUsed_60 : decode cL_areUsed 60 = .ok (.iload_n 3, 1) := by decide +kernel
theorem dL_areUsed_61 : decode cL_areUsed 61 = .ok (.iload_n 1, 1) := by decide +kernel
theorem dL_areUsed_62 : decode cL_areUsed 62 = .ok (.invokestatic 266, 3) := by decide +kernel
theorem dL_areUsed_65 : decode cL_areUsed 65 = .ok (.iload 4, 2) := by decide +kernel
theorem dL_areUsed_67 : decode cL_areUsed 67 = .ok (.if_icmp .ne 7, 3) := by decide +kernel
theorem dL_areUsed_70 : decode cL_areUsed 70 = .ok (.iconst 1, 1) := by decide +kernel
theorem dL_areUsed_71 : decode cL_areUsed 71 = .ok (.goto 4, 3) := by decide +kernel
theorem dL_areUsed_74 : decode cL_areUsed 74 = .ok (.iconst 0, 1) := by decide +kernel
theorem dL_areUsed_75 : decode cL_areUsed 75 = .ok (.iand, 1) := by decide +kernel
theorem dL_areUsed_76 : decode cL_areUsed 76 = .ok (.istore_n 2, 1) := by decide +kernel
theorem dL_areUsed_77 : decode cL_areUsed 77 = .ok (.iinc 3 1, 3) := by decide +kernel
theorem dL_areUsed_80 : decode cL_areUsed 80 = .ok (.goto (-76), 3) := by decide +kernel
theorem dL_areUsed_83 : decode cL_areUsed 83 = .ok (.iload_n 2, 1) := by decide +kernel
theorem dL_areUsed_84 : decode cL_areUsed 84 = .ok (.ireturn, 1) := by decide +kernel
