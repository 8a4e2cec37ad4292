theorem d_MO_script_0 : decode b_MO_script 0 = .ok (.aload_n 0, 1) := by decide +kernel
theorem d_MO_script_1 : decode b_MO_script 1 = .ok (.iload_n 1, 1) := by decide +kernel
theorem d_MO_script_2 : decode b_MO_script 2 = .ok (.invokevirtual 75, 3) := by decide +kernel
theorem d_MO_script_5 : decode b_MO_script 5 = .ok (.istore_n 2, 1) := by decide +kernel
theorem d_MO_script_6 : decode b_MO_script 6 = .ok (.iload_n 2, 1) := by decide +kernel
theorem d_MO_script_7 : decode b_MO_script 7 = .ok (.ifCond .eq 8, 3) := by decide +kernel
theorem d_MO_script_10 : decode b_MO_script 10 = .ok (.iload_n 2, 1) := by decide +kernel
theorem d_MO_script_11 : decode b_MO_script 11 = .ok (.iconst 3, 1) := by decide +kernel
theorem d_MO_script_12 : decode b_MO_script 12 = .ok (.if_icmp .ne 5, 3) := by decide +kernel
theorem d_MO_script_15 : decode b_MO_script 15 = .ok (.iconst 0, 1) := by decide +kernel
theorem d_MO_script_16 : decode b_MO_script 16 = .ok (.ireturn, 1) := by decide +kernel
theorem d_MO_script_17 : decode b_MO_script 17 = .ok (.iload_n 1, 1) := by decide +kernel
theorem d_MO_script_18 : decode b_MO_script 18 = .ok (.sipush 170, 3) := by decide +kernel
theorem d_MO_script_21 : decode b_MO_script 21 = .ok (.if_icmp .eq 49, 3) := by decide +kernel
theorem d_MO_script_24 : decode b_MO_script 24 = .ok (.iload_n 1, 1) := by decide +kernel
theorem d_MO_script_25 : decode b_MO_script 25 = .ok (.sipush 186, 3) := by decide +kernel
theorem d_MO_script_28 : decode b_MO_script 28 = .ok (.if_icmp .eq 42, 3) := by decide +kernel
theorem d_MO_script_31 : decode b_MO_script 31 = .ok (.iload_n 1, 1) := by decide +kernel
theorem d_MO_script_32 : decode b_MO_script 32 = .ok (.sipush 8490, 3) := by decide +kernel
theorem d_MO_script_35 : decode b_MO_script 35 = .ok (.if_icmp .eq 35, 3) := by decide +kernel
theorem d_MO_script_38 : decode b_MO_script 38 = .ok (.iload_n 1, 1) := by decide +kernel
theorem d_MO_script_39 : decode b_MO_script 39 = .ok (.sipush 8491, 3) := by decide +kernel
theorem d_MO_script_42 : decode b_MO_script 42 = .ok (.if_icmp .eq 28, 3) := by decide +kernel
theorem d_MO_script_45 : decode b_MO_script 45 = .ok (.iload_n 1, 1) := by decide +kernel
theorem d_MO_script_46 : decode b_MO_script 46 = .ok (.sipush 384, 3) := by decide +kernel
theorem d_MO_script_49 : decode b_MO_script 49 = .ok (.if_icmp .ge 23, 3) := by decide +kernel
theorem d_MO_script_52 : decode b_MO_script 52 = .ok (.iload_n 1, 1) := by decide +kernel
theorem d_MO_script_53 : decode b_MO_script 53 = .ok (.sipush 181, 3) := by decide +kernel
theorem d_MO_script_56 : decode b_MO_script 56 = .ok (.if_icmp .eq 16, 3) := by decide +kernel
theorem d_MO_script_59 : decode b_MO_script 59 = .ok (.iload_n 2, 1) := by decide +kernel
theorem d_MO_script_60 : decode b_MO_script 60 = .ok (.iconst 4, 1) := by decide +kernel
theorem d_MO_script_61 : decode b_MO_script 61 = .ok (.if_icmp .eq 9, 3) := by decide +kernel
theorem d_MO_script_64 : decode b_MO_script 64 = .ok (.iload_n 2, 1) := by decide +kernel
theorem d_MO_script_65 : decode b_MO_script 65 = .ok (.bipush 6, 2) := by decide +kernel
theorem d_MO_script_67 : decode b_MO_script 67 = .ok (.if_icmp .ne 5, 3) := by decide +kernel
theorem d_MO_script_70 : decode b_MO_script 70 = .ok (.iconst 2, 1) := by decide +kernel
theorem d_MO_script_71 : decode b_MO_script 71 = .ok (.ireturn, 1) := by decide +kernel
theorem d_MO_script_72 : decode b_MO_script 72 = .ok (.iload_n 1, 1) := by decide +kernel
theorem d_MO_script_73 : decode b_MO_script 73 = .ok (.sipush 913, 3) := by decide +kernel
theorem d_MO_script_76 : decode b_MO_script 76 = .ok (.if_icmp .lt 12, 3) := by decide +kernel
theorem d_MO_script_79 : decode b_MO_script 79 = .ok (.iload_n 1, 1) := by decide +kernel
theorem d_MO_script_80 : decode b_MO_script 80 = .ok (.sipush 969, 3) := by decide +kernel
theorem d_MO_script_83 : decode b_MO_script 83 = .ok (.if_icmp .gt 5, 3) := by decide +kernel
theorem d_MO_script_86 : decode b_MO_script 86 = .ok (.iconst 3, 1) := by decide +kernel
theorem d_MO_script_87 : decode b_MO_script 87 = .ok (.ireturn, 1) := by decide +kernel
theorem d_MO_script_88 : decode b_MO_script 88 = .ok (.iload_n 1, 1) := by decide +kernel
theorem d_MO_script_89 : decode b_MO_script 89 = .ok (.sipush 1024, 3) := by decide +kernel
theorem d_MO_script_92 : decode b_MO_script 92 = .ok (.if_icmp .lt 12, 3) := by decide +kernel
theorem d_MO_script_95 : decode b_MO_script 95 = .ok (.iload_n 1, 1) := by decide +kernel
theorem d_MO_script_96 : decode b_MO_script 96 = .ok (.sipush 1119, 3) := by decide +kernel
theorem d_MO_script_99 : decode b_MO_script 99 = .ok (.if_icmp .gt 5, 3) := by decide +kernel
theorem d_MO_script_102 : decode b_MO_script 102 = .ok (.iconst 4, 1) := by decide +kernel
theorem d_MO_script_103 : decode b_MO_script 103 = .ok (.ireturn, 1) := by decide +kernel
theorem d_MO_script_104 : decode b_MO_script 104 = .ok (.iload_n 1, 1) := by decide +kernel
theorem d_MO_script_105 : decode b_MO_script 105 = .ok (.sipush 1488, 3) := by decide +kernel
theorem d_MO_script_108 : decode b_MO_script 108 = .ok (.if_icmp .lt 12, 3) := by decide +kernel
theorem d_MO_script_111 : decode b_MO_script 111 = .ok (.iload_n 1, 1) := by decide +kernel
theorem d_MO_script_112 : decode b_MO_script 112 = .ok (.sipush 1514, 3) := by decide +kernel
theorem d_MO_script_115 : decode b_MO_script 115 = .ok (.if_icmp .gt 5, 3) := by decide +kernel
theorem d_MO_script_118 : decode b_MO_script 118 = .ok (.iconst 5, 1) := by decide +kernel
theorem d_MO_script_119 : decode b_MO_script 119 = .ok (.ireturn, 1) := by decide +kernel
theorem d_MO_script_120 : decode b_MO_script 120 = .ok (.iload_n 1, 1) := by decide +kernel
theorem d_MO_script_121 : decode b_MO_script 121 = .ok (.sipush 1568, 3) := by decide +kernel
theorem d_MO_script_124 : decode b_MO_script 124 = .ok (.if_icmp .lt 13, 3) := by decide +kernel
theorem d_MO_script_127 : decode b_MO_script 127 = .ok (.iload_n 1, 1) := by decide +kernel
theorem d_MO_script_128 : decode b_MO_script 128 = .ok (.sipush 1610, 3) := by decide +kernel
theorem d_MO_script_131 : decode b_MO_script 131 = .ok (.if_icmp .gt 6, 3) := by decide +kernel
theorem d_MO_script_134 : decode b_MO_script 134 = .ok (.bipush 6, 2) := by decide +kernel
theorem d_MO_script_136 : decode b_MO_script 136 = .ok (.ireturn, 1) := by decide +kernel
theorem d_MO_script_137 : decode b_MO_script 137 = .ok (.iload_n 1, 1) := by decide +kernel
theorem d_MO_script_138 : decode b_MO_script 138 = .ok (.sipush 12353, 3) := by decide +kernel
theorem d_MO_script_141 : decode b_MO_script 141 = .ok (.if_icmp .lt 13, 3) := by decide +kernel
theorem d_MO_script_144 : decode b_MO_script 144 = .ok (.iload_n 1, 1) := by decide +kernel
theorem d_MO_script_145 : decode b_MO_script 145 = .ok (.sipush 12438, 3) := by decide +kernel
theorem d_MO_script_148 : decode b_MO_script 148 = .ok (.if_icmp .gt 6, 3) := by decide +kernel
theorem d_MO_script_151 : decode b_MO_script 151 = .ok (.bipush 7, 2) := by decide +kernel
theorem d_MO_script_153 : decode b_MO_script 153 = .ok (.ireturn, 1) := by decide +kernel
theorem d_MO_script_154 : decode b_MO_script 154 = .ok (.iload_n 1, 1) := by decide +kernel
theorem d_MO_script_155 : decode b_MO_script 155 = .ok (.sipush 12449, 3) := by decide +kernel
theorem d_MO_script_158 : decode b_MO_script 158 = .ok (.if_icmp .lt 13, 3) := by decide +kernel
theorem d_MO_script_161 : decode b_MO_script 161 = .ok (.iload_n 1, 1) := by decide +kernel
theorem d_MO_script_162 : decode b_MO_script 162 = .ok (.sipush 12538, 3) := by decide +kernel
theorem d_MO_script_165 : decode b_MO_script 165 = .ok (.if_icmp .gt 6, 3) := by decide +kernel
theorem d_MO_script_168 : decode b_MO_script 168 = .ok (.bipush 8, 2) := by decide +kernel
theorem d_MO_script_170 : decode b_MO_script 170 = .ok (.ireturn, 1) := by decide +kernel
theorem d_MO_script_171 : decode b_MO_script 171 = .ok (.iload_n 1, 1) := by decide +kernel
theorem d_MO_script_172 : decode b_MO_script 172 = .ok (.sipush 19968, 3) := by decide +kernel
theorem d_MO_script_175 : decode b_MO_script 175 = .ok (.if_icmp .lt 12, 3) := by decide +kernel
theorem d_MO_script_178 : decode b_MO_script 178 = .ok (.iload_n 1, 1) := by decide +kernel
theorem d_MO_script_179 : decode b_MO_script 179 = .ok (.ldc 71, 2) := by decide +kernel
theorem d_MO_script_181 : decode b_MO_script 181 = .ok (.if_icmp .gt 6, 3) := by decide +kernel
theorem d_MO_script_184 : decode b_MO_script 184 = .ok (.bipush 9, 2) := by decide +kernel
theorem d_MO_script_186 : decode b_MO_script 186 = .ok (.ireturn, 1) := by decide +kernel
theorem d_MO_script_187 : decode b_MO_script 187 = .ok (.iload_n 1, 1) := by decide +kernel
theorem d_MO_script_188 : decode b_MO_script 188 = .ok (.ldc 27, 2) := by decide +kernel
theorem d_MO_script_190 : decode b_MO_script 190 = .ok (.if_icmp .lt 12, 3) := by decide +kernel
theorem d_MO_script_193 : decode b_MO_script 193 = .ok (.iload_n 1, 1) := by decide +kernel
theorem d_MO_script_194 : decode b_MO_script 194 = .ok (.ldc 72, 2) := by decide +kernel
theorem d_MO_script_196 : decode b_MO_script 196 = .ok (.if_icmp .gt 6, 3) := by decide +kernel
theorem d_MO_script_199 : decode b_MO_script 199 = .ok (.bipush 10, 2) := by decide +kernel
theorem d_MO_script_201 : decode b_MO_script 201 = .ok (.ireturn, 1) := by decide +kernel
theorem d_MO_script_202 : decode b_MO_script 202 = .ok (.iload_n 1, 1) := by decide +kernel
theorem d_MO_script_203 : decode b_MO_script 203 = .ok (.sipush 768, 3) := by decide +kernel
theorem d_MO_script_206 : decode b_MO_script 206 = .ok (.if_icmp .lt 10, 3) := by decide +kernel
theorem d_MO_script_209 : decode b_MO_script 209 = .ok (.iload_n 1, 1) := by decide +kernel
theorem d_MO_script_210 : decode b_MO_script 210 = .ok (.sipush 879, 3) := by decide +kernel
theorem d_MO_script_213 : decode b_MO_script 213 = .ok (.if_icmp .le 9, 3) := by decide +kernel
theorem d_MO_script_216 : decode b_MO_script 216 = .ok (.iload_n 1, 1) := by decide +kernel
theorem d_MO_script_217 : decode b_MO_script 217 = .ok (.ldc 31, 2) := by decide +kernel
theorem d_MO_script_219 : decode b_MO_script 219 = .ok (.if_icmp .ne 8, 3) := by decide +kernel
theorem d_MO_script_222 : decode b_MO_script 222 = .ok (.bipush 11, 2) := by decide +kernel
theorem d_MO_script_224 : decode b_MO_script 224 = .ok (.goto 4, 3) := by decide +kernel
theorem d_MO_script_227 : decode b_MO_script 227 = .ok (.iconst 1, 1) := by decide +kernel
theorem d_MO_script_228 : decode b_MO_script 228 = .ok (.ireturn, 1) := by decide +kernel
theorem d_MO_withMate_0 : decode b_MO_withMate 0 = .ok (.iload_n 1, 1) := by decide +kernel
theorem d_MO_withMate_1 : decode b_MO_withMate 1 = .ok (.aload_n 0, 1) := by decide +kernel
theorem d_MO_withMate_2 : decode b_MO_withMate 2 = .ok (.getfield 49, 3) := by decide +kernel
theorem d_MO_withMate_5 : decode b_MO_withMate 5 = .ok (.if_icmp .gt 20, 3) := by decide +kernel
theorem d_MO_withMate_8 : decode b_MO_withMate 8 = .ok (.aload_n 0, 1) := by decide +kernel
theorem d_MO_withMate_9 : decode b_MO_withMate 9 = .ok (.getfield 18, 3) := by decide +kernel
theorem d_MO_withMate_12 : decode b_MO_withMate 12 = .ok (.aload_n 0, 1) := by decide +kernel
theorem d_MO_withMate_13 : decode b_MO_withMate 13 = .ok (.dup, 1) := by decide +kernel
theorem d_MO_withMate_14 : decode b_MO_withMate 14 = .ok (.getfield 22, 3) := by decide +kernel
theorem d_MO_withMate_17 : decode b_MO_withMate 17 = .ok (.dup_x1, 1) := by decide +kernel
theorem d_MO_withMate_18 : decode b_MO_withMate 18 = .ok (.iconst 1, 1) := by decide +kernel
theorem d_MO_withMate_19 : decode b_MO_withMate 19 = .ok (.iadd, 1) := by decide +kernel
theorem d_MO_withMate_20 : decode b_MO_withMate 20 = .ok (.putfield 22, 3) := by decide +kernel
theorem d_MO_withMate_23 : decode b_MO_withMate 23 = .ok (.iload_n 1, 1) := by decide +kernel
theorem d_MO_withMate_24 : decode b_MO_withMate 24 = .ok (.iastore, 1) := by decide +kernel
theorem d_MO_withMate_25 : decode b_MO_withMate 25 = .ok (.return_, 1) := by decide +kernel
theorem d_MO_inAny_0 : decode b_MO_inAny 0 = .ok (.iload_n 1, 1) := by decide +kernel
theorem d_MO_inAny_1 : decode b_MO_inAny 1 = .ok (.iload_n 2, 1) := by decide +kernel
theorem d_MO_inAny_2 : decode b_MO_inAny 2 = .ok (.if_icmp .lt 12, 3) := by decide +kernel
theorem d_MO_inAny_5 : decode b_MO_inAny 5 = .ok (.iload_n 1, 1) := by decide +kernel
theorem d_MO_inAny_6 : decode b_MO_inAny 6 = .ok (.iload_n 3, 1) := by decide +kernel
theorem d_MO_inAny_7 : decode b_MO_inAny 7 = .ok (.if_icmp .gt 7, 3) := by decide +kernel
theorem d_MO_inAny_10 : decode b_MO_inAny 10 = .ok (.iconst 1, 1) := by decide +kernel
theorem d_MO_inAny_11 : decode b_MO_inAny 11 = .ok (.goto 4, 3) := by decide +kernel
theorem d_MO_inAny_14 : decode b_MO_inAny 14 = .ok (.iconst 0, 1) := by decide +kernel
theorem d_MO_inAny_15 : decode b_MO_inAny 15 = .ok (.ireturn, 1) := by decide +kernel
theorem d_MO_pair_0 : decode b_MO_pair 0 = .ok (.aload_n 0, 1) := by decide +kernel
theorem d_MO_pair_1 : decode b_MO_pair 1 = .ok (.iload_n 1, 1) := by decide +kernel
theorem d_MO_pair_2 : decode b_MO_pair 2 = .ok (.bipush 65, 2) := by decide +kernel
theorem d_MO_pair_4 : decode b_MO_pair 4 = .ok (.bipush 90, 2) := by decide +kernel
theorem d_MO_pair_6 : decode b_MO_pair 6 = .ok (.invokevirtual 79, 3) := by decide +kernel
theorem d_MO_pair_9 : decode b_MO_pair 9 = .ok (.ifCond .ne 73, 3) := by decide +kernel
theorem d_MO_pair_12 : decode b_MO_pair 12 = .ok (.aload_n 0, 1) := by decide +kernel
theorem d_MO_pair_13 : decode b_MO_pair 13 = .ok (.iload_n 1, 1) := by decide +kernel
theorem d_MO_pair_14 : decode b_MO_pair 14 = .ok (.sipush 192, 3) := by decide +kernel
theorem d_MO_pair_17 : decode b_MO_pair 17 = .ok (.sipush 214, 3) := by decide +kernel
theorem d_MO_pair_20 : decode b_MO_pair 20 = .ok (.invokevirtual 79, 3) := by decide +kernel
theorem d_MO_pair_23 : decode b_MO_pair 23 = .ok (.ifCond .ne 59, 3) := by decide +kernel
theorem d_MO_pair_26 : decode b_MO_pair 26 = .ok (.aload_n 0, 1) := by decide +kernel
theorem d_MO_pair_27 : decode b_MO_pair 27 = .ok (.iload_n 1, 1) := by decide +kernel
theorem d_MO_pair_28 : decode b_MO_pair 28 = .ok (.sipush 216, 3) := by decide +kernel
theorem d_MO_pair_31 : decode b_MO_pair 31 = .ok (.sipush 222, 3) := by decide +kernel
theorem d_MO_pair_34 : decode b_MO_pair 34 = .ok (.invokevirtual 79, 3) := by decide +kernel
theorem d_MO_pair_37 : decode b_MO_pair 37 = .ok (.ifCond .ne 45, 3) := by decide +kernel
theorem d_MO_pair_40 : decode b_MO_pair 40 = .ok (.aload_n 0, 1) := by decide +kernel
theorem d_MO_pair_41 : decode b_MO_pair 41 = .ok (.iload_n 1, 1) := by decide +kernel
theorem d_MO_pair_42 : decode b_MO_pair 42 = .ok (.sipush 913, 3) := by decide +kernel
theorem d_MO_pair_45 : decode b_MO_pair 45 = .ok (.sipush 929, 3) := by decide +kernel
theorem d_MO_pair_48 : decode b_MO_pair 48 = .ok (.invokevirtual 79, 3) := by decide +kernel
theorem d_MO_pair_51 : decode b_MO_pair 51 = .ok (.ifCond .ne 31, 3) := by decide +kernel
theorem d_MO_pair_54 : decode b_MO_pair 54 = .ok (.aload_n 0, 1) := by decide +kernel
theorem d_MO_pair_55 : decode b_MO_pair 55 = .ok (.iload_n 1, 1) := by decide +kernel
theorem d_MO_pair_56 : decode b_MO_pair 56 = .ok (.sipush 931, 3) := by decide +kernel
theorem d_MO_pair_59 : decode b_MO_pair 59 = .ok (.sipush 937, 3) := by decide +kernel
theorem d_MO_pair_62 : decode b_MO_pair 62 = .ok (.invokevirtual 79, 3) := by decide +kernel
theorem d_MO_pair_65 : decode b_MO_pair 65 = .ok (.ifCond .ne 17, 3) := by decide +kernel
theorem d_MO_pair_68 : decode b_MO_pair 68 = .ok (.aload_n 0, 1) := by decide +kernel
theorem d_MO_pair_69 : decode b_MO_pair 69 = .ok (.iload_n 1, 1) := by decide +kernel
theorem d_MO_pair_70 : decode b_MO_pair 70 = .ok (.sipush 1040, 3) := by decide +kernel
theorem d_MO_pair_73 : decode b_MO_pair 73 = .ok (.sipush 1071, 3) := by decide +kernel
theorem d_MO_pair_76 : decode b_MO_pair 76 = .ok (.invokevirtual 79, 3) := by decide +kernel
theorem d_MO_pair_79 : decode b_MO_pair 79 = .ok (.ifCond .eq 6, 3) := by decide +kernel
theorem d_MO_pair_82 : decode b_MO_pair 82 = .ok (.bipush 32, 2) := by decide +kernel
theorem d_MO_pair_84 : decode b_MO_pair 84 = .ok (.ireturn, 1) := by decide +kernel
theorem d_MO_pair_85 : decode b_MO_pair 85 = .ok (.aload_n 0, 1) := by decide +kernel
theorem d_MO_pair_86 : decode b_MO_pair 86 = .ok (.iload_n 1, 1) := by decide +kernel
theorem d_MO_pair_87 : decode b_MO_pair 87 = .ok (.sipush 1024, 3) := by decide +kernel
theorem d_MO_pair_90 : decode b_MO_pair 90 = .ok (.sipush 1039, 3) := by decide +kernel
theorem d_MO_pair_93 : decode b_MO_pair 93 = .ok (.invokevirtual 79, 3) := by decide +kernel
theorem d_MO_pair_96 : decode b_MO_pair 96 = .ok (.ifCond .eq 6, 3) := by decide +kernel
theorem d_MO_pair_99 : decode b_MO_pair 99 = .ok (.bipush 80, 2) := by decide +kernel
theorem d_MO_pair_101 : decode b_MO_pair 101 = .ok (.ireturn, 1) := by decide +kernel
theorem d_MO_pair_102 : decode b_MO_pair 102 = .ok (.aload_n 0, 1) := by decide +kernel
theorem d_MO_pair_103 : decode b_MO_pair 103 = .ok (.iload_n 1, 1) := by decide +kernel
theorem d_MO_pair_104 : decode b_MO_pair 104 = .ok (.sipush 256, 3) := by decide +kernel
theorem d_MO_pair_107 : decode b_MO_pair 107 = .ok (.sipush 303, 3) := by decide +kernel
theorem d_MO_pair_110 : decode b_MO_pair 110 = .ok (.invokevirtual 79, 3) := by decide +kernel
theorem d_MO_pair_113 : decode b_MO_pair 113 = .ok (.ifCond .ne 59, 3) := by decide +kernel
theorem d_MO_pair_116 : decode b_MO_pair 116 = .ok (.aload_n 0, 1) := by decide +kernel
theorem d_MO_pair_117 : decode b_MO_pair 117 = .ok (.iload_n 1, 1) := by decide +kernel
theorem d_MO_pair_118 : decode b_MO_pair 118 = .ok (.sipush 306, 3) := by decide +kernel
theorem d_MO_pair_121 : decode b_MO_pair 121 = .ok (.sipush 311, 3) := by decide +kernel
theorem d_MO_pair_124 : decode b_MO_pair 124 = .ok (.invokevirtual 79, 3) := by decide +kernel
theorem d_MO_pair_127 : decode b_MO_pair 127 = .ok (.ifCond .ne 45, 3) := by decide +kernel
theorem d_MO_pair_130 : decode b_MO_pair 130 = .ok (.aload_n 0, 1) := by decide +kernel
theorem d_MO_pair_131 : decode b_MO_pair 131 = .ok (.iload_n 1, 1) := by decide +kernel
theorem d_MO_pair_132 : decode b_MO_pair 132 = .ok (.sipush 313, 3) := by decide +kernel
theorem d_MO_pair_135 : decode b_MO_pair 135 = .ok (.sipush 328, 3) := by decide +kernel
theorem d_MO_pair_138 : decode b_MO_pair 138 = .ok (.invokevirtual 79, 3) := by decide +kernel
theorem d_MO_pair_141 : decode b_MO_pair 141 = .ok (.ifCond .ne 31, 3) := by decide +kernel
theorem d_MO_pair_144 : decode b_MO_pair 144 = .ok (.aload_n 0, 1) := by decide +kernel
theorem d_MO_pair_145 : decode b_MO_pair 145 = .ok (.iload_n 1, 1) := by decide +kernel
theorem d_MO_pair_146 : decode b_MO_pair 146 = .ok (.sipush 330, 3) := by decide +kernel
theorem d_MO_pair_149 : decode b_MO_pair 149 = .ok (.sipush 375, 3) := by decide +kernel
theorem d_MO_pair_152 : decode b_MO_pair 152 = .ok (.invokevirtual 79, 3) := by decide +kernel
theorem d_MO_pair_155 : decode b_MO_pair 155 = .ok (.ifCond .ne 17, 3) := by decide +kernel
theorem d_MO_pair_158 : decode b_MO_pair 158 = .ok (.aload_n 0, 1) := by decide +kernel
theorem d_MO_pair_159 : decode b_MO_pair 159 = .ok (.iload_n 1, 1) := by decide +kernel
theorem d_MO_pair_160 : decode b_MO_pair 160 = .ok (.sipush 377, 3) := by decide +kernel
theorem d_MO_pair_163 : decode b_MO_pair 163 = .ok (.sipush 382, 3) := by decide +kernel
theorem d_MO_pair_166 : decode b_MO_pair 166 = .ok (.invokevirtual 79, 3) := by decide +kernel
theorem d_MO_pair_169 : decode b_MO_pair 169 = .ok (.ifCond .eq 7, 3) := by decide +kernel
theorem d_MO_pair_172 : decode b_MO_pair 172 = .ok (.iconst 1, 1) := by decide +kernel
theorem d_MO_pair_173 : decode b_MO_pair 173 = .ok (.goto 4, 3) := by decide +kernel
theorem d_MO_pair_176 : decode b_MO_pair 176 = .ok (.iconst 0, 1) := by decide +kernel
theorem d_MO_pair_177 : decode b_MO_pair 177 = .ok (.istore_n 2, 1) := by decide +kernel
theorem d_MO_pair_178 : decode b_MO_pair 178 = .ok (.iload_n 2, 1) := by decide +kernel
theorem d_MO_pair_179 : decode b_MO_pair 179 = .ok (.ifCond .eq 17, 3) := by decide +kernel
theorem d_MO_pair_182 : decode b_MO_pair 182 = .ok (.aload_n 0, 1) := by decide +kernel
theorem d_MO_pair_183 : decode b_MO_pair 183 = .ok (.iload_n 1, 1) := by decide +kernel
theorem d_MO_pair_184 : decode b_MO_pair 184 = .ok (.invokevirtual 75, 3) := by decide +kernel
theorem d_MO_pair_187 : decode b_MO_pair 187 = .ok (.bipush 6, 2) := by decide +kernel
theorem d_MO_pair_189 : decode b_MO_pair 189 = .ok (.if_icmp .ne 7, 3) := by decide +kernel
theorem d_MO_pair_192 : decode b_MO_pair 192 = .ok (.iconst 1, 1) := by decide +kernel
theorem d_MO_pair_193 : decode b_MO_pair 193 = .ok (.goto 4, 3) := by decide +kernel
theorem d_MO_pair_196 : decode b_MO_pair 196 = .ok (.iconst 0, 1) := by decide +kernel
theorem d_MO_pair_197 : decode b_MO_pair 197 = .ok (.ireturn, 1) := by decide +kernel
theorem d_MO_third_0 : decode b_MO_third 0 = .ok (.iload_n 1, 1) := by decide +kernel
theorem d_MO_third_1 : decode b_MO_third 1 = .ok (.sipush 383, 3) := by decide +kernel
theorem d_MO_third_4 : decode b_MO_third 4 = .ok (.if_icmp .ne 6, 3) := by decide +kernel
theorem d_MO_third_7 : decode b_MO_third 7 = .ok (.bipush 83, 2) := by decide +kernel
theorem d_MO_third_9 : decode b_MO_third 9 = .ok (.ireturn, 1) := by decide +kernel
theorem d_MO_third_10 : decode b_MO_third 10 = .ok (.iload_n 1, 1) := by decide +kernel
theorem d_MO_third_11 : decode b_MO_third 11 = .ok (.sipush 8490, 3) := by decide +kernel
theorem d_MO_third_14 : decode b_MO_third 14 = .ok (.if_icmp .ne 6, 3) := by decide +kernel
theorem d_MO_third_17 : decode b_MO_third 17 = .ok (.bipush 75, 2) := by decide +kernel
theorem d_MO_third_19 : decode b_MO_third 19 = .ok (.ireturn, 1) := by decide +kernel
theorem d_MO_third_20 : decode b_MO_third 20 = .ok (.iload_n 1, 1) := by decide +kernel
theorem d_MO_third_21 : decode b_MO_third 21 = .ok (.sipush 8491, 3) := by decide +kernel
theorem d_MO_third_24 : decode b_MO_third 24 = .ok (.if_icmp .ne 7, 3) := by decide +kernel
theorem d_MO_third_27 : decode b_MO_third 27 = .ok (.sipush 197, 3) := by decide +kernel
theorem d_MO_third_30 : decode b_MO_third 30 = .ok (.ireturn, 1) := by decide +kernel
theorem d_MO_third_31 : decode b_MO_third 31 = .ok (.iload_n 1, 1) := by decide +kernel
theorem d_MO_third_32 : decode b_MO_third 32 = .ok (.sipush 181, 3) := by decide +kernel
theorem d_MO_third_35 : decode b_MO_third 35 = .ok (.if_icmp .ne 7, 3) := by decide +kernel
theorem d_MO_third_38 : decode b_MO_third 38 = .ok (.sipush 924, 3) := by decide +kernel
theorem d_MO_third_41 : decode b_MO_third 41 = .ok (.ireturn, 1) := by decide +kernel
theorem d_MO_third_42 : decode b_MO_third 42 = .ok (.iload_n 1, 1) := by decide +kernel
theorem d_MO_third_43 : decode b_MO_third 43 = .ok (.sipush 962, 3) := by decide +kernel
theorem d_MO_third_46 : decode b_MO_third 46 = .ok (.if_icmp .ne 9, 3) := by decide +kernel
theorem d_MO_third_49 : decode b_MO_third 49 = .ok (.sipush 931, 3) := by decide +kernel
theorem d_MO_third_52 : decode b_MO_third 52 = .ok (.goto 4, 3) := by decide +kernel
theorem d_MO_third_55 : decode b_MO_third 55 = .ok (.iconst (-1), 1) := by decide +kernel
theorem d_MO_third_56 : decode b_MO_third 56 = .ok (.ireturn, 1) := by decide +kernel
theorem d_MO_first_0 : decode b_MO_first 0 = .ok (.aload_n 0, 1) := by decide +kernel
theorem d_MO_first_1 : decode b_MO_first 1 = .ok (.iload_n 1, 1) := by decide +kernel
theorem d_MO_first_2 : decode b_MO_first 2 = .ok (.invokevirtual 83, 3) := by decide +kernel
theorem d_MO_first_5 : decode b_MO_first 5 = .ok (.ifCond .lt 9, 3) := by decide +kernel
theorem d_MO_first_8 : decode b_MO_first 8 = .ok (.aload_n 0, 1) := by decide +kernel
theorem d_MO_first_9 : decode b_MO_first 9 = .ok (.iload_n 1, 1) := by decide +kernel
theorem d_MO_first_10 : decode b_MO_first 10 = .ok (.invokevirtual 83, 3) := by decide +kernel
theorem d_MO_first_13 : decode b_MO_first 13 = .ok (.ireturn, 1) := by decide +kernel
theorem d_MO_first_14 : decode b_MO_first 14 = .ok (.iload_n 1, 1) := by decide +kernel
theorem d_MO_first_15 : decode b_MO_first 15 = .ok (.sipush 255, 3) := by decide +kernel
theorem d_MO_first_18 : decode b_MO_first 18 = .ok (.if_icmp .ne 7, 3) := by decide +kernel
theorem d_MO_first_21 : decode b_MO_first 21 = .ok (.sipush 376, 3) := by decide +kernel
theorem d_MO_first_24 : decode b_MO_first 24 = .ok (.ireturn, 1) := by decide +kernel
theorem d_MO_first_25 : decode b_MO_first 25 = .ok (.aload_n 0, 1) := by decide +kernel
theorem d_MO_first_26 : decode b_MO_first 26 = .ok (.iload_n 1, 1) := by decide +kernel
theorem d_MO_first_27 : decode b_MO_first 27 = .ok (.invokevirtual 86, 3) := by decide +kernel
theorem d_MO_first_30 : decode b_MO_first 30 = .ok (.ifCond .le 5, 3) := by decide +kernel
theorem d_MO_first_33 : decode b_MO_first 33 = .ok (.iload_n 1, 1) := by decide +kernel
theorem d_MO_first_34 : decode b_MO_first 34 = .ok (.ireturn, 1) := by decide +kernel
theorem d_MO_first_35 : decode b_MO_first 35 = .ok (.iload_n 1, 1) := by decide +kernel
theorem d_MO_first_36 : decode b_MO_first 36 = .ok (.bipush 32, 2) := by decide +kernel
theorem d_MO_first_38 : decode b_MO_first 38 = .ok (.if_icmp .lt 21, 3) := by decide +kernel
theorem d_MO_first_41 : decode b_MO_first 41 = .ok (.aload_n 0, 1) := by decide +kernel
theorem d_MO_first_42 : decode b_MO_first 42 = .ok (.iload_n 1, 1) := by decide +kernel
theorem d_MO_first_43 : decode b_MO_first 43 = .ok (.bipush 32, 2) := by decide +kernel
theorem d_MO_first_45 : decode b_MO_first 45 = .ok (.isub, 1) := by decide +kernel
theorem d_MO_first_46 : decode b_MO_first 46 = .ok (.invokevirtual 86, 3) := by decide +kernel
theorem d_MO_first_49 : decode b_MO_first 49 = .ok (.bipush 32, 2) := by decide +kernel
theorem d_MO_first_51 : decode b_MO_first 51 = .ok (.if_icmp .ne 8, 3) := by decide +kernel
theorem d_MO_first_54 : decode b_MO_first 54 = .ok (.iload_n 1, 1) := by decide +kernel
theorem d_MO_first_55 : decode b_MO_first 55 = .ok (.bipush 32, 2) := by decide +kernel
theorem d_MO_first_57 : decode b_MO_first 57 = .ok (.isub, 1) := by decide +kernel
theorem d_MO_first_58 : decode b_MO_first 58 = .ok (.ireturn, 1) := by decide +kernel
theorem d_MO_first_59 : decode b_MO_first 59 = .ok (.iload_n 1, 1) := by decide +kernel
theorem d_MO_first_60 : decode b_MO_first 60 = .ok (.bipush 80, 2) := by decide +kernel
theorem d_MO_first_62 : decode b_MO_first 62 = .ok (.if_icmp .lt 21, 3) := by decide +kernel
theorem d_MO_first_65 : decode b_MO_first 65 = .ok (.aload_n 0, 1) := by decide +kernel
theorem d_MO_first_66 : decode b_MO_first 66 = .ok (.iload_n 1, 1) := by decide +kernel
theorem d_MO_first_67 : decode b_MO_first 67 = .ok (.bipush 80, 2) := by decide +kernel
theorem d_MO_first_69 : decode b_MO_first 69 = .ok (.isub, 1) := by decide +kernel
theorem d_MO_first_70 : decode b_MO_first 70 = .ok (.invokevirtual 86, 3) := by decide +kernel
theorem d_MO_first_73 : decode b_MO_first 73 = .ok (.bipush 80, 2) := by decide +kernel
theorem d_MO_first_75 : decode b_MO_first 75 = .ok (.if_icmp .ne 8, 3) := by decide +kernel
theorem d_MO_first_78 : decode b_MO_first 78 = .ok (.iload_n 1, 1) := by decide +kernel
theorem d_MO_first_79 : decode b_MO_first 79 = .ok (.bipush 80, 2) := by decide +kernel
theorem d_MO_first_81 : decode b_MO_first 81 = .ok (.isub, 1) := by decide +kernel
theorem d_MO_first_82 : decode b_MO_first 82 = .ok (.ireturn, 1) := by decide +kernel
theorem d_MO_first_83 : decode b_MO_first 83 = .ok (.iload_n 1, 1) := by decide +kernel
theorem d_MO_first_84 : decode b_MO_first 84 = .ok (.ifCond .le 20, 3) := by decide +kernel
theorem d_MO_first_87 : decode b_MO_first 87 = .ok (.aload_n 0, 1) := by decide +kernel
theorem d_MO_first_88 : decode b_MO_first 88 = .ok (.iload_n 1, 1) := by decide +kernel
theorem d_MO_first_89 : decode b_MO_first 89 = .ok (.iconst 1, 1) := by decide +kernel
theorem d_MO_first_90 : decode b_MO_first 90 = .ok (.isub, 1) := by decide +kernel
theorem d_MO_first_91 : decode b_MO_first 91 = .ok (.invokevirtual 86, 3) := by decide +kernel
theorem d_MO_first_94 : decode b_MO_first 94 = .ok (.iconst 1, 1) := by decide +kernel
theorem d_MO_first_95 : decode b_MO_first 95 = .ok (.if_icmp .ne 9, 3) := by decide +kernel
theorem d_MO_first_98 : decode b_MO_first 98 = .ok (.iload_n 1, 1) := by decide +kernel
theorem d_MO_first_99 : decode b_MO_first 99 = .ok (.iconst 1, 1) := by decide +kernel
theorem d_MO_first_100 : decode b_MO_first 100 = .ok (.isub, 1) := by decide +kernel
theorem d_MO_first_101 : decode b_MO_first 101 = .ok (.goto 4, 3) := by decide +kernel
theorem d_MO_first_104 : decode b_MO_first 104 = .ok (.iload_n 1, 1) := by decide +kernel
theorem d_MO_first_105 : decode b_MO_first 105 = .ok (.ireturn, 1) := by decide +kernel
theorem d_MO_caseOf_0 : decode b_MO_caseOf 0 = .ok (.aload_n 0, 1) := by decide +kernel
theorem d_MO_caseOf_1 : decode b_MO_caseOf 1 = .ok (.iconst 0, 1) := by decide +kernel
theorem d_MO_caseOf_2 : decode b_MO_caseOf 2 = .ok (.putfield 22, 3) := by decide +kernel
theorem d_MO_caseOf_5 : decode b_MO_caseOf 5 = .ok (.aload_n 0, 1) := by decide +kernel
theorem d_MO_caseOf_6 : decode b_MO_caseOf 6 = .ok (.getfield 41, 3) := by decide +kernel
theorem d_MO_caseOf_9 : decode b_MO_caseOf 9 = .ok (.ifCond .ne 14, 3) := by decide +kernel
theorem d_MO_caseOf_12 : decode b_MO_caseOf 12 = .ok (.aload_n 0, 1) := by decide +kernel
theorem d_MO_caseOf_13 : decode b_MO_caseOf 13 = .ok (.getfield 45, 3) := by decide +kernel
theorem d_MO_caseOf_16 : decode b_MO_caseOf 16 = .ok (.ifCond .ne 7, 3) := by decide +kernel
theorem d_MO_caseOf_19 : decode b_MO_caseOf 19 = .ok (.iconst 1, 1) := by decide +kernel
theorem d_MO_caseOf_20 : decode b_MO_caseOf 20 = .ok (.goto 4, 3) := by decide +kernel
theorem d_MO_caseOf_23 : decode b_MO_caseOf 23 = .ok (.iconst 0, 1) := by decide +kernel
theorem d_MO_caseOf_24 : decode b_MO_caseOf 24 = .ok (.istore_n 2, 1) := by decide +kernel
theorem d_MO_caseOf_25 : decode b_MO_caseOf 25 = .ok (.iload_n 1, 1) := by decide +kernel
theorem d_MO_caseOf_26 : decode b_MO_caseOf 26 = .ok (.sipush 8704, 3) := by decide +kernel
theorem d_MO_caseOf_29 : decode b_MO_caseOf 29 = .ok (.if_icmp .le 7, 3) := by decide +kernel
theorem d_MO_caseOf_32 : decode b_MO_caseOf 32 = .ok (.iload_n 1, 1) := by decide +kernel
theorem d_MO_caseOf_33 : decode b_MO_caseOf 33 = .ok (.goto 8, 3) := by decide +kernel
theorem d_MO_caseOf_36 : decode b_MO_caseOf 36 = .ok (.aload_n 0, 1) := by decide +kernel
theorem d_MO_caseOf_37 : decode b_MO_caseOf 37 = .ok (.iload_n 1, 1) := by decide +kernel
theorem d_MO_caseOf_38 : decode b_MO_caseOf 38 = .ok (.invokevirtual 89, 3) := by decide +kernel
theorem d_MO_caseOf_41 : decode b_MO_caseOf 41 = .ok (.istore_n 3, 1) := by decide +kernel
theorem d_MO_caseOf_42 : decode b_MO_caseOf 42 = .ok (.iload_n 2, 1) := by decide +kernel
theorem d_MO_caseOf_43 : decode b_MO_caseOf 43 = .ok (.ifCond .eq 21, 3) := by decide +kernel
theorem d_MO_caseOf_46 : decode b_MO_caseOf 46 = .ok (.aload_n 0, 1) := by decide +kernel
theorem d_MO_caseOf_47 : decode b_MO_caseOf 47 = .ok (.iload_n 3, 1) := by decide +kernel
theorem d_MO_caseOf_48 : decode b_MO_caseOf 48 = .ok (.bipush 65, 2) := by decide +kernel
theorem d_MO_caseOf_50 : decode b_MO_caseOf 50 = .ok (.bipush 90, 2) := by decide +kernel
theorem d_MO_caseOf_52 : decode b_MO_caseOf 52 = .ok (.invokevirtual 79, 3) := by decide +kernel
theorem d_MO_caseOf_55 : decode b_MO_caseOf 55 = .ok (.ifCond .ne 9, 3) := by decide +kernel
theorem d_MO_caseOf_58 : decode b_MO_caseOf 58 = .ok (.aload_n 0, 1) := by decide +kernel
theorem d_MO_caseOf_59 : decode b_MO_caseOf 59 = .ok (.iload_n 1, 1) := by decide +kernel
theorem d_MO_caseOf_60 : decode b_MO_caseOf 60 = .ok (.invokevirtual 92, 3) := by decide +kernel
theorem d_MO_caseOf_63 : decode b_MO_caseOf 63 = .ok (.return_, 1) := by decide +kernel
theorem d_MO_caseOf_64 : decode b_MO_caseOf 64 = .ok (.aload_n 0, 1) := by decide +kernel
theorem d_MO_caseOf_65 : decode b_MO_caseOf 65 = .ok (.iload_n 3, 1) := by decide +kernel
theorem d_MO_caseOf_66 : decode b_MO_caseOf 66 = .ok (.invokevirtual 92, 3) := by decide +kernel
theorem d_MO_caseOf_69 : decode b_MO_caseOf 69 = .ok (.iload_n 3, 1) := by decide +kernel
theorem d_MO_caseOf_70 : decode b_MO_caseOf 70 = .ok (.sipush 376, 3) := by decide +kernel
theorem d_MO_caseOf_73 : decode b_MO_caseOf 73 = .ok (.if_icmp .ne 13, 3) := by decide +kernel
theorem d_MO_caseOf_76 : decode b_MO_caseOf 76 = .ok (.aload_n 0, 1) := by decide +kernel
theorem d_MO_caseOf_77 : decode b_MO_caseOf 77 = .ok (.sipush 255, 3) := by decide +kernel
theorem d_MO_caseOf_80 : decode b_MO_caseOf 80 = .ok (.invokevirtual 92, 3) := by decide +kernel
theorem d_MO_caseOf_83 : decode b_MO_caseOf 83 = .ok (.goto 29, 3) := by decide +kernel
theorem d_MO_caseOf_86 : decode b_MO_caseOf 86 = .ok (.iload_n 3, 1) := by decide +kernel
theorem d_MO_caseOf_87 : decode b_MO_caseOf 87 = .ok (.sipush 8704, 3) := by decide +kernel
theorem d_MO_caseOf_90 : decode b_MO_caseOf 90 = .ok (.if_icmp .gt 22, 3) := by decide +kernel
theorem d_MO_caseOf_93 : decode b_MO_caseOf 93 = .ok (.aload_n 0, 1) := by decide +kernel
theorem d_MO_caseOf_94 : decode b_MO_caseOf 94 = .ok (.iload_n 3, 1) := by decide +kernel
theorem d_MO_caseOf_95 : decode b_MO_caseOf 95 = .ok (.invokevirtual 86, 3) := by decide +kernel
theorem d_MO_caseOf_98 : decode b_MO_caseOf 98 = .ok (.ifCond .le 14, 3) := by decide +kernel
theorem d_MO_caseOf_101 : decode b_MO_caseOf 101 = .ok (.aload_n 0, 1) := by decide +kernel
theorem d_MO_caseOf_102 : decode b_MO_caseOf 102 = .ok (.iload_n 3, 1) := by decide +kernel
theorem d_MO_caseOf_103 : decode b_MO_caseOf 103 = .ok (.aload_n 0, 1) := by decide +kernel
theorem d_MO_caseOf_104 : decode b_MO_caseOf 104 = .ok (.iload_n 3, 1) := by decide +kernel
theorem d_MO_caseOf_105 : decode b_MO_caseOf 105 = .ok (.invokevirtual 86, 3) := by decide +kernel
theorem d_MO_caseOf_108 : decode b_MO_caseOf 108 = .ok (.iadd, 1) := by decide +kernel
theorem d_MO_caseOf_109 : decode b_MO_caseOf 109 = .ok (.invokevirtual 92, 3) := by decide +kernel
theorem d_MO_caseOf_112 : decode b_MO_caseOf 112 = .ok (.iload_n 2, 1) := by decide +kernel
theorem d_MO_caseOf_113 : decode b_MO_caseOf 113 = .ok (.ifCond .eq 4, 3) := by decide +kernel
theorem d_MO_caseOf_116 : decode b_MO_caseOf 116 = .ok (.return_, 1) := by decide +kernel
theorem d_MO_caseOf_117 : decode b_MO_caseOf 117 = .ok (.iload_n 3, 1) := by decide +kernel
theorem d_MO_caseOf_118 : decode b_MO_caseOf 118 = .ok (.bipush 83, 2) := by decide +kernel
theorem d_MO_caseOf_120 : decode b_MO_caseOf 120 = .ok (.if_icmp .ne 10, 3) := by decide +kernel
theorem d_MO_caseOf_123 : decode b_MO_caseOf 123 = .ok (.aload_n 0, 1) := by decide +kernel
theorem d_MO_caseOf_124 : decode b_MO_caseOf 124 = .ok (.sipush 383, 3) := by decide +kernel
theorem d_MO_caseOf_127 : decode b_MO_caseOf 127 = .ok (.invokevirtual 92, 3) := by decide +kernel
theorem d_MO_caseOf_130 : decode b_MO_caseOf 130 = .ok (.iload_n 3, 1) := by decide +kernel
theorem d_MO_caseOf_131 : decode b_MO_caseOf 131 = .ok (.bipush 75, 2) := by decide +kernel
theorem d_MO_caseOf_133 : decode b_MO_caseOf 133 = .ok (.if_icmp .ne 10, 3) := by decide +kernel
theorem d_MO_caseOf_136 : decode b_MO_caseOf 136 = .ok (.aload_n 0, 1) := by decide +kernel
theorem d_MO_caseOf_137 : decode b_MO_caseOf 137 = .ok (.sipush 8490, 3) := by decide +kernel
theorem d_MO_caseOf_140 : decode b_MO_caseOf 140 = .ok (.invokevirtual 92, 3) := by decide +kernel
theorem d_MO_caseOf_143 : decode b_MO_caseOf 143 = .ok (.iload_n 3, 1) := by decide +kernel
theorem d_MO_caseOf_144 : decode b_MO_caseOf 144 = .ok (.sipush 197, 3) := by decide +kernel
theorem d_MO_caseOf_147 : decode b_MO_caseOf 147 = .ok (.if_icmp .ne 10, 3) := by decide +kernel
theorem d_MO_caseOf_150 : decode b_MO_caseOf 150 = .ok (.aload_n 0, 1) := by decide +kernel
theorem d_MO_caseOf_151 : decode b_MO_caseOf 151 = .ok (.sipush 8491, 3) := by decide +kernel
theorem d_MO_caseOf_154 : decode b_MO_caseOf 154 = .ok (.invokevirtual 92, 3) := by decide +kernel
theorem d_MO_caseOf_157 : decode b_MO_caseOf 157 = .ok (.iload_n 3, 1) := by decide +kernel
theorem d_MO_caseOf_158 : decode b_MO_caseOf 158 = .ok (.sipush 924, 3) := by decide +kernel
theorem d_MO_caseOf_161 : decode b_MO_caseOf 161 = .ok (.if_icmp .ne 10, 3) := by decide +kernel
theorem d_MO_caseOf_164 : decode b_MO_caseOf 164 = .ok (.aload_n 0, 1) := by decide +kernel
theorem d_MO_caseOf_165 : decode b_MO_caseOf 165 = .ok (.sipush 181, 3) := by decide +kernel
theorem d_MO_caseOf_168 : decode b_MO_caseOf 168 = .ok (.invokevirtual 92, 3) := by decide +kernel
theorem d_MO_caseOf_171 : decode b_MO_caseOf 171 = .ok (.iload_n 3, 1) := by decide +kernel
theorem d_MO_caseOf_172 : decode b_MO_caseOf 172 = .ok (.sipush 931, 3) := by decide +kernel
theorem d_MO_caseOf_175 : decode b_MO_caseOf 175 = .ok (.if_icmp .ne 10, 3) := by decide +kernel
theorem d_MO_caseOf_178 : decode b_MO_caseOf 178 = .ok (.aload_n 0, 1) := by decide +kernel
theorem d_MO_caseOf_179 : decode b_MO_caseOf 179 = .ok (.sipush 962, 3) := by decide +kernel
theorem d_MO_caseOf_182 : decode b_MO_caseOf 182 = .ok (.invokevirtual 92, 3) := by decide +kernel
theorem d_MO_caseOf_185 : decode b_MO_caseOf 185 = .ok (.return_, 1) := by decide +kernel
theorem d_MO_upper_0 : decode b_MO_upper 0 = .ok (.aload_n 0, 1) := by decide +kernel
theorem d_MO_upper_1 : decode b_MO_upper 1 = .ok (.iload_n 1, 1) := by decide +kernel
theorem d_MO_upper_2 : decode b_MO_upper 2 = .ok (.invokevirtual 75, 3) := by decide +kernel
theorem d_MO_upper_5 : decode b_MO_upper 5 = .ok (.iconst 4, 1) := by decide +kernel
theorem d_MO_upper_6 : decode b_MO_upper 6 = .ok (.if_icmp .eq 5, 3) := by decide +kernel
theorem d_MO_upper_9 : decode b_MO_upper 9 = .ok (.iload_n 1, 1) := by decide +kernel
theorem d_MO_upper_10 : decode b_MO_upper 10 = .ok (.ireturn, 1) := by decide +kernel
theorem d_MO_upper_11 : decode b_MO_upper 11 = .ok (.aload_n 0, 1) := by decide +kernel
theorem d_MO_upper_12 : decode b_MO_upper 12 = .ok (.iload_n 1, 1) := by decide +kernel
theorem d_MO_upper_13 : decode b_MO_upper 13 = .ok (.invokevirtual 96, 3) := by decide +kernel
theorem d_MO_upper_16 : decode b_MO_upper 16 = .ok (.iload_n 1, 1) := by decide +kernel
theorem d_MO_upper_17 : decode b_MO_upper 17 = .ok (.istore_n 2, 1) := by decide +kernel
theorem d_MO_upper_18 : decode b_MO_upper 18 = .ok (.iconst 0, 1) := by decide +kernel
theorem d_MO_upper_19 : decode b_MO_upper 19 = .ok (.istore_n 3, 1) := by decide +kernel
theorem d_MO_upper_20 : decode b_MO_upper 20 = .ok (.iload_n 3, 1) := by decide +kernel
theorem d_MO_upper_21 : decode b_MO_upper 21 = .ok (.aload_n 0, 1) := by decide +kernel
theorem d_MO_upper_22 : decode b_MO_upper 22 = .ok (.getfield 22, 3) := by decide +kernel
theorem d_MO_upper_25 : decode b_MO_upper 25 = .ok (.if_icmp .ge 46, 3) := by decide +kernel
theorem d_MO_upper_28 : decode b_MO_upper 28 = .ok (.aload_n 0, 1) := by decide +kernel
theorem d_MO_upper_29 : decode b_MO_upper 29 = .ok (.aload_n 0, 1) := by decide +kernel
theorem d_MO_upper_30 : decode b_MO_upper 30 = .ok (.getfield 18, 3) := by decide +kernel
theorem d_MO_upper_33 : decode b_MO_upper 33 = .ok (.iload_n 3, 1) := by decide +kernel
theorem d_MO_upper_34 : decode b_MO_upper 34 = .ok (.iaload, 1) := by decide +kernel
theorem d_MO_upper_35 : decode b_MO_upper 35 = .ok (.invokevirtual 75, 3) := by decide +kernel
theorem d_MO_upper_38 : decode b_MO_upper 38 = .ok (.bipush 6, 2) := by decide +kernel
theorem d_MO_upper_40 : decode b_MO_upper 40 = .ok (.if_icmp .ne 25, 3) := by decide +kernel
theorem d_MO_upper_43 : decode b_MO_upper 43 = .ok (.iload_n 2, 1) := by decide +kernel
theorem d_MO_upper_44 : decode b_MO_upper 44 = .ok (.iload_n 1, 1) := by decide +kernel
theorem d_MO_upper_45 : decode b_MO_upper 45 = .ok (.if_icmp .eq 13, 3) := by decide +kernel
theorem d_MO_upper_48 : decode b_MO_upper 48 = .ok (.aload_n 0, 1) := by decide +kernel
theorem d_MO_upper_49 : decode b_MO_upper 49 = .ok (.getfield 18, 3) := by decide +kernel
theorem d_MO_upper_52 : decode b_MO_upper 52 = .ok (.iload_n 3, 1) := by decide +kernel
theorem d_MO_upper_53 : decode b_MO_upper 53 = .ok (.iaload, 1) := by decide +kernel
theorem d_MO_upper_54 : decode b_MO_upper 54 = .ok (.iload_n 2, 1) := by decide +kernel
theorem d_MO_upper_55 : decode b_MO_upper 55 = .ok (.if_icmp .ge 10, 3) := by decide +kernel
theorem d_MO_upper_58 : decode b_MO_upper 58 = .ok (.aload_n 0, 1) := by decide +kernel
theorem d_MO_upper_59 : decode b_MO_upper 59 = .ok (.getfield 18, 3) := by decide +kernel
theorem d_MO_upper_62 : decode b_MO_upper 62 = .ok (.iload_n 3, 1) := by decide +kernel
theorem d_MO_upper_63 : decode b_MO_upper 63 = .ok (.iaload, 1) := by decide +kernel
theorem d_MO_upper_64 : decode b_MO_upper 64 = .ok (.istore_n 2, 1) := by decide +kernel
theorem d_MO_upper_65 : decode b_MO_upper 65 = .ok (.iinc 3 1, 3) := by decide +kernel
theorem d_MO_upper_68 : decode b_MO_upper 68 = .ok (.goto (-48), 3) := by decide +kernel
theorem d_MO_upper_71 : decode b_MO_upper 71 = .ok (.iload_n 2, 1) := by decide +kernel
theorem d_MO_upper_72 : decode b_MO_upper 72 = .ok (.ireturn, 1) := by decide +kernel
theorem d_MO_lower_0 : decode b_MO_lower 0 = .ok (.aload_n 0, 1) := by decide +kernel
theorem d_MO_lower_1 : decode b_MO_lower 1 = .ok (.iload_n 1, 1) := by decide +kernel
theorem d_MO_lower_2 : decode b_MO_lower 2 = .ok (.invokevirtual 75, 3) := by decide +kernel
theorem d_MO_lower_5 : decode b_MO_lower 5 = .ok (.bipush 6, 2) := by decide +kernel
theorem d_MO_lower_7 : decode b_MO_lower 7 = .ok (.if_icmp .eq 5, 3) := by decide +kernel
theorem d_MO_lower_10 : decode b_MO_lower 10 = .ok (.iload_n 1, 1) := by decide +kernel
theorem d_MO_lower_11 : decode b_MO_lower 11 = .ok (.ireturn, 1) := by decide +kernel
theorem d_MO_lower_12 : decode b_MO_lower 12 = .ok (.aload_n 0, 1) := by decide +kernel
theorem d_MO_lower_13 : decode b_MO_lower 13 = .ok (.iload_n 1, 1) := by decide +kernel
theorem d_MO_lower_14 : decode b_MO_lower 14 = .ok (.invokevirtual 96, 3) := by decide +kernel
theorem d_MO_lower_17 : decode b_MO_lower 17 = .ok (.iconst 0, 1) := by decide +kernel
theorem d_MO_lower_18 : decode b_MO_lower 18 = .ok (.istore_n 2, 1) := by decide +kernel
theorem d_MO_lower_19 : decode b_MO_lower 19 = .ok (.iload_n 2, 1) := by decide +kernel
theorem d_MO_lower_20 : decode b_MO_lower 20 = .ok (.aload_n 0, 1) := by decide +kernel
theorem d_MO_lower_21 : decode b_MO_lower 21 = .ok (.getfield 22, 3) := by decide +kernel
theorem d_MO_lower_24 : decode b_MO_lower 24 = .ok (.if_icmp .ge 43, 3) := by decide +kernel
theorem d_MO_lower_27 : decode b_MO_lower 27 = .ok (.aload_n 0, 1) := by decide +kernel
theorem d_MO_lower_28 : decode b_MO_lower 28 = .ok (.aload_n 0, 1) := by decide +kernel
theorem d_MO_lower_29 : decode b_MO_lower 29 = .ok (.getfield 18, 3) := by decide +kernel
theorem d_MO_lower_32 : decode b_MO_lower 32 = .ok (.iload_n 2, 1) := by decide +kernel
theorem d_MO_lower_33 : decode b_MO_lower 33 = .ok (.iaload, 1) := by decide +kernel
theorem d_MO_lower_34 : decode b_MO_lower 34 = .ok (.invokevirtual 75, 3) := by decide +kernel
theorem d_MO_lower_37 : decode b_MO_lower 37 = .ok (.iconst 4, 1) := by decide +kernel
theorem d_MO_lower_38 : decode b_MO_lower 38 = .ok (.if_icmp .ne 23, 3) := by decide +kernel
theorem d_MO_lower_41 : decode b_MO_lower 41 = .ok (.aload_n 0, 1) := by decide +kernel
theorem d_MO_lower_42 : decode b_MO_lower 42 = .ok (.aload_n 0, 1) := by decide +kernel
theorem d_MO_lower_43 : decode b_MO_lower 43 = .ok (.getfield 18, 3) := by decide +kernel
theorem d_MO_lower_46 : decode b_MO_lower 46 = .ok (.iload_n 2, 1) := by decide +kernel
theorem d_MO_lower_47 : decode b_MO_lower 47 = .ok (.iaload, 1) := by decide +kernel
theorem d_MO_lower_48 : decode b_MO_lower 48 = .ok (.invokevirtual 83, 3) := by decide +kernel
theorem d_MO_lower_51 : decode b_MO_lower 51 = .ok (.ifCond .ge 10, 3) := by decide +kernel
theorem d_MO_lower_54 : decode b_MO_lower 54 = .ok (.aload_n 0, 1) := by decide +kernel
theorem d_MO_lower_55 : decode b_MO_lower 55 = .ok (.getfield 18, 3) := by decide +kernel
theorem d_MO_lower_58 : decode b_MO_lower 58 = .ok (.iload_n 2, 1) := by decide +kernel
theorem d_MO_lower_59 : decode b_MO_lower 59 = .ok (.iaload, 1) := by decide +kernel
theorem d_MO_lower_60 : decode b_MO_lower 60 = .ok (.ireturn, 1) := by decide +kernel
theorem d_MO_lower_61 : decode b_MO_lower 61 = .ok (.iinc 2 1, 3) := by decide +kernel
theorem d_MO_lower_64 : decode b_MO_lower 64 = .ok (.goto (-45), 3) := by decide +kernel
theorem d_MO_lower_67 : decode b_MO_lower 67 = .ok (.iload_n 1, 1) := by decide +kernel
theorem d_MO_lower_68 : decode b_MO_lower 68 = .ok (.ireturn, 1) := by decide +kernel
theorem d_MO_next_0 : decode b_MO_next 0 = .ok (.aload_n 0, 1) := by decide +kernel
theorem d_MO_next_1 : decode b_MO_next 1 = .ok (.iload_n 1, 1) := by decide +kernel
theorem d_MO_next_2 : decode b_MO_next 2 = .ok (.invokevirtual 96, 3) := by decide +kernel
theorem d_MO_next_5 : decode b_MO_next 5 = .ok (.iconst (-1), 1) := by decide +kernel
theorem d_MO_next_6 : decode b_MO_next 6 = .ok (.istore_n 2, 1) := by decide +kernel
theorem d_MO_next_7 : decode b_MO_next 7 = .ok (.iload_n 1, 1) := by decide +kernel
theorem d_MO_next_8 : decode b_MO_next 8 = .ok (.istore_n 3, 1) := by decide +kernel
theorem d_MO_next_9 : decode b_MO_next 9 = .ok (.iconst 0, 1) := by decide +kernel
theorem d_MO_next_10 : decode b_MO_next 10 = .ok (.istore 4, 2) := by decide +kernel
theorem d_MO_next_12 : decode b_MO_next 12 = .ok (.iload 4, 2) := by decide +kernel
theorem d_MO_next_14 : decode b_MO_next 14 = .ok (.aload_n 0, 1) := by decide +kernel
theorem d_MO_next_15 : decode b_MO_next 15 = .ok (.getfield 22, 3) := by decide +kernel
theorem d_MO_next_18 : decode b_MO_next 18 = .ok (.if_icmp .ge 62, 3) := by decide +kernel
theorem d_MO_next_21 : decode b_MO_next 21 = .ok (.aload_n 0, 1) := by decide +kernel
theorem d_MO_next_22 : decode b_MO_next 22 = .ok (.getfield 18, 3) := by decide +kernel
theorem d_MO_next_25 : decode b_MO_next 25 = .ok (.iload 4, 2) := by decide +kernel
theorem d_MO_next_27 : decode b_MO_next 27 = .ok (.iaload, 1) := by decide +kernel
theorem d_MO_next_28 : decode b_MO_next 28 = .ok (.iload_n 3, 1) := by decide +kernel
theorem d_MO_next_29 : decode b_MO_next 29 = .ok (.if_icmp .ge 11, 3) := by decide +kernel
theorem d_MO_next_32 : decode b_MO_next 32 = .ok (.aload_n 0, 1) := by decide +kernel
theorem d_MO_next_33 : decode b_MO_next 33 = .ok (.getfield 18, 3) := by decide +kernel
theorem d_MO_next_36 : decode b_MO_next 36 = .ok (.iload 4, 2) := by decide +kernel
theorem d_MO_next_38 : decode b_MO_next 38 = .ok (.iaload, 1) := by decide +kernel
theorem d_MO_next_39 : decode b_MO_next 39 = .ok (.istore_n 3, 1) := by decide +kernel
theorem d_MO_next_40 : decode b_MO_next 40 = .ok (.aload_n 0, 1) := by decide +kernel
theorem d_MO_next_41 : decode b_MO_next 41 = .ok (.getfield 18, 3) := by decide +kernel
theorem d_MO_next_44 : decode b_MO_next 44 = .ok (.iload 4, 2) := by decide +kernel
theorem d_MO_next_46 : decode b_MO_next 46 = .ok (.iaload, 1) := by decide +kernel
theorem d_MO_next_47 : decode b_MO_next 47 = .ok (.iload_n 1, 1) := by decide +kernel
theorem d_MO_next_48 : decode b_MO_next 48 = .ok (.if_icmp .le 26, 3) := by decide +kernel
theorem d_MO_next_51 : decode b_MO_next 51 = .ok (.iload_n 2, 1) := by decide +kernel
theorem d_MO_next_52 : decode b_MO_next 52 = .ok (.ifCond .lt 14, 3) := by decide +kernel
theorem d_MO_next_55 : decode b_MO_next 55 = .ok (.aload_n 0, 1) := by decide +kernel
theorem d_MO_next_56 : decode b_MO_next 56 = .ok (.getfield 18, 3) := by decide +kernel
theorem d_MO_next_59 : decode b_MO_next 59 = .ok (.iload 4, 2) := by decide +kernel
theorem d_MO_next_61 : decode b_MO_next 61 = .ok (.iaload, 1) := by decide +kernel
theorem d_MO_next_62 : decode b_MO_next 62 = .ok (.iload_n 2, 1) := by decide +kernel
theorem d_MO_next_63 : decode b_MO_next 63 = .ok (.if_icmp .ge 11, 3) := by decide +kernel
theorem d_MO_next_66 : decode b_MO_next 66 = .ok (.aload_n 0, 1) := by decide +kernel
theorem d_MO_next_67 : decode b_MO_next 67 = .ok (.getfield 18, 3) := by decide +kernel
theorem d_MO_next_70 : decode b_MO_next 70 = .ok (.iload 4, 2) := by decide +kernel
theorem d_MO_next_72 : decode b_MO_next 72 = .ok (.iaload, 1) := by decide +kernel
theorem d_MO_next_73 : decode b_MO_next 73 = .ok (.istore_n 2, 1) := by decide +kernel
theorem d_MO_next_74 : decode b_MO_next 74 = .ok (.iinc 4 1, 3) := by decide +kernel
theorem d_MO_next_77 : decode b_MO_next 77 = .ok (.goto (-65), 3) := by decide +kernel
theorem d_MO_next_80 : decode b_MO_next 80 = .ok (.iload_n 2, 1) := by decide +kernel
theorem d_MO_next_81 : decode b_MO_next 81 = .ok (.ifCond .ge 7, 3) := by decide +kernel
theorem d_MO_next_84 : decode b_MO_next 84 = .ok (.iload_n 3, 1) := by decide +kernel
theorem d_MO_next_85 : decode b_MO_next 85 = .ok (.goto 4, 3) := by decide +kernel
theorem d_MO_next_88 : decode b_MO_next 88 = .ok (.iload_n 2, 1) := by decide +kernel
theorem d_MO_next_89 : decode b_MO_next 89 = .ok (.ireturn, 1) := by decide +kernel
