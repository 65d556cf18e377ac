theorem dL_reads_8 : decode cL_reads 8 = .ok (.newarray .int, 2) := by decide +kernel
theorem dL_reads_10 : decode cL_reads 10 = .ok (.astore 7, 2) := by decide +kernel
theorem dL_reads_12 : decode cL_reads 12 = .ok (.iconst 1, 1) := by decide +kernel
theorem dL_reads_13 : decode cL_reads 13 = .ok (.newarray .int, 2) := by decide +kernel
theorem dL_reads_15 : decode cL_reads 15 = .ok (.astore 8, 2) := by decide +kernel
theorem dL_reads_17 : decode cL_reads 17 = .ok (.iload 5, 2) := by decide +kernel
theorem dL_reads_19 : decode cL_reads 19 = .ok (.iconst 4, 1) := by decide +kernel
theorem dL_reads_20 : decode cL_reads 20 = .ok (.irem, 1) := by decide +kernel
theorem dL_reads_21 : decode cL_reads 21 = .ok (.istore 9, 2) := by decide +kernel
theorem dL_reads_23 : decode cL_reads 23 = .ok (.aload_n 0, 1) := by decide +kernel
theorem dL_reads_24 : decode cL_reads 24 = .ok (.invokevirtual 45, 3) := by decide +kernel
theorem dL_reads_27 : decode cL_reads 27 = .ok (.pop, 1) := by decide +kernel
theorem dL_reads_28 : decode cL_reads 28 = .ok (.iconst 1, 1) := by decide +kernel
theorem dL_reads_29 : decode cL_reads 29 = .ok (.istore 10, 2) := by decide +kernel
theorem dL_reads_31 : decode cL_reads 31 = .ok (.iconst 0, 1) := by decide +kernel
theorem dL_reads_32 : decode cL_reads 32 = .ok (.istore 11, 2) := by decide +kernel
theorem dL_reads_34 : decode cL_reads 34 = .ok (.iload 11, 2) := by decide +kernel
theorem dL_reads_36 : decode cL_reads 36 = .ok (.iload 9, 2) := by decide +kernel
theorem dL_reads_38 : decode cL_reads 38 = .ok (.if_icmp .gt 160, 3) := by decide +kernel
theorem dL_reads_41 : decode cL_reads 41 = .ok (.iload 10, 2) := by decide +kernel
theorem dL_reads_43 : decode cL_reads 43 = .ok (.ifCond .eq 155, 3) := by decide +kernel
theorem dL_reads_46 : decode cL_reads 46 = .ok (.aload 6, 2) := by decide +kernel
theorem dL_reads_48 : decode cL_reads 48 = .ok (.aload 7, 2) := by decide +kernel
theorem dL_reads_50 : decode cL_reads 50 = .ok (.iload 5, 2) := by decide +kernel
theorem dL_reads_52 : decode cL_reads 52 = .ok (.iconst 2, 1) := by decide +kernel
theorem dL_reads_53 : decode cL_reads 53 = .ok (.iload 11, 2) := by decide +kernel
theorem dL_reads_55 : decode cL_reads 55 = .ok (.imul, 1) := by decide +kernel
theorem dL_reads_56 : decode cL_reads 56 = .ok (.iconst 3, 1) := by decide +kernel
theorem dL_reads_57 : decode cL_reads 57 = .ok (.iadd, 1) := by decide +kernel
theorem dL_reads_58 : decode cL_reads 58 = .ok (.imul, 1) := by decide +kernel
theorem dL_reads_59 : decode cL_reads 59 = .ok (.ldc 49, 2) := by decide +kernel
theorem dL_reads_61 : decode cL_reads 61 = .ok (.invokestatic 36, 3) := by decide +kernel
theorem dL_reads_64 : decode cL_reads 64 = .ok (.iload 11, 2) := by decide +kernel
theorem dL_reads_66 : decode cL_reads 66 = .ok (.iload 9, 2) := by decide +kernel
theorem dL_reads_68 : decode cL_reads 68 = .ok (.if_icmp .ge 20, 3) := by decide +kernel
theorem dL_reads_71 : decode cL_reads 71 = .ok (.iload 5, 2) := by decide +kernel
theorem dL_reads_73 : decode cL_reads 73 = .ok (.iconst 4, 1) := by decide +kernel
theorem dL_reads_74 : decode cL_reads 74 = .ok (.idiv, 1) := by decide +kernel
theorem dL_reads_75 : decode cL_reads 75 = .ok (.iconst 4, 1) := by decide +kernel
theorem dL_reads_76 : decode cL_reads 76 = .ok (.irem, 1) := by decide +kernel
theorem dL_reads_77 : decode cL_reads 77 = .ok (.ifCond .ne 7, 3) := by decide +kernel
theorem dL_reads_80 : decode cL_reads 80 = .ok (.iconst 2, 1) := by decide +kernel
theorem dL_reads_81 : decode cL_reads 81 = .ok (.goto 18, 3) := by decide +kernel
theorem dL_reads_84 : decode cL_reads 84 = .ok (.iconst 1, 1) := by decide +kernel
theorem dL_reads_85 : decode cL_reads 85 = .ok (.goto 14, 3) := by decide +kernel
theorem dL_reads_88 : decode cL_reads 88 = .ok (.iload 9, 2) := by decide +kernel
theorem dL_reads_90 : decode cL_reads 90 = .ok (.iconst 3, 1) := by decide +kernel
theorem dL_reads_91 : decode cL_reads 91 = .ok (.if_icmp .ge 7, 3) := by decide +kernel
theorem dL_reads_94 : decode cL_reads 94 = .ok (.iconst 3, 1) := by decide +kernel
theorem dL_reads_95 : decode cL_reads 95 = .ok (.goto 4, 3) := by decide +kernel
theorem dL_reads_98 : decode cL_reads 98 = .ok (.iconst 2, 1) := by decide +kernel
theorem dL_reads_99 : decode cL_reads 99 = .ok (.iload 11, 2) := by decide +kernel
theorem dL_reads_101 : decode cL_reads 101 = .ok (.invokestatic 50, 3) := by decide +kernel
theorem dL_reads_104 : decode cL_reads 104 = .ok (.iload 11, 2) := by decide +kernel
theorem dL_reads_106 : decode cL_reads 106 = .ok (.iload 9, 2) := by decide +kernel
theorem dL_reads_108 : decode cL_reads 108 = .ok (.if_icmp .eq 28, 3) := by decide +kernel
theorem dL_reads_111 : decode cL_reads 111 = .ok (.aload_n 0, 1) := by decide +kernel
theorem dL_reads_112 : decode cL_reads 112 = .ok (.aload 8, 2) := by decide +kernel
theorem dL_reads_114 : decode cL_reads 114 = .ok (.bipush 65, 2) := by decide +kernel
theorem dL_reads_116 : decode cL_reads 116 = .ok (.iload 11, 2) := by decide +kernel
theorem dL_reads_118 : decode cL_reads 118 = .ok (.iadd, 1) := by decide +kernel
theorem dL_reads_119 : decode cL_reads 119 = .ok (.invokestatic 41, 3) := by decide +kernel
theorem dL_reads_122 : decode cL_reads 122 = .ok (.ifCond .eq 18, 3) := by decide +kernel
theorem dL_reads_125 : decode cL_reads 125 = .ok (.aload_n 0, 1) := by decide +kernel
theorem dL_reads_126 : decode cL_reads 126 = .ok (.aload 8, 2) := by decide +kernel
theorem dL_reads_128 : decode cL_reads 128 = .ok (.bipush 61, 2) := by decide +kernel
theorem dL_reads_130 : decode cL_reads 130 = .ok (.invokestatic 41, 3) := by decide +kernel
theorem dL_reads_133 : decode cL_reads 133 = .ok (.ifCond .eq 7, 3) := by decide +kernel
theorem dL_reads_136 : decode cL_reads 136 = .ok (.iconst 1, 1) := by decide +kernel
theorem dL_reads_137 : decode cL_reads 137 = .ok (.goto 4, 3) := by decide +kernel
theorem dL_reads_140 : decode cL_reads 140 = .ok (.iconst 0, 1) := by decide +kernel
theorem dL_reads_141 : decode cL_reads 141 = .ok (.istore 10, 2) := by decide +kernel
theorem dL_reads_143 : decode cL_reads 143 = .ok (.iload 10, 2) := by decide +kernel
theorem dL_reads_145 : decode cL_reads 145 = .ok (.ifCond .eq 44, 3) := by decide +kernel
theorem dL_reads_148 : decode cL_reads 148 = .ok (.aload_n 0, 1) := by decide +kernel
theorem dL_reads_149 : decode cL_reads 149 = .ok (.aload 8, 2) := by decide +kernel
theorem dL_reads_151 : decode cL_reads 151 = .ok (.aload 6, 2) := by decide +kernel
theorem dL_reads_153 : decode cL_reads 153 = .ok (.aload 7, 2) := by decide +kernel
theorem dL_reads_155 : decode cL_reads 155 = .ok (.aload_n 2, 1) := by decide +kernel
theorem dL_reads_156 : decode cL_reads 156 = .ok (.aload_n 3, 1) := by decide +kernel
theorem dL_reads_157 : decode cL_reads 157 = .ok (.aload 4, 2) := by decide +kernel
theorem dL_reads_159 : decode cL_reads 159 = .ok (.iload 11, 2) := by decide +kernel
theorem dL_reads_161 : decode cL_reads 161 = .ok (.invokestatic 54, 3) := by decide +kernel
theorem dL_reads_164 : decode cL_reads 164 = .ok (.ifCond .eq 25, 3) := by decide +kernel
theorem dL_reads_167 : decode cL_reads 167 = .ok (.iload 11, 2) := by decide +kernel
theorem dL_reads_169 : decode cL_reads 169 = .ok (.iload 9, 2) := by decide +kernel
theorem dL_reads_171 : decode cL_reads 171 = .ok (.if_icmp .eq 14, 3) := by decide +kernel
theorem dL_reads_174 : decode cL_reads 174 = .ok (.aload_n 0, 1) := by decide +kernel
theorem dL_reads_175 : decode cL_reads 175 = .ok (.aload 8, 2) := by decide +kernel
theorem dL_reads_177 : decode cL_reads 177 = .ok (.bipush 59, 2) := by decide +kernel
theorem dL_reads_179 : decode cL_reads 179 = .ok (.invokestatic 41, 3) := by decide +kernel
theorem dL_reads_182 : decode cL_reads 182 = .ok (.ifCond .eq 7, 3) := by decide +kernel
theorem dL_reads_185 : decode cL_reads 185 = .ok (.iconst 1, 1) := by decide +kernel
theorem dL_reads_186 : decode cL_reads 186 = .ok (.goto 4, 3) := by decide +kernel
theorem dL_reads_189 : decode cL_reads 189 = .ok (.iconst 0, 1) := by decide +kernel
theorem dL_reads_190 : decode cL_reads 190 = .ok (.istore 10, 2) := by decide +kernel
theorem dL_reads_192 : decode cL_reads 192 = .ok (.iinc 11 1, 3) := by decide +kernel
theorem dL_reads_195 : decode cL_reads 195 = .ok (.goto (-161), 3) := by decide +kernel
theorem dL_reads_198 : decode cL_reads 198 = .ok (.aload_n 1, 1) := by decide +kernel
theorem dL_reads_199 : decode cL_reads 199 = .ok (.iconst 0, 1) := by decide +kernel
theorem dL_reads_200 : decode cL_reads 200 = .ok (.iload 9, 2) := by decide +kernel
theorem dL_reads_202 : decode cL_reads 202 = .ok (.iconst 1, 1) := by decide +kernel
theorem dL_reads_203 : decode cL_reads 203 = .ok (.iadd, 1) := by decide +kernel
theorem dL_reads_204 : decode cL_reads 204 = .ok (.iastore, 1) := by decide +kernel
theorem dL_reads_205 : decode cL_reads 205 = .ok (.iload 10, 2) := by decide +kernel
theorem dL_reads_207 : decode cL_reads 207 = .ok (.ifCond .eq 30, 3) := by decide +kernel
theorem dL_reads_210 : decode cL_reads 210 = .ok (.aload_n 0, 1) := by decide +kernel
theorem dL_reads_211 : decode cL_reads 211 = .ok (.bipush 6, 2) := by decide +kernel
theorem dL_reads_213 : decode cL_reads 213 = .ok (.invokevirtual 58, 3) := by decide +kernel
theorem dL_reads_216 : decode cL_reads 216 = .ok (.aload 8, 2) := by decide +kernel
theorem dL_reads_218 : decode cL_reads 218 = .ok (.iconst 0, 1) := by decide +kernel
theorem dL_reads_219 : decode cL_reads 219 = .ok (.iaload, 1) := by decide +kernel
theorem dL_reads_220 : decode cL_reads 220 = .ok (.if_icmp .ne 17, 3) := by decide +kernel
theorem dL_reads_223 : decode cL_reads 223 = .ok (.aload_n 0, 1) := by decide +kernel
theorem dL_reads_224 : decode cL_reads 224 = .ok (.invokevirtual 61, 3) := by decide +kernel
theorem dL_reads_227 : decode cL_reads 227 = .ok (.aload_n 1, 1) := by decide +kernel
theorem dL_reads_228 : decode cL_reads 228 = .ok (.iconst 0, 1) := by decide +kernel
theorem dL_reads_229 : decode cL_reads 229 = .ok (.iaload, 1) := by decide +kernel
theorem dL_reads_230 : decode cL_reads 230 = .ok (.if_icmp .ne 7, 3) := by decide +kernel
theorem dL_reads_233 : decode cL_reads 233 = .ok (.iconst 1, 1) := by decide +kernel
theorem dL_reads_234 : decode cL_reads 234 = .ok (.goto 4, 3) := by decide +kernel
theorem dL_reads_237 : decode cL_reads 237 = .ok (.iconst 0, 1) := by decide +kernel
theorem dL_reads_238 : decode cL_reads 238 = .ok (.ireturn, 1) := by decide +kernel
theorem dL_acts_0 : decode cL_acts 0 = .ok (.iload 6, 2) := by decide +kernel
theorem dL_acts_2 : decode cL_acts 2 = .ok (.iconst 5, 1) := by decide +kernel
theorem dL_acts_3 : decode cL_acts 3 = .ok (.ishr, 1) := by decide +kernel
theorem dL_acts_4 : decode cL_acts 4 = .ok (.ldc 64, 2) := by decide +kernel
theorem dL_acts_6 : decode cL_acts 6 = .ok (.invokestatic 36, 3) := by decide +kernel
theorem dL_acts_9 : decode cL_acts 9 = .ok (.istore 7, 2) := by decide +kernel
theorem dL_acts_11 : decode cL_acts 11 = .ok (.iload 6, 2) := by decide +kernel
theorem dL_acts_13 : decode cL_acts 13 = .ok (.bipush 12, 2) := by decide +kernel
theorem dL_acts_15 : decode cL_acts 15 = .ok (.invokestatic 36, 3) := by decide +kernel
theorem dL_acts_18 : decode cL_acts 18 = .ok (.istore 8, 2) := by decide +kernel
theorem dL_acts_20 : decode cL_acts 20 = .ok (.iload 8, 2) := by decide +kernel
theorem dL_acts_22 : decode cL_acts 22 = .ok (.iconst 3, 1) := by decide +kernel
theorem dL_acts_23 : decode cL_acts 23 = .ok (.if_icmp .ge 16, 3) := by decide +kernel
theorem dL_acts_26 : decode cL_acts 26 = .ok (.aload_n 0, 1) := by decide +kernel
theorem dL_acts_27 : decode cL_acts 27 = .ok (.aload_n 1, 1) := by decide +kernel
theorem dL_acts_28 : decode cL_acts 28 = .ok (.aload_n 3, 1) := by decide +kernel
theorem dL_acts_29 : decode cL_acts 29 = .ok (.aload 4, 2) := by decide +kernel
theorem dL_acts_31 : decode cL_acts 31 = .ok (.aload 5, 2) := by decide +kernel
theorem dL_acts_33 : decode cL_acts 33 = .ok (.iload 7, 2) := by decide +kernel
theorem dL_acts_35 : decode cL_acts 35 = .ok (.invokestatic 65, 3) := by decide +kernel
theorem dL_acts_38 : decode cL_acts 38 = .ok (.ireturn, 1) := by decide +kernel
theorem dL_acts_39 : decode cL_acts 39 = .ok (.iload 8, 2) := by decide +kernel
theorem dL_acts_41 : decode cL_acts 41 = .ok (.bipush 6, 2) := by decide +kernel
theorem dL_acts_43 : decode cL_acts 43 = .ok (.if_icmp .ge 54, 3) := by decide +kernel
theorem dL_acts_46 : decode cL_acts 46 = .ok (.iload 7, 2) := by decide +kernel
theorem dL_acts_48 : decode cL_acts 48 = .ok (.bipush 8, 2) := by decide +kernel
theorem dL_acts_50 : decode cL_acts 50 = .ok (.irem, 1) := by decide +kernel
theorem dL_acts_51 : decode cL_acts 51 = .ok (.istore 9, 2) := by decide +kernel
theorem dL_acts_53 : decode cL_acts 53 = .ok (.aload_n 2, 1) := by decide +kernel
theorem dL_acts_54 : decode cL_acts 54 = .ok (.iload 9, 2) := by decide +kernel
theorem dL_acts_56 : decode cL_acts 56 = .ok (.iaload, 1) := by decide +kernel
theorem dL_acts_57 : decode cL_acts 57 = .ok (.istore 10, 2) := by decide +kernel
theorem dL_acts_59 : decode cL_acts 59 = .ok (.aload_n 2, 1) := by decide +kernel
theorem dL_acts_60 : decode cL_acts 60 = .ok (.iload 9, 2) := by decide +kernel
theorem dL_acts_62 : decode cL_acts 62 = .ok (.iload 7, 2) := by decide +kernel
theorem dL_acts_64 : decode cL_acts 64 = .ok (.bipush 8, 2) := by decide +kernel
theorem dL_acts_66 : decode cL_acts 66 = .ok (.idiv, 1) := by decide +kernel
theorem dL_acts_67 : decode cL_acts 67 = .ok (.sipush 1999, 3) := by decide +kernel
theorem dL_acts_70 : decode cL_acts 70 = .ok (.irem, 1) := by decide +kernel
theorem dL_acts_71 : decode cL_acts 71 = .ok (.sipush 999, 3) := by decide +kernel
theorem dL_acts_74 : decode cL_acts 74 = .ok (.isub, 1) := by decide +kernel
theorem dL_acts_75 : decode cL_acts 75 = .ok (.iastore, 1) := by decide +kernel
theorem dL_acts_76 : decode cL_acts 76 = .ok (.aload_n 0, 1) := by decide +kernel
theorem dL_acts_77 : decode cL_acts 77 = .ok (.iload 9, 2) := by decide +kernel
theorem dL_acts_79 : decode cL_acts 79 = .ok (.aload_n 2, 1) := by decide +kernel
theorem dL_acts_80 : decode cL_acts 80 = .ok (.iload 9, 2) := by decide +kernel
theorem dL_acts_82 : decode cL_acts 82 = .ok (.iaload, 1) := by decide +kernel
theorem dL_acts_83 : decode cL_acts 83 = .ok (.invokevirtual 69, 3) := by decide +kernel
theorem dL_acts_86 : decode cL_acts 86 = .ok (.iload 10, 2) := by decide +kernel
theorem dL_acts_88 : decode cL_acts 88 = .ok (.if_icmp .ne 7, 3) := by decide +kernel
theorem dL_acts_91 : decode cL_acts 91 = .ok (.iconst 1, 1) := by decide +kernel
theorem dL_acts_92 : decode cL_acts 92 = .ok (.goto 4, 3) := by decide +kernel
theorem dL_acts_95 : decode cL_acts 95 = .ok (.iconst 0, 1) := by decide +kernel
theorem dL_acts_96 : decode cL_acts 96 = .ok (.ireturn, 1) := by decide +kernel
theorem dL_acts_97 : decode cL_acts 97 = .ok (.iload 8, 2) := by decide +kernel
theorem dL_acts_99 : decode cL_acts 99 = .ok (.bipush 8, 2) := by decide +kernel
theorem dL_acts_101 : decode cL_acts 101 = .ok (.if_icmp .ge 50, 3) := by decide +kernel
theorem dL_acts_104 : decode cL_acts 104 = .ok (.aload_n 1, 1) := by decide +kernel
theorem dL_acts_105 : decode cL_acts 105 = .ok (.iconst 1, 1) := by decide +kernel
theorem dL_acts_106 : decode cL_acts 106 = .ok (.iaload, 1) := by decide +kernel
theorem dL_acts_107 : decode cL_acts 107 = .ok (.istore 9, 2) := by decide +kernel
theorem dL_acts_109 : decode cL_acts 109 = .ok (.aload_n 1, 1) := by decide +kernel
theorem dL_acts_110 : decode cL_acts 110 = .ok (.iconst 1, 1) := by decide +kernel
theorem dL_acts_111 : decode cL_acts 111 = .ok (.iconst 2, 1) := by decide +kernel
theorem dL_acts_112 : decode cL_acts 112 = .ok (.iload 7, 2) := by decide +kernel
theorem dL_acts_114 : decode cL_acts 114 = .ok (.bipush 7, 2) := by decide +kernel
theorem dL_acts_116 : decode cL_acts 116 = .ok (.irem, 1) := by decide +kernel
theorem dL_acts_117 : decode cL_acts 117 = .ok (.iload 7, 2) := by decide +kernel
theorem dL_acts_119 : decode cL_acts 119 = .ok (.iconst 3, 1) := by decide +kernel
theorem dL_acts_120 : decode cL_acts 120 = .ok (.irem, 1) := by decide +kernel
theorem dL_acts_121 : decode cL_acts 121 = .ok (.ifCond .ne 8, 3) := by decide +kernel
theorem dL_acts_124 : decode cL_acts 124 = .ok (.bipush 7, 2) := by decide +kernel
theorem dL_acts_126 : decode cL_acts 126 = .ok (.goto 4, 3) := by decide +kernel
theorem dL_acts_129 : decode cL_acts 129 = .ok (.iconst 3, 1) := by decide +kernel
theorem dL_acts_130 : decode cL_acts 130 = .ok (.irem, 1) := by decide +kernel
theorem dL_acts_131 : decode cL_acts 131 = .ok (.iadd, 1) := by decide +kernel
theorem dL_acts_132 : decode cL_acts 132 = .ok (.iastore, 1) := by decide +kernel
theorem dL_acts_133 : decode cL_acts 133 = .ok (.aload_n 0, 1) := by decide +kernel
theorem dL_acts_134 : decode cL_acts 134 = .ok (.aload_n 1, 1) := by decide +kernel
theorem dL_acts_135 : decode cL_acts 135 = .ok (.iconst 1, 1) := by decide +kernel
theorem dL_acts_136 : decode cL_acts 136 = .ok (.iaload, 1) := by decide +kernel
theorem dL_acts_137 : decode cL_acts 137 = .ok (.invokevirtual 72, 3) := by decide +kernel
theorem dL_acts_140 : decode cL_acts 140 = .ok (.iload 9, 2) := by decide +kernel
theorem dL_acts_142 : decode cL_acts 142 = .ok (.if_icmp .ne 7, 3) := by decide +kernel
theorem dL_acts_145 : decode cL_acts 145 = .ok (.iconst 1, 1) := by decide +kernel
theorem dL_acts_146 : decode cL_acts 146 = .ok (.goto 4, 3) := by decide +kernel
theorem dL_acts_149 : decode cL_acts 149 = .ok (.iconst 0, 1) := by decide +kernel
theorem dL_acts_150 : decode cL_acts 150 = .ok (.ireturn, 1) := by decide +kernel
theorem dL_acts_151 : decode cL_acts 151 = .ok (.iload 7, 2) := by decide +kernel
theorem dL_acts_153 : decode cL_acts 153 = .ok (.aload_n 1, 1) := by decide +kernel
theorem dL_acts_154 : decode cL_acts 154 = .ok (.iconst 0, 1) := by decide +kernel
theorem dL_acts_155 : decode cL_acts 155 = .ok (.iaload, 1) := by decide +kernel
theorem dL_acts_156 : decode cL_acts 156 = .ok (.irem, 1) := by decide +kernel
theorem dL_acts_157 : decode cL_acts 157 = .ok (.istore 9, 2) := by decide +kernel
theorem dL_acts_159 : decode cL_acts 159 = .ok (.iload 7, 2) := by decide +kernel
theorem dL_acts_161 : decode cL_acts 161 = .ok (.iconst 4, 1) := by decide +kernel
theorem dL_acts_162 : decode cL_acts 162 = .ok (.idiv, 1) := by decide +kernel
theorem dL_acts_163 : decode cL_acts 163 = .ok (.aload_n 3, 1) := by decide +kernel
theorem dL_acts_164 : decode cL_acts 164 = .ok (.iload 9, 2) := by decide +kernel
theorem dL_acts_166 : decode cL_acts 166 = .ok (.iaload, 1) := by decide +kernel
theorem dL_acts_167 : decode cL_acts 167 = .ok (.iconst 1, 1) := by decide +kernel
theorem dL_acts_168 : decode cL_acts 168 = .ok (.iadd, 1) := by decide +kernel
theorem dL_acts_169 : decode cL_acts 169 = .ok (.irem, 1) := by decide +kernel
theorem dL_acts_170 : decode cL_acts 170 = .ok (.istore 10, 2) := by decide +kernel
theorem dL_acts_172 : decode cL_acts 172 = .ok (.iload 10, 2) := by decide +kernel
theorem dL_acts_174 : decode cL_acts 174 = .ok (.aload_n 3, 1) := by decide +kernel
theorem dL_acts_175 : decode cL_acts 175 = .ok (.iload 9, 2) := by decide +kernel
theorem dL_acts_177 : decode cL_acts 177 = .ok (.iaload, 1) := by decide +kernel
theorem dL_acts_178 : decode cL_acts 178 = .ok (.if_icmp .ne 35, 3) := by decide +kernel
theorem dL_acts_181 : decode cL_acts 181 = .ok (.aload_n 0, 1) := by decide +kernel
theorem dL_acts_182 : decode cL_acts 182 = .ok (.iload 9, 2) := by decide +kernel
theorem dL_acts_184 : decode cL_acts 184 = .ok (.iload 10, 2) := by decide +kernel
theorem dL_acts_186 : decode cL_acts 186 = .ok (.invokevirtual 75, 3) := by decide +kernel
theorem dL_acts_189 : decode cL_acts 189 = .ok (.ldc 78, 2) := by decide +kernel
theorem dL_acts_191 : decode cL_acts 191 = .ok (.if_icmp .ne 20, 3) := by decide +kernel
theorem dL_acts_194 : decode cL_acts 194 = .ok (.aload_n 0, 1) := by decide +kernel
theorem dL_acts_195 : decode cL_acts 195 = .ok (.aload_n 1, 1) := by decide +kernel
theorem dL_acts_196 : decode cL_acts 196 = .ok (.iconst 0, 1) := by decide +kernel
theorem dL_acts_197 : decode cL_acts 197 = .ok (.iaload, 1) := by decide +kernel
theorem dL_acts_198 : decode cL_acts 198 = .ok (.iconst 0, 1) := by decide +kernel
theorem dL_acts_199 : decode cL_acts 199 = .ok (.invokevirtual 75, 3) := by decide +kernel
theorem dL_acts_202 : decode cL_acts 202 = .ok (.ldc 78, 2) := by decide +kernel
theorem dL_acts_204 : decode cL_acts 204 = .ok (.if_icmp .ne 7, 3) := by decide +kernel
theorem dL_acts_207 : decode cL_acts 207 = .ok (.iconst 1, 1) := by decide +kernel
theorem dL_acts_208 : decode cL_acts 208 = .ok (.goto 4, 3) := by decide +kernel
theorem dL_acts_211 : decode cL_acts 211 = .ok (.iconst 0, 1) := by decide +kernel
theorem dL_acts_212 : decode cL_acts 212 = .ok (.ireturn, 1) := by decide +kernel
theorem dL_acts_213 : decode cL_acts 213 = .ok (.bipush 16, 2) := by decide +kernel
theorem dL_acts_215 : decode cL_acts 215 = .ok (.iload 9, 2) := by decide +kernel
theorem dL_acts_217 : decode cL_acts 217 = .ok (.imul, 1) := by decide +kernel
theorem dL_acts_218 : decode cL_acts 218 = .ok (.istore 11, 2) := by decide +kernel
theorem dL_acts_220 : decode cL_acts 220 = .ok (.aload 4, 2) := by decide +kernel
theorem dL_acts_222 : decode cL_acts 222 = .ok (.iload 11, 2) := by decide +kernel
theorem dL_acts_224 : decode cL_acts 224 = .ok (.iload 10, 2) := by decide +kernel
theorem dL_acts_226 : decode cL_acts 226 = .ok (.iadd, 1) := by decide +kernel
theorem dL_acts_227 : decode cL_acts 227 = .ok (.iaload, 1) := by decide +kernel
theorem dL_acts_228 : decode cL_acts 228 = .ok (.iconst 4, 1) := by decide +kernel
theorem dL_acts_229 : decode cL_acts 229 = .ok (.if_icmp .eq 35, 3) := by decide +kernel
theorem dL_acts_232 : decode cL_acts 232 = .ok (.aload 4, 2) := by decide +kernel
theorem dL_acts_234 : decode cL_acts 234 = .ok (.iload 11, 2) := by decide +kernel
theorem dL_acts_236 : decode cL_acts 236 = .ok (.iload 10, 2) := by decide +kernel
theorem dL_acts_238 : decode cL_acts 238 = .ok (.iadd, 1) := by decide +kernel
theorem dL_acts_239 : decode cL_acts 239 = .ok (.iaload, 1) := by decide +kernel
theorem dL_acts_240 : decode cL_acts 240 = .ok (.bipush 6, 2) := by decide +kernel
theorem dL_acts_242 : decode cL_acts 242 = .ok (.if_icmp .eq 22, 3) := by decide +kernel
theorem dL_acts_245 : decode cL_acts 245 = .ok (.aload_n 0, 1) := by decide +kernel
theorem dL_acts_246 : decode cL_acts 246 = .ok (.iload 9, 2) := by decide +kernel
theorem dL_acts_248 : decode cL_acts 248 = .ok (.iload 10, 2) := by decide +kernel
theorem dL_acts_250 : decode cL_acts 250 = .ok (.invokevirtual 75, 3) := by decide +kernel
theorem dL_acts_253 : decode cL_acts 253 = .ok (.ldc 79, 2) := by decide +kernel
theorem dL_acts_255 : decode cL_acts 255 = .ok (.if_icmp .ne 7, 3) := by decide +kernel
theorem dL_acts_258 : decode cL_acts 258 = .ok (.iconst 1, 1) := by decide +kernel
theorem dL_acts_259 : decode cL_acts 259 = .ok (.goto 4, 3) := by decide +kernel
theorem dL_acts_262 : decode cL_acts 262 = .ok (.iconst 0, 1) := by decide +kernel
theorem dL_acts_263 : decode cL_acts 263 = .ok (.ireturn, 1) := by decide +kernel
theorem dL_acts_264 : decode cL_acts 264 = .ok (.aload 4, 2) := by decide +kernel
theorem dL_acts_266 : decode cL_acts 266 = .ok (.iload 11, 2) := by decide +kernel
theorem dL_acts_268 : decode cL_acts 268 = .ok (.iload 10, 2) := by decide +kernel
theorem dL_acts_270 : decode cL_acts 270 = .ok (.iconst 1, 1) := by decide +kernel
theorem dL_acts_271 : decode cL_acts 271 = .ok (.iadd, 1) := by decide +kernel
theorem dL_acts_272 : decode cL_acts 272 = .ok (.invokestatic 80, 3) := by decide +kernel
theorem dL_acts_275 : decode cL_acts 275 = .ok (.istore 12, 2) := by decide +kernel
theorem dL_acts_277 : decode cL_acts 277 = .ok (.aload 4, 2) := by decide +kernel
theorem dL_acts_279 : decode cL_acts 279 = .ok (.iload 11, 2) := by decide +kernel
theorem dL_acts_281 : decode cL_acts 281 = .ok (.iload 12, 2) := by decide +kernel
theorem dL_acts_283 : decode cL_acts 283 = .ok (.invokestatic 80, 3) := by decide +kernel
theorem dL_acts_286 : decode cL_acts 286 = .ok (.istore 13, 2) := by decide +kernel
theorem dL_acts_288 : decode cL_acts 288 = .ok (.bipush 64, 2) := by decide +kernel
theorem dL_acts_290 : decode cL_acts 290 = .ok (.newarray .int, 2) := by decide +kernel
theorem dL_acts_292 : decode cL_acts 292 = .ok (.astore 14, 2) := by decide +kernel
theorem dL_acts_294 : decode cL_acts 294 = .ok (.bipush 64, 2) := by decide +kernel
theorem dL_acts_296 : decode cL_acts 296 = .ok (.newarray .int, 2) := by decide +kernel
theorem dL_acts_298 : decode cL_acts 298 = .ok (.astore 15, 2) := by decide +kernel
theorem dL_acts_300 : decode cL_acts 300 = .ok (.iload 10, 2) := by decide +kernel
theorem dL_acts_302 : decode cL_acts 302 = .ok (.iconst 1, 1) := by decide +kernel
theorem dL_acts_303 : decode cL_acts 303 = .ok (.iadd, 1) := by decide +kernel
theorem dL_acts_304 : decode cL_acts 304 = .ok (.istore 16, 2) := by decide +kernel
theorem dL_acts_306 : decode cL_acts 306 = .ok (.iload 16, 2) := by decide +kernel
theorem dL_acts_308 : decode cL_acts 308 = .ok (.iload 13, 2) := by decide +kernel
theorem dL_acts_310 : decode cL_acts 310 = .ok (.if_icmp .ge 65, 3) := by decide +kernel
theorem dL_acts_313 : decode cL_acts 313 = .ok (.iload 16, 2) := by decide +kernel
theorem dL_acts_315 : decode cL_acts 315 = .ok (.iload 12, 2) := by decide +kernel
theorem dL_acts_317 : decode cL_acts 317 = .ok (.if_icmp .ge 14, 3) := by decide +kernel
theorem dL_acts_320 : decode cL_acts 320 = .ok (.iload 16, 2) := by decide +kernel
theorem dL_acts_322 : decode cL_acts 322 = .ok (.iload 13, 2) := by decide +kernel
theorem dL_acts_324 : decode cL_acts 324 = .ok (.iadd, 1) := by decide +kernel
theorem dL_acts_325 : decode cL_acts 325 = .ok (.iload 12, 2) := by decide +kernel
theorem dL_acts_327 : decode cL_acts 327 = .ok (.isub, 1) := by decide +kernel
theorem dL_acts_328 : decode cL_acts 328 = .ok (.goto 13, 3) := by decide +kernel
theorem dL_acts_331 : decode cL_acts 331 = .ok (.iload 16, 2) := by decide +kernel
theorem dL_acts_333 : decode cL_acts 333 = .ok (.iload 12, 2) := by decide +kernel
theorem dL_acts_335 : decode cL_acts 335 = .ok (.isub, 1) := by decide +kernel
theorem dL_acts_336 : decode cL_acts 336 = .ok (.iload 10, 2) := by decide +kernel
theorem dL_acts_338 : decode cL_acts 338 = .ok (.iadd, 1) := by decide +kernel
theorem dL_acts_339 : decode cL_acts 339 = .ok (.iconst 1, 1) := by decide +kernel
theorem dL_acts_340 : decode cL_acts 340 = .ok (.iadd, 1) := by decide +kernel
theorem dL_acts_341 : decode cL_acts 341 = .ok (.istore 17, 2) := by decide +kernel
theorem dL_acts_343 : decode cL_acts 343 = .ok (.aload 14, 2) := by decide +kernel
theorem dL_acts_345 : decode cL_acts 345 = .ok (.iload 17, 2) := by decide +kernel
theorem dL_acts_347 : decode cL_acts 347 = .ok (.aload 4, 2) := by decide +kernel
theorem dL_acts_349 : decode cL_acts 349 = .ok (.iload 11, 2) := by decide +kernel
theorem dL_acts_351 : decode cL_acts 351 = .ok (.iload 16, 2) := by decide +kernel
theorem dL_acts_353 : decode cL_acts 353 = .ok (.iadd, 1) := by decide +kernel
theorem dL_acts_354 : decode cL_acts 354 = .ok (.iaload, 1) := by decide +kernel
theorem dL_acts_355 : decode cL_acts 355 = .ok (.iastore, 1) := by decide +kernel
theorem dL_acts_356 : decode cL_acts 356 = .ok (.aload 15, 2) := by decide +kernel
theorem dL_acts_358 : decode cL_acts 358 = .ok (.iload 17, 2) := by decide +kernel
theorem dL_acts_360 : decode cL_acts 360 = .ok (.aload 5, 2) := by decide +kernel
theorem dL_acts_362 : decode cL_acts 362 = .ok (.iload 11, 2) := by decide +kernel
theorem dL_acts_364 : decode cL_acts 364 = .ok (.iload 16, 2) := by decide +kernel
theorem dL_acts_366 : decode cL_acts 366 = .ok (.iadd, 1) := by decide +kernel
theorem dL_acts_367 : decode cL_acts 367 = .ok (.iaload, 1) := by decide +kernel
theorem dL_acts_368 : decode cL_acts 368 = .ok (.iastore, 1) := by decide +kernel
theorem dL_acts_369 : decode cL_acts 369 = .ok (.iinc 16 1, 3) := by decide +kernel
theorem dL_acts_372 : decode cL_acts 372 = .ok (.goto (-66), 3) := by decide +kernel
theorem dL_acts_375 : decode cL_acts 375 = .ok (.iload 10, 2) := by decide +kernel
theorem dL_acts_377 : decode cL_acts 377 = .ok (.iconst 1, 1) := by decide +kernel
theorem dL_acts_378 : decode cL_acts 378 = .ok (.iadd, 1) := by decide +kernel
theorem dL_acts_379 : decode cL_acts 379 = .ok (.istore 16, 2) := by decide +kernel
theorem dL_acts_381 : decode cL_acts 381 = .ok (.iload 16, 2) := by decide +kernel
theorem dL_acts_383 : decode cL_acts 383 = .ok (.iload 13, 2) := by decide +kernel
theorem dL_acts_385 : decode cL_acts 385 = .ok (.if_icmp .ge 35, 3) := by decide +kernel
theorem dL_acts_388 : decode cL_acts 388 = .ok (.aload 4, 2) := by decide +kernel
theorem dL_acts_390 : decode cL_acts 390 = .ok (.iload 11, 2) := by decide +kernel
theorem dL_acts_392 : decode cL_acts 392 = .ok (.iload 16, 2) := by decide +kernel
theorem dL_acts_394 : decode cL_acts 394 = .ok (.iadd, 1) := by decide +kernel
theorem dL_acts_395 : decode cL_acts 395 = .ok (.aload 14, 2) := by decide +kernel
theorem dL_acts_397 : decode cL_acts 397 = .ok (.iload 16, 2) := by decide +kernel
theorem dL_acts_399 : decode cL_acts 399 = .ok (.iaload, 1) := by decide +kernel
theorem dL_acts_400 : decode cL_acts 400 = .ok (.iastore, 1) := by decide +kernel
theorem dL_acts_401 : decode cL_acts 401 = .ok (.aload 5, 2) := by decide +kernel
theorem dL_acts_403 : decode cL_acts 403 = .ok (.iload 11, 2) := by decide +kernel
theorem dL_acts_405 : decode cL_acts 405 = .ok (.iload 16, 2) := by decide +kernel
theorem dL_acts_407 : decode cL_acts 407 = .ok (.iadd, 1) := by decide +kernel
theorem dL_acts_408 : decode cL_acts 408 = .ok (.aload 15, 2) := by decide +kernel
theorem dL_acts_410 : decode cL_acts 410 = .ok (.iload 16, 2) := by decide +kernel
theorem dL_acts_412 : decode cL_acts 412 = .ok (.iaload, 1) := by decide +kernel
theorem dL_acts_413 : decode cL_acts 413 = .ok (.iastore, 1) := by decide +kernel
theorem dL_acts_414 : decode cL_acts 414 = .ok (.iinc 16 1, 3) := by decide +kernel
theorem dL_acts_417 : decode cL_acts 417 = .ok (.goto (-36), 3) := by decide +kernel
theorem dL_acts_420 : decode cL_acts 420 = .ok (.bipush 64, 2) := by decide +kernel
theorem dL_acts_422 : decode cL_acts 422 = .ok (.newarray .int, 2) := by decide +kernel
theorem dL_acts_424 : decode cL_acts 424 = .ok (.astore 16, 2) := by decide +kernel
theorem dL_acts_426 : decode cL_acts 426 = .ok (.aload_n 1, 1) := by decide +kernel
theorem dL_acts_427 : decode cL_acts 427 = .ok (.aload_n 3, 1) := by decide +kernel
theorem dL_acts_428 : decode cL_acts 428 = .ok (.aload 4, 2) := by decide +kernel
theorem dL_acts_430 : decode cL_acts 430 = .ok (.aload 5, 2) := by decide +kernel
theorem dL_acts_432 : decode cL_acts 432 = .ok (.iload 9, 2) := by decide +kernel
theorem dL_acts_434 : decode cL_acts 434 = .ok (.aload 14, 2) := by decide +kernel
theorem dL_acts_436 : decode cL_acts 436 = .ok (.aload 15, 2) := by decide +kernel
theorem dL_acts_438 : decode cL_acts 438 = .ok (.invokestatic 21, 3) := by decide +kernel
theorem dL_acts_441 : decode cL_acts 441 = .ok (.istore 17, 2) := by decide +kernel
theorem dL_acts_443 : decode cL_acts 443 = .ok (.aload_n 2, 1) := by decide +kernel
theorem dL_acts_444 : decode cL_acts 444 = .ok (.bipush 8, 2) := by decide +kernel
theorem dL_acts_446 : decode cL_acts 446 = .ok (.newarray .int, 2) := by decide +kernel
theorem dL_acts_448 : decode cL_acts 448 = .ok (.aload 14, 2) := by decide +kernel
theorem dL_acts_450 : decode cL_acts 450 = .ok (.aload 15, 2) := by decide +kernel
theorem dL_acts_452 : decode cL_acts 452 = .ok (.iload 17, 2) := by decide +kernel
theorem dL_acts_454 : decode cL_acts 454 = .ok (.bipush 64, 2) := by decide +kernel
theorem dL_acts_456 : decode cL_acts 456 = .ok (.newarray .int, 2) := by decide +kernel
theorem dL_acts_458 : decode cL_acts 458 = .ok (.aload 16, 2) := by decide +kernel
theorem dL_acts_460 : decode cL_acts 460 = .ok (.bipush 64, 2) := by decide +kernel
theorem dL_acts_462 : decode cL_acts 462 = .ok (.newarray .int, 2) := by decide +kernel
theorem dL_acts_464 : decode cL_acts 464 = .ok (.bipush 64, 2) := by decide +kernel
theorem dL_acts_466 : decode cL_acts 466 = .ok (.newarray .int, 2) := by decide +kernel
theorem dL_acts_468 : decode cL_acts 468 = .ok (.invokestatic 25, 3) := by decide +kernel
theorem dL_acts_471 : decode cL_acts 471 = .ok (.aload_n 0, 1) := by decide +kernel
theorem dL_acts_472 : decode cL_acts 472 = .ok (.iload 9, 2) := by decide +kernel
theorem dL_acts_474 : decode cL_acts 474 = .ok (.iload 10, 2) := by decide +kernel
theorem dL_acts_476 : decode cL_acts 476 = .ok (.invokevirtual 75, 3) := by decide +kernel
theorem dL_acts_479 : decode cL_acts 479 = .ok (.aload 16, 2) := by decide +kernel
theorem dL_acts_481 : decode cL_acts 481 = .ok (.iconst 0, 1) := by decide +kernel
theorem dL_acts_482 : decode cL_acts 482 = .ok (.iaload, 1) := by decide +kernel
theorem dL_acts_483 : decode cL_acts 483 = .ok (.if_icmp .ne 7, 3) := by decide +kernel
theorem dL_acts_486 : decode cL_acts 486 = .ok (.iconst 1, 1) := by decide +kernel
theorem dL_acts_487 : decode cL_acts 487 = .ok (.goto 4, 3) := by decide +kernel
theorem dL_acts_490 : decode cL_acts 490 = .ok (.iconst 0, 1) := by decide +kernel
theorem dL_acts_491 : decode cL_acts 491 = .ok (.ireturn, 1) := by decide +kernel
theorem dL_isFormula_0 : decode cL_isFormula 0 = .ok (.bipush 64, 2) := by decide +kernel
theorem dL_isFormula_2 : decode cL_isFormula 2 = .ok (.newarray .int, 2) := by decide +kernel
theorem dL_isFormula_4 : decode cL_isFormula 4 = .ok (.astore 8, 2) := by decide +kernel
theorem dL_isFormula_6 : decode cL_isFormula 6 = .ok (.bipush 64, 2) := by decide +kernel
theorem dL_isFormula_8 : decode cL_isFormula 8 = .ok (.newarray .int, 2) := by decide +kernel
theorem dL_isFormula_10 : decode cL_isFormula 10 = .ok (.astore 9, 2) := by decide +kernel
theorem dL_isFormula_12 : decode cL_isFormula 12 = .ok (.bipush 64, 2) := by decide +kernel
theorem dL_isFormula_14 : decode cL_isFormula 14 = .ok (.newarray .int, 2) := by decide +kernel
theorem dL_isFormula_16 : decode cL_isFormula 16 = .ok (.astore 10, 2) := by decide +kernel
theorem dL_isFormula_18 : decode cL_isFormula 18 = .ok (.bipush 64, 2) := by decide +kernel
theorem dL_isFormula_20 : decode cL_isFormula 20 = .ok (.newarray .int, 2) := by decide +kernel
theorem dL_isFormula_22 : decode cL_isFormula 22 = .ok (.astore 11, 2) := by decide +kernel
theorem dL_isFormula_24 : decode cL_isFormula 24 = .ok (.bipush 64, 2) := by decide +kernel
theorem dL_isFormula_26 : decode cL_isFormula 26 = .ok (.newarray .int, 2) := by decide +kernel
theorem dL_isFormula_28 : decode cL_isFormula 28 = .ok (.astore 12, 2) := by decide +kernel
theorem dL_isFormula_30 : decode cL_isFormula 30 = .ok (.bipush 64, 2) := by decide +kernel
theorem dL_isFormula_32 : decode cL_isFormula 32 = .ok (.newarray .int, 2) := by decide +kernel
theorem dL_isFormula_34 : decode cL_isFormula 34 = .ok (.astore 13, 2) := by decide +kernel
theorem dL_isFormula_36 : decode cL_isFormula 36 = .ok (.aload_n 1, 1) := by decide +kernel
theorem dL_isFormula_37 : decode cL_isFormula 37 = .ok (.aload_n 3, 1) := by decide +kernel
theorem dL_isFormula_38 : decode cL_isFormula 38 = .ok (.aload 4, 2) := by decide +kernel
theorem dL_isFormula_40 : decode cL_isFormula 40 = .ok (.aload 5, 2) := by decide +kernel
theorem dL_isFormula_42 : decode cL_isFormula 42 = .ok (.iload 7, 2) := by decide +kernel
theorem dL_isFormula_44 : decode cL_isFormula 44 = .ok (.aload 8, 2) := by decide +kernel
theorem dL_isFormula_46 : decode cL_isFormula 46 = .ok (.aload 9, 2) := by decide +kernel
theorem dL_isFormula_48 : decode cL_isFormula 48 = .ok (.invokestatic 21, 3) := by decide +kernel
theorem dL_isFormula_51 : decode cL_isFormula 51 = .ok (.istore 14, 2) := by decide +kernel
theorem dL_isFormula_53 : decode cL_isFormula 53 = .ok (.aload_n 2, 1) := by decide +kernel
theorem dL_isFormula_54 : decode cL_isFormula 54 = .ok (.aload 6, 2) := by decide +kernel
theorem dL_isFormula_56 : decode cL_isFormula 56 = .ok (.aload 8, 2) := by decide +kernel
theorem dL_isFormula_58 : decode cL_isFormula 58 = .ok (.aload 9, 2) := by decide +kernel
theorem dL_isFormula_60 : decode cL_isFormula 60 = .ok (.iload 14, 2) := by decide +kernel
theorem dL_isFormula_62 : decode cL_isFormula 62 = .ok (.aload 10, 2) := by decide +kernel
theorem dL_isFormula_64 : decode cL_isFormula 64 = .ok (.aload 11, 2) := by decide +kernel
theorem dL_isFormula_66 : decode cL_isFormula 66 = .ok (.aload 12, 2) := by decide +kernel
theorem dL_isFormula_68 : decode cL_isFormula 68 = .ok (.aload 13, 2) := by decide +kernel
theorem dL_isFormula_70 : decode cL_isFormula 70 = .ok (.invokestatic 25, 3) := by decide +kernel
theorem dL_isFormula_73 : decode cL_isFormula 73 = .ok (.aload_n 0, 1) := by decide +kernel
theorem dL_isFormula_74 : decode cL_isFormula 74 = .ok (.iload 7, 2) := by decide +kernel
theorem dL_isFormula_76 : decode cL_isFormula 76 = .ok (.iconst 0, 1) := by decide +kernel
theorem dL_isFormula_77 : decode cL_isFormula 77 = .ok (.invokevirtual 84, 3) := by decide +kernel
theorem dL_isFormula_80 : decode cL_isFormula 80 = .ok (.aload_n 3, 1) := by decide +kernel
theorem dL_isFormula_81 : decode cL_isFormula 81 = .ok (.iload 7, 2) := by decide +kernel
theorem dL_isFormula_83 : decode cL_isFormula 83 = .ok (.iaload, 1) := by decide +kernel
theorem dL_isFormula_84 : decode cL_isFormula 84 = .ok (.if_icmp .ne 103, 3) := by decide +kernel
theorem dL_isFormula_87 : decode cL_isFormula 87 = .ok (.aload_n 0, 1) := by decide +kernel
theorem dL_isFormula_88 : decode cL_isFormula 88 = .ok (.iload 7, 2) := by decide +kernel
theorem dL_isFormula_90 : decode cL_isFormula 90 = .ok (.iconst 1, 1) := by decide +kernel
theorem dL_isFormula_91 : decode cL_isFormula 91 = .ok (.invokevirtual 84, 3) := by decide +kernel
theorem dL_isFormula_94 : decode cL_isFormula 94 = .ok (.iload 14, 2) := by decide +kernel
theorem dL_isFormula_96 : decode cL_isFormula 96 = .ok (.if_icmp .ne 91, 3) := by decide +kernel
theorem dL_isFormula_99 : decode cL_isFormula 99 = .ok (.aload_n 0, 1) := by decide +kernel
theorem dL_isFormula_100 : decode cL_isFormula 100 = .ok (.iload 7, 2) := by decide +kernel
theorem dL_isFormula_102 : decode cL_isFormula 102 = .ok (.iconst 2, 1) := by decide +kernel
theorem dL_isFormula_103 : decode cL_isFormula 103 = .ok (.invokevirtual 84, 3) := by decide +kernel
theorem dL_isFormula_106 : decode cL_isFormula 106 = .ok (.aload 11, 2) := by decide +kernel
theorem dL_isFormula_108 : decode cL_isFormula 108 = .ok (.iconst 0, 1) := by decide +kernel
theorem dL_isFormula_109 : decode cL_isFormula 109 = .ok (.iaload, 1) := by decide +kernel
theorem dL_isFormula_110 : decode cL_isFormula 110 = .ok (.if_icmp .ne 77, 3) := by decide +kernel
theorem dL_isFormula_113 : decode cL_isFormula 113 = .ok (.aload_n 0, 1) := by decide +kernel
theorem dL_isFormula_114 : decode cL_isFormula 114 = .ok (.iload 7, 2) := by decide +kernel
theorem dL_isFormula_116 : decode cL_isFormula 116 = .ok (.iconst 3, 1) := by decide +kernel
theorem dL_isFormula_117 : decode cL_isFormula 117 = .ok (.invokevirtual 84, 3) := by decide +kernel
theorem dL_isFormula_120 : decode cL_isFormula 120 = .ok (.aload_n 1, 1) := by decide +kernel
theorem dL_isFormula_121 : decode cL_isFormula 121 = .ok (.aload_n 3, 1) := by decide +kernel
theorem dL_isFormula_122 : decode cL_isFormula 122 = .ok (.aload 4, 2) := by decide +kernel
theorem dL_isFormula_124 : decode cL_isFormula 124 = .ok (.aload 5, 2) := by decide +kernel
theorem dL_isFormula_126 : decode cL_isFormula 126 = .ok (.iload 7, 2) := by decide +kernel
theorem dL_isFormula_128 : decode cL_isFormula 128 = .ok (.invokestatic 9, 3) := by decide +kernel
theorem dL_isFormula_131 : decode cL_isFormula 131 = .ok (.ifCond .eq 7, 3) := by decide +kernel
theorem dL_isFormula_134 : decode cL_isFormula 134 = .ok (.iconst 1, 1) := by decide +kernel
theorem dL_isFormula_135 : decode cL_isFormula 135 = .ok (.goto 4, 3) := by decide +kernel
theorem dL_isFormula_138 : decode cL_isFormula 138 = .ok (.iconst 0, 1) := by decide +kernel
theorem dL_isFormula_139 : decode cL_isFormula 139 = .ok (.if_icmp .ne 48, 3) := by decide +kernel
theorem dL_isFormula_142 : decode cL_isFormula 142 = .ok (.aload_n 0, 1) := by decide +kernel
theorem dL_isFormula_143 : decode cL_isFormula 143 = .ok (.iload 7, 2) := by decide +kernel
theorem dL_isFormula_145 : decode cL_isFormula 145 = .ok (.iconst 4, 1) := by decide +kernel
theorem dL_isFormula_146 : decode cL_isFormula 146 = .ok (.invokevirtual 84, 3) := by decide +kernel
theorem dL_isFormula_149 : decode cL_isFormula 149 = .ok (.aload 13, 2) := by decide +kernel
theorem dL_isFormula_151 : decode cL_isFormula 151 = .ok (.iconst 0, 1) := by decide +kernel
theorem dL_isFormula_152 : decode cL_isFormula 152 = .ok (.iaload, 1) := by decide +kernel
theorem dL_isFormula_153 : decode cL_isFormula 153 = .ok (.if_icmp .ne 34, 3) := by decide +kernel
theorem dL_isFormula_156 : decode cL_isFormula 156 = .ok (.aload_n 0, 1) := by decide +kernel
theorem dL_isFormula_157 : decode cL_isFormula 157 = .ok (.iload 7, 2) := by decide +kernel
theorem dL_isFormula_159 : decode cL_isFormula 159 = .ok (.iconst 5, 1) := by decide +kernel
theorem dL_isFormula_160 : decode cL_isFormula 160 = .ok (.invokevirtual 84, 3) := by decide +kernel
theorem dL_isFormula_163 : decode cL_isFormula 163 = .ok (.aload 12, 2) := by decide +kernel
theorem dL_isFormula_165 : decode cL_isFormula 165 = .ok (.iconst 0, 1) := by decide +kernel
theorem dL_isFormula_166 : decode cL_isFormula 166 = .ok (.iaload, 1) := by decide +kernel
theorem dL_isFormula_167 : decode cL_isFormula 167 = .ok (.if_icmp .ne 20, 3) := by decide +kernel
theorem dL_isFormula_170 : decode cL_isFormula 170 = .ok (.aload_n 0, 1) := by decide +kernel
theorem dL_isFormula_171 : decode cL_isFormula 171 = .ok (.iload 7, 2) := by decide +kernel
theorem dL_isFormula_173 : decode cL_isFormula 173 = .ok (.bipush 7, 2) := by decide +kernel
theorem dL_isFormula_175 : decode cL_isFormula 175 = .ok (.invokevirtual 84, 3) := by decide +kernel
theorem dL_isFormula_178 : decode cL_isFormula 178 = .ok (.ldc 78, 2) := by decide +kernel
theorem dL_isFormula_180 : decode cL_isFormula 180 = .ok (.if_icmp .ne 7, 3) := by decide +kernel
theorem dL_isFormula_183 : decode cL_isFormula 183 = .ok (.iconst 1, 1) := by decide +kernel
theorem dL_isFormula_184 : decode cL_isFormula 184 = .ok (.goto 4, 3) := by decide +kernel
theorem dL_isFormula_187 : decode cL_isFormula 187 = .ok (.iconst 0, 1) := by decide +kernel
theorem dL_isFormula_188 : decode cL_isFormula 188 = .ok (.istore 15, 2) := by decide +kernel
theorem dL_isFormula_190 : decode cL_isFormula 190 = .ok (.iconst 0, 1) := by decide +kernel
theorem dL_isFormula_191 : decode cL_isFormula 191 = .ok (.istore 16, 2) := by decide +kernel
theorem dL_isFormula_193 : decode cL_isFormula 193 = .ok (.iload 16, 2) := by decide +kernel
theorem dL_isFormula_195 : decode cL_isFormula 195 = .ok (.iload 14, 2) := by decide +kernel
theorem dL_isFormula_197 : decode cL_isFormula 197 = .ok (.if_icmp .ge 189, 3) := by decide +kernel
theorem dL_isFormula_200 : decode cL_isFormula 200 = .ok (.iload 15, 2) := by decide +kernel
theorem dL_isFormula_202 : decode cL_isFormula 202 = .ok (.ifCond .eq 184, 3) := by decide +kernel
theorem dL_isFormula_205 : decode cL_isFormula 205 = .ok (.aload_n 0, 1) := by decide +kernel
theorem dL_isFormula_206 : decode cL_isFormula 206 = .ok (.iload 7, 2) := by decide +kernel
theorem dL_isFormula_208 : decode cL_isFormula 208 = .ok (.iload 16, 2) := by decide +kernel
theorem dL_isFormula_210 : decode cL_isFormula 210 = .ok (.iconst 0, 1) := by decide +kernel
theorem dL_isFormula_211 : decode cL_isFormula 211 = .ok (.invokevirtual 87, 3) := by decide +kernel
theorem dL_isFormula_214 : decode cL_isFormula 214 = .ok (.aload 8, 2) := by decide +kernel
theorem dL_isFormula_216 : decode cL_isFormula 216 = .ok (.iload 16, 2) := by decide +kernel
theorem dL_isFormula_218 : decode cL_isFormula 218 = .ok (.iaload, 1) := by decide +kernel
theorem dL_isFormula_219 : decode cL_isFormula 219 = .ok (.if_icmp .ne 158, 3) := by decide +kernel
theorem dL_isFormula_222 : decode cL_isFormula 222 = .ok (.aload_n 0, 1) := by decide +kernel
theorem dL_isFormula_223 : decode cL_isFormula 223 = .ok (.iload 7, 2) := by decide +kernel
theorem dL_isFormula_225 : decode cL_isFormula 225 = .ok (.iload 16, 2) := by decide +kernel
theorem dL_isFormula_227 : decode cL_isFormula 227 = .ok (.iconst 1, 1) := by decide +kernel
theorem dL_isFormula_228 : decode cL_isFormula 228 = .ok (.invokevirtual 87, 3) := by decide +kernel
theorem dL_isFormula_231 : decode cL_isFormula 231 = .ok (.aload 8, 2) := by decide +kernel
theorem dL_isFormula_233 : decode cL_isFormula 233 = .ok (.iload 16, 2) := by decide +kernel
theorem dL_isFormula_235 : decode cL_isFormula 235 = .ok (.iaload, 1) := by decide +kernel
theorem dL_isFormula_236 : decode cL_isFormula 236 = .ok (.iconst 3, 1) := by decide +kernel
theorem dL_isFormula_237 : decode cL_isFormula 237 = .ok (.if_icmp .ge 11, 3) := by decide +kernel
theorem dL_isFormula_240 : decode cL_isFormula 240 = .ok (.aload 9, 2) := by decide +kernel
theorem dL_isFormula_242 : decode cL_isFormula 242 = .ok (.iload 16, 2) := by decide +kernel
theorem dL_isFormula_244 : decode cL_isFormula 244 = .ok (.iaload, 1) := by decide +kernel
theorem dL_isFormula_245 : decode cL_isFormula 245 = .ok (.goto 5, 3) := by decide +kernel
theorem dL_isFormula_248 : decode cL_isFormula 248 = .ok (.ldc 40, 2) := by decide +kernel
theorem dL_isFormula_250 : decode cL_isFormula 250 = .ok (.if_icmp .ne 127, 3) := by decide +kernel
theorem dL_isFormula_253 : decode cL_isFormula 253 = .ok (.aload_n 0, 1) := by decide +kernel
theorem dL_isFormula_254 : decode cL_isFormula 254 = .ok (.iload 7, 2) := by decide +kernel
theorem dL_isFormula_256 : decode cL_isFormula 256 = .ok (.iload 16, 2) := by decide +kernel
theorem dL_isFormula_258 : decode cL_isFormula 258 = .ok (.iconst 2, 1) := by decide +kernel
theorem dL_isFormula_259 : decode cL_isFormula 259 = .ok (.invokevirtual 87, 3) := by decide +kernel
theorem dL_isFormula_262 : decode cL_isFormula 262 = .ok (.aload 8, 2) := by decide +kernel
theorem dL_isFormula_264 : decode cL_isFormula 264 = .ok (.iload 16, 2) := by decide +kernel
theorem dL_isFormula_266 : decode cL_isFormula 266 = .ok (.iaload, 1) := by decide +kernel
theorem dL_isFormula_267 : decode cL_isFormula 267 = .ok (.iconst 3, 1) := by decide +kernel
theorem dL_isFormula_268 : decode cL_isFormula 268 = .ok (.if_icmp .ge 8, 3) := by decide +kernel
theorem dL_isFormula_271 : decode cL_isFormula 271 = .ok (.ldc 40, 2) := by decide +kernel
theorem dL_isFormula_273 : decode cL_isFormula 273 = .ok (.goto 7, 3) := by decide +kernel
theorem dL_isFormula_276 : decode cL_isFormula 276 = .ok (.iload 16, 2) := by decide +kernel
theorem dL_isFormula_278 : decode cL_isFormula 278 = .ok (.iconst 1, 1) := by decide +kernel
theorem dL_isFormula_279 : decode cL_isFormula 279 = .ok (.iadd, 1) := by decide +kernel
theorem dL_isFormula_280 : decode cL_isFormula 280 = .ok (.if_icmp .ne 97, 3) := by decide +kernel
theorem dL_isFormula_283 : decode cL_isFormula 283 = .ok (.aload_n 0, 1) := by decide +kernel
theorem dL_isFormula_284 : decode cL_isFormula 284 = .ok (.iload 7, 2) := by decide +kernel
theorem dL_isFormula_286 : decode cL_isFormula 286 = .ok (.iload 16, 2) := by decide +kernel
theorem dL_isFormula_288 : decode cL_isFormula 288 = .ok (.iconst 3, 1) := by decide +kernel
theorem dL_isFormula_289 : decode cL_isFormula 289 = .ok (.invokevirtual 87, 3) := by decide +kernel
theorem dL_isFormula_292 : decode cL_isFormula 292 = .ok (.aload 8, 2) := by decide +kernel
theorem dL_isFormula_294 : decode cL_isFormula 294 = .ok (.iload 16, 2) := by decide +kernel
theorem dL_isFormula_296 : decode cL_isFormula 296 = .ok (.iaload, 1) := by decide +kernel
theorem dL_isFormula_297 : decode cL_isFormula 297 = .ok (.iconst 4, 1) := by decide +kernel
theorem dL_isFormula_298 : decode cL_isFormula 298 = .ok (.if_icmp .ge 8, 3) := by decide +kernel
theorem dL_isFormula_301 : decode cL_isFormula 301 = .ok (.ldc 40, 2) := by decide +kernel
theorem dL_isFormula_303 : decode cL_isFormula 303 = .ok (.goto 15, 3) := by decide +kernel
theorem dL_isFormula_306 : decode cL_isFormula 306 = .ok (.iload 16, 2) := by decide +kernel
theorem dL_isFormula_308 : decode cL_isFormula 308 = .ok (.iconst 1, 1) := by decide +kernel
theorem dL_isFormula_309 : decode cL_isFormula 309 = .ok (.iadd, 1) := by decide +kernel
theorem dL_isFormula_310 : decode cL_isFormula 310 = .ok (.aload 10, 2) := by decide +kernel
theorem dL_isFormula_312 : decode cL_isFormula 312 = .ok (.iload 16, 2) := by decide +kernel
theorem dL_isFormula_314 : decode cL_isFormula 314 = .ok (.iconst 1, 1) := by decide +kernel
theorem dL_isFormula_315 : decode cL_isFormula 315 = .ok (.iadd, 1) := by decide +kernel
theorem dL_isFormula_316 : decode cL_isFormula 316 = .ok (.iaload, 1) := by decide +kernel
theorem dL_isFormula_317 : decode cL_isFormula 317 = .ok (.iadd, 1) := by decide +kernel
theorem dL_isFormula_318 : decode cL_isFormula 318 = .ok (.if_icmp .ne 59, 3) := by decide +kernel
theorem dL_isFormula_321 : decode cL_isFormula 321 = .ok (.aload_n 0, 1) := by decide +kernel
theorem dL_isFormula_322 : decode cL_isFormula 322 = .ok (.iload 7, 2) := by decide +kernel
theorem dL_isFormula_324 : decode cL_isFormula 324 = .ok (.iload 16, 2) := by decide +kernel
theorem dL_isFormula_326 : decode cL_isFormula 326 = .ok (.iconst 4, 1) := by decide +kernel
theorem dL_isFormula_327 : decode cL_isFormula 327 = .ok (.invokevirtual 87, 3) := by decide +kernel
theorem dL_isFormula_330 : decode cL_isFormula 330 = .ok (.aload 11, 2) := by decide +kernel
theorem dL_isFormula_332 : decode cL_isFormula 332 = .ok (.iload 16, 2) := by decide +kernel
theorem dL_isFormula_334 : decode cL_isFormula 334 = .ok (.iaload, 1) := by decide +kernel
theorem dL_isFormula_335 : decode cL_isFormula 335 = .ok (.if_icmp .ne 42, 3) := by decide +kernel
theorem dL_isFormula_338 : decode cL_isFormula 338 = .ok (.aload_n 0, 1) := by decide +kernel
theorem dL_isFormula_339 : decode cL_isFormula 339 = .ok (.iload 7, 2) := by decide +kernel
theorem dL_isFormula_341 : decode cL_isFormula 341 = .ok (.iload 16, 2) := by decide +kernel
theorem dL_isFormula_343 : decode cL_isFormula 343 = .ok (.iconst 5, 1) := by decide +kernel
theorem dL_isFormula_344 : decode cL_isFormula 344 = .ok (.invokevirtual 87, 3) := by decide +kernel
theorem dL_isFormula_347 : decode cL_isFormula 347 = .ok (.aload 10, 2) := by decide +kernel
theorem dL_isFormula_349 : decode cL_isFormula 349 = .ok (.iload 16, 2) := by decide +kernel
theorem dL_isFormula_351 : decode cL_isFormula 351 = .ok (.iaload, 1) := by decide +kernel
theorem dL_isFormula_352 : decode cL_isFormula 352 = .ok (.if_icmp .ne 25, 3) := by decide +kernel
theorem dL_isFormula_355 : decode cL_isFormula 355 = .ok (.aload_n 0, 1) := by decide +kernel
theorem dL_isFormula_356 : decode cL_isFormula 356 = .ok (.iload 7, 2) := by decide +kernel
theorem dL_isFormula_358 : decode cL_isFormula 358 = .ok (.iload 16, 2) := by decide +kernel
theorem dL_isFormula_360 : decode cL_isFormula 360 = .ok (.bipush 6, 2) := by decide +kernel
theorem dL_isFormula_362 : decode cL_isFormula 362 = .ok (.invokevirtual 87, 3) := by decide +kernel
theorem dL_isFormula_365 : decode cL_isFormula 365 = .ok (.aload 13, 2) := by decide +kernel
theorem dL_isFormula_367 : decode cL_isFormula 367 = .ok (.iload 16, 2) := by decide +kernel
theorem dL_isFormula_369 : decode cL_isFormula 369 = .ok (.iaload, 1) := by decide +kernel
theorem dL_isFormula_370 : decode cL_isFormula 370 = .ok (.if_icmp .ne 7, 3) := by decide +kernel
theorem dL_isFormula_373 : decode cL_isFormula 373 = .ok (.iconst 1, 1) := by decide +kernel
theorem dL_isFormula_374 : decode cL_isFormula 374 = .ok (.goto 4, 3) := by decide +kernel
theorem dL_isFormula_377 : decode cL_isFormula 377 = .ok (.iconst 0, 1) := by decide +kernel
theorem dL_isFormula_378 : decode cL_isFormula 378 = .ok (.istore 15, 2) := by decide +kernel
theorem dL_isFormula_380 : decode cL_isFormula 380 = .ok (.iinc 16 1, 3) := by decide +kernel
theorem dL_isFormula_383 : decode cL_isFormula 383 = .ok (.goto (-190), 3) := by decide +kernel
theorem dL_isFormula_386 : decode cL_isFormula 386 = .ok (.aload_n 0, 1) := by decide +kernel
theorem dL_isFormula_387 : decode cL_isFormula 387 = .ok (.iload 7, 2) := by decide +kernel
theorem dL_isFormula_389 : decode cL_isFormula 389 = .ok (.invokevirtual 91, 3) := by decide +kernel
theorem dL_isFormula_392 : decode cL_isFormula 392 = .ok (.istore 16, 2) := by decide +kernel
theorem dL_isFormula_394 : decode cL_isFormula 394 = .ok (.iload 15, 2) := by decide +kernel
theorem dL_isFormula_396 : decode cL_isFormula 396 = .ok (.ifCond .eq 64, 3) := by decide +kernel
theorem dL_isFormula_399 : decode cL_isFormula 399 = .ok (.aload_n 0, 1) := by decide +kernel
theorem dL_isFormula_400 : decode cL_isFormula 400 = .ok (.iload 7, 2) := by decide +kernel
theorem dL_isFormula_402 : decode cL_isFormula 402 = .ok (.iload 14, 2) := by decide +kernel
theorem dL_isFormula_404 : decode cL_isFormula 404 = .ok (.iconst 0, 1) := by decide +kernel
theorem dL_isFormula_405 : decode cL_isFormula 405 = .ok (.invokevirtual 87, 3) := by decide +kernel
theorem dL_isFormula_408 : decode cL_isFormula 408 = .ok (.ldc 78, 2) := by decide +kernel
theorem dL_isFormula_410 : decode cL_isFormula 410 = .ok (.if_icmp .ne 50, 3) := by decide +kernel
theorem dL_isFormula_413 : decode cL_isFormula 413 = .ok (.aload_n 0, 1) := by decide +kernel
theorem dL_isFormula_414 : decode cL_isFormula 414 = .ok (.iload 7, 2) := by decide +kernel
theorem dL_isFormula_416 : decode cL_isFormula 416 = .ok (.iconst 0, 1) := by decide +kernel
theorem dL_isFormula_417 : decode cL_isFormula 417 = .ok (.bipush 7, 2) := by decide +kernel
theorem dL_isFormula_419 : decode cL_isFormula 419 = .ok (.invokevirtual 87, 3) := by decide +kernel
theorem dL_isFormula_422 : decode cL_isFormula 422 = .ok (.ldc 78, 2) := by decide +kernel
theorem dL_isFormula_424 : decode cL_isFormula 424 = .ok (.if_icmp .ne 36, 3) := by decide +kernel
theorem dL_isFormula_427 : decode cL_isFormula 427 = .ok (.aload_n 0, 1) := by decide +kernel
theorem dL_isFormula_428 : decode cL_isFormula 428 = .ok (.iload 7, 2) := by decide +kernel
theorem dL_isFormula_430 : decode cL_isFormula 430 = .ok (.iconst (-1), 1) := by decide +kernel
theorem dL_isFormula_431 : decode cL_isFormula 431 = .ok (.iconst 0, 1) := by decide +kernel
theorem dL_isFormula_432 : decode cL_isFormula 432 = .ok (.invokevirtual 87, 3) := by decide +kernel
theorem dL_isFormula_435 : decode cL_isFormula 435 = .ok (.ldc 78, 2) := by decide +kernel
theorem dL_isFormula_437 : decode cL_isFormula 437 = .ok (.if_icmp .ne 23, 3) := by decide +kernel
theorem dL_isFormula_440 : decode cL_isFormula 440 = .ok (.iload 16, 2) := by decide +kernel
theorem dL_isFormula_442 : decode cL_isFormula 442 = .ok (.ldc 40, 2) := by decide +kernel
theorem dL_isFormula_444 : decode cL_isFormula 444 = .ok (.if_icmp .eq 12, 3) := by decide +kernel
theorem dL_isFormula_447 : decode cL_isFormula 447 = .ok (.iload 16, 2) := by decide +kernel
theorem dL_isFormula_449 : decode cL_isFormula 449 = .ok (.aload 11, 2) := by decide +kernel
theorem dL_isFormula_451 : decode cL_isFormula 451 = .ok (.iconst 0, 1) := by decide +kernel
theorem dL_isFormula_452 : decode cL_isFormula 452 = .ok (.iaload, 1) := by decide +kernel
theorem dL_isFormula_453 : decode cL_isFormula 453 = .ok (.if_icmp .ne 7, 3) := by decide +kernel
theorem dL_isFormula_456 : decode cL_isFormula 456 = .ok (.iconst 1, 1) := by decide +kernel
theorem dL_isFormula_457 : decode cL_isFormula 457 = .ok (.goto 4, 3) := by decide +kernel
theorem dL_isFormula_460 : decode cL_isFormula 460 = .ok (.iconst 0, 1) := by decide +kernel
theorem dL_isFormula_461 : decode cL_isFormula 461 = .ok (.ireturn, 1) := by decide +kernel
theorem dL_isSo_0 : decode cL_isSo 0 = .ok (.bipush 8, 2) := by decide +kernel
theorem dL_isSo_2 : decode cL_isSo 2 = .ok (.newarray .int, 2) := by decide +kernel
theorem dL_isSo_4 : decode cL_isSo 4 = .ok (.astore 6, 2) := by decide +kernel
theorem dL_isSo_6 : decode cL_isSo 6 = .ok (.bipush 8, 2) := by decide +kernel
theorem dL_isSo_8 : decode cL_isSo 8 = .ok (.newarray .int, 2) := by decide +kernel
theorem dL_isSo_10 : decode cL_isSo 10 = .ok (.astore 7, 2) := by decide +kernel
theorem dL_isSo_12 : decode cL_isSo 12 = .ok (.iconst 0, 1) := by decide +kernel
theorem dL_isSo_13 : decode cL_isSo 13 = .ok (.istore 8, 2) := by decide +kernel
theorem dL_isSo_15 : decode cL_isSo 15 = .ok (.iconst 0, 1) := by decide +kernel
theorem dL_isSo_16 : decode cL_isSo 16 = .ok (.istore 9, 2) := by decide +kernel
theorem dL_isSo_18 : decode cL_isSo 18 = .ok (.iconst 0, 1) := by decide +kernel
theorem dL_isSo_19 : decode cL_isSo 19 = .ok (.istore 10, 2) := by decide +kernel
theorem dL_isSo_21 : decode cL_isSo 21 = .ok (.iconst 1, 1) := by decide +kernel
theorem dL_isSo_22 : decode cL_isSo 22 = .ok (.istore 11, 2) := by decide +kernel
theorem dL_isSo_24 : decode cL_isSo 24 = .ok (.aload_n 1, 1) := by decide +kernel
theorem dL_isSo_25 : decode cL_isSo 25 = .ok (.aload_n 2, 1) := by decide +kernel
theorem dL_isSo_26 : decode cL_isSo 26 = .ok (.aload_n 3, 1) := by decide +kernel
theorem dL_isSo_27 : decode cL_isSo 27 = .ok (.aload 4, 2) := by decide +kernel
theorem dL_isSo_29 : decode cL_isSo 29 = .ok (.aload 5, 2) := by decide +kernel
theorem dL_isSo_31 : decode cL_isSo 31 = .ok (.aload 6, 2) := by decide +kernel
theorem dL_isSo_33 : decode cL_isSo 33 = .ok (.invokestatic 94, 3) := by decide +kernel
theorem dL_isSo_36 : decode cL_isSo 36 = .ok (.iconst 0, 1) := by decide +kernel
theorem dL_isSo_37 : decode cL_isSo 37 = .ok (.istore 12, 2) := by decide +kernel
theorem dL_isSo_39 : decode cL_isSo 39 = .ok (.iload 12, 2) := by decide +kernel
theorem dL_isSo_41 : decode cL_isSo 41 = .ok (.aload_n 1, 1) := by decide +kernel
theorem dL_isSo_42 : decode cL_isSo 42 = .ok (.iconst 0, 1) := by decide +kernel
theorem dL_isSo_43 : decode cL_isSo 43 = .ok (.iaload, 1) := by decide +kernel
theorem dL_isSo_44 : decode cL_isSo 44 = .ok (.if_icmp .ge 201, 3) := by decide +kernel
theorem dL_isSo_47 : decode cL_isSo 47 = .ok (.iload 11, 2) := by decide +kernel
theorem dL_isSo_49 : decode cL_isSo 49 = .ok (.ifCond .eq 196, 3) := by decide +kernel
theorem dL_isSo_52 : decode cL_isSo 52 = .ok (.bipush 64, 2) := by decide +kernel
theorem dL_isSo_54 : decode cL_isSo 54 = .ok (.newarray .int, 2) := by decide +kernel
theorem dL_isSo_56 : decode cL_isSo 56 = .ok (.astore 13, 2) := by decide +kernel
theorem dL_isSo_58 : decode cL_isSo 58 = .ok (.bipush 64, 2) := by decide +kernel
theorem dL_isSo_60 : decode cL_isSo 60 = .ok (.newarray .int, 2) := by decide +kernel
theorem dL_isSo_62 : decode cL_isSo 62 = .ok (.astore 14, 2) := by decide +kernel
theorem dL_isSo_64 : decode cL_isSo 64 = .ok (.bipush 64, 2) := by decide +kernel
theorem dL_isSo_66 : decode cL_isSo 66 = .ok (.newarray .int, 2) := by decide +kernel
theorem dL_isSo_68 : decode cL_isSo 68 = .ok (.astore 15, 2) := by decide +kernel
theorem dL_isSo_70 : decode cL_isSo 70 = .ok (.aload_n 1, 1) := by decide +kernel
theorem dL_isSo_71 : decode cL_isSo 71 = .ok (.aload_n 3, 1) := by decide +kernel
theorem dL_isSo_72 : decode cL_isSo 72 = .ok (.aload 4, 2) := by decide +kernel
theorem dL_isSo_74 : decode cL_isSo 74 = .ok (.aload 5, 2) := by decide +kernel
theorem dL_isSo_76 : decode cL_isSo 76 = .ok (.iload 12, 2) := by decide +kernel
theorem dL_isSo_78 : decode cL_isSo 78 = .ok (.aload 13, 2) := by decide +kernel
theorem dL_isSo_80 : decode cL_isSo 80 = .ok (.aload 14, 2) := by decide +kernel
theorem dL_isSo_82 : decode cL_isSo 82 = .ok (.invokestatic 21, 3) := by decide +kernel
theorem dL_isSo_85 : decode cL_isSo 85 = .ok (.istore 16, 2) := by decide +kernel
theorem dL_isSo_87 : decode cL_isSo 87 = .ok (.aload_n 1, 1) := by decide +kernel
theorem dL_isSo_88 : decode cL_isSo 88 = .ok (.aload_n 3, 1) := by decide +kernel
theorem dL_isSo_89 : decode cL_isSo 89 = .ok (.aload 4, 2) := by decide +kernel
theorem dL_isSo_91 : decode cL_isSo 91 = .ok (.aload 5, 2) := by decide +kernel
theorem dL_isSo_93 : decode cL_isSo 93 = .ok (.iload 12, 2) := by decide +kernel
theorem dL_isSo_95 : decode cL_isSo 95 = .ok (.invokestatic 9, 3) := by decide +kernel
theorem dL_isSo_98 : decode cL_isSo 98 = .ok (.istore 17, 2) := by decide +kernel
theorem dL_isSo_100 : decode cL_isSo 100 = .ok (.aload_n 2, 1) := by decide +kernel
theorem dL_isSo_101 : decode cL_isSo 101 = .ok (.aload 6, 2) := by decide +kernel
theorem dL_isSo_103 : decode cL_isSo 103 = .ok (.aload 13, 2) := by decide +kernel
theorem dL_isSo_105 : decode cL_isSo 105 = .ok (.aload 14, 2) := by decide +kernel
theorem dL_isSo_107 : decode cL_isSo 107 = .ok (.iload 16, 2) := by decide +kernel
theorem dL_isSo_109 : decode cL_isSo 109 = .ok (.bipush 64, 2) := by decide +kernel
theorem dL_isSo_111 : decode cL_isSo 111 = .ok (.newarray .int, 2) := by decide +kernel
theorem dL_isSo_113 : decode cL_isSo 113 = .ok (.aload 15, 2) := by decide +kernel
theorem dL_isSo_115 : decode cL_isSo 115 = .ok (.bipush 64, 2) := by decide +kernel
theorem dL_isSo_117 : decode cL_isSo 117 = .ok (.newarray .int, 2) := by decide +kernel
theorem dL_isSo_119 : decode cL_isSo 119 = .ok (.bipush 64, 2) := by decide +kernel
theorem dL_isSo_121 : decode cL_isSo 121 = .ok (.newarray .int, 2) := by decide +kernel
theorem dL_isSo_123 : decode cL_isSo 123 = .ok (.invokestatic 25, 3) := by decide +kernel
theorem dL_isSo_126 : decode cL_isSo 126 = .ok (.iconst 0, 1) := by decide +kernel
theorem dL_isSo_127 : decode cL_isSo 127 = .ok (.istore 18, 2) := by decide +kernel
theorem dL_isSo_129 : decode cL_isSo 129 = .ok (.iload 18, 2) := by decide +kernel
theorem dL_isSo_131 : decode cL_isSo 131 = .ok (.iload 16, 2) := by decide +kernel
theorem dL_isSo_133 : decode cL_isSo 133 = .ok (.if_icmp .ge 40, 3) := by decide +kernel
theorem dL_isSo_136 : decode cL_isSo 136 = .ok (.iload 17, 2) := by decide +kernel
theorem dL_isSo_138 : decode cL_isSo 138 = .ok (.ifCond .ne 35, 3) := by decide +kernel
theorem dL_isSo_141 : decode cL_isSo 141 = .ok (.aload 7, 2) := by decide +kernel
theorem dL_isSo_143 : decode cL_isSo 143 = .ok (.aload 13, 2) := by decide +kernel
theorem dL_isSo_145 : decode cL_isSo 145 = .ok (.iload 18, 2) := by decide +kernel
theorem dL_isSo_147 : decode cL_isSo 147 = .ok (.iaload, 1) := by decide +kernel
theorem dL_isSo_148 : decode cL_isSo 148 = .ok (.iconst 2, 1) := by decide +kernel
theorem dL_isSo_149 : decode cL_isSo 149 = .ok (.if_icmp .ne 11, 3) := by decide +kernel
theorem dL_isSo_152 : decode cL_isSo 152 = .ok (.aload 14, 2) := by decide +kernel
theorem dL_isSo_154 : decode cL_isSo 154 = .ok (.iload 18, 2) := by decide +kernel
theorem dL_isSo_156 : decode cL_isSo 156 = .ok (.iaload, 1) := by decide +kernel
theorem dL_isSo_157 : decode cL_isSo 157 = .ok (.goto 5, 3) := by decide +kernel
theorem dL_isSo_160 : decode cL_isSo 160 = .ok (.bipush 7, 2) := by decide +kernel
theorem dL_isSo_162 : decode cL_isSo 162 = .ok (.dup2, 1) := by decide +kernel
theorem dL_isSo_163 : decode cL_isSo 163 = .ok (.iaload, 1) := by decide +kernel
theorem dL_isSo_164 : decode cL_isSo 164 = .ok (.iconst 1, 1) := by decide +kernel
theorem dL_isSo_165 : decode cL_isSo 165 = .ok (.iadd, 1) := by decide +kernel
theorem dL_isSo_166 : decode cL_isSo 166 = .ok (.iastore, 1) := by decide +kernel
theorem dL_isSo_167 : decode cL_isSo 167 = .ok (.iinc 18 1, 3) := by decide +kernel
theorem dL_isSo_170 : decode cL_isSo 170 = .ok (.goto (-41), 3) := by decide +kernel
theorem dL_isSo_173 : decode cL_isSo 173 = .ok (.iload 8, 2) := by decide +kernel
theorem dL_isSo_175 : decode cL_isSo 175 = .ok (.iload 17, 2) := by decide +kernel
theorem dL_isSo_177 : decode cL_isSo 177 = .ok (.ifCond .eq 7, 3) := by decide +kernel
theorem dL_isSo_180 : decode cL_isSo 180 = .ok (.iconst 1, 1) := by decide +kernel
theorem dL_isSo_181 : decode cL_isSo 181 = .ok (.goto 4, 3) := by decide +kernel
theorem dL_isSo_184 : decode cL_isSo 184 = .ok (.iconst 0, 1) := by decide +kernel
theorem dL_isSo_185 : decode cL_isSo 185 = .ok (.iadd, 1) := by decide +kernel
theorem dL_isSo_186 : decode cL_isSo 186 = .ok (.istore 8, 2) := by decide +kernel
theorem dL_isSo_188 : decode cL_isSo 188 = .ok (.iload 9, 2) := by decide +kernel
theorem dL_isSo_190 : decode cL_isSo 190 = .ok (.aload_n 3, 1) := by decide +kernel
theorem dL_isSo_191 : decode cL_isSo 191 = .ok (.iload 12, 2) := by decide +kernel
theorem dL_isSo_193 : decode cL_isSo 193 = .ok (.iaload, 1) := by decide +kernel
theorem dL_isSo_194 : decode cL_isSo 194 = .ok (.iadd, 1) := by decide +kernel
theorem dL_isSo_195 : decode cL_isSo 195 = .ok (.istore 9, 2) := by decide +kernel
theorem dL_isSo_197 : decode cL_isSo 197 = .ok (.iload 17, 2) := by decide +kernel
theorem dL_isSo_199 : decode cL_isSo 199 = .ok (.ifCond .ne 19, 3) := by decide +kernel
theorem dL_isSo_202 : decode cL_isSo 202 = .ok (.aload 15, 2) := by decide +kernel
theorem dL_isSo_204 : decode cL_isSo 204 = .ok (.iconst 0, 1) := by decide +kernel
theorem dL_isSo_205 : decode cL_isSo 205 = .ok (.iaload, 1) := by decide +kernel
theorem dL_isSo_206 : decode cL_isSo 206 = .ok (.iload 10, 2) := by decide +kernel
theorem dL_isSo_208 : decode cL_isSo 208 = .ok (.if_icmp .le 10, 3) := by decide +kernel
theorem dL_isSo_211 : decode cL_isSo 211 = .ok (.aload 15, 2) := by decide +kernel
theorem dL_isSo_213 : decode cL_isSo 213 = .ok (.iconst 0, 1) := by decide +kernel
theorem dL_isSo_214 : decode cL_isSo 214 = .ok (.iaload, 1) := by decide +kernel
theorem dL_isSo_215 : decode cL_isSo 215 = .ok (.goto 5, 3) := by decide +kernel
theorem dL_isSo_218 : decode cL_isSo 218 = .ok (.iload 10, 2) := by decide +kernel
theorem dL_isSo_220 : decode cL_isSo 220 = .ok (.istore 10, 2) := by decide +kernel
theorem dL_isSo_222 : decode cL_isSo 222 = .ok (.aload_n 0, 1) := by decide +kernel
theorem dL_isSo_223 : decode cL_isSo 223 = .ok (.aload_n 1, 1) := by decide +kernel
theorem dL_isSo_224 : decode cL_isSo 224 = .ok (.aload_n 2, 1) := by decide +kernel
theorem dL_isSo_225 : decode cL_isSo 225 = .ok (.aload_n 3, 1) := by decide +kernel
theorem dL_isSo_226 : decode cL_isSo 226 = .ok (.aload 4, 2) := by decide +kernel
theorem dL_isSo_228 : decode cL_isSo 228 = .ok (.aload 5, 2) := by decide +kernel
theorem dL_isSo_230 : decode cL_isSo 230 = .ok (.aload 6, 2) := by decide +kernel
theorem dL_isSo_232 : decode cL_isSo 232 = .ok (.iload 12, 2) := by decide +kernel
theorem dL_isSo_234 : decode cL_isSo 234 = .ok (.invokestatic 98, 3) := by decide +kernel
theorem dL_isSo_237 : decode cL_isSo 237 = .ok (.istore 11, 2) := by decide +kernel
theorem dL_isSo_239 : decode cL_isSo 239 = .ok (.iinc 12 1, 3) := by decide +kernel
theorem dL_isSo_242 : decode cL_isSo 242 = .ok (.goto (-203), 3) := by decide +kernel
theorem dL_isSo_245 : decode cL_isSo 245 = .ok (.iconst 0, 1) := by decide +kernel
theorem dL_isSo_246 : decode cL_isSo 246 = .ok (.istore 12, 2) := by decide +kernel
theorem dL_isSo_248 : decode cL_isSo 248 = .ok (.iload 12, 2) := by decide +kernel
theorem dL_isSo_250 : decode cL_isSo 250 = .ok (.aload_n 1, 1) := by decide +kernel
theorem dL_isSo_251 : decode cL_isSo 251 = .ok (.iconst 0, 1) := by decide +kernel
theorem dL_isSo_252 : decode cL_isSo 252 = .ok (.iaload, 1) := by decide +kernel
theorem dL_isSo_253 : decode cL_isSo 253 = .ok (.if_icmp .ge 37, 3) := by decide +kernel
theorem dL_isSo_256 : decode cL_isSo 256 = .ok (.iload 11, 2) := by decide +kernel
theorem dL_isSo_258 : decode cL_isSo 258 = .ok (.ifCond .eq 32, 3) := by decide +kernel
theorem dL_isSo_261 : decode cL_isSo 261 = .ok (.aload_n 0, 1) := by decide +kernel
theorem dL_isSo_262 : decode cL_isSo 262 = .ok (.iload 12, 2) := by decide +kernel
theorem dL_isSo_264 : decode cL_isSo 264 = .ok (.bipush 6, 2) := by decide +kernel
theorem dL_isSo_266 : decode cL_isSo 266 = .ok (.invokevirtual 84, 3) := by decide +kernel
theorem dL_isSo_269 : decode cL_isSo 269 = .ok (.aload 7, 2) := by decide +kernel
theorem dL_isSo_271 : decode cL_isSo 271 = .ok (.iload 12, 2) := by decide +kernel
theorem dL_isSo_273 : decode cL_isSo 273 = .ok (.iaload, 1) := by decide +kernel
theorem dL_isSo_274 : decode cL_isSo 274 = .ok (.if_icmp .ne 7, 3) := by decide +kernel
theorem dL_isSo_277 : decode cL_isSo 277 = .ok (.iconst 1, 1) := by decide +kernel
theorem dL_isSo_278 : decode cL_isSo 278 = .ok (.goto 4, 3) := by decide +kernel
theorem dL_isSo_281 : decode cL_isSo 281 = .ok (.iconst 0, 1) := by decide +kernel
theorem dL_isSo_282 : decode cL_isSo 282 = .ok (.istore 11, 2) := by decide +kernel
theorem dL_isSo_284 : decode cL_isSo 284 = .ok (.iinc 12 1, 3) := by decide +kernel
theorem dL_isSo_287 : decode cL_isSo 287 = .ok (.goto (-39), 3) := by decide +kernel
theorem dL_isSo_290 : decode cL_isSo 290 = .ok (.iconst 0, 1) := by decide +kernel
theorem dL_isSo_291 : decode cL_isSo 291 = .ok (.istore 12, 2) := by decide +kernel
theorem dL_isSo_293 : decode cL_isSo 293 = .ok (.iload 12, 2) := by decide +kernel
theorem dL_isSo_295 : decode cL_isSo 295 = .ok (.bipush 8, 2) := by decide +kernel
theorem dL_isSo_297 : decode cL_isSo 297 = .ok (.if_icmp .ge 34, 3) := by decide +kernel
theorem dL_isSo_300 : decode cL_isSo 300 = .ok (.iload 11, 2) := by decide +kernel
theorem dL_isSo_302 : decode cL_isSo 302 = .ok (.ifCond .eq 29, 3) := by decide +kernel
theorem dL_isSo_305 : decode cL_isSo 305 = .ok (.aload_n 0, 1) := by decide +kernel
theorem dL_isSo_306 : decode cL_isSo 306 = .ok (.iload 12, 2) := by decide +kernel
theorem dL_isSo_308 : decode cL_isSo 308 = .ok (.invokevirtual 101, 3) := by decide +kernel
theorem dL_isSo_311 : decode cL_isSo 311 = .ok (.aload_n 2, 1) := by decide +kernel
theorem dL_isSo_312 : decode cL_isSo 312 = .ok (.iload 12, 2) := by decide +kernel
theorem dL_isSo_314 : decode cL_isSo 314 = .ok (.iaload, 1) := by decide +kernel
theorem dL_isSo_315 : decode cL_isSo 315 = .ok (.if_icmp .ne 7, 3) := by decide +kernel
theorem dL_isSo_318 : decode cL_isSo 318 = .ok (.iconst 1, 1) := by decide +kernel
theorem dL_isSo_319 : decode cL_isSo 319 = .ok (.goto 4, 3) := by decide +kernel
theorem dL_isSo_322 : decode cL_isSo 322 = .ok (.iconst 0, 1) := by decide +kernel
theorem dL_isSo_323 : decode cL_isSo 323 = .ok (.istore 11, 2) := by decide +kernel
theorem dL_isSo_325 : decode cL_isSo 325 = .ok (.iinc 12 1, 3) := by decide +kernel
theorem dL_isSo_328 : decode cL_isSo 328 = .ok (.goto (-35), 3) := by decide +kernel
theorem dL_isSo_331 : decode cL_isSo 331 = .ok (.iload 11, 2) := by decide +kernel
theorem dL_isSo_333 : decode cL_isSo 333 = .ok (.ifCond .eq 97, 3) := by decide +kernel
theorem dL_isSo_336 : decode cL_isSo 336 = .ok (.aload_n 0, 1) := by decide +kernel
theorem dL_isSo_337 : decode cL_isSo 337 = .ok (.iconst 0, 1) := by decide +kernel
theorem dL_isSo_338 : decode cL_isSo 338 = .ok (.invokevirtual 58, 3) := by decide +kernel
theorem dL_isSo_341 : decode cL_isSo 341 = .ok (.aload_n 1, 1) := by decide +kernel
theorem dL_isSo_342 : decode cL_isSo 342 = .ok (.iconst 0, 1) := by decide +kernel
theorem dL_isSo_343 : decode cL_isSo 343 = .ok (.iaload, 1) := by decide +kernel
theorem dL_isSo_344 : decode cL_isSo 344 = .ok (.if_icmp .ne 86, 3) := by decide +kernel
theorem dL_isSo_347 : decode cL_isSo 347 = .ok (.aload_n 0, 1) := by decide +kernel
theorem dL_isSo_348 : decode cL_isSo 348 = .ok (.iconst 1, 1) := by decide +kernel
theorem dL_isSo_349 : decode cL_isSo 349 = .ok (.invokevirtual 58, 3) := by decide +kernel
theorem dL_isSo_352 : decode cL_isSo 352 = .ok (.iload 8, 2) := by decide +kernel
theorem dL_isSo_354 : decode cL_isSo 354 = .ok (.if_icmp .ne 76, 3) := by decide +kernel
theorem dL_isSo_357 : decode cL_isSo 357 = .ok (.aload_n 0, 1) := by decide +kernel
theorem dL_isSo_358 : decode cL_isSo 358 = .ok (.iconst 2, 1) := by decide +kernel
theorem dL_isSo_359 : decode cL_isSo 359 = .ok (.invokevirtual 58, 3) := by decide +kernel
theorem dL_isSo_362 : decode cL_isSo 362 = .ok (.iload 9, 2) := by decide +kernel
theorem dL_isSo_364 : decode cL_isSo 364 = .ok (.if_icmp .ne 66, 3) := by decide +kernel
theorem dL_isSo_367 : decode cL_isSo 367 = .ok (.aload_n 0, 1) := by decide +kernel
theorem dL_isSo_368 : decode cL_isSo 368 = .ok (.iconst 3, 1) := by decide +kernel
theorem dL_isSo_369 : decode cL_isSo 369 = .ok (.invokevirtual 58, 3) := by decide +kernel
theorem dL_isSo_372 : decode cL_isSo 372 = .ok (.aload_n 1, 1) := by decide +kernel
theorem dL_isSo_373 : decode cL_isSo 373 = .ok (.iconst 1, 1) := by decide +kernel
theorem dL_isSo_374 : decode cL_isSo 374 = .ok (.iaload, 1) := by decide +kernel
theorem dL_isSo_375 : decode cL_isSo 375 = .ok (.if_icmp .ne 55, 3) := by decide +kernel
theorem dL_isSo_378 : decode cL_isSo 378 = .ok (.aload_n 0, 1) := by decide +kernel
theorem dL_isSo_379 : decode cL_isSo 379 = .ok (.iconst 4, 1) := by decide +kernel
theorem dL_isSo_380 : decode cL_isSo 380 = .ok (.invokevirtual 58, 3) := by decide +kernel
theorem dL_isSo_383 : decode cL_isSo 383 = .ok (.iload 10, 2) := by decide +kernel
theorem dL_isSo_385 : decode cL_isSo 385 = .ok (.if_icmp .ne 45, 3) := by decide +kernel
theorem dL_isSo_388 : decode cL_isSo 388 = .ok (.aload_n 0, 1) := by decide +kernel
theorem dL_isSo_389 : decode cL_isSo 389 = .ok (.aload_n 1, 1) := by decide +kernel
theorem dL_isSo_390 : decode cL_isSo 390 = .ok (.iconst 0, 1) := by decide +kernel
theorem dL_isSo_391 : decode cL_isSo 391 = .ok (.iaload, 1) := by decide +kernel
theorem dL_isSo_392 : decode cL_isSo 392 = .ok (.iconst 0, 1) := by decide +kernel
theorem dL_isSo_393 : decode cL_isSo 393 = .ok (.invokevirtual 84, 3) := by decide +kernel
theorem dL_isSo_396 : decode cL_isSo 396 = .ok (.ldc 78, 2) := by decide +kernel
theorem dL_isSo_398 : decode cL_isSo 398 = .ok (.if_icmp .ne 32, 3) := by decide +kernel
theorem dL_isSo_401 : decode cL_isSo 401 = .ok (.aload_n 0, 1) := by decide +kernel
theorem dL_isSo_402 : decode cL_isSo 402 = .ok (.aload_n 1, 1) := by decide +kernel
theorem dL_isSo_403 : decode cL_isSo 403 = .ok (.iconst 0, 1) := by decide +kernel
theorem dL_isSo_404 : decode cL_isSo 404 = .ok (.iaload, 1) := by decide +kernel
theorem dL_isSo_405 : decode cL_isSo 405 = .ok (.iconst 0, 1) := by decide +kernel
theorem dL_isSo_406 : decode cL_isSo 406 = .ok (.iconst 0, 1) := by decide +kernel
theorem dL_isSo_407 : decode cL_isSo 407 = .ok (.invokevirtual 87, 3) := by decide +kernel
theorem dL_isSo_410 : decode cL_isSo 410 = .ok (.ldc 78, 2) := by decide +kernel
theorem dL_isSo_412 : decode cL_isSo 412 = .ok (.if_icmp .ne 18, 3) := by decide +kernel
theorem dL_isSo_415 : decode cL_isSo 415 = .ok (.aload_n 0, 1) := by decide +kernel
theorem dL_isSo_416 : decode cL_isSo 416 = .ok (.bipush 8, 2) := by decide +kernel
theorem dL_isSo_418 : decode cL_isSo 418 = .ok (.invokevirtual 101, 3) := by decide +kernel
theorem dL_isSo_421 : decode cL_isSo 421 = .ok (.ldc 78, 2) := by decide +kernel
theorem dL_isSo_423 : decode cL_isSo 423 = .ok (.if_icmp .ne 7, 3) := by decide +kernel
theorem dL_isSo_426 : decode cL_isSo 426 = .ok (.iconst 1, 1) := by decide +kernel
theorem dL_isSo_427 : decode cL_isSo 427 = .ok (.goto 4, 3) := by decide +kernel
theorem dL_isSo_430 : decode cL_isSo 430 = .ok (.iconst 0, 1) := by decide +kernel
theorem dL_isSo_431 : decode cL_isSo 431 = .ok (.ireturn, 1) := by decide +kernel
theorem dL_law_0 : decode cL_law 0 = .ok (.new 30, 3) := by decide +kernel
theorem dL_law_3 : decode cL_law 3 = .ok (.dup, 1) := by decide +kernel
theorem dL_law_4 : decode cL_law 4 = .ok (.invokespecial 104, 3) := by decide +kernel
theorem dL_law_7 : decode cL_law 7 = .ok (.astore_n 1, 1) := by decide +kernel
theorem dL_law_8 : decode cL_law 8 = .ok (.iconst 2, 1) := by decide +kernel
theorem dL_law_9 : decode cL_law 9 = .ok (.newarray .int, 2) := by decide +kernel
theorem dL_law_11 : decode cL_law 11 = .ok (.astore_n 2, 1) := by decide +kernel
theorem dL_law_12 : decode cL_law 12 = .ok (.bipush 8, 2) := by decide +kernel
theorem dL_law_14 : decode cL_law 14 = .ok (.newarray .int, 2) := by decide +kernel
theorem dL_law_16 : decode cL_law 16 = .ok (.astore_n 3, 1) := by decide +kernel
theorem dL_law_17 : decode cL_law 17 = .ok (.bipush 8, 2) := by decide +kernel
theorem dL_law_19 : decode cL_law 19 = .ok (.newarray .int, 2) := by decide +kernel
theorem dL_law_21 : decode cL_law 21 = .ok (.astore 4, 2) := by decide +kernel
theorem dL_law_23 : decode cL_law 23 = .ok (.bipush 64, 2) := by decide +kernel
theorem dL_law_25 : decode cL_law 25 = .ok (.newarray .int, 2) := by decide +kernel
theorem dL_law_27 : decode cL_law 27 = .ok (.astore 5, 2) := by decide +kernel
theorem dL_law_29 : decode cL_law 29 = .ok (.bipush 64, 2) := by decide +kernel
theorem dL_law_31 : decode cL_law 31 = .ok (.newarray .int, 2) := by decide +kernel
theorem dL_law_33 : decode cL_law 33 = .ok (.astore 6, 2) := by decide +kernel
theorem dL_law_35 : decode cL_law 35 = .ok (.aload_n 2, 1) := by decide +kernel
theorem dL_law_36 : decode cL_law 36 = .ok (.iconst 0, 1) := by decide +kernel
theorem dL_law_37 : decode cL_law 37 = .ok (.iconst 1, 1) := by decide +kernel
theorem dL_law_38 : decode cL_law 38 = .ok (.iastore, 1) := by decide +kernel
theorem dL_law_39 : decode cL_law 39 = .ok (.aload_n 2, 1) := by decide +kernel
theorem dL_law_40 : decode cL_law 40 = .ok (.iconst 1, 1) := by decide +kernel
