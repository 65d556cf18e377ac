theorem dL_cell_0 : decode cL_cell 0 = .ok (.iload_n 1, 1) := by decide +kernel
theorem dL_cell_1 : decode cL_cell 1 = .ok (.aload_n 0, 1) := by decide +kernel
theorem dL_cell_2 : decode cL_cell 2 = .ok (.arraylength, 1) := by decide +kernel
theorem dL_cell_3 : decode cL_cell 3 = .ok (.if_icmp .ge 9, 3) := by decide +kernel
theorem dL_cell_6 : decode cL_cell 6 = .ok (.aload_n 0, 1) := by decide +kernel
theorem dL_cell_7 : decode cL_cell 7 = .ok (.iload_n 1, 1) := by decide +kernel
theorem dL_cell_8 : decode cL_cell 8 = .ok (.iaload, 1) := by decide +kernel
theorem dL_cell_9 : decode cL_cell 9 = .ok (.goto 9, 3) := by decide +kernel
theorem dL_cell_12 : decode cL_cell 12 = .ok (.ldc 7, 2) := by decide +kernel
theorem dL_cell_14 : decode cL_cell 14 = .ok (.iload_n 1, 1) := by decide +kernel
theorem dL_cell_15 : decode cL_cell 15 = .ok (.iconst 3, 1) := by decide +kernel
theorem dL_cell_16 : decode cL_cell 16 = .ok (.iadd, 1) := by decide +kernel
theorem dL_cell_17 : decode cL_cell 17 = .ok (.imul, 1) := by decide +kernel
theorem dL_cell_18 : decode cL_cell 18 = .ok (.ireturn, 1) := by decide +kernel
theorem dL_low_0 : decode cL_low 0 = .ok (.iload_n 0, 1) := by decide +kernel
theorem dL_low_1 : decode cL_low 1 = .ok (.ldc 8, 2) := by decide +kernel
theorem dL_low_3 : decode cL_low 3 = .ok (.iand, 1) := by decide +kernel
theorem dL_low_4 : decode cL_low 4 = .ok (.iload_n 1, 1) := by decide +kernel
theorem dL_low_5 : decode cL_low 5 = .ok (.irem, 1) := by decide +kernel
theorem dL_low_6 : decode cL_low 6 = .ok (.ireturn, 1) := by decide +kernel
theorem dL_part_0 : decode cL_part 0 = .ok (.iconst 1, 1) := by decide +kernel
theorem dL_part_1 : decode cL_part 1 = .ok (.istore_n 3, 1) := by decide +kernel
theorem dL_part_2 : decode cL_part 2 = .ok (.iload_n 2, 1) := by decide +kernel
theorem dL_part_3 : decode cL_part 3 = .ok (.istore 4, 2) := by decide +kernel
theorem dL_part_5 : decode cL_part 5 = .ok (.iload_n 3, 1) := by decide +kernel
theorem dL_part_6 : decode cL_part 6 = .ok (.ifCond .le 41, 3) := by decide +kernel
theorem dL_part_9 : decode cL_part 9 = .ok (.iload_n 3, 1) := by decide +kernel
theorem dL_part_10 : decode cL_part 10 = .ok (.aload_n 0, 1) := by decide +kernel
theorem dL_part_11 : decode cL_part 11 = .ok (.iload_n 1, 1) := by decide +kernel
theorem dL_part_12 : decode cL_part 12 = .ok (.iload 4, 2) := by decide +kernel
theorem dL_part_14 : decode cL_part 14 = .ok (.iadd, 1) := by decide +kernel
theorem dL_part_15 : decode cL_part 15 = .ok (.iaload, 1) := by decide +kernel
theorem dL_part_16 : decode cL_part 16 = .ok (.iconst 3, 1) := by decide +kernel
theorem dL_part_17 : decode cL_part 17 = .ok (.if_icmp .ge 7, 3) := by decide +kernel
theorem dL_part_20 : decode cL_part 20 = .ok (.iconst (-1), 1) := by decide +kernel
theorem dL_part_21 : decode cL_part 21 = .ok (.goto 18, 3) := by decide +kernel
theorem dL_part_24 : decode cL_part 24 = .ok (.aload_n 0, 1) := by decide +kernel
theorem dL_part_25 : decode cL_part 25 = .ok (.iload_n 1, 1) := by decide +kernel
theorem dL_part_26 : decode cL_part 26 = .ok (.iload 4, 2) := by decide +kernel
theorem dL_part_28 : decode cL_part 28 = .ok (.iadd, 1) := by decide +kernel
theorem dL_part_29 : decode cL_part 29 = .ok (.iaload, 1) := by decide +kernel
theorem dL_part_30 : decode cL_part 30 = .ok (.iconst 3, 1) := by decide +kernel
theorem dL_part_31 : decode cL_part 31 = .ok (.if_icmp .ne 7, 3) := by decide +kernel
theorem dL_part_34 : decode cL_part 34 = .ok (.iconst 0, 1) := by decide +kernel
theorem dL_part_35 : decode cL_part 35 = .ok (.goto 4, 3) := by decide +kernel
theorem dL_part_38 : decode cL_part 38 = .ok (.iconst 1, 1) := by decide +kernel
theorem dL_part_39 : decode cL_part 39 = .ok (.iadd, 1) := by decide +kernel
theorem dL_part_40 : decode cL_part 40 = .ok (.istore_n 3, 1) := by decide +kernel
theorem dL_part_41 : decode cL_part 41 = .ok (.iinc 4 1, 3) := by decide +kernel
theorem dL_part_44 : decode cL_part 44 = .ok (.goto (-39), 3) := by decide +kernel
theorem dL_part_47 : decode cL_part 47 = .ok (.iload 4, 2) := by decide +kernel
theorem dL_part_49 : decode cL_part 49 = .ok (.ireturn, 1) := by decide +kernel
theorem dL_expand_0 : decode cL_expand 0 = .ok (.aload_n 1, 1) := by decide +kernel
theorem dL_expand_1 : decode cL_expand 1 = .ok (.iload 4, 2) := by decide +kernel
theorem dL_expand_3 : decode cL_expand 3 = .ok (.iaload, 1) := by decide +kernel
theorem dL_expand_4 : decode cL_expand 4 = .ok (.istore 7, 2) := by decide +kernel
theorem dL_expand_6 : decode cL_expand 6 = .ok (.iconst 0, 1) := by decide +kernel
theorem dL_expand_7 : decode cL_expand 7 = .ok (.istore 8, 2) := by decide +kernel
theorem dL_expand_9 : decode cL_expand 9 = .ok (.iload 8, 2) := by decide +kernel
theorem dL_expand_11 : decode cL_expand 11 = .ok (.iload 7, 2) := by decide +kernel
theorem dL_expand_13 : decode cL_expand 13 = .ok (.if_icmp .ge 39, 3) := by decide +kernel
theorem dL_expand_16 : decode cL_expand 16 = .ok (.aload 5, 2) := by decide +kernel
theorem dL_expand_18 : decode cL_expand 18 = .ok (.iload 8, 2) := by decide +kernel
theorem dL_expand_20 : decode cL_expand 20 = .ok (.aload_n 2, 1) := by decide +kernel
theorem dL_expand_21 : decode cL_expand 21 = .ok (.bipush 16, 2) := by decide +kernel
theorem dL_expand_23 : decode cL_expand 23 = .ok (.iload 4, 2) := by decide +kernel
theorem dL_expand_25 : decode cL_expand 25 = .ok (.imul, 1) := by decide +kernel
theorem dL_expand_26 : decode cL_expand 26 = .ok (.iload 8, 2) := by decide +kernel
theorem dL_expand_28 : decode cL_expand 28 = .ok (.iadd, 1) := by decide +kernel
theorem dL_expand_29 : decode cL_expand 29 = .ok (.iaload, 1) := by decide +kernel
theorem dL_expand_30 : decode cL_expand 30 = .ok (.iastore, 1) := by decide +kernel
theorem dL_expand_31 : decode cL_expand 31 = .ok (.aload 6, 2) := by decide +kernel
theorem dL_expand_33 : decode cL_expand 33 = .ok (.iload 8, 2) := by decide +kernel
theorem dL_expand_35 : decode cL_expand 35 = .ok (.aload_n 3, 1) := by decide +kernel
theorem dL_expand_36 : decode cL_expand 36 = .ok (.bipush 16, 2) := by decide +kernel
theorem dL_expand_38 : decode cL_expand 38 = .ok (.iload 4, 2) := by decide +kernel
theorem dL_expand_40 : decode cL_expand 40 = .ok (.imul, 1) := by decide +kernel
theorem dL_expand_41 : decode cL_expand 41 = .ok (.iload 8, 2) := by decide +kernel
theorem dL_expand_43 : decode cL_expand 43 = .ok (.iadd, 1) := by decide +kernel
theorem dL_expand_44 : decode cL_expand 44 = .ok (.iaload, 1) := by decide +kernel
theorem dL_expand_45 : decode cL_expand 45 = .ok (.iastore, 1) := by decide +kernel
theorem dL_expand_46 : decode cL_expand 46 = .ok (.iinc 8 1, 3) := by decide +kernel
theorem dL_expand_49 : decode cL_expand 49 = .ok (.goto (-40), 3) := by decide +kernel
theorem dL_expand_52 : decode cL_expand 52 = .ok (.iload 4, 2) := by decide +kernel
theorem dL_expand_54 : decode cL_expand 54 = .ok (.iconst 1, 1) := by decide +kernel
theorem dL_expand_55 : decode cL_expand 55 = .ok (.isub, 1) := by decide +kernel
theorem dL_expand_56 : decode cL_expand 56 = .ok (.istore 8, 2) := by decide +kernel
theorem dL_expand_58 : decode cL_expand 58 = .ok (.iload 8, 2) := by decide +kernel
theorem dL_expand_60 : decode cL_expand 60 = .ok (.ifCond .lt 174, 3) := by decide +kernel
theorem dL_expand_63 : decode cL_expand 63 = .ok (.iconst 0, 1) := by decide +kernel
theorem dL_expand_64 : decode cL_expand 64 = .ok (.istore 9, 2) := by decide +kernel
theorem dL_expand_66 : decode cL_expand 66 = .ok (.iload 9, 2) := by decide +kernel
theorem dL_expand_68 : decode cL_expand 68 = .ok (.iload 7, 2) := by decide +kernel
theorem dL_expand_70 : decode cL_expand 70 = .ok (.if_icmp .ge 158, 3) := by decide +kernel
theorem dL_expand_73 : decode cL_expand 73 = .ok (.aload_n 0, 1) := by decide +kernel
theorem dL_expand_74 : decode cL_expand 74 = .ok (.aload_n 1, 1) := by decide +kernel
theorem dL_expand_75 : decode cL_expand 75 = .ok (.aload_n 2, 1) := by decide +kernel
theorem dL_expand_76 : decode cL_expand 76 = .ok (.aload_n 3, 1) := by decide +kernel
theorem dL_expand_77 : decode cL_expand 77 = .ok (.iload 8, 2) := by decide +kernel
theorem dL_expand_79 : decode cL_expand 79 = .ok (.invokestatic 9, 3) := by decide +kernel
theorem dL_expand_82 : decode cL_expand 82 = .ok (.ifCond .eq 146, 3) := by decide +kernel
theorem dL_expand_85 : decode cL_expand 85 = .ok (.aload 5, 2) := by decide +kernel
theorem dL_expand_87 : decode cL_expand 87 = .ok (.iload 9, 2) := by decide +kernel
theorem dL_expand_89 : decode cL_expand 89 = .ok (.iaload, 1) := by decide +kernel
theorem dL_expand_90 : decode cL_expand 90 = .ok (.iconst 2, 1) := by decide +kernel
theorem dL_expand_91 : decode cL_expand 91 = .ok (.if_icmp .ne 131, 3) := by decide +kernel
theorem dL_expand_94 : decode cL_expand 94 = .ok (.aload 6, 2) := by decide +kernel
theorem dL_expand_96 : decode cL_expand 96 = .ok (.iload 9, 2) := by decide +kernel
theorem dL_expand_98 : decode cL_expand 98 = .ok (.iaload, 1) := by decide +kernel
theorem dL_expand_99 : decode cL_expand 99 = .ok (.iload 8, 2) := by decide +kernel
theorem dL_expand_101 : decode cL_expand 101 = .ok (.if_icmp .ne 121, 3) := by decide +kernel
theorem dL_expand_104 : decode cL_expand 104 = .ok (.iload 7, 2) := by decide +kernel
theorem dL_expand_106 : decode cL_expand 106 = .ok (.iconst 1, 1) := by decide +kernel
theorem dL_expand_107 : decode cL_expand 107 = .ok (.isub, 1) := by decide +kernel
theorem dL_expand_108 : decode cL_expand 108 = .ok (.istore 10, 2) := by decide +kernel
theorem dL_expand_110 : decode cL_expand 110 = .ok (.iload 10, 2) := by decide +kernel
theorem dL_expand_112 : decode cL_expand 112 = .ok (.iload 9, 2) := by decide +kernel
theorem dL_expand_114 : decode cL_expand 114 = .ok (.if_icmp .le 43, 3) := by decide +kernel
theorem dL_expand_117 : decode cL_expand 117 = .ok (.aload 5, 2) := by decide +kernel
theorem dL_expand_119 : decode cL_expand 119 = .ok (.iload 10, 2) := by decide +kernel
theorem dL_expand_121 : decode cL_expand 121 = .ok (.aload_n 1, 1) := by decide +kernel
theorem dL_expand_122 : decode cL_expand 122 = .ok (.iload 8, 2) := by decide +kernel
theorem dL_expand_124 : decode cL_expand 124 = .ok (.iaload, 1) := by decide +kernel
theorem dL_expand_125 : decode cL_expand 125 = .ok (.iadd, 1) := by decide +kernel
theorem dL_expand_126 : decode cL_expand 126 = .ok (.iconst 1, 1) := by decide +kernel
theorem dL_expand_127 : decode cL_expand 127 = .ok (.isub, 1) := by decide +kernel
theorem dL_expand_128 : decode cL_expand 128 = .ok (.aload 5, 2) := by decide +kernel
theorem dL_expand_130 : decode cL_expand 130 = .ok (.iload 10, 2) := by decide +kernel
theorem dL_expand_132 : decode cL_expand 132 = .ok (.iaload, 1) := by decide +kernel
theorem dL_expand_133 : decode cL_expand 133 = .ok (.iastore, 1) := by decide +kernel
theorem dL_expand_134 : decode cL_expand 134 = .ok (.aload 6, 2) := by decide +kernel
theorem dL_expand_136 : decode cL_expand 136 = .ok (.iload 10, 2) := by decide +kernel
theorem dL_expand_138 : decode cL_expand 138 = .ok (.aload_n 1, 1) := by decide +kernel
theorem dL_expand_139 : decode cL_expand 139 = .ok (.iload 8, 2) := by decide +kernel
theorem dL_expand_141 : decode cL_expand 141 = .ok (.iaload, 1) := by decide +kernel
theorem dL_expand_142 : decode cL_expand 142 = .ok (.iadd, 1) := by decide +kernel
theorem dL_expand_143 : decode cL_expand 143 = .ok (.iconst 1, 1) := by decide +kernel
theorem dL_expand_144 : decode cL_expand 144 = .ok (.isub, 1) := by decide +kernel
theorem dL_expand_145 : decode cL_expand 145 = .ok (.aload 6, 2) := by decide +kernel
theorem dL_expand_147 : decode cL_expand 147 = .ok (.iload 10, 2) := by decide +kernel
theorem dL_expand_149 : decode cL_expand 149 = .ok (.iaload, 1) := by decide +kernel
theorem dL_expand_150 : decode cL_expand 150 = .ok (.iastore, 1) := by decide +kernel
theorem dL_expand_151 : decode cL_expand 151 = .ok (.iinc 10 (-1), 3) := by decide +kernel
theorem dL_expand_154 : decode cL_expand 154 = .ok (.goto (-44), 3) := by decide +kernel
theorem dL_expand_157 : decode cL_expand 157 = .ok (.iconst 0, 1) := by decide +kernel
theorem dL_expand_158 : decode cL_expand 158 = .ok (.istore 10, 2) := by decide +kernel
theorem dL_expand_160 : decode cL_expand 160 = .ok (.iload 10, 2) := by decide +kernel
theorem dL_expand_162 : decode cL_expand 162 = .ok (.aload_n 1, 1) := by decide +kernel
theorem dL_expand_163 : decode cL_expand 163 = .ok (.iload 8, 2) := by decide +kernel
theorem dL_expand_165 : decode cL_expand 165 = .ok (.iaload, 1) := by decide +kernel
theorem dL_expand_166 : decode cL_expand 166 = .ok (.if_icmp .ge 45, 3) := by decide +kernel
theorem dL_expand_169 : decode cL_expand 169 = .ok (.aload 5, 2) := by decide +kernel
theorem dL_expand_171 : decode cL_expand 171 = .ok (.iload 9, 2) := by decide +kernel
theorem dL_expand_173 : decode cL_expand 173 = .ok (.iload 10, 2) := by decide +kernel
theorem dL_expand_175 : decode cL_expand 175 = .ok (.iadd, 1) := by decide +kernel
theorem dL_expand_176 : decode cL_expand 176 = .ok (.aload_n 2, 1) := by decide +kernel
theorem dL_expand_177 : decode cL_expand 177 = .ok (.bipush 16, 2) := by decide +kernel
theorem dL_expand_179 : decode cL_expand 179 = .ok (.iload 8, 2) := by decide +kernel
theorem dL_expand_181 : decode cL_expand 181 = .ok (.imul, 1) := by decide +kernel
theorem dL_expand_182 : decode cL_expand 182 = .ok (.iload 10, 2) := by decide +kernel
theorem dL_expand_184 : decode cL_expand 184 = .ok (.iadd, 1) := by decide +kernel
theorem dL_expand_185 : decode cL_expand 185 = .ok (.iaload, 1) := by decide +kernel
theorem dL_expand_186 : decode cL_expand 186 = .ok (.iastore, 1) := by decide +kernel
theorem dL_expand_187 : decode cL_expand 187 = .ok (.aload 6, 2) := by decide +kernel
theorem dL_expand_189 : decode cL_expand 189 = .ok (.iload 9, 2) := by decide +kernel
theorem dL_expand_191 : decode cL_expand 191 = .ok (.iload 10, 2) := by decide +kernel
theorem dL_expand_193 : decode cL_expand 193 = .ok (.iadd, 1) := by decide +kernel
theorem dL_expand_194 : decode cL_expand 194 = .ok (.aload_n 3, 1) := by decide +kernel
theorem dL_expand_195 : decode cL_expand 195 = .ok (.bipush 16, 2) := by decide +kernel
theorem dL_expand_197 : decode cL_expand 197 = .ok (.iload 8, 2) := by decide +kernel
theorem dL_expand_199 : decode cL_expand 199 = .ok (.imul, 1) := by decide +kernel
theorem dL_expand_200 : decode cL_expand 200 = .ok (.iload 10, 2) := by decide +kernel
theorem dL_expand_202 : decode cL_expand 202 = .ok (.iadd, 1) := by decide +kernel
theorem dL_expand_203 : decode cL_expand 203 = .ok (.iaload, 1) := by decide +kernel
theorem dL_expand_204 : decode cL_expand 204 = .ok (.iastore, 1) := by decide +kernel
theorem dL_expand_205 : decode cL_expand 205 = .ok (.iinc 10 1, 3) := by decide +kernel
theorem dL_expand_208 : decode cL_expand 208 = .ok (.goto (-48), 3) := by decide +kernel
theorem dL_expand_211 : decode cL_expand 211 = .ok (.iload 7, 2) := by decide +kernel
theorem dL_expand_213 : decode cL_expand 213 = .ok (.aload_n 1, 1) := by decide +kernel
theorem dL_expand_214 : decode cL_expand 214 = .ok (.iload 8, 2) := by decide +kernel
theorem dL_expand_216 : decode cL_expand 216 = .ok (.iaload, 1) := by decide +kernel
theorem dL_expand_217 : decode cL_expand 217 = .ok (.iconst 1, 1) := by decide +kernel
theorem dL_expand_218 : decode cL_expand 218 = .ok (.isub, 1) := by decide +kernel
theorem dL_expand_219 : decode cL_expand 219 = .ok (.iadd, 1) := by decide +kernel
theorem dL_expand_220 : decode cL_expand 220 = .ok (.istore 7, 2) := by decide +kernel
theorem dL_expand_222 : decode cL_expand 222 = .ok (.iinc 9 1, 3) := by decide +kernel
theorem dL_expand_225 : decode cL_expand 225 = .ok (.goto (-159), 3) := by decide +kernel
theorem dL_expand_228 : decode cL_expand 228 = .ok (.iinc 8 (-1), 3) := by decide +kernel
theorem dL_expand_231 : decode cL_expand 231 = .ok (.goto (-173), 3) := by decide +kernel
theorem dL_expand_234 : decode cL_expand 234 = .ok (.iload 7, 2) := by decide +kernel
theorem dL_expand_236 : decode cL_expand 236 = .ok (.ireturn, 1) := by decide +kernel
theorem dL_isCheap_0 : decode cL_isCheap 0 = .ok (.iconst 1, 1) := by decide +kernel
theorem dL_isCheap_1 : decode cL_isCheap 1 = .ok (.iload 4, 2) := by decide +kernel
theorem dL_isCheap_3 : decode cL_isCheap 3 = .ok (.ishl, 1) := by decide +kernel
theorem dL_isCheap_4 : decode cL_isCheap 4 = .ok (.istore 5, 2) := by decide +kernel
theorem dL_isCheap_6 : decode cL_isCheap 6 = .ok (.iconst 0, 1) := by decide +kernel
theorem dL_isCheap_7 : decode cL_isCheap 7 = .ok (.istore 6, 2) := by decide +kernel
theorem dL_isCheap_9 : decode cL_isCheap 9 = .ok (.iload 4, 2) := by decide +kernel
theorem dL_isCheap_11 : decode cL_isCheap 11 = .ok (.aload_n 0, 1) := by decide +kernel
theorem dL_isCheap_12 : decode cL_isCheap 12 = .ok (.iconst 0, 1) := by decide +kernel
theorem dL_isCheap_13 : decode cL_isCheap 13 = .ok (.iaload, 1) := by decide +kernel
theorem dL_isCheap_14 : decode cL_isCheap 14 = .ok (.iconst 1, 1) := by decide +kernel
theorem dL_isCheap_15 : decode cL_isCheap 15 = .ok (.isub, 1) := by decide +kernel
theorem dL_isCheap_16 : decode cL_isCheap 16 = .ok (.if_icmp .ge 7, 3) := by decide +kernel
theorem dL_isCheap_19 : decode cL_isCheap 19 = .ok (.iconst 1, 1) := by decide +kernel
theorem dL_isCheap_20 : decode cL_isCheap 20 = .ok (.goto 4, 3) := by decide +kernel
theorem dL_isCheap_23 : decode cL_isCheap 23 = .ok (.iconst 0, 1) := by decide +kernel
theorem dL_isCheap_24 : decode cL_isCheap 24 = .ok (.istore 7, 2) := by decide +kernel
theorem dL_isCheap_26 : decode cL_isCheap 26 = .ok (.bipush 8, 2) := by decide +kernel
theorem dL_isCheap_28 : decode cL_isCheap 28 = .ok (.newarray .int, 2) := by decide +kernel
theorem dL_isCheap_30 : decode cL_isCheap 30 = .ok (.astore 8, 2) := by decide +kernel
theorem dL_isCheap_32 : decode cL_isCheap 32 = .ok (.aload 8, 2) := by decide +kernel
theorem dL_isCheap_34 : decode cL_isCheap 34 = .ok (.iload 4, 2) := by decide +kernel
theorem dL_isCheap_36 : decode cL_isCheap 36 = .ok (.iconst 1, 1) := by decide +kernel
theorem dL_isCheap_37 : decode cL_isCheap 37 = .ok (.iastore, 1) := by decide +kernel
theorem dL_isCheap_38 : decode cL_isCheap 38 = .ok (.iload 4, 2) := by decide +kernel
theorem dL_isCheap_40 : decode cL_isCheap 40 = .ok (.istore 9, 2) := by decide +kernel
theorem dL_isCheap_42 : decode cL_isCheap 42 = .ok (.iload 9, 2) := by decide +kernel
theorem dL_isCheap_44 : decode cL_isCheap 44 = .ok (.ifCond .lt 133, 3) := by decide +kernel
theorem dL_isCheap_47 : decode cL_isCheap 47 = .ok (.iload 5, 2) := by decide +kernel
theorem dL_isCheap_49 : decode cL_isCheap 49 = .ok (.ifCond .le 128, 3) := by decide +kernel
theorem dL_isCheap_52 : decode cL_isCheap 52 = .ok (.iconst 0, 1) := by decide +kernel
theorem dL_isCheap_53 : decode cL_isCheap 53 = .ok (.istore 10, 2) := by decide +kernel
theorem dL_isCheap_55 : decode cL_isCheap 55 = .ok (.iload 10, 2) := by decide +kernel
theorem dL_isCheap_57 : decode cL_isCheap 57 = .ok (.aload_n 1, 1) := by decide +kernel
theorem dL_isCheap_58 : decode cL_isCheap 58 = .ok (.iload 9, 2) := by decide +kernel
theorem dL_isCheap_60 : decode cL_isCheap 60 = .ok (.iaload, 1) := by decide +kernel
theorem dL_isCheap_61 : decode cL_isCheap 61 = .ok (.if_icmp .ge 110, 3) := by decide +kernel
theorem dL_isCheap_64 : decode cL_isCheap 64 = .ok (.aload 8, 2) := by decide +kernel
theorem dL_isCheap_66 : decode cL_isCheap 66 = .ok (.iload 9, 2) := by decide +kernel
theorem dL_isCheap_68 : decode cL_isCheap 68 = .ok (.iaload, 1) := by decide +kernel
theorem dL_isCheap_69 : decode cL_isCheap 69 = .ok (.ifCond .le 102, 3) := by decide +kernel
theorem dL_isCheap_72 : decode cL_isCheap 72 = .ok (.aload_n 2, 1) := by decide +kernel
theorem dL_isCheap_73 : decode cL_isCheap 73 = .ok (.bipush 16, 2) := by decide +kernel
theorem dL_isCheap_75 : decode cL_isCheap 75 = .ok (.iload 9, 2) := by decide +kernel
theorem dL_isCheap_77 : decode cL_isCheap 77 = .ok (.imul, 1) := by decide +kernel
theorem dL_isCheap_78 : decode cL_isCheap 78 = .ok (.iload 10, 2) := by decide +kernel
theorem dL_isCheap_80 : decode cL_isCheap 80 = .ok (.iadd, 1) := by decide +kernel
theorem dL_isCheap_81 : decode cL_isCheap 81 = .ok (.iaload, 1) := by decide +kernel
theorem dL_isCheap_82 : decode cL_isCheap 82 = .ok (.iconst 2, 1) := by decide +kernel
theorem dL_isCheap_83 : decode cL_isCheap 83 = .ok (.if_icmp .ne 7, 3) := by decide +kernel
theorem dL_isCheap_86 : decode cL_isCheap 86 = .ok (.iconst 1, 1) := by decide +kernel
theorem dL_isCheap_87 : decode cL_isCheap 87 = .ok (.goto 4, 3) := by decide +kernel
theorem dL_isCheap_90 : decode cL_isCheap 90 = .ok (.iconst 0, 1) := by decide +kernel
theorem dL_isCheap_91 : decode cL_isCheap 91 = .ok (.istore 11, 2) := by decide +kernel
theorem dL_isCheap_93 : decode cL_isCheap 93 = .ok (.iload 7, 2) := by decide +kernel
theorem dL_isCheap_95 : decode cL_isCheap 95 = .ok (.ifCond .eq 22, 3) := by decide +kernel
theorem dL_isCheap_98 : decode cL_isCheap 98 = .ok (.aload_n 2, 1) := by decide +kernel
theorem dL_isCheap_99 : decode cL_isCheap 99 = .ok (.bipush 16, 2) := by decide +kernel
theorem dL_isCheap_101 : decode cL_isCheap 101 = .ok (.iload 9, 2) := by decide +kernel
theorem dL_isCheap_103 : decode cL_isCheap 103 = .ok (.imul, 1) := by decide +kernel
theorem dL_isCheap_104 : decode cL_isCheap 104 = .ok (.iload 10, 2) := by decide +kernel
theorem dL_isCheap_106 : decode cL_isCheap 106 = .ok (.iadd, 1) := by decide +kernel
theorem dL_isCheap_107 : decode cL_isCheap 107 = .ok (.iaload, 1) := by decide +kernel
theorem dL_isCheap_108 : decode cL_isCheap 108 = .ok (.bipush 6, 2) := by decide +kernel
theorem dL_isCheap_110 : decode cL_isCheap 110 = .ok (.if_icmp .eq 7, 3) := by decide +kernel
theorem dL_isCheap_113 : decode cL_isCheap 113 = .ok (.iconst 1, 1) := by decide +kernel
theorem dL_isCheap_114 : decode cL_isCheap 114 = .ok (.goto 4, 3) := by decide +kernel
theorem dL_isCheap_117 : decode cL_isCheap 117 = .ok (.iconst 0, 1) := by decide +kernel
theorem dL_isCheap_118 : decode cL_isCheap 118 = .ok (.istore 7, 2) := by decide +kernel
theorem dL_isCheap_120 : decode cL_isCheap 120 = .ok (.iload 6, 2) := by decide +kernel
theorem dL_isCheap_122 : decode cL_isCheap 122 = .ok (.iload 11, 2) := by decide +kernel
theorem dL_isCheap_124 : decode cL_isCheap 124 = .ok (.ifCond .eq 7, 3) := by decide +kernel
theorem dL_isCheap_127 : decode cL_isCheap 127 = .ok (.iconst 0, 1) := by decide +kernel
theorem dL_isCheap_128 : decode cL_isCheap 128 = .ok (.goto 8, 3) := by decide +kernel
theorem dL_isCheap_131 : decode cL_isCheap 131 = .ok (.aload 8, 2) := by decide +kernel
theorem dL_isCheap_133 : decode cL_isCheap 133 = .ok (.iload 9, 2) := by decide +kernel
theorem dL_isCheap_135 : decode cL_isCheap 135 = .ok (.iaload, 1) := by decide +kernel
theorem dL_isCheap_136 : decode cL_isCheap 136 = .ok (.iadd, 1) := by decide +kernel
theorem dL_isCheap_137 : decode cL_isCheap 137 = .ok (.istore 6, 2) := by decide +kernel
theorem dL_isCheap_139 : decode cL_isCheap 139 = .ok (.iload 11, 2) := by decide +kernel
theorem dL_isCheap_141 : decode cL_isCheap 141 = .ok (.ifCond .eq 24, 3) := by decide +kernel
theorem dL_isCheap_144 : decode cL_isCheap 144 = .ok (.aload 8, 2) := by decide +kernel
theorem dL_isCheap_146 : decode cL_isCheap 146 = .ok (.aload_n 3, 1) := by decide +kernel
theorem dL_isCheap_147 : decode cL_isCheap 147 = .ok (.bipush 16, 2) := by decide +kernel
theorem dL_isCheap_149 : decode cL_isCheap 149 = .ok (.iload 9, 2) := by decide +kernel
theorem dL_isCheap_151 : decode cL_isCheap 151 = .ok (.imul, 1) := by decide +kernel
theorem dL_isCheap_152 : decode cL_isCheap 152 = .ok (.iload 10, 2) := by decide +kernel
theorem dL_isCheap_154 : decode cL_isCheap 154 = .ok (.iadd, 1) := by decide +kernel
theorem dL_isCheap_155 : decode cL_isCheap 155 = .ok (.iaload, 1) := by decide +kernel
theorem dL_isCheap_156 : decode cL_isCheap 156 = .ok (.dup2, 1) := by decide +kernel
theorem dL_isCheap_157 : decode cL_isCheap 157 = .ok (.iaload, 1) := by decide +kernel
theorem dL_isCheap_158 : decode cL_isCheap 158 = .ok (.aload 8, 2) := by decide +kernel
theorem dL_isCheap_160 : decode cL_isCheap 160 = .ok (.iload 9, 2) := by decide +kernel
theorem dL_isCheap_162 : decode cL_isCheap 162 = .ok (.iaload, 1) := by decide +kernel
theorem dL_isCheap_163 : decode cL_isCheap 163 = .ok (.iadd, 1) := by decide +kernel
theorem dL_isCheap_164 : decode cL_isCheap 164 = .ok (.iastore, 1) := by decide +kernel
theorem dL_isCheap_165 : decode cL_isCheap 165 = .ok (.iinc 10 1, 3) := by decide +kernel
theorem dL_isCheap_168 : decode cL_isCheap 168 = .ok (.goto (-113), 3) := by decide +kernel
theorem dL_isCheap_171 : decode cL_isCheap 171 = .ok (.iinc 9 (-1), 3) := by decide +kernel
theorem dL_isCheap_174 : decode cL_isCheap 174 = .ok (.goto (-132), 3) := by decide +kernel
theorem dL_isCheap_177 : decode cL_isCheap 177 = .ok (.iload 7, 2) := by decide +kernel
theorem dL_isCheap_179 : decode cL_isCheap 179 = .ok (.ifCond .eq 13, 3) := by decide +kernel
theorem dL_isCheap_182 : decode cL_isCheap 182 = .ok (.iload 6, 2) := by decide +kernel
theorem dL_isCheap_184 : decode cL_isCheap 184 = .ok (.iconst 4, 1) := by decide +kernel
theorem dL_isCheap_185 : decode cL_isCheap 185 = .ok (.if_icmp .ge 7, 3) := by decide +kernel
theorem dL_isCheap_188 : decode cL_isCheap 188 = .ok (.iconst 1, 1) := by decide +kernel
theorem dL_isCheap_189 : decode cL_isCheap 189 = .ok (.goto 4, 3) := by decide +kernel
theorem dL_isCheap_192 : decode cL_isCheap 192 = .ok (.iconst 0, 1) := by decide +kernel
theorem dL_isCheap_193 : decode cL_isCheap 193 = .ok (.ireturn, 1) := by decide +kernel
theorem dL_tell_0 : decode cL_tell 0 = .ok (.iload 4, 2) := by decide +kernel
theorem dL_tell_2 : decode cL_tell 2 = .ok (.iconst 1, 1) := by decide +kernel
theorem dL_tell_3 : decode cL_tell 3 = .ok (.isub, 1) := by decide +kernel
theorem dL_tell_4 : decode cL_tell 4 = .ok (.istore 9, 2) := by decide +kernel
theorem dL_tell_6 : decode cL_tell 6 = .ok (.iload 9, 2) := by decide +kernel
theorem dL_tell_8 : decode cL_tell 8 = .ok (.ifCond .lt 347, 3) := by decide +kernel
theorem dL_tell_11 : decode cL_tell 11 = .ok (.aload_n 2, 1) := by decide +kernel
theorem dL_tell_12 : decode cL_tell 12 = .ok (.iload 9, 2) := by decide +kernel
theorem dL_tell_14 : decode cL_tell 14 = .ok (.iaload, 1) := by decide +kernel
theorem dL_tell_15 : decode cL_tell 15 = .ok (.iconst 3, 1) := by decide +kernel
theorem dL_tell_16 : decode cL_tell 16 = .ok (.if_icmp .ge 66, 3) := by decide +kernel
theorem dL_tell_19 : decode cL_tell 19 = .ok (.aload 5, 2) := by decide +kernel
theorem dL_tell_21 : decode cL_tell 21 = .ok (.iload 9, 2) := by decide +kernel
theorem dL_tell_23 : decode cL_tell 23 = .ok (.iconst 1, 1) := by decide +kernel
theorem dL_tell_24 : decode cL_tell 24 = .ok (.iastore, 1) := by decide +kernel
theorem dL_tell_25 : decode cL_tell 25 = .ok (.aload 6, 2) := by decide +kernel
theorem dL_tell_27 : decode cL_tell 27 = .ok (.iload 9, 2) := by decide +kernel
theorem dL_tell_29 : decode cL_tell 29 = .ok (.iconst 1, 1) := by decide +kernel
theorem dL_tell_30 : decode cL_tell 30 = .ok (.iastore, 1) := by decide +kernel
theorem dL_tell_31 : decode cL_tell 31 = .ok (.aload 7, 2) := by decide +kernel
theorem dL_tell_33 : decode cL_tell 33 = .ok (.iload 9, 2) := by decide +kernel
theorem dL_tell_35 : decode cL_tell 35 = .ok (.iconst 1, 1) := by decide +kernel
theorem dL_tell_36 : decode cL_tell 36 = .ok (.iastore, 1) := by decide +kernel
theorem dL_tell_37 : decode cL_tell 37 = .ok (.aload 8, 2) := by decide +kernel
theorem dL_tell_39 : decode cL_tell 39 = .ok (.iload 9, 2) := by decide +kernel
theorem dL_tell_41 : decode cL_tell 41 = .ok (.aload_n 2, 1) := by decide +kernel
theorem dL_tell_42 : decode cL_tell 42 = .ok (.iload 9, 2) := by decide +kernel
theorem dL_tell_44 : decode cL_tell 44 = .ok (.iaload, 1) := by decide +kernel
theorem dL_tell_45 : decode cL_tell 45 = .ok (.ifCond .ne 10, 3) := by decide +kernel
theorem dL_tell_48 : decode cL_tell 48 = .ok (.aload_n 3, 1) := by decide +kernel
theorem dL_tell_49 : decode cL_tell 49 = .ok (.iload 9, 2) := by decide +kernel
theorem dL_tell_51 : decode cL_tell 51 = .ok (.iaload, 1) := by decide +kernel
theorem dL_tell_52 : decode cL_tell 52 = .ok (.goto 26, 3) := by decide +kernel
theorem dL_tell_55 : decode cL_tell 55 = .ok (.aload_n 2, 1) := by decide +kernel
theorem dL_tell_56 : decode cL_tell 56 = .ok (.iload 9, 2) := by decide +kernel
theorem dL_tell_58 : decode cL_tell 58 = .ok (.iaload, 1) := by decide +kernel
theorem dL_tell_59 : decode cL_tell 59 = .ok (.iconst 1, 1) := by decide +kernel
theorem dL_tell_60 : decode cL_tell 60 = .ok (.if_icmp .ne 12, 3) := by decide +kernel
theorem dL_tell_63 : decode cL_tell 63 = .ok (.aload_n 0, 1) := by decide +kernel
theorem dL_tell_64 : decode cL_tell 64 = .ok (.aload_n 3, 1) := by decide +kernel
theorem dL_tell_65 : decode cL_tell 65 = .ok (.iload 9, 2) := by decide +kernel
theorem dL_tell_67 : decode cL_tell 67 = .ok (.iaload, 1) := by decide +kernel
theorem dL_tell_68 : decode cL_tell 68 = .ok (.iaload, 1) := by decide +kernel
theorem dL_tell_69 : decode cL_tell 69 = .ok (.goto 9, 3) := by decide +kernel
theorem dL_tell_72 : decode cL_tell 72 = .ok (.aload_n 1, 1) := by decide +kernel
theorem dL_tell_73 : decode cL_tell 73 = .ok (.aload_n 3, 1) := by decide +kernel
theorem dL_tell_74 : decode cL_tell 74 = .ok (.iload 9, 2) := by decide +kernel
theorem dL_tell_76 : decode cL_tell 76 = .ok (.iaload, 1) := by decide +kernel
theorem dL_tell_77 : decode cL_tell 77 = .ok (.iaload, 1) := by decide +kernel
theorem dL_tell_78 : decode cL_tell 78 = .ok (.iastore, 1) := by decide +kernel
theorem dL_tell_79 : decode cL_tell 79 = .ok (.goto 270, 3) := by decide +kernel
theorem dL_tell_82 : decode cL_tell 82 = .ok (.iload 9, 2) := by decide +kernel
theorem dL_tell_84 : decode cL_tell 84 = .ok (.iconst 1, 1) := by decide +kernel
theorem dL_tell_85 : decode cL_tell 85 = .ok (.iadd, 1) := by decide +kernel
theorem dL_tell_86 : decode cL_tell 86 = .ok (.istore 10, 2) := by decide +kernel
theorem dL_tell_88 : decode cL_tell 88 = .ok (.aload_n 2, 1) := by decide +kernel
theorem dL_tell_89 : decode cL_tell 89 = .ok (.iload 9, 2) := by decide +kernel
theorem dL_tell_91 : decode cL_tell 91 = .ok (.iaload, 1) := by decide +kernel
theorem dL_tell_92 : decode cL_tell 92 = .ok (.iconst 3, 1) := by decide +kernel
theorem dL_tell_93 : decode cL_tell 93 = .ok (.if_icmp .ne 8, 3) := by decide +kernel
theorem dL_tell_96 : decode cL_tell 96 = .ok (.iload 10, 2) := by decide +kernel
theorem dL_tell_98 : decode cL_tell 98 = .ok (.goto 11, 3) := by decide +kernel
theorem dL_tell_101 : decode cL_tell 101 = .ok (.iload 10, 2) := by decide +kernel
theorem dL_tell_103 : decode cL_tell 103 = .ok (.aload 5, 2) := by decide +kernel
theorem dL_tell_105 : decode cL_tell 105 = .ok (.iload 10, 2) := by decide +kernel
theorem dL_tell_107 : decode cL_tell 107 = .ok (.iaload, 1) := by decide +kernel
theorem dL_tell_108 : decode cL_tell 108 = .ok (.iadd, 1) := by decide +kernel
theorem dL_tell_109 : decode cL_tell 109 = .ok (.istore 11, 2) := by decide +kernel
theorem dL_tell_111 : decode cL_tell 111 = .ok (.aload 5, 2) := by decide +kernel
theorem dL_tell_113 : decode cL_tell 113 = .ok (.iload 9, 2) := by decide +kernel
theorem dL_tell_115 : decode cL_tell 115 = .ok (.iconst 1, 1) := by decide +kernel
theorem dL_tell_116 : decode cL_tell 116 = .ok (.aload 5, 2) := by decide +kernel
theorem dL_tell_118 : decode cL_tell 118 = .ok (.iload 10, 2) := by decide +kernel
theorem dL_tell_120 : decode cL_tell 120 = .ok (.iaload, 1) := by decide +kernel
theorem dL_tell_121 : decode cL_tell 121 = .ok (.iadd, 1) := by decide +kernel
theorem dL_tell_122 : decode cL_tell 122 = .ok (.iload 11, 2) := by decide +kernel
theorem dL_tell_124 : decode cL_tell 124 = .ok (.iload 10, 2) := by decide +kernel
theorem dL_tell_126 : decode cL_tell 126 = .ok (.if_icmp .le 11, 3) := by decide +kernel
theorem dL_tell_129 : decode cL_tell 129 = .ok (.aload 5, 2) := by decide +kernel
theorem dL_tell_131 : decode cL_tell 131 = .ok (.iload 11, 2) := by decide +kernel
theorem dL_tell_133 : decode cL_tell 133 = .ok (.iaload, 1) := by decide +kernel
theorem dL_tell_134 : decode cL_tell 134 = .ok (.goto 4, 3) := by decide +kernel
theorem dL_tell_137 : decode cL_tell 137 = .ok (.iconst 0, 1) := by decide +kernel
theorem dL_tell_138 : decode cL_tell 138 = .ok (.iadd, 1) := by decide +kernel
theorem dL_tell_139 : decode cL_tell 139 = .ok (.iastore, 1) := by decide +kernel
theorem dL_tell_140 : decode cL_tell 140 = .ok (.aload 6, 2) := by decide +kernel
theorem dL_tell_142 : decode cL_tell 142 = .ok (.iload 9, 2) := by decide +kernel
theorem dL_tell_144 : decode cL_tell 144 = .ok (.aload 6, 2) := by decide +kernel
theorem dL_tell_146 : decode cL_tell 146 = .ok (.iload 10, 2) := by decide +kernel
theorem dL_tell_148 : decode cL_tell 148 = .ok (.iaload, 1) := by decide +kernel
theorem dL_tell_149 : decode cL_tell 149 = .ok (.aload 6, 2) := by decide +kernel
theorem dL_tell_151 : decode cL_tell 151 = .ok (.iload 11, 2) := by decide +kernel
theorem dL_tell_153 : decode cL_tell 153 = .ok (.iaload, 1) := by decide +kernel
theorem dL_tell_154 : decode cL_tell 154 = .ok (.if_icmp .le 11, 3) := by decide +kernel
theorem dL_tell_157 : decode cL_tell 157 = .ok (.aload 6, 2) := by decide +kernel
theorem dL_tell_159 : decode cL_tell 159 = .ok (.iload 10, 2) := by decide +kernel
theorem dL_tell_161 : decode cL_tell 161 = .ok (.iaload, 1) := by decide +kernel
theorem dL_tell_162 : decode cL_tell 162 = .ok (.goto 38, 3) := by decide +kernel
theorem dL_tell_165 : decode cL_tell 165 = .ok (.aload 6, 2) := by decide +kernel
theorem dL_tell_167 : decode cL_tell 167 = .ok (.iload 11, 2) := by decide +kernel
theorem dL_tell_169 : decode cL_tell 169 = .ok (.iaload, 1) := by decide +kernel
theorem dL_tell_170 : decode cL_tell 170 = .ok (.aload 6, 2) := by decide +kernel
theorem dL_tell_172 : decode cL_tell 172 = .ok (.iload 10, 2) := by decide +kernel
theorem dL_tell_174 : decode cL_tell 174 = .ok (.iaload, 1) := by decide +kernel
theorem dL_tell_175 : decode cL_tell 175 = .ok (.if_icmp .gt 10, 3) := by decide +kernel
theorem dL_tell_178 : decode cL_tell 178 = .ok (.iload 11, 2) := by decide +kernel
theorem dL_tell_180 : decode cL_tell 180 = .ok (.iload 10, 2) := by decide +kernel
theorem dL_tell_182 : decode cL_tell 182 = .ok (.if_icmp .ne 11, 3) := by decide +kernel
theorem dL_tell_185 : decode cL_tell 185 = .ok (.aload 6, 2) := by decide +kernel
theorem dL_tell_187 : decode cL_tell 187 = .ok (.iload 11, 2) := by decide +kernel
theorem dL_tell_189 : decode cL_tell 189 = .ok (.iaload, 1) := by decide +kernel
theorem dL_tell_190 : decode cL_tell 190 = .ok (.goto 10, 3) := by decide +kernel
theorem dL_tell_193 : decode cL_tell 193 = .ok (.aload 6, 2) := by decide +kernel
theorem dL_tell_195 : decode cL_tell 195 = .ok (.iload 10, 2) := by decide +kernel
theorem dL_tell_197 : decode cL_tell 197 = .ok (.iaload, 1) := by decide +kernel
theorem dL_tell_198 : decode cL_tell 198 = .ok (.iconst 1, 1) := by decide +kernel
theorem dL_tell_199 : decode cL_tell 199 = .ok (.iadd, 1) := by decide +kernel
theorem dL_tell_200 : decode cL_tell 200 = .ok (.iastore, 1) := by decide +kernel
theorem dL_tell_201 : decode cL_tell 201 = .ok (.aload 7, 2) := by decide +kernel
theorem dL_tell_203 : decode cL_tell 203 = .ok (.iload 9, 2) := by decide +kernel
theorem dL_tell_205 : decode cL_tell 205 = .ok (.iconst 1, 1) := by decide +kernel
theorem dL_tell_206 : decode cL_tell 206 = .ok (.aload 7, 2) := by decide +kernel
theorem dL_tell_208 : decode cL_tell 208 = .ok (.iload 10, 2) := by decide +kernel
theorem dL_tell_210 : decode cL_tell 210 = .ok (.iaload, 1) := by decide +kernel
theorem dL_tell_211 : decode cL_tell 211 = .ok (.aload 7, 2) := by decide +kernel
theorem dL_tell_213 : decode cL_tell 213 = .ok (.iload 11, 2) := by decide +kernel
theorem dL_tell_215 : decode cL_tell 215 = .ok (.iaload, 1) := by decide +kernel
theorem dL_tell_216 : decode cL_tell 216 = .ok (.if_icmp .le 11, 3) := by decide +kernel
theorem dL_tell_219 : decode cL_tell 219 = .ok (.aload 7, 2) := by decide +kernel
theorem dL_tell_221 : decode cL_tell 221 = .ok (.iload 10, 2) := by decide +kernel
theorem dL_tell_223 : decode cL_tell 223 = .ok (.iaload, 1) := by decide +kernel
theorem dL_tell_224 : decode cL_tell 224 = .ok (.goto 8, 3) := by decide +kernel
theorem dL_tell_227 : decode cL_tell 227 = .ok (.aload 7, 2) := by decide +kernel
theorem dL_tell_229 : decode cL_tell 229 = .ok (.iload 11, 2) := by decide +kernel
theorem dL_tell_231 : decode cL_tell 231 = .ok (.iaload, 1) := by decide +kernel
theorem dL_tell_232 : decode cL_tell 232 = .ok (.iadd, 1) := by decide +kernel
theorem dL_tell_233 : decode cL_tell 233 = .ok (.iastore, 1) := by decide +kernel
theorem dL_tell_234 : decode cL_tell 234 = .ok (.aload_n 2, 1) := by decide +kernel
theorem dL_tell_235 : decode cL_tell 235 = .ok (.iload 9, 2) := by decide +kernel
theorem dL_tell_237 : decode cL_tell 237 = .ok (.iaload, 1) := by decide +kernel
theorem dL_tell_238 : decode cL_tell 238 = .ok (.iconst 3, 1) := by decide +kernel
theorem dL_tell_239 : decode cL_tell 239 = .ok (.if_icmp .ne 13, 3) := by decide +kernel
theorem dL_tell_242 : decode cL_tell 242 = .ok (.aload 8, 2) := by decide +kernel
theorem dL_tell_244 : decode cL_tell 244 = .ok (.iload 10, 2) := by decide +kernel
theorem dL_tell_246 : decode cL_tell 246 = .ok (.iaload, 1) := by decide +kernel
theorem dL_tell_247 : decode cL_tell 247 = .ok (.ineg, 1) := by decide +kernel
theorem dL_tell_248 : decode cL_tell 248 = .ok (.i2l, 1) := by decide +kernel
theorem dL_tell_249 : decode cL_tell 249 = .ok (.goto 62, 3) := by decide +kernel
theorem dL_tell_252 : decode cL_tell 252 = .ok (.aload_n 2, 1) := by decide +kernel
theorem dL_tell_253 : decode cL_tell 253 = .ok (.iload 9, 2) := by decide +kernel
theorem dL_tell_255 : decode cL_tell 255 = .ok (.iaload, 1) := by decide +kernel
theorem dL_tell_256 : decode cL_tell 256 = .ok (.iconst 4, 1) := by decide +kernel
theorem dL_tell_257 : decode cL_tell 257 = .ok (.if_icmp .ne 18, 3) := by decide +kernel
theorem dL_tell_260 : decode cL_tell 260 = .ok (.aload 8, 2) := by decide +kernel
theorem dL_tell_262 : decode cL_tell 262 = .ok (.iload 10, 2) := by decide +kernel
theorem dL_tell_264 : decode cL_tell 264 = .ok (.iaload, 1) := by decide +kernel
theorem dL_tell_265 : decode cL_tell 265 = .ok (.aload 8, 2) := by decide +kernel
theorem dL_tell_267 : decode cL_tell 267 = .ok (.iload 11, 2) := by decide +kernel
theorem dL_tell_269 : decode cL_tell 269 = .ok (.iaload, 1) := by decide +kernel
theorem dL_tell_270 : decode cL_tell 270 = .ok (.iadd, 1) := by decide +kernel
theorem dL_tell_271 : decode cL_tell 271 = .ok (.i2l, 1) := by decide +kernel
theorem dL_tell_272 : decode cL_tell 272 = .ok (.goto 39, 3) := by decide +kernel
theorem dL_tell_275 : decode cL_tell 275 = .ok (.aload_n 2, 1) := by decide +kernel
theorem dL_tell_276 : decode cL_tell 276 = .ok (.iload 9, 2) := by decide +kernel
theorem dL_tell_278 : decode cL_tell 278 = .ok (.iaload, 1) := by decide +kernel
theorem dL_tell_279 : decode cL_tell 279 = .ok (.iconst 5, 1) := by decide +kernel
theorem dL_tell_280 : decode cL_tell 280 = .ok (.if_icmp .ne 18, 3) := by decide +kernel
theorem dL_tell_283 : decode cL_tell 283 = .ok (.aload 8, 2) := by decide +kernel
theorem dL_tell_285 : decode cL_tell 285 = .ok (.iload 10, 2) := by decide +kernel
theorem dL_tell_287 : decode cL_tell 287 = .ok (.iaload, 1) := by decide +kernel
theorem dL_tell_288 : decode cL_tell 288 = .ok (.aload 8, 2) := by decide +kernel
theorem dL_tell_290 : decode cL_tell 290 = .ok (.iload 11, 2) := by decide +kernel
theorem dL_tell_292 : decode cL_tell 292 = .ok (.iaload, 1) := by decide +kernel
theorem dL_tell_293 : decode cL_tell 293 = .ok (.isub, 1) := by decide +kernel
theorem dL_tell_294 : decode cL_tell 294 = .ok (.i2l, 1) := by decide +kernel
theorem dL_tell_295 : decode cL_tell 295 = .ok (.goto 16, 3) := by decide +kernel
theorem dL_tell_298 : decode cL_tell 298 = .ok (.aload 8, 2) := by decide +kernel
theorem dL_tell_300 : decode cL_tell 300 = .ok (.iload 10, 2) := by decide +kernel
theorem dL_tell_302 : decode cL_tell 302 = .ok (.iaload, 1) := by decide +kernel
theorem dL_tell_303 : decode cL_tell 303 = .ok (.i2l, 1) := by decide +kernel
theorem dL_tell_304 : decode cL_tell 304 = .ok (.aload 8, 2) := by decide +kernel
theorem dL_tell_306 : decode cL_tell 306 = .ok (.iload 11, 2) := by decide +kernel
theorem dL_tell_308 : decode cL_tell 308 = .ok (.iaload, 1) := by decide +kernel
theorem dL_tell_309 : decode cL_tell 309 = .ok (.i2l, 1) := by decide +kernel
theorem dL_tell_310 : decode cL_tell 310 = .ok (.lmul, 1) := by decide +kernel
theorem dL_tell_311 : decode cL_tell 311 = .ok (.lstore 12, 2) := by decide +kernel
theorem dL_tell_313 : decode cL_tell 313 = .ok (.aload 8, 2) := by decide +kernel
theorem dL_tell_315 : decode cL_tell 315 = .ok (.iload 9, 2) := by decide +kernel
theorem dL_tell_317 : decode cL_tell 317 = .ok (.lload 12, 2) := by decide +kernel
theorem dL_tell_319 : decode cL_tell 319 = .ok (.ldc2_w 15, 3) := by decide +kernel
theorem dL_tell_322 : decode cL_tell 322 = .ok (.lcmp, 1) := by decide +kernel
theorem dL_tell_323 : decode cL_tell 323 = .ok (.ifCond .le 8, 3) := by decide +kernel
theorem dL_tell_326 : decode cL_tell 326 = .ok (.ldc 17, 2) := by decide +kernel
theorem dL_tell_328 : decode cL_tell 328 = .ok (.goto 20, 3) := by decide +kernel
theorem dL_tell_331 : decode cL_tell 331 = .ok (.lload 12, 2) := by decide +kernel
theorem dL_tell_333 : decode cL_tell 333 = .ok (.ldc2_w 18, 3) := by decide +kernel
theorem dL_tell_336 : decode cL_tell 336 = .ok (.lcmp, 1) := by decide +kernel
theorem dL_tell_337 : decode cL_tell 337 = .ok (.ifCond .ge 8, 3) := by decide +kernel
theorem dL_tell_340 : decode cL_tell 340 = .ok (.ldc 20, 2) := by decide +kernel
theorem dL_tell_342 : decode cL_tell 342 = .ok (.goto 6, 3) := by decide +kernel
theorem dL_tell_345 : decode cL_tell 345 = .ok (.lload 12, 2) := by decide +kernel
theorem dL_tell_347 : decode cL_tell 347 = .ok (.l2i, 1) := by decide +kernel
theorem dL_tell_348 : decode cL_tell 348 = .ok (.iastore, 1) := by decide +kernel
theorem dL_tell_349 : decode cL_tell 349 = .ok (.iinc 9 (-1), 3) := by decide +kernel
theorem dL_tell_352 : decode cL_tell 352 = .ok (.goto (-346), 3) := by decide +kernel
theorem dL_tell_355 : decode cL_tell 355 = .ok (.return_, 1) := by decide +kernel
theorem dL_worths_0 : decode cL_worths 0 = .ok (.iconst 0, 1) := by decide +kernel
theorem dL_worths_1 : decode cL_worths 1 = .ok (.istore 6, 2) := by decide +kernel
theorem dL_worths_3 : decode cL_worths 3 = .ok (.iload 6, 2) := by decide +kernel
theorem dL_worths_5 : decode cL_worths 5 = .ok (.aload_n 0, 1) := by decide +kernel
theorem dL_worths_6 : decode cL_worths 6 = .ok (.iconst 0, 1) := by decide +kernel
theorem dL_worths_7 : decode cL_worths 7 = .ok (.iaload, 1) := by decide +kernel
theorem dL_worths_8 : decode cL_worths 8 = .ok (.if_icmp .ge 82, 3) := by decide +kernel
theorem dL_worths_11 : decode cL_worths 11 = .ok (.bipush 64, 2) := by decide +kernel
theorem dL_worths_13 : decode cL_worths 13 = .ok (.newarray .int, 2) := by decide +kernel
theorem dL_worths_15 : decode cL_worths 15 = .ok (.astore 7, 2) := by decide +kernel
theorem dL_worths_17 : decode cL_worths 17 = .ok (.bipush 64, 2) := by decide +kernel
theorem dL_worths_19 : decode cL_worths 19 = .ok (.newarray .int, 2) := by decide +kernel
theorem dL_worths_21 : decode cL_worths 21 = .ok (.astore 8, 2) := by decide +kernel
theorem dL_worths_23 : decode cL_worths 23 = .ok (.bipush 64, 2) := by decide +kernel
theorem dL_worths_25 : decode cL_worths 25 = .ok (.newarray .int, 2) := by decide +kernel
theorem dL_worths_27 : decode cL_worths 27 = .ok (.astore 9, 2) := by decide +kernel
theorem dL_worths_29 : decode cL_worths 29 = .ok (.bipush 64, 2) := by decide +kernel
theorem dL_worths_31 : decode cL_worths 31 = .ok (.newarray .int, 2) := by decide +kernel
theorem dL_worths_33 : decode cL_worths 33 = .ok (.astore 10, 2) := by decide +kernel
theorem dL_worths_35 : decode cL_worths 35 = .ok (.aload_n 0, 1) := by decide +kernel
theorem dL_worths_36 : decode cL_worths 36 = .ok (.aload_n 2, 1) := by decide +kernel
theorem dL_worths_37 : decode cL_worths 37 = .ok (.aload_n 3, 1) := by decide +kernel
theorem dL_worths_38 : decode cL_worths 38 = .ok (.aload 4, 2) := by decide +kernel
theorem dL_worths_40 : decode cL_worths 40 = .ok (.iload 6, 2) := by decide +kernel
theorem dL_worths_42 : decode cL_worths 42 = .ok (.aload 7, 2) := by decide +kernel
theorem dL_worths_44 : decode cL_worths 44 = .ok (.aload 8, 2) := by decide +kernel
theorem dL_worths_46 : decode cL_worths 46 = .ok (.invokestatic 21, 3) := by decide +kernel
theorem dL_worths_49 : decode cL_worths 49 = .ok (.istore 11, 2) := by decide +kernel
theorem dL_worths_51 : decode cL_worths 51 = .ok (.aload_n 1, 1) := by decide +kernel
theorem dL_worths_52 : decode cL_worths 52 = .ok (.aload 5, 2) := by decide +kernel
theorem dL_worths_54 : decode cL_worths 54 = .ok (.aload 7, 2) := by decide +kernel
theorem dL_worths_56 : decode cL_worths 56 = .ok (.aload 8, 2) := by decide +kernel
theorem dL_worths_58 : decode cL_worths 58 = .ok (.iload 11, 2) := by decide +kernel
theorem dL_worths_60 : decode cL_worths 60 = .ok (.aload 9, 2) := by decide +kernel
theorem dL_worths_62 : decode cL_worths 62 = .ok (.bipush 64, 2) := by decide +kernel
theorem dL_worths_64 : decode cL_worths 64 = .ok (.newarray .int, 2) := by decide +kernel
theorem dL_worths_66 : decode cL_worths 66 = .ok (.bipush 64, 2) := by decide +kernel
theorem dL_worths_68 : decode cL_worths 68 = .ok (.newarray .int, 2) := by decide +kernel
theorem dL_worths_70 : decode cL_worths 70 = .ok (.aload 10, 2) := by decide +kernel
theorem dL_worths_72 : decode cL_worths 72 = .ok (.invokestatic 25, 3) := by decide +kernel
theorem dL_worths_75 : decode cL_worths 75 = .ok (.aload 5, 2) := by decide +kernel
theorem dL_worths_77 : decode cL_worths 77 = .ok (.iload 6, 2) := by decide +kernel
theorem dL_worths_79 : decode cL_worths 79 = .ok (.aload 10, 2) := by decide +kernel
theorem dL_worths_81 : decode cL_worths 81 = .ok (.iconst 0, 1) := by decide +kernel
theorem dL_worths_82 : decode cL_worths 82 = .ok (.iaload, 1) := by decide +kernel
theorem dL_worths_83 : decode cL_worths 83 = .ok (.iastore, 1) := by decide +kernel
theorem dL_worths_84 : decode cL_worths 84 = .ok (.iinc 6 1, 3) := by decide +kernel
theorem dL_worths_87 : decode cL_worths 87 = .ok (.goto (-84), 3) := by decide +kernel
theorem dL_worths_90 : decode cL_worths 90 = .ok (.return_, 1) := by decide +kernel
theorem dL_put_0 : decode cL_put 0 = .ok (.aload_n 1, 1) := by decide +kernel
theorem dL_put_1 : decode cL_put 1 = .ok (.iconst 0, 1) := by decide +kernel
theorem dL_put_2 : decode cL_put 2 = .ok (.dup2, 1) := by decide +kernel
theorem dL_put_3 : decode cL_put 3 = .ok (.iaload, 1) := by decide +kernel
theorem dL_put_4 : decode cL_put 4 = .ok (.iconst 1, 1) := by decide +kernel
theorem dL_put_5 : decode cL_put 5 = .ok (.iadd, 1) := by decide +kernel
theorem dL_put_6 : decode cL_put 6 = .ok (.iastore, 1) := by decide +kernel
theorem dL_put_7 : decode cL_put 7 = .ok (.aload_n 0, 1) := by decide +kernel
theorem dL_put_8 : decode cL_put 8 = .ok (.iload_n 2, 1) := by decide +kernel
theorem dL_put_9 : decode cL_put 9 = .ok (.invokevirtual 29, 3) := by decide +kernel
theorem dL_put_12 : decode cL_put 12 = .ok (.aload_n 1, 1) := by decide +kernel
theorem dL_put_13 : decode cL_put 13 = .ok (.iconst 0, 1) := by decide +kernel
theorem dL_put_14 : decode cL_put 14 = .ok (.iaload, 1) := by decide +kernel
theorem dL_put_15 : decode cL_put 15 = .ok (.if_icmp .ne 7, 3) := by decide +kernel
theorem dL_put_18 : decode cL_put 18 = .ok (.iconst 1, 1) := by decide +kernel
theorem dL_put_19 : decode cL_put 19 = .ok (.goto 4, 3) := by decide +kernel
theorem dL_put_22 : decode cL_put 22 = .ok (.iconst 0, 1) := by decide +kernel
theorem dL_put_23 : decode cL_put 23 = .ok (.ireturn, 1) := by decide +kernel
theorem dL_grow_0 : decode cL_grow 0 = .ok (.iconst 0, 1) := by decide +kernel
theorem dL_grow_1 : decode cL_grow 1 = .ok (.istore 5, 2) := by decide +kernel
theorem dL_grow_3 : decode cL_grow 3 = .ok (.iload 5, 2) := by decide +kernel
theorem dL_grow_5 : decode cL_grow 5 = .ok (.bipush 15, 2) := by decide +kernel
theorem dL_grow_7 : decode cL_grow 7 = .ok (.if_icmp .ge 232, 3) := by decide +kernel
theorem dL_grow_10 : decode cL_grow 10 = .ok (.iload_n 2, 1) := by decide +kernel
theorem dL_grow_11 : decode cL_grow 11 = .ok (.iload 5, 2) := by decide +kernel
theorem dL_grow_13 : decode cL_grow 13 = .ok (.iconst 3, 1) := by decide +kernel
theorem dL_grow_14 : decode cL_grow 14 = .ok (.iadd, 1) := by decide +kernel
theorem dL_grow_15 : decode cL_grow 15 = .ok (.idiv, 1) := by decide +kernel
theorem dL_grow_16 : decode cL_grow 16 = .ok (.sipush 7919, 3) := by decide +kernel
theorem dL_grow_19 : decode cL_grow 19 = .ok (.iload 5, 2) := by decide +kernel
theorem dL_grow_21 : decode cL_grow 21 = .ok (.imul, 1) := by decide +kernel
theorem dL_grow_22 : decode cL_grow 22 = .ok (.iadd, 1) := by decide +kernel
theorem dL_grow_23 : decode cL_grow 23 = .ok (.ldc 35, 2) := by decide +kernel
theorem dL_grow_25 : decode cL_grow 25 = .ok (.invokestatic 36, 3) := by decide +kernel
theorem dL_grow_28 : decode cL_grow 28 = .ok (.istore 6, 2) := by decide +kernel
theorem dL_grow_30 : decode cL_grow 30 = .ok (.iload 5, 2) := by decide +kernel
theorem dL_grow_32 : decode cL_grow 32 = .ok (.ifCond .ne 7, 3) := by decide +kernel
theorem dL_grow_35 : decode cL_grow 35 = .ok (.iconst 0, 1) := by decide +kernel
theorem dL_grow_36 : decode cL_grow 36 = .ok (.goto 25, 3) := by decide +kernel
theorem dL_grow_39 : decode cL_grow 39 = .ok (.iload 5, 2) := by decide +kernel
theorem dL_grow_41 : decode cL_grow 41 = .ok (.iconst 3, 1) := by decide +kernel
theorem dL_grow_42 : decode cL_grow 42 = .ok (.if_icmp .ge 7, 3) := by decide +kernel
theorem dL_grow_45 : decode cL_grow 45 = .ok (.iconst 1, 1) := by decide +kernel
theorem dL_grow_46 : decode cL_grow 46 = .ok (.goto 15, 3) := by decide +kernel
theorem dL_grow_49 : decode cL_grow 49 = .ok (.iload 5, 2) := by decide +kernel
theorem dL_grow_51 : decode cL_grow 51 = .ok (.bipush 7, 2) := by decide +kernel
theorem dL_grow_53 : decode cL_grow 53 = .ok (.if_icmp .ge 7, 3) := by decide +kernel
theorem dL_grow_56 : decode cL_grow 56 = .ok (.iconst 2, 1) := by decide +kernel
theorem dL_grow_57 : decode cL_grow 57 = .ok (.goto 4, 3) := by decide +kernel
theorem dL_grow_60 : decode cL_grow 60 = .ok (.iconst 3, 1) := by decide +kernel
theorem dL_grow_61 : decode cL_grow 61 = .ok (.istore 7, 2) := by decide +kernel
theorem dL_grow_63 : decode cL_grow 63 = .ok (.iload 6, 2) := by decide +kernel
theorem dL_grow_65 : decode cL_grow 65 = .ok (.bipush 7, 2) := by decide +kernel
theorem dL_grow_67 : decode cL_grow 67 = .ok (.irem, 1) := by decide +kernel
theorem dL_grow_68 : decode cL_grow 68 = .ok (.istore 8, 2) := by decide +kernel
theorem dL_grow_70 : decode cL_grow 70 = .ok (.iload 7, 2) := by decide +kernel
theorem dL_grow_72 : decode cL_grow 72 = .ok (.iload_n 3, 1) := by decide +kernel
theorem dL_grow_73 : decode cL_grow 73 = .ok (.if_icmp .ge 30, 3) := by decide +kernel
theorem dL_grow_76 : decode cL_grow 76 = .ok (.iload 7, 2) := by decide +kernel
theorem dL_grow_78 : decode cL_grow 78 = .ok (.ifCond .ne 14, 3) := by decide +kernel
theorem dL_grow_81 : decode cL_grow 81 = .ok (.iload 6, 2) := by decide +kernel
theorem dL_grow_83 : decode cL_grow 83 = .ok (.bipush 9, 2) := by decide +kernel
theorem dL_grow_85 : decode cL_grow 85 = .ok (.irem, 1) := by decide +kernel
theorem dL_grow_86 : decode cL_grow 86 = .ok (.ifCond .le 17, 3) := by decide +kernel
theorem dL_grow_89 : decode cL_grow 89 = .ok (.goto 10, 3) := by decide +kernel
theorem dL_grow_92 : decode cL_grow 92 = .ok (.iload 6, 2) := by decide +kernel
theorem dL_grow_94 : decode cL_grow 94 = .ok (.iconst 3, 1) := by decide +kernel
theorem dL_grow_95 : decode cL_grow 95 = .ok (.irem, 1) := by decide +kernel
theorem dL_grow_96 : decode cL_grow 96 = .ok (.ifCond .le 7, 3) := by decide +kernel
theorem dL_grow_99 : decode cL_grow 99 = .ok (.iconst 1, 1) := by decide +kernel
theorem dL_grow_100 : decode cL_grow 100 = .ok (.goto 4, 3) := by decide +kernel
theorem dL_grow_103 : decode cL_grow 103 = .ok (.iconst 0, 1) := by decide +kernel
theorem dL_grow_104 : decode cL_grow 104 = .ok (.istore 9, 2) := by decide +kernel
theorem dL_grow_106 : decode cL_grow 106 = .ok (.aload_n 0, 1) := by decide +kernel
theorem dL_grow_107 : decode cL_grow 107 = .ok (.iload 5, 2) := by decide +kernel
theorem dL_grow_109 : decode cL_grow 109 = .ok (.iload 9, 2) := by decide +kernel
theorem dL_grow_111 : decode cL_grow 111 = .ok (.ifCond .eq 38, 3) := by decide +kernel
theorem dL_grow_114 : decode cL_grow 114 = .ok (.iload 8, 2) := by decide +kernel
theorem dL_grow_116 : decode cL_grow 116 = .ok (.iconst 1, 1) := by decide +kernel
theorem dL_grow_117 : decode cL_grow 117 = .ok (.if_icmp .ge 7, 3) := by decide +kernel
theorem dL_grow_120 : decode cL_grow 120 = .ok (.iconst 3, 1) := by decide +kernel
theorem dL_grow_121 : decode cL_grow 121 = .ok (.goto 49, 3) := by decide +kernel
theorem dL_grow_124 : decode cL_grow 124 = .ok (.iload 8, 2) := by decide +kernel
theorem dL_grow_126 : decode cL_grow 126 = .ok (.iconst 3, 1) := by decide +kernel
theorem dL_grow_127 : decode cL_grow 127 = .ok (.if_icmp .ge 7, 3) := by decide +kernel
theorem dL_grow_130 : decode cL_grow 130 = .ok (.iconst 4, 1) := by decide +kernel
theorem dL_grow_131 : decode cL_grow 131 = .ok (.goto 39, 3) := by decide +kernel
theorem dL_grow_134 : decode cL_grow 134 = .ok (.iload 8, 2) := by decide +kernel
theorem dL_grow_136 : decode cL_grow 136 = .ok (.iconst 5, 1) := by decide +kernel
theorem dL_grow_137 : decode cL_grow 137 = .ok (.if_icmp .ge 7, 3) := by decide +kernel
theorem dL_grow_140 : decode cL_grow 140 = .ok (.iconst 5, 1) := by decide +kernel
theorem dL_grow_141 : decode cL_grow 141 = .ok (.goto 29, 3) := by decide +kernel
theorem dL_grow_144 : decode cL_grow 144 = .ok (.bipush 6, 2) := by decide +kernel
theorem dL_grow_146 : decode cL_grow 146 = .ok (.goto 24, 3) := by decide +kernel
theorem dL_grow_149 : decode cL_grow 149 = .ok (.iload 4, 2) := by decide +kernel
theorem dL_grow_151 : decode cL_grow 151 = .ok (.ifCond .le 15, 3) := by decide +kernel
theorem dL_grow_154 : decode cL_grow 154 = .ok (.iload 6, 2) := by decide +kernel
theorem dL_grow_156 : decode cL_grow 156 = .ok (.iconst 4, 1) := by decide +kernel
theorem dL_grow_157 : decode cL_grow 157 = .ok (.irem, 1) := by decide +kernel
theorem dL_grow_158 : decode cL_grow 158 = .ok (.iconst 1, 1) := by decide +kernel
theorem dL_grow_159 : decode cL_grow 159 = .ok (.if_icmp .ne 7, 3) := by decide +kernel
theorem dL_grow_162 : decode cL_grow 162 = .ok (.iconst 2, 1) := by decide +kernel
theorem dL_grow_163 : decode cL_grow 163 = .ok (.goto 7, 3) := by decide +kernel
theorem dL_grow_166 : decode cL_grow 166 = .ok (.iload 6, 2) := by decide +kernel
theorem dL_grow_168 : decode cL_grow 168 = .ok (.iconst 2, 1) := by decide +kernel
theorem dL_grow_169 : decode cL_grow 169 = .ok (.irem, 1) := by decide +kernel
theorem dL_grow_170 : decode cL_grow 170 = .ok (.iastore, 1) := by decide +kernel
theorem dL_grow_171 : decode cL_grow 171 = .ok (.aload_n 1, 1) := by decide +kernel
theorem dL_grow_172 : decode cL_grow 172 = .ok (.iload 5, 2) := by decide +kernel
theorem dL_grow_174 : decode cL_grow 174 = .ok (.aload_n 0, 1) := by decide +kernel
theorem dL_grow_175 : decode cL_grow 175 = .ok (.iload 5, 2) := by decide +kernel
theorem dL_grow_177 : decode cL_grow 177 = .ok (.iaload, 1) := by decide +kernel
theorem dL_grow_178 : decode cL_grow 178 = .ok (.ifCond .ne 14, 3) := by decide +kernel
theorem dL_grow_181 : decode cL_grow 181 = .ok (.iload 6, 2) := by decide +kernel
theorem dL_grow_183 : decode cL_grow 183 = .ok (.bipush 10, 2) := by decide +kernel
theorem dL_grow_185 : decode cL_grow 185 = .ok (.idiv, 1) := by decide +kernel
theorem dL_grow_186 : decode cL_grow 186 = .ok (.bipush 40, 2) := by decide +kernel
theorem dL_grow_188 : decode cL_grow 188 = .ok (.irem, 1) := by decide +kernel
theorem dL_grow_189 : decode cL_grow 189 = .ok (.goto 43, 3) := by decide +kernel
theorem dL_grow_192 : decode cL_grow 192 = .ok (.aload_n 0, 1) := by decide +kernel
theorem dL_grow_193 : decode cL_grow 193 = .ok (.iload 5, 2) := by decide +kernel
theorem dL_grow_195 : decode cL_grow 195 = .ok (.iaload, 1) := by decide +kernel
theorem dL_grow_196 : decode cL_grow 196 = .ok (.iconst 1, 1) := by decide +kernel
theorem dL_grow_197 : decode cL_grow 197 = .ok (.if_icmp .ne 14, 3) := by decide +kernel
theorem dL_grow_200 : decode cL_grow 200 = .ok (.iload 6, 2) := by decide +kernel
theorem dL_grow_202 : decode cL_grow 202 = .ok (.bipush 10, 2) := by decide +kernel
theorem dL_grow_204 : decode cL_grow 204 = .ok (.idiv, 1) := by decide +kernel
theorem dL_grow_205 : decode cL_grow 205 = .ok (.bipush 8, 2) := by decide +kernel
theorem dL_grow_207 : decode cL_grow 207 = .ok (.irem, 1) := by decide +kernel
theorem dL_grow_208 : decode cL_grow 208 = .ok (.goto 24, 3) := by decide +kernel
theorem dL_grow_211 : decode cL_grow 211 = .ok (.aload_n 0, 1) := by decide +kernel
theorem dL_grow_212 : decode cL_grow 212 = .ok (.iload 5, 2) := by decide +kernel
theorem dL_grow_214 : decode cL_grow 214 = .ok (.iaload, 1) := by decide +kernel
theorem dL_grow_215 : decode cL_grow 215 = .ok (.iconst 2, 1) := by decide +kernel
theorem dL_grow_216 : decode cL_grow 216 = .ok (.if_icmp .ne 14, 3) := by decide +kernel
theorem dL_grow_219 : decode cL_grow 219 = .ok (.iload 6, 2) := by decide +kernel
theorem dL_grow_221 : decode cL_grow 221 = .ok (.bipush 10, 2) := by decide +kernel
theorem dL_grow_223 : decode cL_grow 223 = .ok (.idiv, 1) := by decide +kernel
theorem dL_grow_224 : decode cL_grow 224 = .ok (.iload 4, 2) := by decide +kernel
theorem dL_grow_226 : decode cL_grow 226 = .ok (.irem, 1) := by decide +kernel
theorem dL_grow_227 : decode cL_grow 227 = .ok (.goto 5, 3) := by decide +kernel
theorem dL_grow_230 : decode cL_grow 230 = .ok (.ldc 40, 2) := by decide +kernel
theorem dL_grow_232 : decode cL_grow 232 = .ok (.iastore, 1) := by decide +kernel
theorem dL_grow_233 : decode cL_grow 233 = .ok (.iinc 5 1, 3) := by decide +kernel
theorem dL_grow_236 : decode cL_grow 236 = .ok (.goto (-233), 3) := by decide +kernel
theorem dL_grow_239 : decode cL_grow 239 = .ok (.return_, 1) := by decide +kernel
theorem dL_types_0 : decode cL_types 0 = .ok (.bipush 64, 2) := by decide +kernel
theorem dL_types_2 : decode cL_types 2 = .ok (.newarray .int, 2) := by decide +kernel
theorem dL_types_4 : decode cL_types 4 = .ok (.astore 8, 2) := by decide +kernel
theorem dL_types_6 : decode cL_types 6 = .ok (.iconst 1, 1) := by decide +kernel
theorem dL_types_7 : decode cL_types 7 = .ok (.istore 9, 2) := by decide +kernel
theorem dL_types_9 : decode cL_types 9 = .ok (.iconst 1, 1) := by decide +kernel
theorem dL_types_10 : decode cL_types 10 = .ok (.istore 10, 2) := by decide +kernel
theorem dL_types_12 : decode cL_types 12 = .ok (.aload 4, 2) := by decide +kernel
theorem dL_types_14 : decode cL_types 14 = .ok (.iload 7, 2) := by decide +kernel
theorem dL_types_16 : decode cL_types 16 = .ok (.iconst 0, 1) := by decide +kernel
theorem dL_types_17 : decode cL_types 17 = .ok (.iastore, 1) := by decide +kernel
theorem dL_types_18 : decode cL_types 18 = .ok (.iload 9, 2) := by decide +kernel
theorem dL_types_20 : decode cL_types 20 = .ok (.ifCond .le 306, 3) := by decide +kernel
theorem dL_types_23 : decode cL_types 23 = .ok (.iload 10, 2) := by decide +kernel
theorem dL_types_25 : decode cL_types 25 = .ok (.ifCond .eq 301, 3) := by decide +kernel
theorem dL_types_28 : decode cL_types 28 = .ok (.iinc 9 (-1), 3) := by decide +kernel
theorem dL_types_31 : decode cL_types 31 = .ok (.aload 8, 2) := by decide +kernel
theorem dL_types_33 : decode cL_types 33 = .ok (.iload 9, 2) := by decide +kernel
theorem dL_types_35 : decode cL_types 35 = .ok (.iaload, 1) := by decide +kernel
theorem dL_types_36 : decode cL_types 36 = .ok (.istore 11, 2) := by decide +kernel
theorem dL_types_38 : decode cL_types 38 = .ok (.iload 11, 2) := by decide +kernel
theorem dL_types_40 : decode cL_types 40 = .ok (.bipush 99, 2) := by decide +kernel
theorem dL_types_42 : decode cL_types 42 = .ok (.if_icmp .le 18, 3) := by decide +kernel
theorem dL_types_45 : decode cL_types 45 = .ok (.aload_n 0, 1) := by decide +kernel
theorem dL_types_46 : decode cL_types 46 = .ok (.aload_n 1, 1) := by decide +kernel
theorem dL_types_47 : decode cL_types 47 = .ok (.iload 11, 2) := by decide +kernel
theorem dL_types_49 : decode cL_types 49 = .ok (.bipush 100, 2) := by decide +kernel
theorem dL_types_51 : decode cL_types 51 = .ok (.isub, 1) := by decide +kernel
theorem dL_types_52 : decode cL_types 52 = .ok (.invokestatic 41, 3) := by decide +kernel
theorem dL_types_55 : decode cL_types 55 = .ok (.istore 10, 2) := by decide +kernel
theorem dL_types_57 : decode cL_types 57 = .ok (.goto 266, 3) := by decide +kernel
theorem dL_types_60 : decode cL_types 60 = .ok (.aload 5, 2) := by decide +kernel
theorem dL_types_62 : decode cL_types 62 = .ok (.bipush 16, 2) := by decide +kernel
theorem dL_types_64 : decode cL_types 64 = .ok (.iload 7, 2) := by decide +kernel
theorem dL_types_66 : decode cL_types 66 = .ok (.imul, 1) := by decide +kernel
theorem dL_types_67 : decode cL_types 67 = .ok (.aload 4, 2) := by decide +kernel
theorem dL_types_69 : decode cL_types 69 = .ok (.iload 7, 2) := by decide +kernel
theorem dL_types_71 : decode cL_types 71 = .ok (.iaload, 1) := by decide +kernel
theorem dL_types_72 : decode cL_types 72 = .ok (.iadd, 1) := by decide +kernel
theorem dL_types_73 : decode cL_types 73 = .ok (.aload_n 2, 1) := by decide +kernel
theorem dL_types_74 : decode cL_types 74 = .ok (.iload 11, 2) := by decide +kernel
theorem dL_types_76 : decode cL_types 76 = .ok (.iaload, 1) := by decide +kernel
theorem dL_types_77 : decode cL_types 77 = .ok (.iastore, 1) := by decide +kernel
theorem dL_types_78 : decode cL_types 78 = .ok (.aload 6, 2) := by decide +kernel
theorem dL_types_80 : decode cL_types 80 = .ok (.bipush 16, 2) := by decide +kernel
theorem dL_types_82 : decode cL_types 82 = .ok (.iload 7, 2) := by decide +kernel
theorem dL_types_84 : decode cL_types 84 = .ok (.imul, 1) := by decide +kernel
theorem dL_types_85 : decode cL_types 85 = .ok (.aload 4, 2) := by decide +kernel
theorem dL_types_87 : decode cL_types 87 = .ok (.iload 7, 2) := by decide +kernel
theorem dL_types_89 : decode cL_types 89 = .ok (.iaload, 1) := by decide +kernel
theorem dL_types_90 : decode cL_types 90 = .ok (.iadd, 1) := by decide +kernel
theorem dL_types_91 : decode cL_types 91 = .ok (.aload_n 3, 1) := by decide +kernel
theorem dL_types_92 : decode cL_types 92 = .ok (.iload 11, 2) := by decide +kernel
theorem dL_types_94 : decode cL_types 94 = .ok (.iaload, 1) := by decide +kernel
theorem dL_types_95 : decode cL_types 95 = .ok (.iastore, 1) := by decide +kernel
theorem dL_types_96 : decode cL_types 96 = .ok (.aload 4, 2) := by decide +kernel
theorem dL_types_98 : decode cL_types 98 = .ok (.iload 7, 2) := by decide +kernel
theorem dL_types_100 : decode cL_types 100 = .ok (.dup2, 1) := by decide +kernel
theorem dL_types_101 : decode cL_types 101 = .ok (.iaload, 1) := by decide +kernel
theorem dL_types_102 : decode cL_types 102 = .ok (.iconst 1, 1) := by decide +kernel
theorem dL_types_103 : decode cL_types 103 = .ok (.iadd, 1) := by decide +kernel
theorem dL_types_104 : decode cL_types 104 = .ok (.iastore, 1) := by decide +kernel
theorem dL_types_105 : decode cL_types 105 = .ok (.aload_n 2, 1) := by decide +kernel
theorem dL_types_106 : decode cL_types 106 = .ok (.iload 11, 2) := by decide +kernel
theorem dL_types_108 : decode cL_types 108 = .ok (.iaload, 1) := by decide +kernel
theorem dL_types_109 : decode cL_types 109 = .ok (.ifCond .ne 58, 3) := by decide +kernel
theorem dL_types_112 : decode cL_types 112 = .ok (.aload_n 3, 1) := by decide +kernel
theorem dL_types_113 : decode cL_types 113 = .ok (.iload 11, 2) := by decide +kernel
theorem dL_types_115 : decode cL_types 115 = .ok (.iaload, 1) := by decide +kernel
theorem dL_types_116 : decode cL_types 116 = .ok (.bipush 10, 2) := by decide +kernel
theorem dL_types_118 : decode cL_types 118 = .ok (.if_icmp .lt 21, 3) := by decide +kernel
theorem dL_types_121 : decode cL_types 121 = .ok (.aload_n 0, 1) := by decide +kernel
theorem dL_types_122 : decode cL_types 122 = .ok (.aload_n 1, 1) := by decide +kernel
theorem dL_types_123 : decode cL_types 123 = .ok (.bipush 48, 2) := by decide +kernel
theorem dL_types_125 : decode cL_types 125 = .ok (.aload_n 3, 1) := by decide +kernel
theorem dL_types_126 : decode cL_types 126 = .ok (.iload 11, 2) := by decide +kernel
theorem dL_types_128 : decode cL_types 128 = .ok (.iaload, 1) := by decide +kernel
theorem dL_types_129 : decode cL_types 129 = .ok (.bipush 10, 2) := by decide +kernel
theorem dL_types_131 : decode cL_types 131 = .ok (.idiv, 1) := by decide +kernel
theorem dL_types_132 : decode cL_types 132 = .ok (.iadd, 1) := by decide +kernel
theorem dL_types_133 : decode cL_types 133 = .ok (.invokestatic 41, 3) := by decide +kernel
theorem dL_types_136 : decode cL_types 136 = .ok (.ifCond .eq 25, 3) := by decide +kernel
theorem dL_types_139 : decode cL_types 139 = .ok (.aload_n 0, 1) := by decide +kernel
theorem dL_types_140 : decode cL_types 140 = .ok (.aload_n 1, 1) := by decide +kernel
theorem dL_types_141 : decode cL_types 141 = .ok (.bipush 48, 2) := by decide +kernel
theorem dL_types_143 : decode cL_types 143 = .ok (.aload_n 3, 1) := by decide +kernel
theorem dL_types_144 : decode cL_types 144 = .ok (.iload 11, 2) := by decide +kernel
theorem dL_types_146 : decode cL_types 146 = .ok (.iaload, 1) := by decide +kernel
theorem dL_types_147 : decode cL_types 147 = .ok (.bipush 10, 2) := by decide +kernel
theorem dL_types_149 : decode cL_types 149 = .ok (.irem, 1) := by decide +kernel
theorem dL_types_150 : decode cL_types 150 = .ok (.iadd, 1) := by decide +kernel
theorem dL_types_151 : decode cL_types 151 = .ok (.invokestatic 41, 3) := by decide +kernel
theorem dL_types_154 : decode cL_types 154 = .ok (.ifCond .eq 7, 3) := by decide +kernel
theorem dL_types_157 : decode cL_types 157 = .ok (.iconst 1, 1) := by decide +kernel
theorem dL_types_158 : decode cL_types 158 = .ok (.goto 4, 3) := by decide +kernel
theorem dL_types_161 : decode cL_types 161 = .ok (.iconst 0, 1) := by decide +kernel
theorem dL_types_162 : decode cL_types 162 = .ok (.istore 10, 2) := by decide +kernel
theorem dL_types_164 : decode cL_types 164 = .ok (.goto 159, 3) := by decide +kernel
theorem dL_types_167 : decode cL_types 167 = .ok (.aload_n 2, 1) := by decide +kernel
theorem dL_types_168 : decode cL_types 168 = .ok (.iload 11, 2) := by decide +kernel
theorem dL_types_170 : decode cL_types 170 = .ok (.iaload, 1) := by decide +kernel
theorem dL_types_171 : decode cL_types 171 = .ok (.iconst 3, 1) := by decide +kernel
theorem dL_types_172 : decode cL_types 172 = .ok (.if_icmp .ge 33, 3) := by decide +kernel
theorem dL_types_175 : decode cL_types 175 = .ok (.aload_n 0, 1) := by decide +kernel
theorem dL_types_176 : decode cL_types 176 = .ok (.aload_n 1, 1) := by decide +kernel
theorem dL_types_177 : decode cL_types 177 = .ok (.aload_n 2, 1) := by decide +kernel
theorem dL_types_178 : decode cL_types 178 = .ok (.iload 11, 2) := by decide +kernel
theorem dL_types_180 : decode cL_types 180 = .ok (.iaload, 1) := by decide +kernel
theorem dL_types_181 : decode cL_types 181 = .ok (.iconst 1, 1) := by decide +kernel
theorem dL_types_182 : decode cL_types 182 = .ok (.if_icmp .ne 8, 3) := by decide +kernel
theorem dL_types_185 : decode cL_types 185 = .ok (.bipush 97, 2) := by decide +kernel
theorem dL_types_187 : decode cL_types 187 = .ok (.goto 5, 3) := by decide +kernel
theorem dL_types_190 : decode cL_types 190 = .ok (.bipush 65, 2) := by decide +kernel
theorem dL_types_192 : decode cL_types 192 = .ok (.aload_n 3, 1) := by decide +kernel
theorem dL_types_193 : decode cL_types 193 = .ok (.iload 11, 2) := by decide +kernel
theorem dL_types_195 : decode cL_types 195 = .ok (.iaload, 1) := by decide +kernel
theorem dL_types_196 : decode cL_types 196 = .ok (.iadd, 1) := by decide +kernel
theorem dL_types_197 : decode cL_types 197 = .ok (.invokestatic 41, 3) := by decide +kernel
theorem dL_types_200 : decode cL_types 200 = .ok (.istore 10, 2) := by decide +kernel
theorem dL_types_202 : decode cL_types 202 = .ok (.goto 121, 3) := by decide +kernel
theorem dL_types_205 : decode cL_types 205 = .ok (.aload_n 2, 1) := by decide +kernel
theorem dL_types_206 : decode cL_types 206 = .ok (.iload 11, 2) := by decide +kernel
theorem dL_types_208 : decode cL_types 208 = .ok (.iaload, 1) := by decide +kernel
theorem dL_types_209 : decode cL_types 209 = .ok (.iconst 3, 1) := by decide +kernel
theorem dL_types_210 : decode cL_types 210 = .ok (.if_icmp .ne 29, 3) := by decide +kernel
theorem dL_types_213 : decode cL_types 213 = .ok (.aload_n 0, 1) := by decide +kernel
theorem dL_types_214 : decode cL_types 214 = .ok (.aload_n 1, 1) := by decide +kernel
theorem dL_types_215 : decode cL_types 215 = .ok (.bipush 33, 2) := by decide +kernel
theorem dL_types_217 : decode cL_types 217 = .ok (.invokestatic 41, 3) := by decide +kernel
theorem dL_types_220 : decode cL_types 220 = .ok (.istore 10, 2) := by decide +kernel
theorem dL_types_222 : decode cL_types 222 = .ok (.aload 8, 2) := by decide +kernel
theorem dL_types_224 : decode cL_types 224 = .ok (.iload 9, 2) := by decide +kernel
theorem dL_types_226 : decode cL_types 226 = .ok (.iconst 2, 1) := by decide +kernel
theorem dL_types_227 : decode cL_types 227 = .ok (.iload 11, 2) := by decide +kernel
theorem dL_types_229 : decode cL_types 229 = .ok (.imul, 1) := by decide +kernel
theorem dL_types_230 : decode cL_types 230 = .ok (.iconst 1, 1) := by decide +kernel
theorem dL_types_231 : decode cL_types 231 = .ok (.iadd, 1) := by decide +kernel
theorem dL_types_232 : decode cL_types 232 = .ok (.iastore, 1) := by decide +kernel
theorem dL_types_233 : decode cL_types 233 = .ok (.iinc 9 1, 3) := by decide +kernel
theorem dL_types_236 : decode cL_types 236 = .ok (.goto 87, 3) := by decide +kernel
theorem dL_types_239 : decode cL_types 239 = .ok (.aload_n 0, 1) := by decide +kernel
theorem dL_types_240 : decode cL_types 240 = .ok (.aload_n 1, 1) := by decide +kernel
theorem dL_types_241 : decode cL_types 241 = .ok (.bipush 40, 2) := by decide +kernel
theorem dL_types_243 : decode cL_types 243 = .ok (.invokestatic 41, 3) := by decide +kernel
theorem dL_types_246 : decode cL_types 246 = .ok (.istore 10, 2) := by decide +kernel
theorem dL_types_248 : decode cL_types 248 = .ok (.aload 8, 2) := by decide +kernel
theorem dL_types_250 : decode cL_types 250 = .ok (.iload 9, 2) := by decide +kernel
theorem dL_types_252 : decode cL_types 252 = .ok (.sipush 141, 3) := by decide +kernel
theorem dL_types_255 : decode cL_types 255 = .ok (.iastore, 1) := by decide +kernel
theorem dL_types_256 : decode cL_types 256 = .ok (.aload 8, 2) := by decide +kernel
theorem dL_types_258 : decode cL_types 258 = .ok (.iload 9, 2) := by decide +kernel
theorem dL_types_260 : decode cL_types 260 = .ok (.iconst 1, 1) := by decide +kernel
theorem dL_types_261 : decode cL_types 261 = .ok (.iadd, 1) := by decide +kernel
theorem dL_types_262 : decode cL_types 262 = .ok (.iconst 2, 1) := by decide +kernel
theorem dL_types_263 : decode cL_types 263 = .ok (.iload 11, 2) := by decide +kernel
theorem dL_types_265 : decode cL_types 265 = .ok (.imul, 1) := by decide +kernel
theorem dL_types_266 : decode cL_types 266 = .ok (.iconst 2, 1) := by decide +kernel
theorem dL_types_267 : decode cL_types 267 = .ok (.iadd, 1) := by decide +kernel
theorem dL_types_268 : decode cL_types 268 = .ok (.iastore, 1) := by decide +kernel
theorem dL_types_269 : decode cL_types 269 = .ok (.aload 8, 2) := by decide +kernel
theorem dL_types_271 : decode cL_types 271 = .ok (.iload 9, 2) := by decide +kernel
theorem dL_types_273 : decode cL_types 273 = .ok (.iconst 2, 1) := by decide +kernel
theorem dL_types_274 : decode cL_types 274 = .ok (.iadd, 1) := by decide +kernel
theorem dL_types_275 : decode cL_types 275 = .ok (.bipush 100, 2) := by decide +kernel
theorem dL_types_277 : decode cL_types 277 = .ok (.aload_n 2, 1) := by decide +kernel
theorem dL_types_278 : decode cL_types 278 = .ok (.iload 11, 2) := by decide +kernel
theorem dL_types_280 : decode cL_types 280 = .ok (.iaload, 1) := by decide +kernel
theorem dL_types_281 : decode cL_types 281 = .ok (.iconst 4, 1) := by decide +kernel
theorem dL_types_282 : decode cL_types 282 = .ok (.if_icmp .ne 8, 3) := by decide +kernel
theorem dL_types_285 : decode cL_types 285 = .ok (.bipush 43, 2) := by decide +kernel
theorem dL_types_287 : decode cL_types 287 = .ok (.goto 18, 3) := by decide +kernel
theorem dL_types_290 : decode cL_types 290 = .ok (.aload_n 2, 1) := by decide +kernel
theorem dL_types_291 : decode cL_types 291 = .ok (.iload 11, 2) := by decide +kernel
theorem dL_types_293 : decode cL_types 293 = .ok (.iaload, 1) := by decide +kernel
theorem dL_types_294 : decode cL_types 294 = .ok (.iconst 5, 1) := by decide +kernel
theorem dL_types_295 : decode cL_types 295 = .ok (.if_icmp .ne 8, 3) := by decide +kernel
theorem dL_types_298 : decode cL_types 298 = .ok (.bipush 45, 2) := by decide +kernel
theorem dL_types_300 : decode cL_types 300 = .ok (.goto 5, 3) := by decide +kernel
theorem dL_types_303 : decode cL_types 303 = .ok (.bipush 42, 2) := by decide +kernel
theorem dL_types_305 : decode cL_types 305 = .ok (.iadd, 1) := by decide +kernel
theorem dL_types_306 : decode cL_types 306 = .ok (.iastore, 1) := by decide +kernel
theorem dL_types_307 : decode cL_types 307 = .ok (.aload 8, 2) := by decide +kernel
theorem dL_types_309 : decode cL_types 309 = .ok (.iload 9, 2) := by decide +kernel
theorem dL_types_311 : decode cL_types 311 = .ok (.iconst 3, 1) := by decide +kernel
theorem dL_types_312 : decode cL_types 312 = .ok (.iadd, 1) := by decide +kernel
theorem dL_types_313 : decode cL_types 313 = .ok (.iconst 2, 1) := by decide +kernel
theorem dL_types_314 : decode cL_types 314 = .ok (.iload 11, 2) := by decide +kernel
theorem dL_types_316 : decode cL_types 316 = .ok (.imul, 1) := by decide +kernel
theorem dL_types_317 : decode cL_types 317 = .ok (.iconst 1, 1) := by decide +kernel
theorem dL_types_318 : decode cL_types 318 = .ok (.iadd, 1) := by decide +kernel
theorem dL_types_319 : decode cL_types 319 = .ok (.iastore, 1) := by decide +kernel
theorem dL_types_320 : decode cL_types 320 = .ok (.iinc 9 4, 3) := by decide +kernel
theorem dL_types_323 : decode cL_types 323 = .ok (.goto (-305), 3) := by decide +kernel
theorem dL_types_326 : decode cL_types 326 = .ok (.iload 10, 2) := by decide +kernel
theorem dL_types_328 : decode cL_types 328 = .ok (.ireturn, 1) := by decide +kernel
theorem dL_reads_0 : decode cL_reads 0 = .ok (.bipush 16, 2) := by decide +kernel
theorem dL_reads_2 : decode cL_reads 2 = .ok (.newarray .int, 2) := by decide +kernel
theorem dL_reads_4 : decode cL_reads 4 = .ok (.astore 6, 2) := by decide +kernel
theorem dL_reads_6 : decode cL_reads 6 = .ok (.bipush 16, 2) := by decide +kernel
