theorem dX7_read_53 : decode cX7_read 53 = .ok (.ireturn, 1) := by decide +kernel
theorem dX7_kindAt_0 : decode cX7_kindAt 0 = .ok (.aload_n 0, 1) := by decide +kernel
theorem dX7_kindAt_1 : decode cX7_kindAt 1 = .ok (.getfield 7, 3) := by decide +kernel
theorem dX7_kindAt_4 : decode cX7_kindAt 4 = .ok (.bipush 16, 2) := by decide +kernel
theorem dX7_kindAt_6 : decode cX7_kindAt 6 = .ok (.bipush 60, 2) := by decide +kernel
theorem dX7_kindAt_8 : decode cX7_kindAt 8 = .ok (.iload_n 1, 1) := by decide +kernel
theorem dX7_kindAt_9 : decode cX7_kindAt 9 = .ok (.imul, 1) := by decide +kernel
theorem dX7_kindAt_10 : decode cX7_kindAt 10 = .ok (.iadd, 1) := by decide +kernel
theorem dX7_kindAt_11 : decode cX7_kindAt 11 = .ok (.iconst 2, 1) := by decide +kernel
theorem dX7_kindAt_12 : decode cX7_kindAt 12 = .ok (.iload_n 2, 1) := by decide +kernel
theorem dX7_kindAt_13 : decode cX7_kindAt 13 = .ok (.imul, 1) := by decide +kernel
theorem dX7_kindAt_14 : decode cX7_kindAt 14 = .ok (.iadd, 1) := by decide +kernel
theorem dX7_kindAt_15 : decode cX7_kindAt 15 = .ok (.iaload, 1) := by decide +kernel
theorem dX7_kindAt_16 : decode cX7_kindAt 16 = .ok (.ireturn, 1) := by decide +kernel
theorem dX7_sizeAt_0 : decode cX7_sizeAt 0 = .ok (.iconst 1, 1) := by decide +kernel
theorem dX7_sizeAt_1 : decode cX7_sizeAt 1 = .ok (.istore_n 3, 1) := by decide +kernel
theorem dX7_sizeAt_2 : decode cX7_sizeAt 2 = .ok (.iload_n 2, 1) := by decide +kernel
theorem dX7_sizeAt_3 : decode cX7_sizeAt 3 = .ok (.istore 4, 2) := by decide +kernel
theorem dX7_sizeAt_5 : decode cX7_sizeAt 5 = .ok (.iload_n 3, 1) := by decide +kernel
theorem dX7_sizeAt_6 : decode cX7_sizeAt 6 = .ok (.ifCond .le 42, 3) := by decide +kernel
theorem dX7_sizeAt_9 : decode cX7_sizeAt 9 = .ok (.aload_n 0, 1) := by decide +kernel
theorem dX7_sizeAt_10 : decode cX7_sizeAt 10 = .ok (.iload_n 1, 1) := by decide +kernel
theorem dX7_sizeAt_11 : decode cX7_sizeAt 11 = .ok (.iload 4, 2) := by decide +kernel
theorem dX7_sizeAt_13 : decode cX7_sizeAt 13 = .ok (.invokevirtual 152, 3) := by decide +kernel
theorem dX7_sizeAt_16 : decode cX7_sizeAt 16 = .ok (.istore 5, 2) := by decide +kernel
theorem dX7_sizeAt_18 : decode cX7_sizeAt 18 = .ok (.iload_n 3, 1) := by decide +kernel
theorem dX7_sizeAt_19 : decode cX7_sizeAt 19 = .ok (.iload 5, 2) := by decide +kernel
theorem dX7_sizeAt_21 : decode cX7_sizeAt 21 = .ok (.iconst 3, 1) := by decide +kernel
theorem dX7_sizeAt_22 : decode cX7_sizeAt 22 = .ok (.if_icmp .ge 7, 3) := by decide +kernel
theorem dX7_sizeAt_25 : decode cX7_sizeAt 25 = .ok (.iconst (-1), 1) := by decide +kernel
theorem dX7_sizeAt_26 : decode cX7_sizeAt 26 = .ok (.goto 14, 3) := by decide +kernel
theorem dX7_sizeAt_29 : decode cX7_sizeAt 29 = .ok (.iload 5, 2) := by decide +kernel
theorem dX7_sizeAt_31 : decode cX7_sizeAt 31 = .ok (.iconst 3, 1) := by decide +kernel
theorem dX7_sizeAt_32 : decode cX7_sizeAt 32 = .ok (.if_icmp .ne 7, 3) := by decide +kernel
theorem dX7_sizeAt_35 : decode cX7_sizeAt 35 = .ok (.iconst 0, 1) := by decide +kernel
theorem dX7_sizeAt_36 : decode cX7_sizeAt 36 = .ok (.goto 4, 3) := by decide +kernel
theorem dX7_sizeAt_39 : decode cX7_sizeAt 39 = .ok (.iconst 1, 1) := by decide +kernel
theorem dX7_sizeAt_40 : decode cX7_sizeAt 40 = .ok (.iadd, 1) := by decide +kernel
theorem dX7_sizeAt_41 : decode cX7_sizeAt 41 = .ok (.istore_n 3, 1) := by decide +kernel
theorem dX7_sizeAt_42 : decode cX7_sizeAt 42 = .ok (.iinc 4 1, 3) := by decide +kernel
theorem dX7_sizeAt_45 : decode cX7_sizeAt 45 = .ok (.goto (-40), 3) := by decide +kernel
theorem dX7_sizeAt_48 : decode cX7_sizeAt 48 = .ok (.iload 4, 2) := by decide +kernel
theorem dX7_sizeAt_50 : decode cX7_sizeAt 50 = .ok (.iload_n 2, 1) := by decide +kernel
theorem dX7_sizeAt_51 : decode cX7_sizeAt 51 = .ok (.isub, 1) := by decide +kernel
theorem dX7_sizeAt_52 : decode cX7_sizeAt 52 = .ok (.ireturn, 1) := by decide +kernel
theorem dX7_isFormula_0 : decode cX7_isFormula 0 = .ok (.iload_n 1, 1) := by decide +kernel
theorem dX7_isFormula_1 : decode cX7_isFormula 1 = .ok (.ifCond .lt 17, 3) := by decide +kernel
theorem dX7_isFormula_4 : decode cX7_isFormula 4 = .ok (.iload_n 1, 1) := by decide +kernel
theorem dX7_isFormula_5 : decode cX7_isFormula 5 = .ok (.aload_n 0, 1) := by decide +kernel
theorem dX7_isFormula_6 : decode cX7_isFormula 6 = .ok (.getfield 7, 3) := by decide +kernel
theorem dX7_isFormula_9 : decode cX7_isFormula 9 = .ok (.iconst 0, 1) := by decide +kernel
theorem dX7_isFormula_10 : decode cX7_isFormula 10 = .ok (.iaload, 1) := by decide +kernel
theorem dX7_isFormula_11 : decode cX7_isFormula 11 = .ok (.if_icmp .ge 7, 3) := by decide +kernel
theorem dX7_isFormula_14 : decode cX7_isFormula 14 = .ok (.iconst 1, 1) := by decide +kernel
theorem dX7_isFormula_15 : decode cX7_isFormula 15 = .ok (.goto 4, 3) := by decide +kernel
theorem dX7_isFormula_18 : decode cX7_isFormula 18 = .ok (.iconst 0, 1) := by decide +kernel
theorem dX7_isFormula_19 : decode cX7_isFormula 19 = .ok (.ireturn, 1) := by decide +kernel
theorem dX7_turn_0 : decode cX7_turn 0 = .ok (.aload_n 0, 1) := by decide +kernel
theorem dX7_turn_1 : decode cX7_turn 1 = .ok (.iload_n 1, 1) := by decide +kernel
theorem dX7_turn_2 : decode cX7_turn 2 = .ok (.invokevirtual 156, 3) := by decide +kernel
theorem dX7_turn_5 : decode cX7_turn 5 = .ok (.ifCond .eq 22, 3) := by decide +kernel
theorem dX7_turn_8 : decode cX7_turn 8 = .ok (.iload_n 2, 1) := by decide +kernel
theorem dX7_turn_9 : decode cX7_turn 9 = .ok (.iconst 0, 1) := by decide +kernel
theorem dX7_turn_10 : decode cX7_turn 10 = .ok (.aload_n 0, 1) := by decide +kernel
theorem dX7_turn_11 : decode cX7_turn 11 = .ok (.getfield 7, 3) := by decide +kernel
theorem dX7_turn_14 : decode cX7_turn 14 = .ok (.bipush 10, 2) := by decide +kernel
theorem dX7_turn_16 : decode cX7_turn 16 = .ok (.iload_n 1, 1) := by decide +kernel
theorem dX7_turn_17 : decode cX7_turn 17 = .ok (.iadd, 1) := by decide +kernel
theorem dX7_turn_18 : decode cX7_turn 18 = .ok (.iaload, 1) := by decide +kernel
theorem dX7_turn_19 : decode cX7_turn 19 = .ok (.iconst 1, 1) := by decide +kernel
theorem dX7_turn_20 : decode cX7_turn 20 = .ok (.isub, 1) := by decide +kernel
theorem dX7_turn_21 : decode cX7_turn 21 = .ok (.invokestatic 75, 3) := by decide +kernel
theorem dX7_turn_24 : decode cX7_turn 24 = .ok (.ifCond .ne 6, 3) := by decide +kernel
theorem dX7_turn_27 : decode cX7_turn 27 = .ok (.ldc 79, 2) := by decide +kernel
theorem dX7_turn_29 : decode cX7_turn 29 = .ok (.ireturn, 1) := by decide +kernel
theorem dX7_turn_30 : decode cX7_turn 30 = .ok (.aload_n 0, 1) := by decide +kernel
theorem dX7_turn_31 : decode cX7_turn 31 = .ok (.iload_n 1, 1) := by decide +kernel
theorem dX7_turn_32 : decode cX7_turn 32 = .ok (.iload_n 2, 1) := by decide +kernel
theorem dX7_turn_33 : decode cX7_turn 33 = .ok (.invokevirtual 152, 3) := by decide +kernel
theorem dX7_turn_36 : decode cX7_turn 36 = .ok (.istore_n 3, 1) := by decide +kernel
theorem dX7_turn_37 : decode cX7_turn 37 = .ok (.iload_n 3, 1) := by decide +kernel
theorem dX7_turn_38 : decode cX7_turn 38 = .ok (.iconst 4, 1) := by decide +kernel
theorem dX7_turn_39 : decode cX7_turn 39 = .ok (.if_icmp .eq 12, 3) := by decide +kernel
theorem dX7_turn_42 : decode cX7_turn 42 = .ok (.iload_n 3, 1) := by decide +kernel
theorem dX7_turn_43 : decode cX7_turn 43 = .ok (.bipush 6, 2) := by decide +kernel
theorem dX7_turn_45 : decode cX7_turn 45 = .ok (.if_icmp .eq 6, 3) := by decide +kernel
theorem dX7_turn_48 : decode cX7_turn 48 = .ok (.ldc 160, 2) := by decide +kernel
theorem dX7_turn_50 : decode cX7_turn 50 = .ok (.ireturn, 1) := by decide +kernel
theorem dX7_turn_51 : decode cX7_turn 51 = .ok (.aload_n 0, 1) := by decide +kernel
theorem dX7_turn_52 : decode cX7_turn 52 = .ok (.invokevirtual 149, 3) := by decide +kernel
theorem dX7_turn_55 : decode cX7_turn 55 = .ok (.bipush 16, 2) := by decide +kernel
theorem dX7_turn_57 : decode cX7_turn 57 = .ok (.bipush 60, 2) := by decide +kernel
theorem dX7_turn_59 : decode cX7_turn 59 = .ok (.iload_n 1, 1) := by decide +kernel
theorem dX7_turn_60 : decode cX7_turn 60 = .ok (.imul, 1) := by decide +kernel
theorem dX7_turn_61 : decode cX7_turn 61 = .ok (.iadd, 1) := by decide +kernel
theorem dX7_turn_62 : decode cX7_turn 62 = .ok (.istore 4, 2) := by decide +kernel
theorem dX7_turn_64 : decode cX7_turn 64 = .ok (.aload_n 0, 1) := by decide +kernel
theorem dX7_turn_65 : decode cX7_turn 65 = .ok (.iload_n 1, 1) := by decide +kernel
theorem dX7_turn_66 : decode cX7_turn 66 = .ok (.iload_n 2, 1) := by decide +kernel
theorem dX7_turn_67 : decode cX7_turn 67 = .ok (.iconst 1, 1) := by decide +kernel
theorem dX7_turn_68 : decode cX7_turn 68 = .ok (.iadd, 1) := by decide +kernel
theorem dX7_turn_69 : decode cX7_turn 69 = .ok (.invokevirtual 161, 3) := by decide +kernel
theorem dX7_turn_72 : decode cX7_turn 72 = .ok (.istore 5, 2) := by decide +kernel
theorem dX7_turn_74 : decode cX7_turn 74 = .ok (.aload_n 0, 1) := by decide +kernel
theorem dX7_turn_75 : decode cX7_turn 75 = .ok (.iload_n 1, 1) := by decide +kernel
theorem dX7_turn_76 : decode cX7_turn 76 = .ok (.iload_n 2, 1) := by decide +kernel
theorem dX7_turn_77 : decode cX7_turn 77 = .ok (.iconst 1, 1) := by decide +kernel
theorem dX7_turn_78 : decode cX7_turn 78 = .ok (.iadd, 1) := by decide +kernel
theorem dX7_turn_79 : decode cX7_turn 79 = .ok (.iload 5, 2) := by decide +kernel
theorem dX7_turn_81 : decode cX7_turn 81 = .ok (.iadd, 1) := by decide +kernel
theorem dX7_turn_82 : decode cX7_turn 82 = .ok (.invokevirtual 161, 3) := by decide +kernel
theorem dX7_turn_85 : decode cX7_turn 85 = .ok (.istore 6, 2) := by decide +kernel
theorem dX7_turn_87 : decode cX7_turn 87 = .ok (.iconst 0, 1) := by decide +kernel
theorem dX7_turn_88 : decode cX7_turn 88 = .ok (.istore 7, 2) := by decide +kernel
theorem dX7_turn_90 : decode cX7_turn 90 = .ok (.iload 7, 2) := by decide +kernel
theorem dX7_turn_92 : decode cX7_turn 92 = .ok (.iconst 2, 1) := by decide +kernel
theorem dX7_turn_93 : decode cX7_turn 93 = .ok (.iload 5, 2) := by decide +kernel
theorem dX7_turn_95 : decode cX7_turn 95 = .ok (.iload 6, 2) := by decide +kernel
theorem dX7_turn_97 : decode cX7_turn 97 = .ok (.iadd, 1) := by decide +kernel
theorem dX7_turn_98 : decode cX7_turn 98 = .ok (.imul, 1) := by decide +kernel
theorem dX7_turn_99 : decode cX7_turn 99 = .ok (.if_icmp .ge 56, 3) := by decide +kernel
theorem dX7_turn_102 : decode cX7_turn 102 = .ok (.aload_n 0, 1) := by decide +kernel
theorem dX7_turn_103 : decode cX7_turn 103 = .ok (.getfield 28, 3) := by decide +kernel
theorem dX7_turn_106 : decode cX7_turn 106 = .ok (.iload 7, 2) := by decide +kernel
theorem dX7_turn_108 : decode cX7_turn 108 = .ok (.aload_n 0, 1) := by decide +kernel
theorem dX7_turn_109 : decode cX7_turn 109 = .ok (.getfield 7, 3) := by decide +kernel
theorem dX7_turn_112 : decode cX7_turn 112 = .ok (.iload 4, 2) := by decide +kernel
theorem dX7_turn_114 : decode cX7_turn 114 = .ok (.iconst 2, 1) := by decide +kernel
theorem dX7_turn_115 : decode cX7_turn 115 = .ok (.iload_n 2, 1) := by decide +kernel
theorem dX7_turn_116 : decode cX7_turn 116 = .ok (.imul, 1) := by decide +kernel
theorem dX7_turn_117 : decode cX7_turn 117 = .ok (.iadd, 1) := by decide +kernel
theorem dX7_turn_118 : decode cX7_turn 118 = .ok (.iconst 2, 1) := by decide +kernel
theorem dX7_turn_119 : decode cX7_turn 119 = .ok (.iadd, 1) := by decide +kernel
theorem dX7_turn_120 : decode cX7_turn 120 = .ok (.iload 7, 2) := by decide +kernel
theorem dX7_turn_122 : decode cX7_turn 122 = .ok (.iconst 2, 1) := by decide +kernel
theorem dX7_turn_123 : decode cX7_turn 123 = .ok (.iload 6, 2) := by decide +kernel
theorem dX7_turn_125 : decode cX7_turn 125 = .ok (.imul, 1) := by decide +kernel
theorem dX7_turn_126 : decode cX7_turn 126 = .ok (.if_icmp .ge 13, 3) := by decide +kernel
theorem dX7_turn_129 : decode cX7_turn 129 = .ok (.iconst 2, 1) := by decide +kernel
theorem dX7_turn_130 : decode cX7_turn 130 = .ok (.iload 5, 2) := by decide +kernel
theorem dX7_turn_132 : decode cX7_turn 132 = .ok (.imul, 1) := by decide +kernel
theorem dX7_turn_133 : decode cX7_turn 133 = .ok (.iload 7, 2) := by decide +kernel
theorem dX7_turn_135 : decode cX7_turn 135 = .ok (.iadd, 1) := by decide +kernel
theorem dX7_turn_136 : decode cX7_turn 136 = .ok (.goto 10, 3) := by decide +kernel
theorem dX7_turn_139 : decode cX7_turn 139 = .ok (.iload 7, 2) := by decide +kernel
theorem dX7_turn_141 : decode cX7_turn 141 = .ok (.iconst 2, 1) := by decide +kernel
theorem dX7_turn_142 : decode cX7_turn 142 = .ok (.iload 6, 2) := by decide +kernel
theorem dX7_turn_144 : decode cX7_turn 144 = .ok (.imul, 1) := by decide +kernel
theorem dX7_turn_145 : decode cX7_turn 145 = .ok (.isub, 1) := by decide +kernel
theorem dX7_turn_146 : decode cX7_turn 146 = .ok (.iadd, 1) := by decide +kernel
theorem dX7_turn_147 : decode cX7_turn 147 = .ok (.iaload, 1) := by decide +kernel
theorem dX7_turn_148 : decode cX7_turn 148 = .ok (.iastore, 1) := by decide +kernel
theorem dX7_turn_149 : decode cX7_turn 149 = .ok (.iinc 7 1, 3) := by decide +kernel
theorem dX7_turn_152 : decode cX7_turn 152 = .ok (.goto (-62), 3) := by decide +kernel
theorem dX7_turn_155 : decode cX7_turn 155 = .ok (.iconst 0, 1) := by decide +kernel
theorem dX7_turn_156 : decode cX7_turn 156 = .ok (.istore 7, 2) := by decide +kernel
theorem dX7_turn_158 : decode cX7_turn 158 = .ok (.iload 7, 2) := by decide +kernel
theorem dX7_turn_160 : decode cX7_turn 160 = .ok (.iconst 2, 1) := by decide +kernel
theorem dX7_turn_161 : decode cX7_turn 161 = .ok (.iload 5, 2) := by decide +kernel
theorem dX7_turn_163 : decode cX7_turn 163 = .ok (.iload 6, 2) := by decide +kernel
theorem dX7_turn_165 : decode cX7_turn 165 = .ok (.iadd, 1) := by decide +kernel
theorem dX7_turn_166 : decode cX7_turn 166 = .ok (.imul, 1) := by decide +kernel
theorem dX7_turn_167 : decode cX7_turn 167 = .ok (.if_icmp .ge 32, 3) := by decide +kernel
theorem dX7_turn_170 : decode cX7_turn 170 = .ok (.aload_n 0, 1) := by decide +kernel
theorem dX7_turn_171 : decode cX7_turn 171 = .ok (.getfield 7, 3) := by decide +kernel
theorem dX7_turn_174 : decode cX7_turn 174 = .ok (.iload 4, 2) := by decide +kernel
theorem dX7_turn_176 : decode cX7_turn 176 = .ok (.iconst 2, 1) := by decide +kernel
theorem dX7_turn_177 : decode cX7_turn 177 = .ok (.iload_n 2, 1) := by decide +kernel
theorem dX7_turn_178 : decode cX7_turn 178 = .ok (.imul, 1) := by decide +kernel
theorem dX7_turn_179 : decode cX7_turn 179 = .ok (.iadd, 1) := by decide +kernel
theorem dX7_turn_180 : decode cX7_turn 180 = .ok (.iconst 2, 1) := by decide +kernel
theorem dX7_turn_181 : decode cX7_turn 181 = .ok (.iadd, 1) := by decide +kernel
theorem dX7_turn_182 : decode cX7_turn 182 = .ok (.iload 7, 2) := by decide +kernel
theorem dX7_turn_184 : decode cX7_turn 184 = .ok (.iadd, 1) := by decide +kernel
theorem dX7_turn_185 : decode cX7_turn 185 = .ok (.aload_n 0, 1) := by decide +kernel
theorem dX7_turn_186 : decode cX7_turn 186 = .ok (.getfield 28, 3) := by decide +kernel
theorem dX7_turn_189 : decode cX7_turn 189 = .ok (.iload 7, 2) := by decide +kernel
theorem dX7_turn_191 : decode cX7_turn 191 = .ok (.iaload, 1) := by decide +kernel
theorem dX7_turn_192 : decode cX7_turn 192 = .ok (.iastore, 1) := by decide +kernel
theorem dX7_turn_193 : decode cX7_turn 193 = .ok (.iinc 7 1, 3) := by decide +kernel
theorem dX7_turn_196 : decode cX7_turn 196 = .ok (.goto (-38), 3) := by decide +kernel
theorem dX7_turn_199 : decode cX7_turn 199 = .ok (.aload_n 0, 1) := by decide +kernel
theorem dX7_turn_200 : decode cX7_turn 200 = .ok (.invokevirtual 164, 3) := by decide +kernel
theorem dX7_turn_203 : decode cX7_turn 203 = .ok (.aload_n 0, 1) := by decide +kernel
theorem dX7_turn_204 : decode cX7_turn 204 = .ok (.getfield 40, 3) := by decide +kernel
theorem dX7_turn_207 : decode cX7_turn 207 = .ok (.bipush 90, 2) := by decide +kernel
theorem dX7_turn_209 : decode cX7_turn 209 = .ok (.iload_n 1, 1) := by decide +kernel
theorem dX7_turn_210 : decode cX7_turn 210 = .ok (.imul, 1) := by decide +kernel
theorem dX7_turn_211 : decode cX7_turn 211 = .ok (.iaload, 1) := by decide +kernel
theorem dX7_turn_212 : decode cX7_turn 212 = .ok (.ireturn, 1) := by decide +kernel
theorem dX7_isCell_0 : decode cX7_isCell 0 = .ok (.iload_n 0, 1) := by decide +kernel
theorem dX7_isCell_1 : decode cX7_isCell 1 = .ok (.iconst 0, 1) := by decide +kernel
theorem dX7_isCell_2 : decode cX7_isCell 2 = .ok (.bipush 7, 2) := by decide +kernel
theorem dX7_isCell_4 : decode cX7_isCell 4 = .ok (.invokestatic 75, 3) := by decide +kernel
theorem dX7_isCell_7 : decode cX7_isCell 7 = .ok (.ireturn, 1) := by decide +kernel
theorem dX7_setCell_0 : decode cX7_setCell 0 = .ok (.iload_n 1, 1) := by decide +kernel
theorem dX7_setCell_1 : decode cX7_setCell 1 = .ok (.invokestatic 167, 3) := by decide +kernel
theorem dX7_setCell_4 : decode cX7_setCell 4 = .ok (.ifCond .eq 16, 3) := by decide +kernel
theorem dX7_setCell_7 : decode cX7_setCell 7 = .ok (.iload_n 2, 1) := by decide +kernel
theorem dX7_setCell_8 : decode cX7_setCell 8 = .ok (.sipush (-999), 3) := by decide +kernel
theorem dX7_setCell_11 : decode cX7_setCell 11 = .ok (.sipush 999, 3) := by decide +kernel
theorem dX7_setCell_14 : decode cX7_setCell 14 = .ok (.invokestatic 75, 3) := by decide +kernel
theorem dX7_setCell_17 : decode cX7_setCell 17 = .ok (.ifCond .ne 6, 3) := by decide +kernel
theorem dX7_setCell_20 : decode cX7_setCell 20 = .ok (.ldc 79, 2) := by decide +kernel
theorem dX7_setCell_22 : decode cX7_setCell 22 = .ok (.ireturn, 1) := by decide +kernel
theorem dX7_setCell_23 : decode cX7_setCell 23 = .ok (.aload_n 0, 1) := by decide +kernel
theorem dX7_setCell_24 : decode cX7_setCell 24 = .ok (.invokevirtual 149, 3) := by decide +kernel
theorem dX7_setCell_27 : decode cX7_setCell 27 = .ok (.aload_n 0, 1) := by decide +kernel
theorem dX7_setCell_28 : decode cX7_setCell 28 = .ok (.getfield 7, 3) := by decide +kernel
theorem dX7_setCell_31 : decode cX7_setCell 31 = .ok (.iconst 2, 1) := by decide +kernel
theorem dX7_setCell_32 : decode cX7_setCell 32 = .ok (.iload_n 1, 1) := by decide +kernel
theorem dX7_setCell_33 : decode cX7_setCell 33 = .ok (.iadd, 1) := by decide +kernel
theorem dX7_setCell_34 : decode cX7_setCell 34 = .ok (.iaload, 1) := by decide +kernel
theorem dX7_setCell_35 : decode cX7_setCell 35 = .ok (.istore_n 3, 1) := by decide +kernel
theorem dX7_setCell_36 : decode cX7_setCell 36 = .ok (.aload_n 0, 1) := by decide +kernel
theorem dX7_setCell_37 : decode cX7_setCell 37 = .ok (.getfield 7, 3) := by decide +kernel
theorem dX7_setCell_40 : decode cX7_setCell 40 = .ok (.iconst 2, 1) := by decide +kernel
theorem dX7_setCell_41 : decode cX7_setCell 41 = .ok (.iload_n 1, 1) := by decide +kernel
theorem dX7_setCell_42 : decode cX7_setCell 42 = .ok (.iadd, 1) := by decide +kernel
theorem dX7_setCell_43 : decode cX7_setCell 43 = .ok (.iload_n 2, 1) := by decide +kernel
theorem dX7_setCell_44 : decode cX7_setCell 44 = .ok (.iastore, 1) := by decide +kernel
theorem dX7_setCell_45 : decode cX7_setCell 45 = .ok (.iload_n 3, 1) := by decide +kernel
theorem dX7_setCell_46 : decode cX7_setCell 46 = .ok (.ireturn, 1) := by decide +kernel
theorem dX7_setPlaces_0 : decode cX7_setPlaces 0 = .ok (.iload_n 1, 1) := by decide +kernel
theorem dX7_setPlaces_1 : decode cX7_setPlaces 1 = .ok (.iconst 2, 1) := by decide +kernel
theorem dX7_setPlaces_2 : decode cX7_setPlaces 2 = .ok (.bipush 8, 2) := by decide +kernel
theorem dX7_setPlaces_4 : decode cX7_setPlaces 4 = .ok (.invokestatic 75, 3) := by decide +kernel
theorem dX7_setPlaces_7 : decode cX7_setPlaces 7 = .ok (.ifCond .ne 6, 3) := by decide +kernel
theorem dX7_setPlaces_10 : decode cX7_setPlaces 10 = .ok (.ldc 79, 2) := by decide +kernel
theorem dX7_setPlaces_12 : decode cX7_setPlaces 12 = .ok (.ireturn, 1) := by decide +kernel
theorem dX7_setPlaces_13 : decode cX7_setPlaces 13 = .ok (.aload_n 0, 1) := by decide +kernel
theorem dX7_setPlaces_14 : decode cX7_setPlaces 14 = .ok (.invokevirtual 149, 3) := by decide +kernel
theorem dX7_setPlaces_17 : decode cX7_setPlaces 17 = .ok (.aload_n 0, 1) := by decide +kernel
theorem dX7_setPlaces_18 : decode cX7_setPlaces 18 = .ok (.getfield 7, 3) := by decide +kernel
theorem dX7_setPlaces_21 : decode cX7_setPlaces 21 = .ok (.iconst 1, 1) := by decide +kernel
theorem dX7_setPlaces_22 : decode cX7_setPlaces 22 = .ok (.iaload, 1) := by decide +kernel
theorem dX7_setPlaces_23 : decode cX7_setPlaces 23 = .ok (.istore_n 2, 1) := by decide +kernel
theorem dX7_setPlaces_24 : decode cX7_setPlaces 24 = .ok (.aload_n 0, 1) := by decide +kernel
theorem dX7_setPlaces_25 : decode cX7_setPlaces 25 = .ok (.getfield 7, 3) := by decide +kernel
theorem dX7_setPlaces_28 : decode cX7_setPlaces 28 = .ok (.iconst 1, 1) := by decide +kernel
theorem dX7_setPlaces_29 : decode cX7_setPlaces 29 = .ok (.iload_n 1, 1) := by decide +kernel
theorem dX7_setPlaces_30 : decode cX7_setPlaces 30 = .ok (.iastore, 1) := by decide +kernel
theorem dX7_setPlaces_31 : decode cX7_setPlaces 31 = .ok (.iload_n 2, 1) := by decide +kernel
theorem dX7_setPlaces_32 : decode cX7_setPlaces 32 = .ok (.ireturn, 1) := by decide +kernel
theorem dX7_undo_0 : decode cX7_undo 0 = .ok (.aload_n 0, 1) := by decide +kernel
theorem dX7_undo_1 : decode cX7_undo 1 = .ok (.getfield 71, 3) := by decide +kernel
theorem dX7_undo_4 : decode cX7_undo 4 = .ok (.ifCond .ne 6, 3) := by decide +kernel
theorem dX7_undo_7 : decode cX7_undo 7 = .ok (.ldc 160, 2) := by decide +kernel
theorem dX7_undo_9 : decode cX7_undo 9 = .ok (.ireturn, 1) := by decide +kernel
theorem dX7_undo_10 : decode cX7_undo 10 = .ok (.aload_n 0, 1) := by decide +kernel
theorem dX7_undo_11 : decode cX7_undo 11 = .ok (.dup, 1) := by decide +kernel
theorem dX7_undo_12 : decode cX7_undo 12 = .ok (.getfield 71, 3) := by decide +kernel
theorem dX7_undo_15 : decode cX7_undo 15 = .ok (.iconst 1, 1) := by decide +kernel
theorem dX7_undo_16 : decode cX7_undo 16 = .ok (.isub, 1) := by decide +kernel
theorem dX7_undo_17 : decode cX7_undo 17 = .ok (.putfield 71, 3) := by decide +kernel
theorem dX7_undo_20 : decode cX7_undo 20 = .ok (.iconst 0, 1) := by decide +kernel
theorem dX7_undo_21 : decode cX7_undo 21 = .ok (.istore_n 1, 1) := by decide +kernel
theorem dX7_undo_22 : decode cX7_undo 22 = .ok (.iload_n 1, 1) := by decide +kernel
theorem dX7_undo_23 : decode cX7_undo 23 = .ok (.sipush 376, 3) := by decide +kernel
theorem dX7_undo_26 : decode cX7_undo 26 = .ok (.if_icmp .ge 30, 3) := by decide +kernel
theorem dX7_undo_29 : decode cX7_undo 29 = .ok (.aload_n 0, 1) := by decide +kernel
theorem dX7_undo_30 : decode cX7_undo 30 = .ok (.getfield 7, 3) := by decide +kernel
theorem dX7_undo_33 : decode cX7_undo 33 = .ok (.iload_n 1, 1) := by decide +kernel
theorem dX7_undo_34 : decode cX7_undo 34 = .ok (.aload_n 0, 1) := by decide +kernel
theorem dX7_undo_35 : decode cX7_undo 35 = .ok (.getfield 13, 3) := by decide +kernel
theorem dX7_undo_38 : decode cX7_undo 38 = .ok (.sipush 376, 3) := by decide +kernel
theorem dX7_undo_41 : decode cX7_undo 41 = .ok (.aload_n 0, 1) := by decide +kernel
theorem dX7_undo_42 : decode cX7_undo 42 = .ok (.getfield 71, 3) := by decide +kernel
theorem dX7_undo_45 : decode cX7_undo 45 = .ok (.imul, 1) := by decide +kernel
theorem dX7_undo_46 : decode cX7_undo 46 = .ok (.iload_n 1, 1) := by decide +kernel
theorem dX7_undo_47 : decode cX7_undo 47 = .ok (.iadd, 1) := by decide +kernel
theorem dX7_undo_48 : decode cX7_undo 48 = .ok (.iaload, 1) := by decide +kernel
theorem dX7_undo_49 : decode cX7_undo 49 = .ok (.iastore, 1) := by decide +kernel
theorem dX7_undo_50 : decode cX7_undo 50 = .ok (.iinc 1 1, 3) := by decide +kernel
theorem dX7_undo_53 : decode cX7_undo 53 = .ok (.goto (-31), 3) := by decide +kernel
theorem dX7_undo_56 : decode cX7_undo 56 = .ok (.aload_n 0, 1) := by decide +kernel
theorem dX7_undo_57 : decode cX7_undo 57 = .ok (.getfield 71, 3) := by decide +kernel
theorem dX7_undo_60 : decode cX7_undo 60 = .ok (.ireturn, 1) := by decide +kernel
theorem dX7_cut_0 : decode cX7_cut 0 = .ok (.lload_n 0, 1) := by decide +kernel
theorem dX7_cut_1 : decode cX7_cut 1 = .ok (.ldc2_w 170, 3) := by decide +kernel
theorem dX7_cut_4 : decode cX7_cut 4 = .ok (.lcmp, 1) := by decide +kernel
theorem dX7_cut_5 : decode cX7_cut 5 = .ok (.ifCond .le 9, 3) := by decide +kernel
theorem dX7_cut_8 : decode cX7_cut 8 = .ok (.ldc2_w 170, 3) := by decide +kernel
theorem dX7_cut_11 : decode cX7_cut 11 = .ok (.goto 18, 3) := by decide +kernel
theorem dX7_cut_14 : decode cX7_cut 14 = .ok (.lload_n 0, 1) := by decide +kernel
theorem dX7_cut_15 : decode cX7_cut 15 = .ok (.ldc2_w 172, 3) := by decide +kernel
theorem dX7_cut_18 : decode cX7_cut 18 = .ok (.lcmp, 1) := by decide +kernel
theorem dX7_cut_19 : decode cX7_cut 19 = .ok (.ifCond .ge 9, 3) := by decide +kernel
theorem dX7_cut_22 : decode cX7_cut 22 = .ok (.ldc2_w 172, 3) := by decide +kernel
theorem dX7_cut_25 : decode cX7_cut 25 = .ok (.goto 4, 3) := by decide +kernel
theorem dX7_cut_28 : decode cX7_cut 28 = .ok (.lload_n 0, 1) := by decide +kernel
theorem dX7_cut_29 : decode cX7_cut 29 = .ok (.l2i, 1) := by decide +kernel
theorem dX7_cut_30 : decode cX7_cut 30 = .ok (.ireturn, 1) := by decide +kernel
theorem dX7_copies_0 : decode cX7_copies 0 = .ok (.aload_n 0, 1) := by decide +kernel
theorem dX7_copies_1 : decode cX7_copies 1 = .ok (.getfield 31, 3) := by decide +kernel
theorem dX7_copies_4 : decode cX7_copies 4 = .ok (.bipush 90, 2) := by decide +kernel
theorem dX7_copies_6 : decode cX7_copies 6 = .ok (.iload_n 1, 1) := by decide +kernel
theorem dX7_copies_7 : decode cX7_copies 7 = .ok (.imul, 1) := by decide +kernel
theorem dX7_copies_8 : decode cX7_copies 8 = .ok (.aload_n 0, 1) := by decide +kernel
theorem dX7_copies_9 : decode cX7_copies 9 = .ok (.getfield 49, 3) := by decide +kernel
theorem dX7_copies_12 : decode cX7_copies 12 = .ok (.iload_n 1, 1) := by decide +kernel
theorem dX7_copies_13 : decode cX7_copies 13 = .ok (.iaload, 1) := by decide +kernel
theorem dX7_copies_14 : decode cX7_copies 14 = .ok (.iadd, 1) := by decide +kernel
theorem dX7_copies_15 : decode cX7_copies 15 = .ok (.iload_n 2, 1) := by decide +kernel
theorem dX7_copies_16 : decode cX7_copies 16 = .ok (.iastore, 1) := by decide +kernel
theorem dX7_copies_17 : decode cX7_copies 17 = .ok (.aload_n 0, 1) := by decide +kernel
theorem dX7_copies_18 : decode cX7_copies 18 = .ok (.getfield 34, 3) := by decide +kernel
theorem dX7_copies_21 : decode cX7_copies 21 = .ok (.bipush 90, 2) := by decide +kernel
theorem dX7_copies_23 : decode cX7_copies 23 = .ok (.iload_n 1, 1) := by decide +kernel
theorem dX7_copies_24 : decode cX7_copies 24 = .ok (.imul, 1) := by decide +kernel
theorem dX7_copies_25 : decode cX7_copies 25 = .ok (.aload_n 0, 1) := by decide +kernel
theorem dX7_copies_26 : decode cX7_copies 26 = .ok (.getfield 49, 3) := by decide +kernel
theorem dX7_copies_29 : decode cX7_copies 29 = .ok (.iload_n 1, 1) := by decide +kernel
theorem dX7_copies_30 : decode cX7_copies 30 = .ok (.iaload, 1) := by decide +kernel
theorem dX7_copies_31 : decode cX7_copies 31 = .ok (.iadd, 1) := by decide +kernel
theorem dX7_copies_32 : decode cX7_copies 32 = .ok (.iload_n 3, 1) := by decide +kernel
theorem dX7_copies_33 : decode cX7_copies 33 = .ok (.iastore, 1) := by decide +kernel
theorem dX7_copies_34 : decode cX7_copies 34 = .ok (.aload_n 0, 1) := by decide +kernel
theorem dX7_copies_35 : decode cX7_copies 35 = .ok (.getfield 49, 3) := by decide +kernel
theorem dX7_copies_38 : decode cX7_copies 38 = .ok (.iload_n 1, 1) := by decide +kernel
theorem dX7_copies_39 : decode cX7_copies 39 = .ok (.dup2, 1) := by decide +kernel
theorem dX7_copies_40 : decode cX7_copies 40 = .ok (.iaload, 1) := by decide +kernel
theorem dX7_copies_41 : decode cX7_copies 41 = .ok (.iconst 1, 1) := by decide +kernel
theorem dX7_copies_42 : decode cX7_copies 42 = .ok (.iadd, 1) := by decide +kernel
theorem dX7_copies_43 : decode cX7_copies 43 = .ok (.iastore, 1) := by decide +kernel
theorem dX7_copies_44 : decode cX7_copies 44 = .ok (.return_, 1) := by decide +kernel
theorem dX7_expands_0 : decode cX7_expands 0 = .ok (.aload_n 0, 1) := by decide +kernel
theorem dX7_expands_1 : decode cX7_expands 1 = .ok (.getfield 49, 3) := by decide +kernel
theorem dX7_expands_4 : decode cX7_expands 4 = .ok (.iload_n 1, 1) := by decide +kernel
theorem dX7_expands_5 : decode cX7_expands 5 = .ok (.iconst 0, 1) := by decide +kernel
theorem dX7_expands_6 : decode cX7_expands 6 = .ok (.iastore, 1) := by decide +kernel
theorem dX7_expands_7 : decode cX7_expands 7 = .ok (.iconst 0, 1) := by decide +kernel
theorem dX7_expands_8 : decode cX7_expands 8 = .ok (.istore_n 2, 1) := by decide +kernel
theorem dX7_expands_9 : decode cX7_expands 9 = .ok (.iload_n 2, 1) := by decide +kernel
theorem dX7_expands_10 : decode cX7_expands 10 = .ok (.aload_n 0, 1) := by decide +kernel
theorem dX7_expands_11 : decode cX7_expands 11 = .ok (.getfield 7, 3) := by decide +kernel
theorem dX7_expands_14 : decode cX7_expands 14 = .ok (.bipush 10, 2) := by decide +kernel
theorem dX7_expands_16 : decode cX7_expands 16 = .ok (.iload_n 1, 1) := by decide +kernel
theorem dX7_expands_17 : decode cX7_expands 17 = .ok (.iadd, 1) := by decide +kernel
theorem dX7_expands_18 : decode cX7_expands 18 = .ok (.iaload, 1) := by decide +kernel
theorem dX7_expands_19 : decode cX7_expands 19 = .ok (.if_icmp .ge 111, 3) := by decide +kernel
theorem dX7_expands_22 : decode cX7_expands 22 = .ok (.aload_n 0, 1) := by decide +kernel
theorem dX7_expands_23 : decode cX7_expands 23 = .ok (.getfield 7, 3) := by decide +kernel
theorem dX7_expands_26 : decode cX7_expands 26 = .ok (.bipush 16, 2) := by decide +kernel
theorem dX7_expands_28 : decode cX7_expands 28 = .ok (.bipush 60, 2) := by decide +kernel
theorem dX7_expands_30 : decode cX7_expands 30 = .ok (.iload_n 1, 1) := by decide +kernel
theorem dX7_expands_31 : decode cX7_expands 31 = .ok (.imul, 1) := by decide +kernel
theorem dX7_expands_32 : decode cX7_expands 32 = .ok (.iadd, 1) := by decide +kernel
theorem dX7_expands_33 : decode cX7_expands 33 = .ok (.iconst 2, 1) := by decide +kernel
theorem dX7_expands_34 : decode cX7_expands 34 = .ok (.iload_n 2, 1) := by decide +kernel
theorem dX7_expands_35 : decode cX7_expands 35 = .ok (.imul, 1) := by decide +kernel
theorem dX7_expands_36 : decode cX7_expands 36 = .ok (.iadd, 1) := by decide +kernel
theorem dX7_expands_37 : decode cX7_expands 37 = .ok (.iconst 1, 1) := by decide +kernel
theorem dX7_expands_38 : decode cX7_expands 38 = .ok (.iadd, 1) := by decide +kernel
theorem dX7_expands_39 : decode cX7_expands 39 = .ok (.iaload, 1) := by decide +kernel
theorem dX7_expands_40 : decode cX7_expands 40 = .ok (.istore_n 3, 1) := by decide +kernel
theorem dX7_expands_41 : decode cX7_expands 41 = .ok (.aload_n 0, 1) := by decide +kernel
theorem dX7_expands_42 : decode cX7_expands 42 = .ok (.iload_n 1, 1) := by decide +kernel
theorem dX7_expands_43 : decode cX7_expands 43 = .ok (.iload_n 2, 1) := by decide +kernel
theorem dX7_expands_44 : decode cX7_expands 44 = .ok (.invokevirtual 152, 3) := by decide +kernel
theorem dX7_expands_47 : decode cX7_expands 47 = .ok (.iconst 2, 1) := by decide +kernel
theorem dX7_expands_48 : decode cX7_expands 48 = .ok (.if_icmp .ne 64, 3) := by decide +kernel
theorem dX7_expands_51 : decode cX7_expands 51 = .ok (.aload_n 0, 1) := by decide +kernel
theorem dX7_expands_52 : decode cX7_expands 52 = .ok (.getfield 52, 3) := by decide +kernel
theorem dX7_expands_55 : decode cX7_expands 55 = .ok (.iload_n 3, 1) := by decide +kernel
theorem dX7_expands_56 : decode cX7_expands 56 = .ok (.baload, 1) := by decide +kernel
theorem dX7_expands_57 : decode cX7_expands 57 = .ok (.ifCond .eq 55, 3) := by decide +kernel
theorem dX7_expands_60 : decode cX7_expands 60 = .ok (.iconst 0, 1) := by decide +kernel
theorem dX7_expands_61 : decode cX7_expands 61 = .ok (.istore 4, 2) := by decide +kernel
theorem dX7_expands_63 : decode cX7_expands 63 = .ok (.iload 4, 2) := by decide +kernel
theorem dX7_expands_65 : decode cX7_expands 65 = .ok (.aload_n 0, 1) := by decide +kernel
theorem dX7_expands_66 : decode cX7_expands 66 = .ok (.getfield 49, 3) := by decide +kernel
theorem dX7_expands_69 : decode cX7_expands 69 = .ok (.iload_n 3, 1) := by decide +kernel
theorem dX7_expands_70 : decode cX7_expands 70 = .ok (.iaload, 1) := by decide +kernel
theorem dX7_expands_71 : decode cX7_expands 71 = .ok (.if_icmp .ge 38, 3) := by decide +kernel
theorem dX7_expands_74 : decode cX7_expands 74 = .ok (.aload_n 0, 1) := by decide +kernel
theorem dX7_expands_75 : decode cX7_expands 75 = .ok (.iload_n 1, 1) := by decide +kernel
theorem dX7_expands_76 : decode cX7_expands 76 = .ok (.aload_n 0, 1) := by decide +kernel
theorem dX7_expands_77 : decode cX7_expands 77 = .ok (.getfield 31, 3) := by decide +kernel
theorem dX7_expands_80 : decode cX7_expands 80 = .ok (.bipush 90, 2) := by decide +kernel
theorem dX7_expands_82 : decode cX7_expands 82 = .ok (.iload_n 3, 1) := by decide +kernel
theorem dX7_expands_83 : decode cX7_expands 83 = .ok (.imul, 1) := by decide +kernel
theorem dX7_expands_84 : decode cX7_expands 84 = .ok (.iload 4, 2) := by decide +kernel
theorem dX7_expands_86 : decode cX7_expands 86 = .ok (.iadd, 1) := by decide +kernel
theorem dX7_expands_87 : decode cX7_expands 87 = .ok (.iaload, 1) := by decide +kernel
theorem dX7_expands_88 : decode cX7_expands 88 = .ok (.aload_n 0, 1) := by decide +kernel
theorem dX7_expands_89 : decode cX7_expands 89 = .ok (.getfield 34, 3) := by decide +kernel
theorem dX7_expands_92 : decode cX7_expands 92 = .ok (.bipush 90, 2) := by decide +kernel
theorem dX7_expands_94 : decode cX7_expands 94 = .ok (.iload_n 3, 1) := by decide +kernel
theorem dX7_expands_95 : decode cX7_expands 95 = .ok (.imul, 1) := by decide +kernel
theorem dX7_expands_96 : decode cX7_expands 96 = .ok (.iload 4, 2) := by decide +kernel
theorem dX7_expands_98 : decode cX7_expands 98 = .ok (.iadd, 1) := by decide +kernel
theorem dX7_expands_99 : decode cX7_expands 99 = .ok (.iaload, 1) := by decide +kernel
theorem dX7_expands_100 : decode cX7_expands 100 = .ok (.invokevirtual 174, 3) := by decide +kernel
theorem dX7_expands_103 : decode cX7_expands 103 = .ok (.iinc 4 1, 3) := by decide +kernel
theorem dX7_expands_106 : decode cX7_expands 106 = .ok (.goto (-43), 3) := by decide +kernel
theorem dX7_expands_109 : decode cX7_expands 109 = .ok (.goto 15, 3) := by decide +kernel
theorem dX7_expands_112 : decode cX7_expands 112 = .ok (.aload_n 0, 1) := by decide +kernel
theorem dX7_expands_113 : decode cX7_expands 113 = .ok (.iload_n 1, 1) := by decide +kernel
theorem dX7_expands_114 : decode cX7_expands 114 = .ok (.aload_n 0, 1) := by decide +kernel
theorem dX7_expands_115 : decode cX7_expands 115 = .ok (.iload_n 1, 1) := by decide +kernel
theorem dX7_expands_116 : decode cX7_expands 116 = .ok (.iload_n 2, 1) := by decide +kernel
theorem dX7_expands_117 : decode cX7_expands 117 = .ok (.invokevirtual 152, 3) := by decide +kernel
theorem dX7_expands_120 : decode cX7_expands 120 = .ok (.iload_n 3, 1) := by decide +kernel
theorem dX7_expands_121 : decode cX7_expands 121 = .ok (.invokevirtual 174, 3) := by decide +kernel
theorem dX7_expands_124 : decode cX7_expands 124 = .ok (.iinc 2 1, 3) := by decide +kernel
theorem dX7_expands_127 : decode cX7_expands 127 = .ok (.goto (-118), 3) := by decide +kernel
theorem dX7_expands_130 : decode cX7_expands 130 = .ok (.iconst 1, 1) := by decide +kernel
theorem dX7_expands_131 : decode cX7_expands 131 = .ok (.istore_n 2, 1) := by decide +kernel
theorem dX7_expands_132 : decode cX7_expands 132 = .ok (.iconst 0, 1) := by decide +kernel
theorem dX7_expands_133 : decode cX7_expands 133 = .ok (.istore_n 3, 1) := by decide +kernel
theorem dX7_expands_134 : decode cX7_expands 134 = .ok (.iload_n 3, 1) := by decide +kernel
theorem dX7_expands_135 : decode cX7_expands 135 = .ok (.aload_n 0, 1) := by decide +kernel
theorem dX7_expands_136 : decode cX7_expands 136 = .ok (.getfield 49, 3) := by decide +kernel
theorem dX7_expands_139 : decode cX7_expands 139 = .ok (.iload_n 1, 1) := by decide +kernel
theorem dX7_expands_140 : decode cX7_expands 140 = .ok (.iaload, 1) := by decide +kernel
theorem dX7_expands_141 : decode cX7_expands 141 = .ok (.if_icmp .ge 50, 3) := by decide +kernel
theorem dX7_expands_144 : decode cX7_expands 144 = .ok (.iload_n 2, 1) := by decide +kernel
theorem dX7_expands_145 : decode cX7_expands 145 = .ok (.ifCond .eq 38, 3) := by decide +kernel
theorem dX7_expands_148 : decode cX7_expands 148 = .ok (.aload_n 0, 1) := by decide +kernel
theorem dX7_expands_149 : decode cX7_expands 149 = .ok (.getfield 31, 3) := by decide +kernel
theorem dX7_expands_152 : decode cX7_expands 152 = .ok (.bipush 90, 2) := by decide +kernel
theorem dX7_expands_154 : decode cX7_expands 154 = .ok (.iload_n 1, 1) := by decide +kernel
theorem dX7_expands_155 : decode cX7_expands 155 = .ok (.imul, 1) := by decide +kernel
theorem dX7_expands_156 : decode cX7_expands 156 = .ok (.iload_n 3, 1) := by decide +kernel
theorem dX7_expands_157 : decode cX7_expands 157 = .ok (.iadd, 1) := by decide +kernel
theorem dX7_expands_158 : decode cX7_expands 158 = .ok (.iaload, 1) := by decide +kernel
theorem dX7_expands_159 : decode cX7_expands 159 = .ok (.bipush 6, 2) := by decide +kernel
theorem dX7_expands_161 : decode cX7_expands 161 = .ok (.if_icmp .eq 22, 3) := by decide +kernel
theorem dX7_expands_164 : decode cX7_expands 164 = .ok (.aload_n 0, 1) := by decide +kernel
theorem dX7_expands_165 : decode cX7_expands 165 = .ok (.getfield 31, 3) := by decide +kernel
theorem dX7_expands_168 : decode cX7_expands 168 = .ok (.bipush 90, 2) := by decide +kernel
theorem dX7_expands_170 : decode cX7_expands 170 = .ok (.iload_n 1, 1) := by decide +kernel
theorem dX7_expands_171 : decode cX7_expands 171 = .ok (.imul, 1) := by decide +kernel
theorem dX7_expands_172 : decode cX7_expands 172 = .ok (.iload_n 3, 1) := by decide +kernel
theorem dX7_expands_173 : decode cX7_expands 173 = .ok (.iadd, 1) := by decide +kernel
theorem dX7_expands_174 : decode cX7_expands 174 = .ok (.iaload, 1) := by decide +kernel
theorem dX7_expands_175 : decode cX7_expands 175 = .ok (.iconst 2, 1) := by decide +kernel
theorem dX7_expands_176 : decode cX7_expands 176 = .ok (.if_icmp .eq 7, 3) := by decide +kernel
theorem dX7_expands_179 : decode cX7_expands 179 = .ok (.iconst 1, 1) := by decide +kernel
theorem dX7_expands_180 : decode cX7_expands 180 = .ok (.goto 4, 3) := by decide +kernel
theorem dX7_expands_183 : decode cX7_expands 183 = .ok (.iconst 0, 1) := by decide +kernel
theorem dX7_expands_184 : decode cX7_expands 184 = .ok (.istore_n 2, 1) := by decide +kernel
theorem dX7_expands_185 : decode cX7_expands 185 = .ok (.iinc 3 1, 3) := by decide +kernel
theorem dX7_expands_188 : decode cX7_expands 188 = .ok (.goto (-54), 3) := by decide +kernel
theorem dX7_expands_191 : decode cX7_expands 191 = .ok (.aload_n 0, 1) := by decide +kernel
theorem dX7_expands_192 : decode cX7_expands 192 = .ok (.getfield 52, 3) := by decide +kernel
theorem dX7_expands_195 : decode cX7_expands 195 = .ok (.iload_n 1, 1) := by decide +kernel
theorem dX7_expands_196 : decode cX7_expands 196 = .ok (.iload_n 1, 1) := by decide +kernel
theorem dX7_expands_197 : decode cX7_expands 197 = .ok (.aload_n 0, 1) := by decide +kernel
theorem dX7_expands_198 : decode cX7_expands 198 = .ok (.getfield 7, 3) := by decide +kernel
theorem dX7_expands_201 : decode cX7_expands 201 = .ok (.iconst 0, 1) := by decide +kernel
theorem dX7_expands_202 : decode cX7_expands 202 = .ok (.iaload, 1) := by decide +kernel
theorem dX7_expands_203 : decode cX7_expands 203 = .ok (.iconst 1, 1) := by decide +kernel
theorem dX7_expands_204 : decode cX7_expands 204 = .ok (.isub, 1) := by decide +kernel
theorem dX7_expands_205 : decode cX7_expands 205 = .ok (.if_icmp .ge 21, 3) := by decide +kernel
theorem dX7_expands_208 : decode cX7_expands 208 = .ok (.aload_n 0, 1) := by decide +kernel
theorem dX7_expands_209 : decode cX7_expands 209 = .ok (.getfield 49, 3) := by decide +kernel
theorem dX7_expands_212 : decode cX7_expands 212 = .ok (.iload_n 1, 1) := by decide +kernel
theorem dX7_expands_213 : decode cX7_expands 213 = .ok (.iaload, 1) := by decide +kernel
theorem dX7_expands_214 : decode cX7_expands 214 = .ok (.iconst 4, 1) := by decide +kernel
theorem dX7_expands_215 : decode cX7_expands 215 = .ok (.if_icmp .ge 11, 3) := by decide +kernel
theorem dX7_expands_218 : decode cX7_expands 218 = .ok (.iload_n 2, 1) := by decide +kernel
theorem dX7_expands_219 : decode cX7_expands 219 = .ok (.ifCond .eq 7, 3) := by decide +kernel
theorem dX7_expands_222 : decode cX7_expands 222 = .ok (.iconst 1, 1) := by decide +kernel
theorem dX7_expands_223 : decode cX7_expands 223 = .ok (.goto 4, 3) := by decide +kernel
theorem dX7_expands_226 : decode cX7_expands 226 = .ok (.iconst 0, 1) := by decide +kernel
theorem dX7_expands_227 : decode cX7_expands 227 = .ok (.bastore, 1) := by decide +kernel
theorem dX7_expands_228 : decode cX7_expands 228 = .ok (.return_, 1) := by decide +kernel
theorem dX7_tells_0 : decode cX7_tells 0 = .ok (.aload_n 0, 1) := by decide +kernel
theorem dX7_tells_1 : decode cX7_tells 1 = .ok (.getfield 34, 3) := by decide +kernel
theorem dX7_tells_4 : decode cX7_tells 4 = .ok (.iload_n 2, 1) := by decide +kernel
theorem dX7_tells_5 : decode cX7_tells 5 = .ok (.iaload, 1) := by decide +kernel
theorem dX7_tells_6 : decode cX7_tells 6 = .ok (.istore_n 3, 1) := by decide +kernel
theorem dX7_tells_7 : decode cX7_tells 7 = .ok (.aload_n 0, 1) := by decide +kernel
theorem dX7_tells_8 : decode cX7_tells 8 = .ok (.getfield 31, 3) := by decide +kernel
theorem dX7_tells_11 : decode cX7_tells 11 = .ok (.iload_n 2, 1) := by decide +kernel
theorem dX7_tells_12 : decode cX7_tells 12 = .ok (.iaload, 1) := by decide +kernel
theorem dX7_tells_13 : decode cX7_tells 13 = .ok (.tableswitch 168 0 3 #[31, 31, 31, 104], 31) := by decide +kernel
theorem dX7_tells_44 : decode cX7_tells 44 = .ok (.aload_n 0, 1) := by decide +kernel
theorem dX7_tells_45 : decode cX7_tells 45 = .ok (.getfield 37, 3) := by decide +kernel
theorem dX7_tells_48 : decode cX7_tells 48 = .ok (.iload_n 2, 1) := by decide +kernel
theorem dX7_tells_49 : decode cX7_tells 49 = .ok (.iconst 1, 1) := by decide +kernel
theorem dX7_tells_50 : decode cX7_tells 50 = .ok (.iastore, 1) := by decide +kernel
theorem dX7_tells_51 : decode cX7_tells 51 = .ok (.aload_n 0, 1) := by decide +kernel
theorem dX7_tells_52 : decode cX7_tells 52 = .ok (.getfield 40, 3) := by decide +kernel
theorem dX7_tells_55 : decode cX7_tells 55 = .ok (.iload_n 2, 1) := by decide +kernel
theorem dX7_tells_56 : decode cX7_tells 56 = .ok (.iconst 1, 1) := by decide +kernel
theorem dX7_tells_57 : decode cX7_tells 57 = .ok (.iastore, 1) := by decide +kernel
theorem dX7_tells_58 : decode cX7_tells 58 = .ok (.aload_n 0, 1) := by decide +kernel
theorem dX7_tells_59 : decode cX7_tells 59 = .ok (.getfield 43, 3) := by decide +kernel
theorem dX7_tells_62 : decode cX7_tells 62 = .ok (.iload_n 2, 1) := by decide +kernel
theorem dX7_tells_63 : decode cX7_tells 63 = .ok (.iconst 1, 1) := by decide +kernel
theorem dX7_tells_64 : decode cX7_tells 64 = .ok (.iastore, 1) := by decide +kernel
theorem dX7_tells_65 : decode cX7_tells 65 = .ok (.aload_n 0, 1) := by decide +kernel
theorem dX7_tells_66 : decode cX7_tells 66 = .ok (.getfield 46, 3) := by decide +kernel
theorem dX7_tells_69 : decode cX7_tells 69 = .ok (.iload_n 2, 1) := by decide +kernel
theorem dX7_tells_70 : decode cX7_tells 70 = .ok (.aload_n 0, 1) := by decide +kernel
theorem dX7_tells_71 : decode cX7_tells 71 = .ok (.getfield 31, 3) := by decide +kernel
theorem dX7_tells_74 : decode cX7_tells 74 = .ok (.iload_n 2, 1) := by decide +kernel
theorem dX7_tells_75 : decode cX7_tells 75 = .ok (.iaload, 1) := by decide +kernel
theorem dX7_tells_76 : decode cX7_tells 76 = .ok (.ifCond .ne 7, 3) := by decide +kernel
theorem dX7_tells_79 : decode cX7_tells 79 = .ok (.iload_n 3, 1) := by decide +kernel
theorem dX7_tells_80 : decode cX7_tells 80 = .ok (.goto 33, 3) := by decide +kernel
theorem dX7_tells_83 : decode cX7_tells 83 = .ok (.aload_n 0, 1) := by decide +kernel
theorem dX7_tells_84 : decode cX7_tells 84 = .ok (.getfield 31, 3) := by decide +kernel
theorem dX7_tells_87 : decode cX7_tells 87 = .ok (.iload_n 2, 1) := by decide +kernel
theorem dX7_tells_88 : decode cX7_tells 88 = .ok (.iaload, 1) := by decide +kernel
theorem dX7_tells_89 : decode cX7_tells 89 = .ok (.iconst 1, 1) := by decide +kernel
theorem dX7_tells_90 : decode cX7_tells 90 = .ok (.if_icmp .ne 14, 3) := by decide +kernel
theorem dX7_tells_93 : decode cX7_tells 93 = .ok (.aload_n 0, 1) := by decide +kernel
theorem dX7_tells_94 : decode cX7_tells 94 = .ok (.getfield 7, 3) := by decide +kernel
theorem dX7_tells_97 : decode cX7_tells 97 = .ok (.iconst 2, 1) := by decide +kernel
theorem dX7_tells_98 : decode cX7_tells 98 = .ok (.iload_n 3, 1) := by decide +kernel
theorem dX7_tells_99 : decode cX7_tells 99 = .ok (.iadd, 1) := by decide +kernel
theorem dX7_tells_100 : decode cX7_tells 100 = .ok (.iaload, 1) := by decide +kernel
theorem dX7_tells_101 : decode cX7_tells 101 = .ok (.goto 12, 3) := by decide +kernel
theorem dX7_tells_104 : decode cX7_tells 104 = .ok (.aload_n 0, 1) := by decide +kernel
theorem dX7_tells_105 : decode cX7_tells 105 = .ok (.getfield 46, 3) := by decide +kernel
theorem dX7_tells_108 : decode cX7_tells 108 = .ok (.bipush 90, 2) := by decide +kernel
theorem dX7_tells_110 : decode cX7_tells 110 = .ok (.iload_n 3, 1) := by decide +kernel
theorem dX7_tells_111 : decode cX7_tells 111 = .ok (.imul, 1) := by decide +kernel
theorem dX7_tells_112 : decode cX7_tells 112 = .ok (.iaload, 1) := by decide +kernel
theorem dX7_tells_113 : decode cX7_tells 113 = .ok (.iastore, 1) := by decide +kernel
theorem dX7_tells_114 : decode cX7_tells 114 = .ok (.goto 87, 3) := by decide +kernel
theorem dX7_tells_117 : decode cX7_tells 117 = .ok (.aload_n 0, 1) := by decide +kernel
theorem dX7_tells_118 : decode cX7_tells 118 = .ok (.getfield 37, 3) := by decide +kernel
theorem dX7_tells_121 : decode cX7_tells 121 = .ok (.iload_n 2, 1) := by decide +kernel
theorem dX7_tells_122 : decode cX7_tells 122 = .ok (.aload_n 0, 1) := by decide +kernel
theorem dX7_tells_123 : decode cX7_tells 123 = .ok (.getfield 37, 3) := by decide +kernel
theorem dX7_tells_126 : decode cX7_tells 126 = .ok (.iload_n 2, 1) := by decide +kernel
theorem dX7_tells_127 : decode cX7_tells 127 = .ok (.iconst 1, 1) := by decide +kernel
theorem dX7_tells_128 : decode cX7_tells 128 = .ok (.iadd, 1) := by decide +kernel
theorem dX7_tells_129 : decode cX7_tells 129 = .ok (.iaload, 1) := by decide +kernel
theorem dX7_tells_130 : decode cX7_tells 130 = .ok (.iconst 1, 1) := by decide +kernel
theorem dX7_tells_131 : decode cX7_tells 131 = .ok (.iadd, 1) := by decide +kernel
theorem dX7_tells_132 : decode cX7_tells 132 = .ok (.iastore, 1) := by decide +kernel
theorem dX7_tells_133 : decode cX7_tells 133 = .ok (.aload_n 0, 1) := by decide +kernel
theorem dX7_tells_134 : decode cX7_tells 134 = .ok (.getfield 40, 3) := by decide +kernel
theorem dX7_tells_137 : decode cX7_tells 137 = .ok (.iload_n 2, 1) := by decide +kernel
theorem dX7_tells_138 : decode cX7_tells 138 = .ok (.aload_n 0, 1) := by decide +kernel
theorem dX7_tells_139 : decode cX7_tells 139 = .ok (.getfield 40, 3) := by decide +kernel
theorem dX7_tells_142 : decode cX7_tells 142 = .ok (.iload_n 2, 1) := by decide +kernel
theorem dX7_tells_143 : decode cX7_tells 143 = .ok (.iconst 1, 1) := by decide +kernel
theorem dX7_tells_144 : decode cX7_tells 144 = .ok (.iadd, 1) := by decide +kernel
theorem dX7_tells_145 : decode cX7_tells 145 = .ok (.iaload, 1) := by decide +kernel
theorem dX7_tells_146 : decode cX7_tells 146 = .ok (.iastore, 1) := by decide +kernel
theorem dX7_tells_147 : decode cX7_tells 147 = .ok (.aload_n 0, 1) := by decide +kernel
theorem dX7_tells_148 : decode cX7_tells 148 = .ok (.getfield 43, 3) := by decide +kernel
theorem dX7_tells_151 : decode cX7_tells 151 = .ok (.iload_n 2, 1) := by decide +kernel
theorem dX7_tells_152 : decode cX7_tells 152 = .ok (.aload_n 0, 1) := by decide +kernel
theorem dX7_tells_153 : decode cX7_tells 153 = .ok (.getfield 43, 3) := by decide +kernel
theorem dX7_tells_156 : decode cX7_tells 156 = .ok (.iload_n 2, 1) := by decide +kernel
theorem dX7_tells_157 : decode cX7_tells 157 = .ok (.iconst 1, 1) := by decide +kernel
theorem dX7_tells_158 : decode cX7_tells 158 = .ok (.iadd, 1) := by decide +kernel
theorem dX7_tells_159 : decode cX7_tells 159 = .ok (.iaload, 1) := by decide +kernel
theorem dX7_tells_160 : decode cX7_tells 160 = .ok (.iconst 1, 1) := by decide +kernel
theorem dX7_tells_161 : decode cX7_tells 161 = .ok (.iadd, 1) := by decide +kernel
theorem dX7_tells_162 : decode cX7_tells 162 = .ok (.iastore, 1) := by decide +kernel
theorem dX7_tells_163 : decode cX7_tells 163 = .ok (.aload_n 0, 1) := by decide +kernel
theorem dX7_tells_164 : decode cX7_tells 164 = .ok (.getfield 46, 3) := by decide +kernel
theorem dX7_tells_167 : decode cX7_tells 167 = .ok (.iload_n 2, 1) := by decide +kernel
theorem dX7_tells_168 : decode cX7_tells 168 = .ok (.aload_n 0, 1) := by decide +kernel
theorem dX7_tells_169 : decode cX7_tells 169 = .ok (.getfield 46, 3) := by decide +kernel
theorem dX7_tells_172 : decode cX7_tells 172 = .ok (.iload_n 2, 1) := by decide +kernel
theorem dX7_tells_173 : decode cX7_tells 173 = .ok (.iconst 1, 1) := by decide +kernel
theorem dX7_tells_174 : decode cX7_tells 174 = .ok (.iadd, 1) := by decide +kernel
theorem dX7_tells_175 : decode cX7_tells 175 = .ok (.iaload, 1) := by decide +kernel
theorem dX7_tells_176 : decode cX7_tells 176 = .ok (.ineg, 1) := by decide +kernel
theorem dX7_tells_177 : decode cX7_tells 177 = .ok (.iastore, 1) := by decide +kernel
theorem dX7_tells_178 : decode cX7_tells 178 = .ok (.goto 23, 3) := by decide +kernel
theorem dX7_tells_181 : decode cX7_tells 181 = .ok (.aload_n 0, 1) := by decide +kernel
theorem dX7_tells_182 : decode cX7_tells 182 = .ok (.iload_n 2, 1) := by decide +kernel
theorem dX7_tells_183 : decode cX7_tells 183 = .ok (.iload_n 2, 1) := by decide +kernel
theorem dX7_tells_184 : decode cX7_tells 184 = .ok (.iconst 1, 1) := by decide +kernel
theorem dX7_tells_185 : decode cX7_tells 185 = .ok (.iadd, 1) := by decide +kernel
theorem dX7_tells_186 : decode cX7_tells 186 = .ok (.iload_n 2, 1) := by decide +kernel
theorem dX7_tells_187 : decode cX7_tells 187 = .ok (.iconst 1, 1) := by decide +kernel
theorem dX7_tells_188 : decode cX7_tells 188 = .ok (.iadd, 1) := by decide +kernel
theorem dX7_tells_189 : decode cX7_tells 189 = .ok (.aload_n 0, 1) := by decide +kernel
theorem dX7_tells_190 : decode cX7_tells 190 = .ok (.getfield 37, 3) := by decide +kernel
theorem dX7_tells_193 : decode cX7_tells 193 = .ok (.iload_n 2, 1) := by decide +kernel
theorem dX7_tells_194 : decode cX7_tells 194 = .ok (.iconst 1, 1) := by decide +kernel
theorem dX7_tells_195 : decode cX7_tells 195 = .ok (.iadd, 1) := by decide +kernel
theorem dX7_tells_196 : decode cX7_tells 196 = .ok (.iaload, 1) := by decide +kernel
theorem dX7_tells_197 : decode cX7_tells 197 = .ok (.iadd, 1) := by decide +kernel
theorem dX7_tells_198 : decode cX7_tells 198 = .ok (.invokevirtual 177, 3) := by decide +kernel
theorem dX7_tells_201 : decode cX7_tells 201 = .ok (.return_, 1) := by decide +kernel
theorem dX7_joins_0 : decode cX7_joins 0 = .ok (.aload_n 0, 1) := by decide +kernel
theorem dX7_joins_1 : decode cX7_joins 1 = .ok (.getfield 37, 3) := by decide +kernel
theorem dX7_joins_4 : decode cX7_joins 4 = .ok (.iload_n 1, 1) := by decide +kernel
theorem dX7_joins_5 : decode cX7_joins 5 = .ok (.aload_n 0, 1) := by decide +kernel
theorem dX7_joins_6 : decode cX7_joins 6 = .ok (.getfield 37, 3) := by decide +kernel
theorem dX7_joins_9 : decode cX7_joins 9 = .ok (.iload_n 2, 1) := by decide +kernel
theorem dX7_joins_10 : decode cX7_joins 10 = .ok (.iaload, 1) := by decide +kernel
theorem dX7_joins_11 : decode cX7_joins 11 = .ok (.aload_n 0, 1) := by decide +kernel
theorem dX7_joins_12 : decode cX7_joins 12 = .ok (.getfield 37, 3) := by decide +kernel
theorem dX7_joins_15 : decode cX7_joins 15 = .ok (.iload_n 3, 1) := by decide +kernel
theorem dX7_joins_16 : decode cX7_joins 16 = .ok (.iaload, 1) := by decide +kernel
theorem dX7_joins_17 : decode cX7_joins 17 = .ok (.iadd, 1) := by decide +kernel
theorem dX7_joins_18 : decode cX7_joins 18 = .ok (.iconst 1, 1) := by decide +kernel
theorem dX7_joins_19 : decode cX7_joins 19 = .ok (.iadd, 1) := by decide +kernel
theorem dX7_joins_20 : decode cX7_joins 20 = .ok (.iastore, 1) := by decide +kernel
theorem dX7_joins_21 : decode cX7_joins 21 = .ok (.aload_n 0, 1) := by decide +kernel
theorem dX7_joins_22 : decode cX7_joins 22 = .ok (.getfield 40, 3) := by decide +kernel
theorem dX7_joins_25 : decode cX7_joins 25 = .ok (.iload_n 1, 1) := by decide +kernel
theorem dX7_joins_26 : decode cX7_joins 26 = .ok (.aload_n 0, 1) := by decide +kernel
theorem dX7_joins_27 : decode cX7_joins 27 = .ok (.getfield 40, 3) := by decide +kernel
theorem dX7_joins_30 : decode cX7_joins 30 = .ok (.iload_n 2, 1) := by decide +kernel
theorem dX7_joins_31 : decode cX7_joins 31 = .ok (.iaload, 1) := by decide +kernel
theorem dX7_joins_32 : decode cX7_joins 32 = .ok (.aload_n 0, 1) := by decide +kernel
theorem dX7_joins_33 : decode cX7_joins 33 = .ok (.getfield 40, 3) := by decide +kernel
theorem dX7_joins_36 : decode cX7_joins 36 = .ok (.iload_n 3, 1) := by decide +kernel
theorem dX7_joins_37 : decode cX7_joins 37 = .ok (.iaload, 1) := by decide +kernel
theorem dX7_joins_38 : decode cX7_joins 38 = .ok (.if_icmp .ne 14, 3) := by decide +kernel
theorem dX7_joins_41 : decode cX7_joins 41 = .ok (.aload_n 0, 1) := by decide +kernel
theorem dX7_joins_42 : decode cX7_joins 42 = .ok (.getfield 40, 3) := by decide +kernel
theorem dX7_joins_45 : decode cX7_joins 45 = .ok (.iload_n 2, 1) := by decide +kernel
theorem dX7_joins_46 : decode cX7_joins 46 = .ok (.iaload, 1) := by decide +kernel
theorem dX7_joins_47 : decode cX7_joins 47 = .ok (.iconst 1, 1) := by decide +kernel
theorem dX7_joins_48 : decode cX7_joins 48 = .ok (.iadd, 1) := by decide +kernel
theorem dX7_joins_49 : decode cX7_joins 49 = .ok (.goto 33, 3) := by decide +kernel
theorem dX7_joins_52 : decode cX7_joins 52 = .ok (.aload_n 0, 1) := by decide +kernel
theorem dX7_joins_53 : decode cX7_joins 53 = .ok (.getfield 40, 3) := by decide +kernel
theorem dX7_joins_56 : decode cX7_joins 56 = .ok (.iload_n 2, 1) := by decide +kernel
theorem dX7_joins_57 : decode cX7_joins 57 = .ok (.iaload, 1) := by decide +kernel
theorem dX7_joins_58 : decode cX7_joins 58 = .ok (.aload_n 0, 1) := by decide +kernel
theorem dX7_joins_59 : decode cX7_joins 59 = .ok (.getfield 40, 3) := by decide +kernel
theorem dX7_joins_62 : decode cX7_joins 62 = .ok (.iload_n 3, 1) := by decide +kernel
theorem dX7_joins_63 : decode cX7_joins 63 = .ok (.iaload, 1) := by decide +kernel
theorem dX7_joins_64 : decode cX7_joins 64 = .ok (.if_icmp .le 12, 3) := by decide +kernel
theorem dX7_joins_67 : decode cX7_joins 67 = .ok (.aload_n 0, 1) := by decide +kernel
theorem dX7_joins_68 : decode cX7_joins 68 = .ok (.getfield 40, 3) := by decide +kernel
theorem dX7_joins_71 : decode cX7_joins 71 = .ok (.iload_n 2, 1) := by decide +kernel
theorem dX7_joins_72 : decode cX7_joins 72 = .ok (.iaload, 1) := by decide +kernel
theorem dX7_joins_73 : decode cX7_joins 73 = .ok (.goto 9, 3) := by decide +kernel
theorem dX7_joins_76 : decode cX7_joins 76 = .ok (.aload_n 0, 1) := by decide +kernel
theorem dX7_joins_77 : decode cX7_joins 77 = .ok (.getfield 40, 3) := by decide +kernel
theorem dX7_joins_80 : decode cX7_joins 80 = .ok (.iload_n 3, 1) := by decide +kernel
theorem dX7_joins_81 : decode cX7_joins 81 = .ok (.iaload, 1) := by decide +kernel
theorem dX7_joins_82 : decode cX7_joins 82 = .ok (.iastore, 1) := by decide +kernel
theorem dX7_joins_83 : decode cX7_joins 83 = .ok (.aload_n 0, 1) := by decide +kernel
theorem dX7_joins_84 : decode cX7_joins 84 = .ok (.getfield 43, 3) := by decide +kernel
theorem dX7_joins_87 : decode cX7_joins 87 = .ok (.iload_n 1, 1) := by decide +kernel
theorem dX7_joins_88 : decode cX7_joins 88 = .ok (.iconst 1, 1) := by decide +kernel
theorem dX7_joins_89 : decode cX7_joins 89 = .ok (.aload_n 0, 1) := by decide +kernel
theorem dX7_joins_90 : decode cX7_joins 90 = .ok (.getfield 43, 3) := by decide +kernel
theorem dX7_joins_93 : decode cX7_joins 93 = .ok (.iload_n 2, 1) := by decide +kernel
theorem dX7_joins_94 : decode cX7_joins 94 = .ok (.iaload, 1) := by decide +kernel
theorem dX7_joins_95 : decode cX7_joins 95 = .ok (.aload_n 0, 1) := by decide +kernel
theorem dX7_joins_96 : decode cX7_joins 96 = .ok (.getfield 43, 3) := by decide +kernel
theorem dX7_joins_99 : decode cX7_joins 99 = .ok (.iload_n 3, 1) := by decide +kernel
theorem dX7_joins_100 : decode cX7_joins 100 = .ok (.iaload, 1) := by decide +kernel
theorem dX7_joins_101 : decode cX7_joins 101 = .ok (.if_icmp .le 12, 3) := by decide +kernel
theorem dX7_joins_104 : decode cX7_joins 104 = .ok (.aload_n 0, 1) := by decide +kernel
theorem dX7_joins_105 : decode cX7_joins 105 = .ok (.getfield 43, 3) := by decide +kernel
theorem dX7_joins_108 : decode cX7_joins 108 = .ok (.iload_n 2, 1) := by decide +kernel
theorem dX7_joins_109 : decode cX7_joins 109 = .ok (.iaload, 1) := by decide +kernel
theorem dX7_joins_110 : decode cX7_joins 110 = .ok (.goto 9, 3) := by decide +kernel
theorem dX7_joins_113 : decode cX7_joins 113 = .ok (.aload_n 0, 1) := by decide +kernel
theorem dX7_joins_114 : decode cX7_joins 114 = .ok (.getfield 43, 3) := by decide +kernel
theorem dX7_joins_117 : decode cX7_joins 117 = .ok (.iload_n 3, 1) := by decide +kernel
theorem dX7_joins_118 : decode cX7_joins 118 = .ok (.iaload, 1) := by decide +kernel
theorem dX7_joins_119 : decode cX7_joins 119 = .ok (.iadd, 1) := by decide +kernel
theorem dX7_joins_120 : decode cX7_joins 120 = .ok (.iastore, 1) := by decide +kernel
theorem dX7_joins_121 : decode cX7_joins 121 = .ok (.aload_n 0, 1) := by decide +kernel
theorem dX7_joins_122 : decode cX7_joins 122 = .ok (.getfield 46, 3) := by decide +kernel
theorem dX7_joins_125 : decode cX7_joins 125 = .ok (.iload_n 2, 1) := by decide +kernel
theorem dX7_joins_126 : decode cX7_joins 126 = .ok (.iaload, 1) := by decide +kernel
theorem dX7_joins_127 : decode cX7_joins 127 = .ok (.i2l, 1) := by decide +kernel
theorem dX7_joins_128 : decode cX7_joins 128 = .ok (.lstore 4, 2) := by decide +kernel
theorem dX7_joins_130 : decode cX7_joins 130 = .ok (.aload_n 0, 1) := by decide +kernel
theorem dX7_joins_131 : decode cX7_joins 131 = .ok (.getfield 46, 3) := by decide +kernel
theorem dX7_joins_134 : decode cX7_joins 134 = .ok (.iload_n 3, 1) := by decide +kernel
theorem dX7_joins_135 : decode cX7_joins 135 = .ok (.iaload, 1) := by decide +kernel
theorem dX7_joins_136 : decode cX7_joins 136 = .ok (.i2l, 1) := by decide +kernel
theorem dX7_joins_137 : decode cX7_joins 137 = .ok (.lstore 6, 2) := by decide +kernel
theorem dX7_joins_139 : decode cX7_joins 139 = .ok (.aload_n 0, 1) := by decide +kernel
theorem dX7_joins_140 : decode cX7_joins 140 = .ok (.getfield 46, 3) := by decide +kernel
theorem dX7_joins_143 : decode cX7_joins 143 = .ok (.iload_n 1, 1) := by decide +kernel
theorem dX7_joins_144 : decode cX7_joins 144 = .ok (.aload_n 0, 1) := by decide +kernel
theorem dX7_joins_145 : decode cX7_joins 145 = .ok (.getfield 31, 3) := by decide +kernel
theorem dX7_joins_148 : decode cX7_joins 148 = .ok (.iload_n 1, 1) := by decide +kernel
theorem dX7_joins_149 : decode cX7_joins 149 = .ok (.iaload, 1) := by decide +kernel
theorem dX7_joins_150 : decode cX7_joins 150 = .ok (.iconst 4, 1) := by decide +kernel
theorem dX7_joins_151 : decode cX7_joins 151 = .ok (.if_icmp .ne 11, 3) := by decide +kernel
theorem dX7_joins_154 : decode cX7_joins 154 = .ok (.lload 4, 2) := by decide +kernel
theorem dX7_joins_156 : decode cX7_joins 156 = .ok (.lload 6, 2) := by decide +kernel
theorem dX7_joins_158 : decode cX7_joins 158 = .ok (.ladd, 1) := by decide +kernel
theorem dX7_joins_159 : decode cX7_joins 159 = .ok (.goto 26, 3) := by decide +kernel
theorem dX7_joins_162 : decode cX7_joins 162 = .ok (.aload_n 0, 1) := by decide +kernel
theorem dX7_joins_163 : decode cX7_joins 163 = .ok (.getfield 31, 3) := by decide +kernel
theorem dX7_joins_166 : decode cX7_joins 166 = .ok (.iload_n 1, 1) := by decide +kernel
theorem dX7_joins_167 : decode cX7_joins 167 = .ok (.iaload, 1) := by decide +kernel
theorem dX7_joins_168 : decode cX7_joins 168 = .ok (.iconst 5, 1) := by decide +kernel
theorem dX7_joins_169 : decode cX7_joins 169 = .ok (.if_icmp .ne 11, 3) := by decide +kernel
theorem dX7_joins_172 : decode cX7_joins 172 = .ok (.lload 4, 2) := by decide +kernel
theorem dX7_joins_174 : decode cX7_joins 174 = .ok (.lload 6, 2) := by decide +kernel
theorem dX7_joins_176 : decode cX7_joins 176 = .ok (.lsub, 1) := by decide +kernel
theorem dX7_joins_177 : decode cX7_joins 177 = .ok (.goto 8, 3) := by decide +kernel
theorem dX7_joins_180 : decode cX7_joins 180 = .ok (.lload 4, 2) := by decide +kernel
theorem dX7_joins_182 : decode cX7_joins 182 = .ok (.lload 6, 2) := by decide +kernel
theorem dX7_joins_184 : decode cX7_joins 184 = .ok (.lmul, 1) := by decide +kernel
theorem dX7_joins_185 : decode cX7_joins 185 = .ok (.invokestatic 180, 3) := by decide +kernel
theorem dX7_joins_188 : decode cX7_joins 188 = .ok (.iastore, 1) := by decide +kernel
theorem dX7_joins_189 : decode cX7_joins 189 = .ok (.return_, 1) := by decide +kernel
theorem dX7_lays_0 : decode cX7_lays 0 = .ok (.iconst 0, 1) := by decide +kernel
theorem dX7_lays_1 : decode cX7_lays 1 = .ok (.istore_n 1, 1) := by decide +kernel
theorem dX7_lays_2 : decode cX7_lays 2 = .ok (.iload_n 1, 1) := by decide +kernel
theorem dX7_lays_3 : decode cX7_lays 3 = .ok (.aload_n 0, 1) := by decide +kernel
theorem dX7_lays_4 : decode cX7_lays 4 = .ok (.getfield 7, 3) := by decide +kernel
theorem dX7_lays_7 : decode cX7_lays 7 = .ok (.iconst 0, 1) := by decide +kernel
theorem dX7_lays_8 : decode cX7_lays 8 = .ok (.iaload, 1) := by decide +kernel
theorem dX7_lays_9 : decode cX7_lays 9 = .ok (.if_icmp .ge 44, 3) := by decide +kernel
theorem dX7_lays_12 : decode cX7_lays 12 = .ok (.aload_n 0, 1) := by decide +kernel
theorem dX7_lays_13 : decode cX7_lays 13 = .ok (.iload_n 1, 1) := by decide +kernel
theorem dX7_lays_14 : decode cX7_lays 14 = .ok (.invokevirtual 184, 3) := by decide +kernel
theorem dX7_lays_17 : decode cX7_lays 17 = .ok (.aload_n 0, 1) := by decide +kernel
theorem dX7_lays_18 : decode cX7_lays 18 = .ok (.getfield 49, 3) := by decide +kernel
theorem dX7_lays_21 : decode cX7_lays 21 = .ok (.iload_n 1, 1) := by decide +kernel
theorem dX7_lays_22 : decode cX7_lays 22 = .ok (.iaload, 1) := by decide +kernel
theorem dX7_lays_23 : decode cX7_lays 23 = .ok (.iconst 1, 1) := by decide +kernel
theorem dX7_lays_24 : decode cX7_lays 24 = .ok (.isub, 1) := by decide +kernel
theorem dX7_lays_25 : decode cX7_lays 25 = .ok (.istore_n 2, 1) := by decide +kernel
theorem dX7_lays_26 : decode cX7_lays 26 = .ok (.iload_n 2, 1) := by decide +kernel
theorem dX7_lays_27 : decode cX7_lays 27 = .ok (.ifCond .lt 20, 3) := by decide +kernel
theorem dX7_lays_30 : decode cX7_lays 30 = .ok (.aload_n 0, 1) := by decide +kernel
theorem dX7_lays_31 : decode cX7_lays 31 = .ok (.iload_n 1, 1) := by decide +kernel
theorem dX7_lays_32 : decode cX7_lays 32 = .ok (.bipush 90, 2) := by decide +kernel
theorem dX7_lays_34 : decode cX7_lays 34 = .ok (.iload_n 1, 1) := by decide +kernel
theorem dX7_lays_35 : decode cX7_lays 35 = .ok (.imul, 1) := by decide +kernel
theorem dX7_lays_36 : decode cX7_lays 36 = .ok (.iload_n 2, 1) := by decide +kernel
theorem dX7_lays_37 : decode cX7_lays 37 = .ok (.iadd, 1) := by decide +kernel
theorem dX7_lays_38 : decode cX7_lays 38 = .ok (.invokevirtual 187, 3) := by decide +kernel
theorem dX7_lays_41 : decode cX7_lays 41 = .ok (.iinc 2 (-1), 3) := by decide +kernel
theorem dX7_lays_44 : decode cX7_lays 44 = .ok (.goto (-18), 3) := by decide +kernel
theorem dX7_lays_47 : decode cX7_lays 47 = .ok (.iinc 1 1, 3) := by decide +kernel
theorem dX7_lays_50 : decode cX7_lays 50 = .ok (.goto (-48), 3) := by decide +kernel
theorem dX7_lays_53 : decode cX7_lays 53 = .ok (.return_, 1) := by decide +kernel
theorem dX7_cheapOnes_0 : decode cX7_cheapOnes 0 = .ok (.iconst 0, 1) := by decide +kernel
theorem dX7_cheapOnes_1 : decode cX7_cheapOnes 1 = .ok (.istore_n 1, 1) := by decide +kernel
theorem dX7_cheapOnes_2 : decode cX7_cheapOnes 2 = .ok (.iconst 0, 1) := by decide +kernel
theorem dX7_cheapOnes_3 : decode cX7_cheapOnes 3 = .ok (.istore_n 2, 1) := by decide +kernel
theorem dX7_cheapOnes_4 : decode cX7_cheapOnes 4 = .ok (.iload_n 2, 1) := by decide +kernel
theorem dX7_cheapOnes_5 : decode cX7_cheapOnes 5 = .ok (.aload_n 0, 1) := by decide +kernel
theorem dX7_cheapOnes_6 : decode cX7_cheapOnes 6 = .ok (.getfield 7, 3) := by decide +kernel
theorem dX7_cheapOnes_9 : decode cX7_cheapOnes 9 = .ok (.iconst 0, 1) := by decide +kernel
theorem dX7_cheapOnes_10 : decode cX7_cheapOnes 10 = .ok (.iaload, 1) := by decide +kernel
theorem dX7_cheapOnes_11 : decode cX7_cheapOnes 11 = .ok (.if_icmp .ge 26, 3) := by decide +kernel
theorem dX7_cheapOnes_14 : decode cX7_cheapOnes 14 = .ok (.iload_n 1, 1) := by decide +kernel
theorem dX7_cheapOnes_15 : decode cX7_cheapOnes 15 = .ok (.aload_n 0, 1) := by decide +kernel
theorem dX7_cheapOnes_16 : decode cX7_cheapOnes 16 = .ok (.getfield 52, 3) := by decide +kernel
theorem dX7_cheapOnes_19 : decode cX7_cheapOnes 19 = .ok (.iload_n 2, 1) := by decide +kernel
theorem dX7_cheapOnes_20 : decode cX7_cheapOnes 20 = .ok (.baload, 1) := by decide +kernel
theorem dX7_cheapOnes_21 : decode cX7_cheapOnes 21 = .ok (.ifCond .eq 7, 3) := by decide +kernel
theorem dX7_cheapOnes_24 : decode cX7_cheapOnes 24 = .ok (.iconst 1, 1) := by decide +kernel
theorem dX7_cheapOnes_25 : decode cX7_cheapOnes 25 = .ok (.goto 4, 3) := by decide +kernel
theorem dX7_cheapOnes_28 : decode cX7_cheapOnes 28 = .ok (.iconst 0, 1) := by decide +kernel
theorem dX7_cheapOnes_29 : decode cX7_cheapOnes 29 = .ok (.iadd, 1) := by decide +kernel
theorem dX7_cheapOnes_30 : decode cX7_cheapOnes 30 = .ok (.istore_n 1, 1) := by decide +kernel
theorem dX7_cheapOnes_31 : decode cX7_cheapOnes 31 = .ok (.iinc 2 1, 3) := by decide +kernel
theorem dX7_cheapOnes_34 : decode cX7_cheapOnes 34 = .ok (.goto (-30), 3) := by decide +kernel
theorem dX7_cheapOnes_37 : decode cX7_cheapOnes 37 = .ok (.iload_n 1, 1) := by decide +kernel
theorem dX7_cheapOnes_38 : decode cX7_cheapOnes 38 = .ok (.ireturn, 1) := by decide +kernel
theorem dX7_greatestNeed_0 : decode cX7_greatestNeed 0 = .ok (.iconst 0, 1) := by decide +kernel
theorem dX7_greatestNeed_1 : decode cX7_greatestNeed 1 = .ok (.istore_n 1, 1) := by decide +kernel
theorem dX7_greatestNeed_2 : decode cX7_greatestNeed 2 = .ok (.iconst 0, 1) := by decide +kernel
theorem dX7_greatestNeed_3 : decode cX7_greatestNeed 3 = .ok (.istore_n 2, 1) := by decide +kernel
theorem dX7_greatestNeed_4 : decode cX7_greatestNeed 4 = .ok (.iload_n 2, 1) := by decide +kernel
theorem dX7_greatestNeed_5 : decode cX7_greatestNeed 5 = .ok (.aload_n 0, 1) := by decide +kernel
theorem dX7_greatestNeed_6 : decode cX7_greatestNeed 6 = .ok (.getfield 7, 3) := by decide +kernel
theorem dX7_greatestNeed_9 : decode cX7_greatestNeed 9 = .ok (.iconst 0, 1) := by decide +kernel
theorem dX7_greatestNeed_10 : decode cX7_greatestNeed 10 = .ok (.iaload, 1) := by decide +kernel
theorem dX7_greatestNeed_11 : decode cX7_greatestNeed 11 = .ok (.if_icmp .ge 45, 3) := by decide +kernel
theorem dX7_greatestNeed_14 : decode cX7_greatestNeed 14 = .ok (.aload_n 0, 1) := by decide +kernel
theorem dX7_greatestNeed_15 : decode cX7_greatestNeed 15 = .ok (.getfield 52, 3) := by decide +kernel
theorem dX7_greatestNeed_18 : decode cX7_greatestNeed 18 = .ok (.iload_n 2, 1) := by decide +kernel
theorem dX7_greatestNeed_19 : decode cX7_greatestNeed 19 = .ok (.baload, 1) := by decide +kernel
theorem dX7_greatestNeed_20 : decode cX7_greatestNeed 20 = .ok (.ifCond .ne 28, 3) := by decide +kernel
theorem dX7_greatestNeed_23 : decode cX7_greatestNeed 23 = .ok (.aload_n 0, 1) := by decide +kernel
theorem dX7_greatestNeed_24 : decode cX7_greatestNeed 24 = .ok (.getfield 40, 3) := by decide +kernel
theorem dX7_greatestNeed_27 : decode cX7_greatestNeed 27 = .ok (.bipush 90, 2) := by decide +kernel
theorem dX7_greatestNeed_29 : decode cX7_greatestNeed 29 = .ok (.iload_n 2, 1) := by decide +kernel
theorem dX7_greatestNeed_30 : decode cX7_greatestNeed 30 = .ok (.imul, 1) := by decide +kernel
theorem dX7_greatestNeed_31 : decode cX7_greatestNeed 31 = .ok (.iaload, 1) := by decide +kernel
theorem dX7_greatestNeed_32 : decode cX7_greatestNeed 32 = .ok (.iload_n 1, 1) := by decide +kernel
theorem dX7_greatestNeed_33 : decode cX7_greatestNeed 33 = .ok (.if_icmp .le 15, 3) := by decide +kernel
theorem dX7_greatestNeed_36 : decode cX7_greatestNeed 36 = .ok (.aload_n 0, 1) := by decide +kernel
theorem dX7_greatestNeed_37 : decode cX7_greatestNeed 37 = .ok (.getfield 40, 3) := by decide +kernel
theorem dX7_greatestNeed_40 : decode cX7_greatestNeed 40 = .ok (.bipush 90, 2) := by decide +kernel
theorem dX7_greatestNeed_42 : decode cX7_greatestNeed 42 = .ok (.iload_n 2, 1) := by decide +kernel
theorem dX7_greatestNeed_43 : decode cX7_greatestNeed 43 = .ok (.imul, 1) := by decide +kernel
theorem dX7_greatestNeed_44 : decode cX7_greatestNeed 44 = .ok (.iaload, 1) := by decide +kernel
theorem dX7_greatestNeed_45 : decode cX7_greatestNeed 45 = .ok (.goto 4, 3) := by decide +kernel
theorem dX7_greatestNeed_48 : decode cX7_greatestNeed 48 = .ok (.iload_n 1, 1) := by decide +kernel
theorem dX7_greatestNeed_49 : decode cX7_greatestNeed 49 = .ok (.istore_n 1, 1) := by decide +kernel
theorem dX7_greatestNeed_50 : decode cX7_greatestNeed 50 = .ok (.iinc 2 1, 3) := by decide +kernel
theorem dX7_greatestNeed_53 : decode cX7_greatestNeed 53 = .ok (.goto (-49), 3) := by decide +kernel
theorem dX7_greatestNeed_56 : decode cX7_greatestNeed 56 = .ok (.iload_n 1, 1) := by decide +kernel
theorem dX7_greatestNeed_57 : decode cX7_greatestNeed 57 = .ok (.ireturn, 1) := by decide +kernel
theorem dX7_count_0 : decode cX7_count 0 = .ok (.aload_n 0, 1) := by decide +kernel
theorem dX7_count_1 : decode cX7_count 1 = .ok (.invokevirtual 164, 3) := by decide +kernel
theorem dX7_count_4 : decode cX7_count 4 = .ok (.iload_n 1, 1) := by decide +kernel
theorem dX7_count_5 : decode cX7_count 5 = .ok (.tableswitch 111 0 6 #[43, 50, 55, 89, 96, 101, 106], 43) := by decide +kernel
theorem dX7_count_48 : decode cX7_count 48 = .ok (.aload_n 0, 1) := by decide +kernel
theorem dX7_count_49 : decode cX7_count 49 = .ok (.getfield 7, 3) := by decide +kernel
theorem dX7_count_52 : decode cX7_count 52 = .ok (.iconst 0, 1) := by decide +kernel
theorem dX7_count_53 : decode cX7_count 53 = .ok (.iaload, 1) := by decide +kernel
theorem dX7_count_54 : decode cX7_count 54 = .ok (.ireturn, 1) := by decide +kernel
theorem dX7_count_55 : decode cX7_count 55 = .ok (.aload_n 0, 1) := by decide +kernel
theorem dX7_count_56 : decode cX7_count 56 = .ok (.invokevirtual 191, 3) := by decide +kernel
theorem dX7_count_59 : decode cX7_count 59 = .ok (.ireturn, 1) := by decide +kernel
theorem dX7_count_60 : decode cX7_count 60 = .ok (.iconst 0, 1) := by decide +kernel
theorem dX7_count_61 : decode cX7_count 61 = .ok (.istore_n 2, 1) := by decide +kernel
theorem dX7_count_62 : decode cX7_count 62 = .ok (.iconst 0, 1) := by decide +kernel
theorem dX7_count_63 : decode cX7_count 63 = .ok (.istore_n 3, 1) := by decide +kernel
theorem dX7_count_64 : decode cX7_count 64 = .ok (.iload_n 3, 1) := by decide +kernel
theorem dX7_count_65 : decode cX7_count 65 = .ok (.aload_n 0, 1) := by decide +kernel
theorem dX7_count_66 : decode cX7_count 66 = .ok (.getfield 7, 3) := by decide +kernel
theorem dX7_count_69 : decode cX7_count 69 = .ok (.iconst 0, 1) := by decide +kernel
theorem dX7_count_70 : decode cX7_count 70 = .ok (.iaload, 1) := by decide +kernel
theorem dX7_count_71 : decode cX7_count 71 = .ok (.if_icmp .ge 21, 3) := by decide +kernel
theorem dX7_count_74 : decode cX7_count 74 = .ok (.iload_n 2, 1) := by decide +kernel
theorem dX7_count_75 : decode cX7_count 75 = .ok (.aload_n 0, 1) := by decide +kernel
theorem dX7_count_76 : decode cX7_count 76 = .ok (.getfield 7, 3) := by decide +kernel
theorem dX7_count_79 : decode cX7_count 79 = .ok (.bipush 10, 2) := by decide +kernel
theorem dX7_count_81 : decode cX7_count 81 = .ok (.iload_n 3, 1) := by decide +kernel
theorem dX7_count_82 : decode cX7_count 82 = .ok (.iadd, 1) := by decide +kernel
theorem dX7_count_83 : decode cX7_count 83 = .ok (.iaload, 1) := by decide +kernel
theorem dX7_count_84 : decode cX7_count 84 = .ok (.iadd, 1) := by decide +kernel
theorem dX7_count_85 : decode cX7_count 85 = .ok (.istore_n 2, 1) := by decide +kernel
theorem dX7_count_86 : decode cX7_count 86 = .ok (.iinc 3 1, 3) := by decide +kernel
theorem dX7_count_89 : decode cX7_count 89 = .ok (.goto (-25), 3) := by decide +kernel
theorem dX7_count_92 : decode cX7_count 92 = .ok (.iload_n 2, 1) := by decide +kernel
theorem dX7_count_93 : decode cX7_count 93 = .ok (.ireturn, 1) := by decide +kernel
theorem dX7_count_94 : decode cX7_count 94 = .ok (.aload_n 0, 1) := by decide +kernel
theorem dX7_count_95 : decode cX7_count 95 = .ok (.getfield 7, 3) := by decide +kernel
theorem dX7_count_98 : decode cX7_count 98 = .ok (.iconst 1, 1) := by decide +kernel
theorem dX7_count_99 : decode cX7_count 99 = .ok (.iaload, 1) := by decide +kernel
theorem dX7_count_100 : decode cX7_count 100 = .ok (.ireturn, 1) := by decide +kernel
theorem dX7_count_101 : decode cX7_count 101 = .ok (.aload_n 0, 1) := by decide +kernel
theorem dX7_count_102 : decode cX7_count 102 = .ok (.invokevirtual 194, 3) := by decide +kernel
theorem dX7_count_105 : decode cX7_count 105 = .ok (.ireturn, 1) := by decide +kernel
theorem dX7_count_106 : decode cX7_count 106 = .ok (.aload_n 0, 1) := by decide +kernel
theorem dX7_count_107 : decode cX7_count 107 = .ok (.getfield 71, 3) := by decide +kernel
theorem dX7_count_110 : decode cX7_count 110 = .ok (.ireturn, 1) := by decide +kernel
theorem dX7_count_111 : decode cX7_count 111 = .ok (.aload_n 0, 1) := by decide +kernel
theorem dX7_count_112 : decode cX7_count 112 = .ok (.getfield 80, 3) := by decide +kernel
theorem dX7_count_115 : decode cX7_count 115 = .ok (.ireturn, 1) := by decide +kernel
theorem dX7_count_116 : decode cX7_count 116 = .ok (.ldc 79, 2) := by decide +kernel
theorem dX7_count_118 : decode cX7_count 118 = .ok (.ireturn, 1) := by decide +kernel
theorem dX7_uses_0 : decode cX7_uses 0 = .ok (.iconst 0, 1) := by decide +kernel
theorem dX7_uses_1 : decode cX7_uses 1 = .ok (.istore_n 2, 1) := by decide +kernel
theorem dX7_uses_2 : decode cX7_uses 2 = .ok (.iconst 0, 1) := by decide +kernel
theorem dX7_uses_3 : decode cX7_uses 3 = .ok (.istore_n 3, 1) := by decide +kernel
theorem dX7_uses_4 : decode cX7_uses 4 = .ok (.iload_n 3, 1) := by decide +kernel
theorem dX7_uses_5 : decode cX7_uses 5 = .ok (.aload_n 0, 1) := by decide +kernel
theorem dX7_uses_6 : decode cX7_uses 6 = .ok (.getfield 7, 3) := by decide +kernel
theorem dX7_uses_9 : decode cX7_uses 9 = .ok (.iconst 0, 1) := by decide +kernel
theorem dX7_uses_10 : decode cX7_uses 10 = .ok (.iaload, 1) := by decide +kernel
theorem dX7_uses_11 : decode cX7_uses 11 = .ok (.if_icmp .ge 76, 3) := by decide +kernel
theorem dX7_uses_14 : decode cX7_uses 14 = .ok (.bipush 90, 2) := by decide +kernel
theorem dX7_uses_16 : decode cX7_uses 16 = .ok (.iload_n 3, 1) := by decide +kernel
theorem dX7_uses_17 : decode cX7_uses 17 = .ok (.imul, 1) := by decide +kernel
theorem dX7_uses_18 : decode cX7_uses 18 = .ok (.istore 4, 2) := by decide +kernel
theorem dX7_uses_20 : decode cX7_uses 20 = .ok (.iload 4, 2) := by decide +kernel
theorem dX7_uses_22 : decode cX7_uses 22 = .ok (.bipush 90, 2) := by decide +kernel
theorem dX7_uses_24 : decode cX7_uses 24 = .ok (.iload_n 3, 1) := by decide +kernel
theorem dX7_uses_25 : decode cX7_uses 25 = .ok (.imul, 1) := by decide +kernel
theorem dX7_uses_26 : decode cX7_uses 26 = .ok (.aload_n 0, 1) := by decide +kernel
theorem dX7_uses_27 : decode cX7_uses 27 = .ok (.getfield 49, 3) := by decide +kernel
theorem dX7_uses_30 : decode cX7_uses 30 = .ok (.iload_n 3, 1) := by decide +kernel
theorem dX7_uses_31 : decode cX7_uses 31 = .ok (.iaload, 1) := by decide +kernel
theorem dX7_uses_32 : decode cX7_uses 32 = .ok (.iadd, 1) := by decide +kernel
theorem dX7_uses_33 : decode cX7_uses 33 = .ok (.if_icmp .ge 48, 3) := by decide +kernel
theorem dX7_uses_36 : decode cX7_uses 36 = .ok (.aload_n 0, 1) := by decide +kernel
theorem dX7_uses_37 : decode cX7_uses 37 = .ok (.getfield 52, 3) := by decide +kernel
theorem dX7_uses_40 : decode cX7_uses 40 = .ok (.iload_n 3, 1) := by decide +kernel
theorem dX7_uses_41 : decode cX7_uses 41 = .ok (.baload, 1) := by decide +kernel
theorem dX7_uses_42 : decode cX7_uses 42 = .ok (.ifCond .ne 39, 3) := by decide +kernel
theorem dX7_uses_45 : decode cX7_uses 45 = .ok (.iload_n 2, 1) := by decide +kernel
theorem dX7_uses_46 : decode cX7_uses 46 = .ok (.aload_n 0, 1) := by decide +kernel
theorem dX7_uses_47 : decode cX7_uses 47 = .ok (.getfield 31, 3) := by decide +kernel
theorem dX7_uses_50 : decode cX7_uses 50 = .ok (.iload 4, 2) := by decide +kernel
theorem dX7_uses_52 : decode cX7_uses 52 = .ok (.iaload, 1) := by decide +kernel
theorem dX7_uses_53 : decode cX7_uses 53 = .ok (.iconst 2, 1) := by decide +kernel
theorem dX7_uses_54 : decode cX7_uses 54 = .ok (.if_icmp .ne 18, 3) := by decide +kernel
theorem dX7_uses_57 : decode cX7_uses 57 = .ok (.aload_n 0, 1) := by decide +kernel
theorem dX7_uses_58 : decode cX7_uses 58 = .ok (.getfield 34, 3) := by decide +kernel
theorem dX7_uses_61 : decode cX7_uses 61 = .ok (.iload 4, 2) := by decide +kernel
theorem dX7_uses_63 : decode cX7_uses 63 = .ok (.iaload, 1) := by decide +kernel
theorem dX7_uses_64 : decode cX7_uses 64 = .ok (.iload_n 1, 1) := by decide +kernel
theorem dX7_uses_65 : decode cX7_uses 65 = .ok (.if_icmp .ne 7, 3) := by decide +kernel
theorem dX7_uses_68 : decode cX7_uses 68 = .ok (.iconst 1, 1) := by decide +kernel
theorem dX7_uses_69 : decode cX7_uses 69 = .ok (.goto 4, 3) := by decide +kernel
theorem dX7_uses_72 : decode cX7_uses 72 = .ok (.iconst 0, 1) := by decide +kernel
theorem dX7_uses_73 : decode cX7_uses 73 = .ok (.iadd, 1) := by decide +kernel
theorem dX7_uses_74 : decode cX7_uses 74 = .ok (.istore_n 2, 1) := by decide +kernel
theorem dX7_uses_75 : decode cX7_uses 75 = .ok (.iinc 4 1, 3) := by decide +kernel
theorem dX7_uses_78 : decode cX7_uses 78 = .ok (.goto (-58), 3) := by decide +kernel
