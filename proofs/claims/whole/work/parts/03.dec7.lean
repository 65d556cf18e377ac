theorem dX7_uses_81 : decode cX7_uses 81 = .ok (.iinc 3 1, 3) := by decide +kernel
theorem dX7_uses_84 : decode cX7_uses 84 = .ok (.goto (-80), 3) := by decide +kernel
theorem dX7_uses_87 : decode cX7_uses 87 = .ok (.iload_n 2, 1) := by decide +kernel
theorem dX7_uses_88 : decode cX7_uses 88 = .ok (.ireturn, 1) := by decide +kernel
theorem dX7_formula_0 : decode cX7_formula 0 = .ok (.aload_n 0, 1) := by decide +kernel
theorem dX7_formula_1 : decode cX7_formula 1 = .ok (.iload_n 1, 1) := by decide +kernel
theorem dX7_formula_2 : decode cX7_formula 2 = .ok (.invokevirtual 156, 3) := by decide +kernel
theorem dX7_formula_5 : decode cX7_formula 5 = .ok (.ifCond .eq 13, 3) := by decide +kernel
theorem dX7_formula_8 : decode cX7_formula 8 = .ok (.iload_n 2, 1) := by decide +kernel
theorem dX7_formula_9 : decode cX7_formula 9 = .ok (.iconst 0, 1) := by decide +kernel
theorem dX7_formula_10 : decode cX7_formula 10 = .ok (.bipush 6, 2) := by decide +kernel
theorem dX7_formula_12 : decode cX7_formula 12 = .ok (.invokestatic 75, 3) := by decide +kernel
theorem dX7_formula_15 : decode cX7_formula 15 = .ok (.ifCond .ne 6, 3) := by decide +kernel
theorem dX7_formula_18 : decode cX7_formula 18 = .ok (.ldc 79, 2) := by decide +kernel
theorem dX7_formula_20 : decode cX7_formula 20 = .ok (.ireturn, 1) := by decide +kernel
theorem dX7_formula_21 : decode cX7_formula 21 = .ok (.aload_n 0, 1) := by decide +kernel
theorem dX7_formula_22 : decode cX7_formula 22 = .ok (.invokevirtual 164, 3) := by decide +kernel
theorem dX7_formula_25 : decode cX7_formula 25 = .ok (.iload_n 2, 1) := by decide +kernel
theorem dX7_formula_26 : decode cX7_formula 26 = .ok (.tableswitch 100 0 5 #[38, 48, 55, 65, 80, 90], 38) := by decide +kernel
theorem dX7_formula_64 : decode cX7_formula 64 = .ok (.aload_n 0, 1) := by decide +kernel
theorem dX7_formula_65 : decode cX7_formula 65 = .ok (.getfield 7, 3) := by decide +kernel
theorem dX7_formula_68 : decode cX7_formula 68 = .ok (.bipush 10, 2) := by decide +kernel
theorem dX7_formula_70 : decode cX7_formula 70 = .ok (.iload_n 1, 1) := by decide +kernel
theorem dX7_formula_71 : decode cX7_formula 71 = .ok (.iadd, 1) := by decide +kernel
theorem dX7_formula_72 : decode cX7_formula 72 = .ok (.iaload, 1) := by decide +kernel
theorem dX7_formula_73 : decode cX7_formula 73 = .ok (.ireturn, 1) := by decide +kernel
theorem dX7_formula_74 : decode cX7_formula 74 = .ok (.aload_n 0, 1) := by decide +kernel
theorem dX7_formula_75 : decode cX7_formula 75 = .ok (.getfield 49, 3) := by decide +kernel
theorem dX7_formula_78 : decode cX7_formula 78 = .ok (.iload_n 1, 1) := by decide +kernel
theorem dX7_formula_79 : decode cX7_formula 79 = .ok (.iaload, 1) := by decide +kernel
theorem dX7_formula_80 : decode cX7_formula 80 = .ok (.ireturn, 1) := by decide +kernel
theorem dX7_formula_81 : decode cX7_formula 81 = .ok (.aload_n 0, 1) := by decide +kernel
theorem dX7_formula_82 : decode cX7_formula 82 = .ok (.getfield 40, 3) := by decide +kernel
theorem dX7_formula_85 : decode cX7_formula 85 = .ok (.bipush 90, 2) := by decide +kernel
theorem dX7_formula_87 : decode cX7_formula 87 = .ok (.iload_n 1, 1) := by decide +kernel
theorem dX7_formula_88 : decode cX7_formula 88 = .ok (.imul, 1) := by decide +kernel
theorem dX7_formula_89 : decode cX7_formula 89 = .ok (.iaload, 1) := by decide +kernel
theorem dX7_formula_90 : decode cX7_formula 90 = .ok (.ireturn, 1) := by decide +kernel
theorem dX7_formula_91 : decode cX7_formula 91 = .ok (.aload_n 0, 1) := by decide +kernel
theorem dX7_formula_92 : decode cX7_formula 92 = .ok (.getfield 52, 3) := by decide +kernel
theorem dX7_formula_95 : decode cX7_formula 95 = .ok (.iload_n 1, 1) := by decide +kernel
theorem dX7_formula_96 : decode cX7_formula 96 = .ok (.baload, 1) := by decide +kernel
theorem dX7_formula_97 : decode cX7_formula 97 = .ok (.ifCond .eq 7, 3) := by decide +kernel
theorem dX7_formula_100 : decode cX7_formula 100 = .ok (.iconst 1, 1) := by decide +kernel
theorem dX7_formula_101 : decode cX7_formula 101 = .ok (.goto 4, 3) := by decide +kernel
theorem dX7_formula_104 : decode cX7_formula 104 = .ok (.iconst 0, 1) := by decide +kernel
theorem dX7_formula_105 : decode cX7_formula 105 = .ok (.ireturn, 1) := by decide +kernel
theorem dX7_formula_106 : decode cX7_formula 106 = .ok (.aload_n 0, 1) := by decide +kernel
theorem dX7_formula_107 : decode cX7_formula 107 = .ok (.getfield 46, 3) := by decide +kernel
theorem dX7_formula_110 : decode cX7_formula 110 = .ok (.bipush 90, 2) := by decide +kernel
theorem dX7_formula_112 : decode cX7_formula 112 = .ok (.iload_n 1, 1) := by decide +kernel
theorem dX7_formula_113 : decode cX7_formula 113 = .ok (.imul, 1) := by decide +kernel
theorem dX7_formula_114 : decode cX7_formula 114 = .ok (.iaload, 1) := by decide +kernel
theorem dX7_formula_115 : decode cX7_formula 115 = .ok (.ireturn, 1) := by decide +kernel
theorem dX7_formula_116 : decode cX7_formula 116 = .ok (.aload_n 0, 1) := by decide +kernel
theorem dX7_formula_117 : decode cX7_formula 117 = .ok (.getfield 43, 3) := by decide +kernel
theorem dX7_formula_120 : decode cX7_formula 120 = .ok (.bipush 90, 2) := by decide +kernel
theorem dX7_formula_122 : decode cX7_formula 122 = .ok (.iload_n 1, 1) := by decide +kernel
theorem dX7_formula_123 : decode cX7_formula 123 = .ok (.imul, 1) := by decide +kernel
theorem dX7_formula_124 : decode cX7_formula 124 = .ok (.iaload, 1) := by decide +kernel
theorem dX7_formula_125 : decode cX7_formula 125 = .ok (.ireturn, 1) := by decide +kernel
theorem dX7_formula_126 : decode cX7_formula 126 = .ok (.aload_n 0, 1) := by decide +kernel
theorem dX7_formula_127 : decode cX7_formula 127 = .ok (.iload_n 1, 1) := by decide +kernel
theorem dX7_formula_128 : decode cX7_formula 128 = .ok (.invokevirtual 197, 3) := by decide +kernel
theorem dX7_formula_131 : decode cX7_formula 131 = .ok (.ireturn, 1) := by decide +kernel
theorem dX7_node_0 : decode cX7_node 0 = .ok (.aload_n 0, 1) := by decide +kernel
theorem dX7_node_1 : decode cX7_node 1 = .ok (.invokevirtual 164, 3) := by decide +kernel
theorem dX7_node_4 : decode cX7_node 4 = .ok (.aload_n 0, 1) := by decide +kernel
theorem dX7_node_5 : decode cX7_node 5 = .ok (.iload_n 1, 1) := by decide +kernel
theorem dX7_node_6 : decode cX7_node 6 = .ok (.invokevirtual 156, 3) := by decide +kernel
theorem dX7_node_9 : decode cX7_node 9 = .ok (.ifCond .eq 29, 3) := by decide +kernel
theorem dX7_node_12 : decode cX7_node 12 = .ok (.iload_n 2, 1) := by decide +kernel
theorem dX7_node_13 : decode cX7_node 13 = .ok (.iconst 0, 1) := by decide +kernel
theorem dX7_node_14 : decode cX7_node 14 = .ok (.aload_n 0, 1) := by decide +kernel
theorem dX7_node_15 : decode cX7_node 15 = .ok (.getfield 49, 3) := by decide +kernel
theorem dX7_node_18 : decode cX7_node 18 = .ok (.iload_n 1, 1) := by decide +kernel
theorem dX7_node_19 : decode cX7_node 19 = .ok (.iaload, 1) := by decide +kernel
theorem dX7_node_20 : decode cX7_node 20 = .ok (.iconst 1, 1) := by decide +kernel
theorem dX7_node_21 : decode cX7_node 21 = .ok (.isub, 1) := by decide +kernel
theorem dX7_node_22 : decode cX7_node 22 = .ok (.invokestatic 75, 3) := by decide +kernel
theorem dX7_node_25 : decode cX7_node 25 = .ok (.ifCond .eq 13, 3) := by decide +kernel
theorem dX7_node_28 : decode cX7_node 28 = .ok (.iload_n 3, 1) := by decide +kernel
theorem dX7_node_29 : decode cX7_node 29 = .ok (.iconst 0, 1) := by decide +kernel
theorem dX7_node_30 : decode cX7_node 30 = .ok (.bipush 6, 2) := by decide +kernel
theorem dX7_node_32 : decode cX7_node 32 = .ok (.invokestatic 75, 3) := by decide +kernel
theorem dX7_node_35 : decode cX7_node 35 = .ok (.ifCond .ne 6, 3) := by decide +kernel
theorem dX7_node_38 : decode cX7_node 38 = .ok (.ldc 79, 2) := by decide +kernel
theorem dX7_node_40 : decode cX7_node 40 = .ok (.ireturn, 1) := by decide +kernel
theorem dX7_node_41 : decode cX7_node 41 = .ok (.bipush 90, 2) := by decide +kernel
theorem dX7_node_43 : decode cX7_node 43 = .ok (.iload_n 1, 1) := by decide +kernel
theorem dX7_node_44 : decode cX7_node 44 = .ok (.imul, 1) := by decide +kernel
theorem dX7_node_45 : decode cX7_node 45 = .ok (.iload_n 2, 1) := by decide +kernel
theorem dX7_node_46 : decode cX7_node 46 = .ok (.iadd, 1) := by decide +kernel
theorem dX7_node_47 : decode cX7_node 47 = .ok (.istore 4, 2) := by decide +kernel
theorem dX7_node_49 : decode cX7_node 49 = .ok (.iload_n 3, 1) := by decide +kernel
theorem dX7_node_50 : decode cX7_node 50 = .ok (.tableswitch 136 0 5 #[38, 46, 70, 90, 120, 128], 38) := by decide +kernel
theorem dX7_node_88 : decode cX7_node 88 = .ok (.aload_n 0, 1) := by decide +kernel
theorem dX7_node_89 : decode cX7_node 89 = .ok (.getfield 31, 3) := by decide +kernel
theorem dX7_node_92 : decode cX7_node 92 = .ok (.iload 4, 2) := by decide +kernel
theorem dX7_node_94 : decode cX7_node 94 = .ok (.iaload, 1) := by decide +kernel
theorem dX7_node_95 : decode cX7_node 95 = .ok (.ireturn, 1) := by decide +kernel
theorem dX7_node_96 : decode cX7_node 96 = .ok (.aload_n 0, 1) := by decide +kernel
theorem dX7_node_97 : decode cX7_node 97 = .ok (.getfield 31, 3) := by decide +kernel
theorem dX7_node_100 : decode cX7_node 100 = .ok (.iload 4, 2) := by decide +kernel
theorem dX7_node_102 : decode cX7_node 102 = .ok (.iaload, 1) := by decide +kernel
theorem dX7_node_103 : decode cX7_node 103 = .ok (.iconst 3, 1) := by decide +kernel
theorem dX7_node_104 : decode cX7_node 104 = .ok (.if_icmp .ge 13, 3) := by decide +kernel
theorem dX7_node_107 : decode cX7_node 107 = .ok (.aload_n 0, 1) := by decide +kernel
theorem dX7_node_108 : decode cX7_node 108 = .ok (.getfield 34, 3) := by decide +kernel
theorem dX7_node_111 : decode cX7_node 111 = .ok (.iload 4, 2) := by decide +kernel
theorem dX7_node_113 : decode cX7_node 113 = .ok (.iaload, 1) := by decide +kernel
theorem dX7_node_114 : decode cX7_node 114 = .ok (.goto 5, 3) := by decide +kernel
theorem dX7_node_117 : decode cX7_node 117 = .ok (.ldc 87, 2) := by decide +kernel
theorem dX7_node_119 : decode cX7_node 119 = .ok (.ireturn, 1) := by decide +kernel
theorem dX7_node_120 : decode cX7_node 120 = .ok (.aload_n 0, 1) := by decide +kernel
theorem dX7_node_121 : decode cX7_node 121 = .ok (.getfield 31, 3) := by decide +kernel
theorem dX7_node_124 : decode cX7_node 124 = .ok (.iload 4, 2) := by decide +kernel
theorem dX7_node_126 : decode cX7_node 126 = .ok (.iaload, 1) := by decide +kernel
theorem dX7_node_127 : decode cX7_node 127 = .ok (.iconst 3, 1) := by decide +kernel
theorem dX7_node_128 : decode cX7_node 128 = .ok (.if_icmp .ge 8, 3) := by decide +kernel
theorem dX7_node_131 : decode cX7_node 131 = .ok (.ldc 87, 2) := by decide +kernel
theorem dX7_node_133 : decode cX7_node 133 = .ok (.goto 6, 3) := by decide +kernel
theorem dX7_node_136 : decode cX7_node 136 = .ok (.iload_n 2, 1) := by decide +kernel
theorem dX7_node_137 : decode cX7_node 137 = .ok (.iconst 1, 1) := by decide +kernel
theorem dX7_node_138 : decode cX7_node 138 = .ok (.iadd, 1) := by decide +kernel
theorem dX7_node_139 : decode cX7_node 139 = .ok (.ireturn, 1) := by decide +kernel
theorem dX7_node_140 : decode cX7_node 140 = .ok (.aload_n 0, 1) := by decide +kernel
theorem dX7_node_141 : decode cX7_node 141 = .ok (.getfield 31, 3) := by decide +kernel
theorem dX7_node_144 : decode cX7_node 144 = .ok (.iload 4, 2) := by decide +kernel
theorem dX7_node_146 : decode cX7_node 146 = .ok (.iaload, 1) := by decide +kernel
theorem dX7_node_147 : decode cX7_node 147 = .ok (.iconst 3, 1) := by decide +kernel
theorem dX7_node_148 : decode cX7_node 148 = .ok (.if_icmp .gt 8, 3) := by decide +kernel
theorem dX7_node_151 : decode cX7_node 151 = .ok (.ldc 87, 2) := by decide +kernel
theorem dX7_node_153 : decode cX7_node 153 = .ok (.goto 16, 3) := by decide +kernel
theorem dX7_node_156 : decode cX7_node 156 = .ok (.iload_n 2, 1) := by decide +kernel
theorem dX7_node_157 : decode cX7_node 157 = .ok (.iconst 1, 1) := by decide +kernel
theorem dX7_node_158 : decode cX7_node 158 = .ok (.iadd, 1) := by decide +kernel
theorem dX7_node_159 : decode cX7_node 159 = .ok (.aload_n 0, 1) := by decide +kernel
theorem dX7_node_160 : decode cX7_node 160 = .ok (.getfield 37, 3) := by decide +kernel
theorem dX7_node_163 : decode cX7_node 163 = .ok (.iload 4, 2) := by decide +kernel
theorem dX7_node_165 : decode cX7_node 165 = .ok (.iconst 1, 1) := by decide +kernel
theorem dX7_node_166 : decode cX7_node 166 = .ok (.iadd, 1) := by decide +kernel
theorem dX7_node_167 : decode cX7_node 167 = .ok (.iaload, 1) := by decide +kernel
theorem dX7_node_168 : decode cX7_node 168 = .ok (.iadd, 1) := by decide +kernel
theorem dX7_node_169 : decode cX7_node 169 = .ok (.ireturn, 1) := by decide +kernel
theorem dX7_node_170 : decode cX7_node 170 = .ok (.aload_n 0, 1) := by decide +kernel
theorem dX7_node_171 : decode cX7_node 171 = .ok (.getfield 40, 3) := by decide +kernel
theorem dX7_node_174 : decode cX7_node 174 = .ok (.iload 4, 2) := by decide +kernel
theorem dX7_node_176 : decode cX7_node 176 = .ok (.iaload, 1) := by decide +kernel
theorem dX7_node_177 : decode cX7_node 177 = .ok (.ireturn, 1) := by decide +kernel
theorem dX7_node_178 : decode cX7_node 178 = .ok (.aload_n 0, 1) := by decide +kernel
theorem dX7_node_179 : decode cX7_node 179 = .ok (.getfield 37, 3) := by decide +kernel
theorem dX7_node_182 : decode cX7_node 182 = .ok (.iload 4, 2) := by decide +kernel
theorem dX7_node_184 : decode cX7_node 184 = .ok (.iaload, 1) := by decide +kernel
theorem dX7_node_185 : decode cX7_node 185 = .ok (.ireturn, 1) := by decide +kernel
theorem dX7_node_186 : decode cX7_node 186 = .ok (.aload_n 0, 1) := by decide +kernel
theorem dX7_node_187 : decode cX7_node 187 = .ok (.getfield 46, 3) := by decide +kernel
theorem dX7_node_190 : decode cX7_node 190 = .ok (.iload 4, 2) := by decide +kernel
theorem dX7_node_192 : decode cX7_node 192 = .ok (.iaload, 1) := by decide +kernel
theorem dX7_node_193 : decode cX7_node 193 = .ok (.ireturn, 1) := by decide +kernel
theorem dX7_cell_0 : decode cX7_cell 0 = .ok (.iload_n 1, 1) := by decide +kernel
theorem dX7_cell_1 : decode cX7_cell 1 = .ok (.invokestatic 167, 3) := by decide +kernel
theorem dX7_cell_4 : decode cX7_cell 4 = .ok (.ifCond .eq 14, 3) := by decide +kernel
theorem dX7_cell_7 : decode cX7_cell 7 = .ok (.aload_n 0, 1) := by decide +kernel
theorem dX7_cell_8 : decode cX7_cell 8 = .ok (.getfield 7, 3) := by decide +kernel
theorem dX7_cell_11 : decode cX7_cell 11 = .ok (.iconst 2, 1) := by decide +kernel
theorem dX7_cell_12 : decode cX7_cell 12 = .ok (.iload_n 1, 1) := by decide +kernel
theorem dX7_cell_13 : decode cX7_cell 13 = .ok (.iadd, 1) := by decide +kernel
theorem dX7_cell_14 : decode cX7_cell 14 = .ok (.iaload, 1) := by decide +kernel
theorem dX7_cell_15 : decode cX7_cell 15 = .ok (.goto 5, 3) := by decide +kernel
theorem dX7_cell_18 : decode cX7_cell 18 = .ok (.ldc 79, 2) := by decide +kernel
theorem dX7_cell_20 : decode cX7_cell 20 = .ok (.ireturn, 1) := by decide +kernel
theorem dX7_does_0 : decode cX7_does 0 = .ok (.aload_n 0, 1) := by decide +kernel
theorem dX7_does_1 : decode cX7_does 1 = .ok (.dup, 1) := by decide +kernel
theorem dX7_does_2 : decode cX7_does 2 = .ok (.getfield 200, 3) := by decide +kernel
theorem dX7_does_5 : decode cX7_does 5 = .ok (.iload 4, 2) := by decide +kernel
theorem dX7_does_7 : decode cX7_does 7 = .ok (.iadd, 1) := by decide +kernel
theorem dX7_does_8 : decode cX7_does 8 = .ok (.putfield 200, 3) := by decide +kernel
theorem dX7_does_11 : decode cX7_does 11 = .ok (.aload_n 0, 1) := by decide +kernel
theorem dX7_does_12 : decode cX7_does 12 = .ok (.getfield 203, 3) := by decide +kernel
theorem dX7_does_15 : decode cX7_does 15 = .ok (.aload_n 0, 1) := by decide +kernel
theorem dX7_does_16 : decode cX7_does 16 = .ok (.getfield 206, 3) := by decide +kernel
theorem dX7_does_19 : decode cX7_does 19 = .ok (.if_icmp .ne 37, 3) := by decide +kernel
theorem dX7_does_22 : decode cX7_does 22 = .ok (.aload_n 0, 1) := by decide +kernel
theorem dX7_does_23 : decode cX7_does 23 = .ok (.getfield 56, 3) := by decide +kernel
theorem dX7_does_26 : decode cX7_does 26 = .ok (.iconst 0, 1) := by decide +kernel
theorem dX7_does_27 : decode cX7_does 27 = .ok (.iload_n 1, 1) := by decide +kernel
theorem dX7_does_28 : decode cX7_does 28 = .ok (.iastore, 1) := by decide +kernel
theorem dX7_does_29 : decode cX7_does 29 = .ok (.aload_n 0, 1) := by decide +kernel
theorem dX7_does_30 : decode cX7_does 30 = .ok (.getfield 56, 3) := by decide +kernel
theorem dX7_does_33 : decode cX7_does 33 = .ok (.iconst 1, 1) := by decide +kernel
theorem dX7_does_34 : decode cX7_does 34 = .ok (.aload_n 0, 1) := by decide +kernel
theorem dX7_does_35 : decode cX7_does 35 = .ok (.getfield 209, 3) := by decide +kernel
theorem dX7_does_38 : decode cX7_does 38 = .ok (.iastore, 1) := by decide +kernel
theorem dX7_does_39 : decode cX7_does 39 = .ok (.aload_n 0, 1) := by decide +kernel
theorem dX7_does_40 : decode cX7_does 40 = .ok (.getfield 56, 3) := by decide +kernel
theorem dX7_does_43 : decode cX7_does 43 = .ok (.iconst 2, 1) := by decide +kernel
theorem dX7_does_44 : decode cX7_does 44 = .ok (.iload_n 2, 1) := by decide +kernel
theorem dX7_does_45 : decode cX7_does 45 = .ok (.iastore, 1) := by decide +kernel
theorem dX7_does_46 : decode cX7_does 46 = .ok (.aload_n 0, 1) := by decide +kernel
theorem dX7_does_47 : decode cX7_does 47 = .ok (.getfield 56, 3) := by decide +kernel
theorem dX7_does_50 : decode cX7_does 50 = .ok (.iconst 3, 1) := by decide +kernel
theorem dX7_does_51 : decode cX7_does 51 = .ok (.aload_n 0, 1) := by decide +kernel
theorem dX7_does_52 : decode cX7_does 52 = .ok (.getfield 200, 3) := by decide +kernel
theorem dX7_does_55 : decode cX7_does 55 = .ok (.iastore, 1) := by decide +kernel
theorem dX7_does_56 : decode cX7_does 56 = .ok (.aload_n 0, 1) := by decide +kernel
theorem dX7_does_57 : decode cX7_does 57 = .ok (.dup, 1) := by decide +kernel
theorem dX7_does_58 : decode cX7_does 58 = .ok (.getfield 203, 3) := by decide +kernel
theorem dX7_does_61 : decode cX7_does 61 = .ok (.iconst 1, 1) := by decide +kernel
theorem dX7_does_62 : decode cX7_does 62 = .ok (.iadd, 1) := by decide +kernel
theorem dX7_does_63 : decode cX7_does 63 = .ok (.putfield 203, 3) := by decide +kernel
theorem dX7_does_66 : decode cX7_does 66 = .ok (.aload_n 0, 1) := by decide +kernel
theorem dX7_does_67 : decode cX7_does 67 = .ok (.dup, 1) := by decide +kernel
theorem dX7_does_68 : decode cX7_does 68 = .ok (.getfield 212, 3) := by decide +kernel
theorem dX7_does_71 : decode cX7_does 71 = .ok (.iload_n 3, 1) := by decide +kernel
theorem dX7_does_72 : decode cX7_does 72 = .ok (.iadd, 1) := by decide +kernel
theorem dX7_does_73 : decode cX7_does 73 = .ok (.putfield 212, 3) := by decide +kernel
theorem dX7_does_76 : decode cX7_does 76 = .ok (.aload_n 0, 1) := by decide +kernel
theorem dX7_does_77 : decode cX7_does 77 = .ok (.dup, 1) := by decide +kernel
theorem dX7_does_78 : decode cX7_does 78 = .ok (.getfield 215, 3) := by decide +kernel
theorem dX7_does_81 : decode cX7_does 81 = .ok (.iload_n 1, 1) := by decide +kernel
theorem dX7_does_82 : decode cX7_does 82 = .ok (.iconst 2, 1) := by decide +kernel
theorem dX7_does_83 : decode cX7_does 83 = .ok (.if_icmp .ne 7, 3) := by decide +kernel
theorem dX7_does_86 : decode cX7_does 86 = .ok (.iconst 1, 1) := by decide +kernel
theorem dX7_does_87 : decode cX7_does 87 = .ok (.goto 4, 3) := by decide +kernel
theorem dX7_does_90 : decode cX7_does 90 = .ok (.iconst 0, 1) := by decide +kernel
theorem dX7_does_91 : decode cX7_does 91 = .ok (.iadd, 1) := by decide +kernel
theorem dX7_does_92 : decode cX7_does 92 = .ok (.putfield 215, 3) := by decide +kernel
theorem dX7_does_95 : decode cX7_does 95 = .ok (.aload_n 0, 1) := by decide +kernel
theorem dX7_does_96 : decode cX7_does 96 = .ok (.dup, 1) := by decide +kernel
theorem dX7_does_97 : decode cX7_does 97 = .ok (.getfield 218, 3) := by decide +kernel
theorem dX7_does_100 : decode cX7_does 100 = .ok (.iload_n 1, 1) := by decide +kernel
theorem dX7_does_101 : decode cX7_does 101 = .ok (.iconst 5, 1) := by decide +kernel
theorem dX7_does_102 : decode cX7_does 102 = .ok (.if_icmp .ne 7, 3) := by decide +kernel
theorem dX7_does_105 : decode cX7_does 105 = .ok (.iconst 1, 1) := by decide +kernel
theorem dX7_does_106 : decode cX7_does 106 = .ok (.goto 4, 3) := by decide +kernel
theorem dX7_does_109 : decode cX7_does 109 = .ok (.iconst 0, 1) := by decide +kernel
theorem dX7_does_110 : decode cX7_does 110 = .ok (.iadd, 1) := by decide +kernel
theorem dX7_does_111 : decode cX7_does 111 = .ok (.putfield 218, 3) := by decide +kernel
theorem dX7_does_114 : decode cX7_does 114 = .ok (.aload_n 0, 1) := by decide +kernel
theorem dX7_does_115 : decode cX7_does 115 = .ok (.dup, 1) := by decide +kernel
theorem dX7_does_116 : decode cX7_does 116 = .ok (.getfield 221, 3) := by decide +kernel
theorem dX7_does_119 : decode cX7_does 119 = .ok (.iload_n 1, 1) := by decide +kernel
theorem dX7_does_120 : decode cX7_does 120 = .ok (.iconst 1, 1) := by decide +kernel
theorem dX7_does_121 : decode cX7_does 121 = .ok (.if_icmp .ne 7, 3) := by decide +kernel
theorem dX7_does_124 : decode cX7_does 124 = .ok (.iload_n 3, 1) := by decide +kernel
theorem dX7_does_125 : decode cX7_does 125 = .ok (.goto 4, 3) := by decide +kernel
theorem dX7_does_128 : decode cX7_does 128 = .ok (.iconst 0, 1) := by decide +kernel
theorem dX7_does_129 : decode cX7_does 129 = .ok (.iadd, 1) := by decide +kernel
theorem dX7_does_130 : decode cX7_does 130 = .ok (.putfield 221, 3) := by decide +kernel
theorem dX7_does_133 : decode cX7_does 133 = .ok (.return_, 1) := by decide +kernel
theorem dX7_pushes_0 : decode cX7_pushes 0 = .ok (.aload_n 0, 1) := by decide +kernel
theorem dX7_pushes_1 : decode cX7_pushes 1 = .ok (.getfield 59, 3) := by decide +kernel
theorem dX7_pushes_4 : decode cX7_pushes 4 = .ok (.aload_n 0, 1) := by decide +kernel
theorem dX7_pushes_5 : decode cX7_pushes 5 = .ok (.getfield 224, 3) := by decide +kernel
theorem dX7_pushes_8 : decode cX7_pushes 8 = .ok (.iload_n 1, 1) := by decide +kernel
theorem dX7_pushes_9 : decode cX7_pushes 9 = .ok (.iastore, 1) := by decide +kernel
theorem dX7_pushes_10 : decode cX7_pushes 10 = .ok (.aload_n 0, 1) := by decide +kernel
theorem dX7_pushes_11 : decode cX7_pushes 11 = .ok (.getfield 62, 3) := by decide +kernel
theorem dX7_pushes_14 : decode cX7_pushes 14 = .ok (.aload_n 0, 1) := by decide +kernel
theorem dX7_pushes_15 : decode cX7_pushes 15 = .ok (.getfield 224, 3) := by decide +kernel
theorem dX7_pushes_18 : decode cX7_pushes 18 = .ok (.iload_n 2, 1) := by decide +kernel
theorem dX7_pushes_19 : decode cX7_pushes 19 = .ok (.iastore, 1) := by decide +kernel
theorem dX7_pushes_20 : decode cX7_pushes 20 = .ok (.aload_n 0, 1) := by decide +kernel
theorem dX7_pushes_21 : decode cX7_pushes 21 = .ok (.getfield 65, 3) := by decide +kernel
theorem dX7_pushes_24 : decode cX7_pushes 24 = .ok (.aload_n 0, 1) := by decide +kernel
theorem dX7_pushes_25 : decode cX7_pushes 25 = .ok (.getfield 224, 3) := by decide +kernel
theorem dX7_pushes_28 : decode cX7_pushes 28 = .ok (.iconst 0, 1) := by decide +kernel
theorem dX7_pushes_29 : decode cX7_pushes 29 = .ok (.iastore, 1) := by decide +kernel
theorem dX7_pushes_30 : decode cX7_pushes 30 = .ok (.aload_n 0, 1) := by decide +kernel
theorem dX7_pushes_31 : decode cX7_pushes 31 = .ok (.dup, 1) := by decide +kernel
theorem dX7_pushes_32 : decode cX7_pushes 32 = .ok (.getfield 224, 3) := by decide +kernel
theorem dX7_pushes_35 : decode cX7_pushes 35 = .ok (.iconst 1, 1) := by decide +kernel
theorem dX7_pushes_36 : decode cX7_pushes 36 = .ok (.iadd, 1) := by decide +kernel
theorem dX7_pushes_37 : decode cX7_pushes 37 = .ok (.putfield 224, 3) := by decide +kernel
theorem dX7_pushes_40 : decode cX7_pushes 40 = .ok (.return_, 1) := by decide +kernel
theorem dX7_goesOn_0 : decode cX7_goesOn 0 = .ok (.aload_n 0, 1) := by decide +kernel
theorem dX7_goesOn_1 : decode cX7_goesOn 1 = .ok (.getfield 224, 3) := by decide +kernel
theorem dX7_goesOn_4 : decode cX7_goesOn 4 = .ok (.iconst 1, 1) := by decide +kernel
theorem dX7_goesOn_5 : decode cX7_goesOn 5 = .ok (.isub, 1) := by decide +kernel
theorem dX7_goesOn_6 : decode cX7_goesOn 6 = .ok (.istore_n 1, 1) := by decide +kernel
theorem dX7_goesOn_7 : decode cX7_goesOn 7 = .ok (.aload_n 0, 1) := by decide +kernel
theorem dX7_goesOn_8 : decode cX7_goesOn 8 = .ok (.getfield 59, 3) := by decide +kernel
theorem dX7_goesOn_11 : decode cX7_goesOn 11 = .ok (.iload_n 1, 1) := by decide +kernel
theorem dX7_goesOn_12 : decode cX7_goesOn 12 = .ok (.iaload, 1) := by decide +kernel
theorem dX7_goesOn_13 : decode cX7_goesOn 13 = .ok (.istore_n 2, 1) := by decide +kernel
theorem dX7_goesOn_14 : decode cX7_goesOn 14 = .ok (.bipush 90, 2) := by decide +kernel
theorem dX7_goesOn_16 : decode cX7_goesOn 16 = .ok (.aload_n 0, 1) := by decide +kernel
theorem dX7_goesOn_17 : decode cX7_goesOn 17 = .ok (.getfield 209, 3) := by decide +kernel
theorem dX7_goesOn_20 : decode cX7_goesOn 20 = .ok (.imul, 1) := by decide +kernel
theorem dX7_goesOn_21 : decode cX7_goesOn 21 = .ok (.iload_n 2, 1) := by decide +kernel
theorem dX7_goesOn_22 : decode cX7_goesOn 22 = .ok (.iadd, 1) := by decide +kernel
theorem dX7_goesOn_23 : decode cX7_goesOn 23 = .ok (.istore_n 3, 1) := by decide +kernel
theorem dX7_goesOn_24 : decode cX7_goesOn 24 = .ok (.aload_n 0, 1) := by decide +kernel
theorem dX7_goesOn_25 : decode cX7_goesOn 25 = .ok (.getfield 62, 3) := by decide +kernel
theorem dX7_goesOn_28 : decode cX7_goesOn 28 = .ok (.iload_n 1, 1) := by decide +kernel
theorem dX7_goesOn_29 : decode cX7_goesOn 29 = .ok (.iaload, 1) := by decide +kernel
theorem dX7_goesOn_30 : decode cX7_goesOn 30 = .ok (.istore 4, 2) := by decide +kernel
theorem dX7_goesOn_32 : decode cX7_goesOn 32 = .ok (.aload_n 0, 1) := by decide +kernel
theorem dX7_goesOn_33 : decode cX7_goesOn 33 = .ok (.getfield 31, 3) := by decide +kernel
theorem dX7_goesOn_36 : decode cX7_goesOn 36 = .ok (.iload_n 3, 1) := by decide +kernel
theorem dX7_goesOn_37 : decode cX7_goesOn 37 = .ok (.iaload, 1) := by decide +kernel
theorem dX7_goesOn_38 : decode cX7_goesOn 38 = .ok (.istore 5, 2) := by decide +kernel
theorem dX7_goesOn_40 : decode cX7_goesOn 40 = .ok (.iload 5, 2) := by decide +kernel
theorem dX7_goesOn_42 : decode cX7_goesOn 42 = .ok (.iconst 3, 1) := by decide +kernel
theorem dX7_goesOn_43 : decode cX7_goesOn 43 = .ok (.if_icmp .ge 42, 3) := by decide +kernel
theorem dX7_goesOn_46 : decode cX7_goesOn 46 = .ok (.aload_n 0, 1) := by decide +kernel
theorem dX7_goesOn_47 : decode cX7_goesOn 47 = .ok (.iload 5, 2) := by decide +kernel
theorem dX7_goesOn_49 : decode cX7_goesOn 49 = .ok (.iconst 2, 1) := by decide +kernel
theorem dX7_goesOn_50 : decode cX7_goesOn 50 = .ok (.if_icmp .ne 7, 3) := by decide +kernel
theorem dX7_goesOn_53 : decode cX7_goesOn 53 = .ok (.iconst 5, 1) := by decide +kernel
theorem dX7_goesOn_54 : decode cX7_goesOn 54 = .ok (.goto 4, 3) := by decide +kernel
theorem dX7_goesOn_57 : decode cX7_goesOn 57 = .ok (.iconst 0, 1) := by decide +kernel
theorem dX7_goesOn_58 : decode cX7_goesOn 58 = .ok (.iload_n 2, 1) := by decide +kernel
theorem dX7_goesOn_59 : decode cX7_goesOn 59 = .ok (.iload 5, 2) := by decide +kernel
theorem dX7_goesOn_61 : decode cX7_goesOn 61 = .ok (.iconst 2, 1) := by decide +kernel
theorem dX7_goesOn_62 : decode cX7_goesOn 62 = .ok (.if_icmp .ne 7, 3) := by decide +kernel
theorem dX7_goesOn_65 : decode cX7_goesOn 65 = .ok (.iconst 4, 1) := by decide +kernel
theorem dX7_goesOn_66 : decode cX7_goesOn 66 = .ok (.goto 4, 3) := by decide +kernel
theorem dX7_goesOn_69 : decode cX7_goesOn 69 = .ok (.iconst 1, 1) := by decide +kernel
theorem dX7_goesOn_70 : decode cX7_goesOn 70 = .ok (.iconst 1, 1) := by decide +kernel
theorem dX7_goesOn_71 : decode cX7_goesOn 71 = .ok (.invokevirtual 227, 3) := by decide +kernel
theorem dX7_goesOn_74 : decode cX7_goesOn 74 = .ok (.aload_n 0, 1) := by decide +kernel
theorem dX7_goesOn_75 : decode cX7_goesOn 75 = .ok (.dup, 1) := by decide +kernel
theorem dX7_goesOn_76 : decode cX7_goesOn 76 = .ok (.getfield 224, 3) := by decide +kernel
theorem dX7_goesOn_79 : decode cX7_goesOn 79 = .ok (.iconst 1, 1) := by decide +kernel
theorem dX7_goesOn_80 : decode cX7_goesOn 80 = .ok (.isub, 1) := by decide +kernel
theorem dX7_goesOn_81 : decode cX7_goesOn 81 = .ok (.putfield 224, 3) := by decide +kernel
theorem dX7_goesOn_84 : decode cX7_goesOn 84 = .ok (.return_, 1) := by decide +kernel
theorem dX7_goesOn_85 : decode cX7_goesOn 85 = .ok (.iload 5, 2) := by decide +kernel
theorem dX7_goesOn_87 : decode cX7_goesOn 87 = .ok (.iconst 3, 1) := by decide +kernel
theorem dX7_goesOn_88 : decode cX7_goesOn 88 = .ok (.if_icmp .ne 50, 3) := by decide +kernel
theorem dX7_goesOn_91 : decode cX7_goesOn 91 = .ok (.aload_n 0, 1) := by decide +kernel
theorem dX7_goesOn_92 : decode cX7_goesOn 92 = .ok (.getfield 65, 3) := by decide +kernel
theorem dX7_goesOn_95 : decode cX7_goesOn 95 = .ok (.iload_n 1, 1) := by decide +kernel
theorem dX7_goesOn_96 : decode cX7_goesOn 96 = .ok (.iaload, 1) := by decide +kernel
theorem dX7_goesOn_97 : decode cX7_goesOn 97 = .ok (.ifCond .ne 22, 3) := by decide +kernel
theorem dX7_goesOn_100 : decode cX7_goesOn 100 = .ok (.aload_n 0, 1) := by decide +kernel
theorem dX7_goesOn_101 : decode cX7_goesOn 101 = .ok (.getfield 65, 3) := by decide +kernel
theorem dX7_goesOn_104 : decode cX7_goesOn 104 = .ok (.iload_n 1, 1) := by decide +kernel
theorem dX7_goesOn_105 : decode cX7_goesOn 105 = .ok (.iconst 1, 1) := by decide +kernel
theorem dX7_goesOn_106 : decode cX7_goesOn 106 = .ok (.iastore, 1) := by decide +kernel
theorem dX7_goesOn_107 : decode cX7_goesOn 107 = .ok (.aload_n 0, 1) := by decide +kernel
theorem dX7_goesOn_108 : decode cX7_goesOn 108 = .ok (.iload_n 2, 1) := by decide +kernel
theorem dX7_goesOn_109 : decode cX7_goesOn 109 = .ok (.iconst 1, 1) := by decide +kernel
theorem dX7_goesOn_110 : decode cX7_goesOn 110 = .ok (.iadd, 1) := by decide +kernel
theorem dX7_goesOn_111 : decode cX7_goesOn 111 = .ok (.iload 4, 2) := by decide +kernel
theorem dX7_goesOn_113 : decode cX7_goesOn 113 = .ok (.invokevirtual 231, 3) := by decide +kernel
theorem dX7_goesOn_116 : decode cX7_goesOn 116 = .ok (.goto 21, 3) := by decide +kernel
theorem dX7_goesOn_119 : decode cX7_goesOn 119 = .ok (.aload_n 0, 1) := by decide +kernel
theorem dX7_goesOn_120 : decode cX7_goesOn 120 = .ok (.iconst 1, 1) := by decide +kernel
theorem dX7_goesOn_121 : decode cX7_goesOn 121 = .ok (.iload_n 2, 1) := by decide +kernel
theorem dX7_goesOn_122 : decode cX7_goesOn 122 = .ok (.iconst 1, 1) := by decide +kernel
theorem dX7_goesOn_123 : decode cX7_goesOn 123 = .ok (.iconst 0, 1) := by decide +kernel
theorem dX7_goesOn_124 : decode cX7_goesOn 124 = .ok (.invokevirtual 227, 3) := by decide +kernel
theorem dX7_goesOn_127 : decode cX7_goesOn 127 = .ok (.aload_n 0, 1) := by decide +kernel
theorem dX7_goesOn_128 : decode cX7_goesOn 128 = .ok (.dup, 1) := by decide +kernel
theorem dX7_goesOn_129 : decode cX7_goesOn 129 = .ok (.getfield 224, 3) := by decide +kernel
theorem dX7_goesOn_132 : decode cX7_goesOn 132 = .ok (.iconst 1, 1) := by decide +kernel
theorem dX7_goesOn_133 : decode cX7_goesOn 133 = .ok (.isub, 1) := by decide +kernel
theorem dX7_goesOn_134 : decode cX7_goesOn 134 = .ok (.putfield 224, 3) := by decide +kernel
theorem dX7_goesOn_137 : decode cX7_goesOn 137 = .ok (.return_, 1) := by decide +kernel
theorem dX7_goesOn_138 : decode cX7_goesOn 138 = .ok (.iload_n 2, 1) := by decide +kernel
theorem dX7_goesOn_139 : decode cX7_goesOn 139 = .ok (.iconst 1, 1) := by decide +kernel
theorem dX7_goesOn_140 : decode cX7_goesOn 140 = .ok (.iadd, 1) := by decide +kernel
theorem dX7_goesOn_141 : decode cX7_goesOn 141 = .ok (.istore 6, 2) := by decide +kernel
theorem dX7_goesOn_143 : decode cX7_goesOn 143 = .ok (.iload 6, 2) := by decide +kernel
theorem dX7_goesOn_145 : decode cX7_goesOn 145 = .ok (.aload_n 0, 1) := by decide +kernel
theorem dX7_goesOn_146 : decode cX7_goesOn 146 = .ok (.getfield 37, 3) := by decide +kernel
theorem dX7_goesOn_149 : decode cX7_goesOn 149 = .ok (.iload_n 3, 1) := by decide +kernel
theorem dX7_goesOn_150 : decode cX7_goesOn 150 = .ok (.iconst 1, 1) := by decide +kernel
theorem dX7_goesOn_151 : decode cX7_goesOn 151 = .ok (.iadd, 1) := by decide +kernel
theorem dX7_goesOn_152 : decode cX7_goesOn 152 = .ok (.iaload, 1) := by decide +kernel
theorem dX7_goesOn_153 : decode cX7_goesOn 153 = .ok (.iadd, 1) := by decide +kernel
theorem dX7_goesOn_154 : decode cX7_goesOn 154 = .ok (.istore 7, 2) := by decide +kernel
theorem dX7_goesOn_156 : decode cX7_goesOn 156 = .ok (.aload_n 0, 1) := by decide +kernel
theorem dX7_goesOn_157 : decode cX7_goesOn 157 = .ok (.getfield 40, 3) := by decide +kernel
theorem dX7_goesOn_160 : decode cX7_goesOn 160 = .ok (.bipush 90, 2) := by decide +kernel
theorem dX7_goesOn_162 : decode cX7_goesOn 162 = .ok (.aload_n 0, 1) := by decide +kernel
theorem dX7_goesOn_163 : decode cX7_goesOn 163 = .ok (.getfield 209, 3) := by decide +kernel
theorem dX7_goesOn_166 : decode cX7_goesOn 166 = .ok (.imul, 1) := by decide +kernel
theorem dX7_goesOn_167 : decode cX7_goesOn 167 = .ok (.iload 7, 2) := by decide +kernel
theorem dX7_goesOn_169 : decode cX7_goesOn 169 = .ok (.iadd, 1) := by decide +kernel
theorem dX7_goesOn_170 : decode cX7_goesOn 170 = .ok (.iaload, 1) := by decide +kernel
theorem dX7_goesOn_171 : decode cX7_goesOn 171 = .ok (.aload_n 0, 1) := by decide +kernel
theorem dX7_goesOn_172 : decode cX7_goesOn 172 = .ok (.getfield 40, 3) := by decide +kernel
theorem dX7_goesOn_175 : decode cX7_goesOn 175 = .ok (.bipush 90, 2) := by decide +kernel
theorem dX7_goesOn_177 : decode cX7_goesOn 177 = .ok (.aload_n 0, 1) := by decide +kernel
theorem dX7_goesOn_178 : decode cX7_goesOn 178 = .ok (.getfield 209, 3) := by decide +kernel
theorem dX7_goesOn_181 : decode cX7_goesOn 181 = .ok (.imul, 1) := by decide +kernel
theorem dX7_goesOn_182 : decode cX7_goesOn 182 = .ok (.iload 6, 2) := by decide +kernel
theorem dX7_goesOn_184 : decode cX7_goesOn 184 = .ok (.iadd, 1) := by decide +kernel
theorem dX7_goesOn_185 : decode cX7_goesOn 185 = .ok (.iaload, 1) := by decide +kernel
theorem dX7_goesOn_186 : decode cX7_goesOn 186 = .ok (.if_icmp .le 7, 3) := by decide +kernel
theorem dX7_goesOn_189 : decode cX7_goesOn 189 = .ok (.iconst 1, 1) := by decide +kernel
theorem dX7_goesOn_190 : decode cX7_goesOn 190 = .ok (.goto 4, 3) := by decide +kernel
theorem dX7_goesOn_193 : decode cX7_goesOn 193 = .ok (.iconst 0, 1) := by decide +kernel
theorem dX7_goesOn_194 : decode cX7_goesOn 194 = .ok (.istore 8, 2) := by decide +kernel
theorem dX7_goesOn_196 : decode cX7_goesOn 196 = .ok (.iload 8, 2) := by decide +kernel
theorem dX7_goesOn_198 : decode cX7_goesOn 198 = .ok (.ifCond .eq 8, 3) := by decide +kernel
theorem dX7_goesOn_201 : decode cX7_goesOn 201 = .ok (.iload 7, 2) := by decide +kernel
theorem dX7_goesOn_203 : decode cX7_goesOn 203 = .ok (.goto 5, 3) := by decide +kernel
theorem dX7_goesOn_206 : decode cX7_goesOn 206 = .ok (.iload 6, 2) := by decide +kernel
theorem dX7_goesOn_208 : decode cX7_goesOn 208 = .ok (.istore 9, 2) := by decide +kernel
theorem dX7_goesOn_210 : decode cX7_goesOn 210 = .ok (.iload 8, 2) := by decide +kernel
theorem dX7_goesOn_212 : decode cX7_goesOn 212 = .ok (.ifCond .eq 8, 3) := by decide +kernel
theorem dX7_goesOn_215 : decode cX7_goesOn 215 = .ok (.iload 6, 2) := by decide +kernel
theorem dX7_goesOn_217 : decode cX7_goesOn 217 = .ok (.goto 5, 3) := by decide +kernel
theorem dX7_goesOn_220 : decode cX7_goesOn 220 = .ok (.iload 7, 2) := by decide +kernel
theorem dX7_goesOn_222 : decode cX7_goesOn 222 = .ok (.istore 10, 2) := by decide +kernel
theorem dX7_goesOn_224 : decode cX7_goesOn 224 = .ok (.aload_n 0, 1) := by decide +kernel
theorem dX7_goesOn_225 : decode cX7_goesOn 225 = .ok (.getfield 40, 3) := by decide +kernel
theorem dX7_goesOn_228 : decode cX7_goesOn 228 = .ok (.bipush 90, 2) := by decide +kernel
theorem dX7_goesOn_230 : decode cX7_goesOn 230 = .ok (.aload_n 0, 1) := by decide +kernel
theorem dX7_goesOn_231 : decode cX7_goesOn 231 = .ok (.getfield 209, 3) := by decide +kernel
theorem dX7_goesOn_234 : decode cX7_goesOn 234 = .ok (.imul, 1) := by decide +kernel
theorem dX7_goesOn_235 : decode cX7_goesOn 235 = .ok (.iload 10, 2) := by decide +kernel
theorem dX7_goesOn_237 : decode cX7_goesOn 237 = .ok (.iadd, 1) := by decide +kernel
theorem dX7_goesOn_238 : decode cX7_goesOn 238 = .ok (.iaload, 1) := by decide +kernel
theorem dX7_goesOn_239 : decode cX7_goesOn 239 = .ok (.iload 4, 2) := by decide +kernel
theorem dX7_goesOn_241 : decode cX7_goesOn 241 = .ok (.if_icmp .ge 7, 3) := by decide +kernel
theorem dX7_goesOn_244 : decode cX7_goesOn 244 = .ok (.iconst 1, 1) := by decide +kernel
theorem dX7_goesOn_245 : decode cX7_goesOn 245 = .ok (.goto 4, 3) := by decide +kernel
theorem dX7_goesOn_248 : decode cX7_goesOn 248 = .ok (.iconst 0, 1) := by decide +kernel
theorem dX7_goesOn_249 : decode cX7_goesOn 249 = .ok (.istore 11, 2) := by decide +kernel
theorem dX7_goesOn_251 : decode cX7_goesOn 251 = .ok (.aload_n 0, 1) := by decide +kernel
theorem dX7_goesOn_252 : decode cX7_goesOn 252 = .ok (.getfield 65, 3) := by decide +kernel
theorem dX7_goesOn_255 : decode cX7_goesOn 255 = .ok (.iload_n 1, 1) := by decide +kernel
theorem dX7_goesOn_256 : decode cX7_goesOn 256 = .ok (.dup2, 1) := by decide +kernel
theorem dX7_goesOn_257 : decode cX7_goesOn 257 = .ok (.iaload, 1) := by decide +kernel
theorem dX7_goesOn_258 : decode cX7_goesOn 258 = .ok (.iconst 1, 1) := by decide +kernel
theorem dX7_goesOn_259 : decode cX7_goesOn 259 = .ok (.iadd, 1) := by decide +kernel
theorem dX7_goesOn_260 : decode cX7_goesOn 260 = .ok (.iastore, 1) := by decide +kernel
theorem dX7_goesOn_261 : decode cX7_goesOn 261 = .ok (.aload_n 0, 1) := by decide +kernel
theorem dX7_goesOn_262 : decode cX7_goesOn 262 = .ok (.getfield 65, 3) := by decide +kernel
theorem dX7_goesOn_265 : decode cX7_goesOn 265 = .ok (.iload_n 1, 1) := by decide +kernel
theorem dX7_goesOn_266 : decode cX7_goesOn 266 = .ok (.iaload, 1) := by decide +kernel
theorem dX7_goesOn_267 : decode cX7_goesOn 267 = .ok (.iconst 1, 1) := by decide +kernel
theorem dX7_goesOn_268 : decode cX7_goesOn 268 = .ok (.if_icmp .ne 14, 3) := by decide +kernel
theorem dX7_goesOn_271 : decode cX7_goesOn 271 = .ok (.aload_n 0, 1) := by decide +kernel
theorem dX7_goesOn_272 : decode cX7_goesOn 272 = .ok (.iload 9, 2) := by decide +kernel
theorem dX7_goesOn_274 : decode cX7_goesOn 274 = .ok (.iload 4, 2) := by decide +kernel
theorem dX7_goesOn_276 : decode cX7_goesOn 276 = .ok (.invokevirtual 231, 3) := by decide +kernel
theorem dX7_goesOn_279 : decode cX7_goesOn 279 = .ok (.goto 93, 3) := by decide +kernel
theorem dX7_goesOn_282 : decode cX7_goesOn 282 = .ok (.aload_n 0, 1) := by decide +kernel
theorem dX7_goesOn_283 : decode cX7_goesOn 283 = .ok (.getfield 65, 3) := by decide +kernel
theorem dX7_goesOn_286 : decode cX7_goesOn 286 = .ok (.iload_n 1, 1) := by decide +kernel
theorem dX7_goesOn_287 : decode cX7_goesOn 287 = .ok (.iaload, 1) := by decide +kernel
theorem dX7_goesOn_288 : decode cX7_goesOn 288 = .ok (.iconst 2, 1) := by decide +kernel
theorem dX7_goesOn_289 : decode cX7_goesOn 289 = .ok (.if_icmp .ne 40, 3) := by decide +kernel
theorem dX7_goesOn_292 : decode cX7_goesOn 292 = .ok (.iload 11, 2) := by decide +kernel
theorem dX7_goesOn_294 : decode cX7_goesOn 294 = .ok (.ifCond .ne 12, 3) := by decide +kernel
theorem dX7_goesOn_297 : decode cX7_goesOn 297 = .ok (.aload_n 0, 1) := by decide +kernel
theorem dX7_goesOn_298 : decode cX7_goesOn 298 = .ok (.iconst 2, 1) := by decide +kernel
theorem dX7_goesOn_299 : decode cX7_goesOn 299 = .ok (.iload 9, 2) := by decide +kernel
theorem dX7_goesOn_301 : decode cX7_goesOn 301 = .ok (.iconst 4, 1) := by decide +kernel
theorem dX7_goesOn_302 : decode cX7_goesOn 302 = .ok (.iconst (-1), 1) := by decide +kernel
theorem dX7_goesOn_303 : decode cX7_goesOn 303 = .ok (.invokevirtual 227, 3) := by decide +kernel
theorem dX7_goesOn_306 : decode cX7_goesOn 306 = .ok (.aload_n 0, 1) := by decide +kernel
theorem dX7_goesOn_307 : decode cX7_goesOn 307 = .ok (.iload 10, 2) := by decide +kernel
theorem dX7_goesOn_309 : decode cX7_goesOn 309 = .ok (.iload 11, 2) := by decide +kernel
theorem dX7_goesOn_311 : decode cX7_goesOn 311 = .ok (.ifCond .eq 10, 3) := by decide +kernel
theorem dX7_goesOn_314 : decode cX7_goesOn 314 = .ok (.iload 4, 2) := by decide +kernel
theorem dX7_goesOn_316 : decode cX7_goesOn 316 = .ok (.iconst 1, 1) := by decide +kernel
theorem dX7_goesOn_317 : decode cX7_goesOn 317 = .ok (.isub, 1) := by decide +kernel
theorem dX7_goesOn_318 : decode cX7_goesOn 318 = .ok (.goto 5, 3) := by decide +kernel
theorem dX7_goesOn_321 : decode cX7_goesOn 321 = .ok (.iload 4, 2) := by decide +kernel
theorem dX7_goesOn_323 : decode cX7_goesOn 323 = .ok (.invokevirtual 231, 3) := by decide +kernel
theorem dX7_goesOn_326 : decode cX7_goesOn 326 = .ok (.goto 46, 3) := by decide +kernel
theorem dX7_goesOn_329 : decode cX7_goesOn 329 = .ok (.iload 11, 2) := by decide +kernel
theorem dX7_goesOn_331 : decode cX7_goesOn 331 = .ok (.ifCond .ne 12, 3) := by decide +kernel
theorem dX7_goesOn_334 : decode cX7_goesOn 334 = .ok (.aload_n 0, 1) := by decide +kernel
theorem dX7_goesOn_335 : decode cX7_goesOn 335 = .ok (.iconst 3, 1) := by decide +kernel
theorem dX7_goesOn_336 : decode cX7_goesOn 336 = .ok (.iload 9, 2) := by decide +kernel
theorem dX7_goesOn_338 : decode cX7_goesOn 338 = .ok (.iconst 4, 1) := by decide +kernel
theorem dX7_goesOn_339 : decode cX7_goesOn 339 = .ok (.iconst 1, 1) := by decide +kernel
theorem dX7_goesOn_340 : decode cX7_goesOn 340 = .ok (.invokevirtual 227, 3) := by decide +kernel
theorem dX7_goesOn_343 : decode cX7_goesOn 343 = .ok (.aload_n 0, 1) := by decide +kernel
theorem dX7_goesOn_344 : decode cX7_goesOn 344 = .ok (.iconst 1, 1) := by decide +kernel
theorem dX7_goesOn_345 : decode cX7_goesOn 345 = .ok (.iload_n 2, 1) := by decide +kernel
theorem dX7_goesOn_346 : decode cX7_goesOn 346 = .ok (.iload 5, 2) := by decide +kernel
theorem dX7_goesOn_348 : decode cX7_goesOn 348 = .ok (.bipush 6, 2) := by decide +kernel
theorem dX7_goesOn_350 : decode cX7_goesOn 350 = .ok (.if_icmp .ne 7, 3) := by decide +kernel
theorem dX7_goesOn_353 : decode cX7_goesOn 353 = .ok (.iconst 3, 1) := by decide +kernel
theorem dX7_goesOn_354 : decode cX7_goesOn 354 = .ok (.goto 4, 3) := by decide +kernel
theorem dX7_goesOn_357 : decode cX7_goesOn 357 = .ok (.iconst 1, 1) := by decide +kernel
theorem dX7_goesOn_358 : decode cX7_goesOn 358 = .ok (.iconst (-1), 1) := by decide +kernel
theorem dX7_goesOn_359 : decode cX7_goesOn 359 = .ok (.invokevirtual 227, 3) := by decide +kernel
theorem dX7_goesOn_362 : decode cX7_goesOn 362 = .ok (.aload_n 0, 1) := by decide +kernel
theorem dX7_goesOn_363 : decode cX7_goesOn 363 = .ok (.dup, 1) := by decide +kernel
theorem dX7_goesOn_364 : decode cX7_goesOn 364 = .ok (.getfield 224, 3) := by decide +kernel
theorem dX7_goesOn_367 : decode cX7_goesOn 367 = .ok (.iconst 1, 1) := by decide +kernel
theorem dX7_goesOn_368 : decode cX7_goesOn 368 = .ok (.isub, 1) := by decide +kernel
theorem dX7_goesOn_369 : decode cX7_goesOn 369 = .ok (.putfield 224, 3) := by decide +kernel
theorem dX7_goesOn_372 : decode cX7_goesOn 372 = .ok (.return_, 1) := by decide +kernel
theorem dX7_plans_0 : decode cX7_plans 0 = .ok (.aload_n 0, 1) := by decide +kernel
theorem dX7_plans_1 : decode cX7_plans 1 = .ok (.invokevirtual 164, 3) := by decide +kernel
theorem dX7_plans_4 : decode cX7_plans 4 = .ok (.aload_n 0, 1) := by decide +kernel
theorem dX7_plans_5 : decode cX7_plans 5 = .ok (.iconst 0, 1) := by decide +kernel
theorem dX7_plans_6 : decode cX7_plans 6 = .ok (.putfield 203, 3) := by decide +kernel
theorem dX7_plans_9 : decode cX7_plans 9 = .ok (.aload_n 0, 1) := by decide +kernel
theorem dX7_plans_10 : decode cX7_plans 10 = .ok (.iconst 0, 1) := by decide +kernel
theorem dX7_plans_11 : decode cX7_plans 11 = .ok (.putfield 212, 3) := by decide +kernel
theorem dX7_plans_14 : decode cX7_plans 14 = .ok (.aload_n 0, 1) := by decide +kernel
theorem dX7_plans_15 : decode cX7_plans 15 = .ok (.iconst 0, 1) := by decide +kernel
theorem dX7_plans_16 : decode cX7_plans 16 = .ok (.putfield 215, 3) := by decide +kernel
theorem dX7_plans_19 : decode cX7_plans 19 = .ok (.aload_n 0, 1) := by decide +kernel
theorem dX7_plans_20 : decode cX7_plans 20 = .ok (.iconst 0, 1) := by decide +kernel
theorem dX7_plans_21 : decode cX7_plans 21 = .ok (.putfield 218, 3) := by decide +kernel
theorem dX7_plans_24 : decode cX7_plans 24 = .ok (.aload_n 0, 1) := by decide +kernel
theorem dX7_plans_25 : decode cX7_plans 25 = .ok (.iconst 0, 1) := by decide +kernel
theorem dX7_plans_26 : decode cX7_plans 26 = .ok (.putfield 221, 3) := by decide +kernel
theorem dX7_plans_29 : decode cX7_plans 29 = .ok (.aload_n 0, 1) := by decide +kernel
theorem dX7_plans_30 : decode cX7_plans 30 = .ok (.iconst 0, 1) := by decide +kernel
theorem dX7_plans_31 : decode cX7_plans 31 = .ok (.putfield 200, 3) := by decide +kernel
theorem dX7_plans_34 : decode cX7_plans 34 = .ok (.aload_n 0, 1) := by decide +kernel
theorem dX7_plans_35 : decode cX7_plans 35 = .ok (.iload_n 2, 1) := by decide +kernel
theorem dX7_plans_36 : decode cX7_plans 36 = .ok (.putfield 206, 3) := by decide +kernel
theorem dX7_plans_39 : decode cX7_plans 39 = .ok (.iconst 0, 1) := by decide +kernel
theorem dX7_plans_40 : decode cX7_plans 40 = .ok (.istore_n 3, 1) := by decide +kernel
theorem dX7_plans_41 : decode cX7_plans 41 = .ok (.iload_n 3, 1) := by decide +kernel
theorem dX7_plans_42 : decode cX7_plans 42 = .ok (.aload_n 0, 1) := by decide +kernel
theorem dX7_plans_43 : decode cX7_plans 43 = .ok (.getfield 7, 3) := by decide +kernel
theorem dX7_plans_46 : decode cX7_plans 46 = .ok (.iconst 0, 1) := by decide +kernel
theorem dX7_plans_47 : decode cX7_plans 47 = .ok (.iaload, 1) := by decide +kernel
theorem dX7_plans_48 : decode cX7_plans 48 = .ok (.if_icmp .ge 77, 3) := by decide +kernel
theorem dX7_plans_51 : decode cX7_plans 51 = .ok (.aload_n 0, 1) := by decide +kernel
theorem dX7_plans_52 : decode cX7_plans 52 = .ok (.iload_n 3, 1) := by decide +kernel
theorem dX7_plans_53 : decode cX7_plans 53 = .ok (.putfield 209, 3) := by decide +kernel
theorem dX7_plans_56 : decode cX7_plans 56 = .ok (.aload_n 0, 1) := by decide +kernel
theorem dX7_plans_57 : decode cX7_plans 57 = .ok (.iconst 0, 1) := by decide +kernel
theorem dX7_plans_58 : decode cX7_plans 58 = .ok (.putfield 224, 3) := by decide +kernel
theorem dX7_plans_61 : decode cX7_plans 61 = .ok (.aload_n 0, 1) := by decide +kernel
theorem dX7_plans_62 : decode cX7_plans 62 = .ok (.getfield 52, 3) := by decide +kernel
theorem dX7_plans_65 : decode cX7_plans 65 = .ok (.iload_n 3, 1) := by decide +kernel
theorem dX7_plans_66 : decode cX7_plans 66 = .ok (.baload, 1) := by decide +kernel
theorem dX7_plans_67 : decode cX7_plans 67 = .ok (.ifCond .ne 9, 3) := by decide +kernel
theorem dX7_plans_70 : decode cX7_plans 70 = .ok (.aload_n 0, 1) := by decide +kernel
theorem dX7_plans_71 : decode cX7_plans 71 = .ok (.iconst 0, 1) := by decide +kernel
theorem dX7_plans_72 : decode cX7_plans 72 = .ok (.iload_n 1, 1) := by decide +kernel
theorem dX7_plans_73 : decode cX7_plans 73 = .ok (.invokevirtual 231, 3) := by decide +kernel
theorem dX7_plans_76 : decode cX7_plans 76 = .ok (.aload_n 0, 1) := by decide +kernel
theorem dX7_plans_77 : decode cX7_plans 77 = .ok (.getfield 224, 3) := by decide +kernel
theorem dX7_plans_80 : decode cX7_plans 80 = .ok (.ifCond .le 10, 3) := by decide +kernel
theorem dX7_plans_83 : decode cX7_plans 83 = .ok (.aload_n 0, 1) := by decide +kernel
theorem dX7_plans_84 : decode cX7_plans 84 = .ok (.invokevirtual 234, 3) := by decide +kernel
theorem dX7_plans_87 : decode cX7_plans 87 = .ok (.goto (-11), 3) := by decide +kernel
theorem dX7_plans_90 : decode cX7_plans 90 = .ok (.aload_n 0, 1) := by decide +kernel
theorem dX7_plans_91 : decode cX7_plans 91 = .ok (.getfield 52, 3) := by decide +kernel
theorem dX7_plans_94 : decode cX7_plans 94 = .ok (.iload_n 3, 1) := by decide +kernel
theorem dX7_plans_95 : decode cX7_plans 95 = .ok (.baload, 1) := by decide +kernel
theorem dX7_plans_96 : decode cX7_plans 96 = .ok (.ifCond .ne 23, 3) := by decide +kernel
theorem dX7_plans_99 : decode cX7_plans 99 = .ok (.iload_n 3, 1) := by decide +kernel
theorem dX7_plans_100 : decode cX7_plans 100 = .ok (.aload_n 0, 1) := by decide +kernel
theorem dX7_plans_101 : decode cX7_plans 101 = .ok (.getfield 7, 3) := by decide +kernel
theorem dX7_plans_104 : decode cX7_plans 104 = .ok (.iconst 0, 1) := by decide +kernel
theorem dX7_plans_105 : decode cX7_plans 105 = .ok (.iaload, 1) := by decide +kernel
theorem dX7_plans_106 : decode cX7_plans 106 = .ok (.iconst 1, 1) := by decide +kernel
theorem dX7_plans_107 : decode cX7_plans 107 = .ok (.isub, 1) := by decide +kernel
theorem dX7_plans_108 : decode cX7_plans 108 = .ok (.if_icmp .ge 11, 3) := by decide +kernel
theorem dX7_plans_111 : decode cX7_plans 111 = .ok (.aload_n 0, 1) := by decide +kernel
theorem dX7_plans_112 : decode cX7_plans 112 = .ok (.iconst 4, 1) := by decide +kernel
theorem dX7_plans_113 : decode cX7_plans 113 = .ok (.iconst 0, 1) := by decide +kernel
theorem dX7_plans_114 : decode cX7_plans 114 = .ok (.iconst 4, 1) := by decide +kernel
theorem dX7_plans_115 : decode cX7_plans 115 = .ok (.iconst (-1), 1) := by decide +kernel
theorem dX7_plans_116 : decode cX7_plans 116 = .ok (.invokevirtual 227, 3) := by decide +kernel
theorem dX7_plans_119 : decode cX7_plans 119 = .ok (.iinc 3 1, 3) := by decide +kernel
theorem dX7_plans_122 : decode cX7_plans 122 = .ok (.goto (-81), 3) := by decide +kernel
theorem dX7_plans_125 : decode cX7_plans 125 = .ok (.return_, 1) := by decide +kernel
theorem dX7_plan_0 : decode cX7_plan 0 = .ok (.iload_n 1, 1) := by decide +kernel
theorem dX7_plan_1 : decode cX7_plan 1 = .ok (.iconst 0, 1) := by decide +kernel
theorem dX7_plan_2 : decode cX7_plan 2 = .ok (.iconst 4, 1) := by decide +kernel
theorem dX7_plan_3 : decode cX7_plan 3 = .ok (.invokestatic 75, 3) := by decide +kernel
theorem dX7_plan_6 : decode cX7_plan 6 = .ok (.ifCond .ne 6, 3) := by decide +kernel
theorem dX7_plan_9 : decode cX7_plan 9 = .ok (.ldc 79, 2) := by decide +kernel
theorem dX7_plan_11 : decode cX7_plan 11 = .ok (.ireturn, 1) := by decide +kernel
theorem dX7_plan_12 : decode cX7_plan 12 = .ok (.aload_n 0, 1) := by decide +kernel
theorem dX7_plan_13 : decode cX7_plan 13 = .ok (.aload_n 0, 1) := by decide +kernel
theorem dX7_plan_14 : decode cX7_plan 14 = .ok (.getfield 7, 3) := by decide +kernel
theorem dX7_plan_17 : decode cX7_plan 17 = .ok (.iconst 1, 1) := by decide +kernel
theorem dX7_plan_18 : decode cX7_plan 18 = .ok (.iaload, 1) := by decide +kernel
theorem dX7_plan_19 : decode cX7_plan 19 = .ok (.ldc 87, 2) := by decide +kernel
theorem dX7_plan_21 : decode cX7_plan 21 = .ok (.invokevirtual 237, 3) := by decide +kernel
theorem dX7_plan_24 : decode cX7_plan 24 = .ok (.iload_n 1, 1) := by decide +kernel
theorem dX7_plan_25 : decode cX7_plan 25 = .ok (.ifCond .ne 10, 3) := by decide +kernel
theorem dX7_plan_28 : decode cX7_plan 28 = .ok (.aload_n 0, 1) := by decide +kernel
theorem dX7_plan_29 : decode cX7_plan 29 = .ok (.getfield 203, 3) := by decide +kernel
theorem dX7_plan_32 : decode cX7_plan 32 = .ok (.goto 43, 3) := by decide +kernel
theorem dX7_plan_35 : decode cX7_plan 35 = .ok (.iload_n 1, 1) := by decide +kernel
theorem dX7_plan_36 : decode cX7_plan 36 = .ok (.iconst 1, 1) := by decide +kernel
theorem dX7_plan_37 : decode cX7_plan 37 = .ok (.if_icmp .ne 10, 3) := by decide +kernel
theorem dX7_plan_40 : decode cX7_plan 40 = .ok (.aload_n 0, 1) := by decide +kernel
theorem dX7_plan_41 : decode cX7_plan 41 = .ok (.getfield 212, 3) := by decide +kernel
theorem dX7_plan_44 : decode cX7_plan 44 = .ok (.goto 31, 3) := by decide +kernel
theorem dX7_plan_47 : decode cX7_plan 47 = .ok (.iload_n 1, 1) := by decide +kernel
theorem dX7_plan_48 : decode cX7_plan 48 = .ok (.iconst 2, 1) := by decide +kernel
theorem dX7_plan_49 : decode cX7_plan 49 = .ok (.if_icmp .ne 10, 3) := by decide +kernel
theorem dX7_plan_52 : decode cX7_plan 52 = .ok (.aload_n 0, 1) := by decide +kernel
theorem dX7_plan_53 : decode cX7_plan 53 = .ok (.getfield 215, 3) := by decide +kernel
theorem dX7_plan_56 : decode cX7_plan 56 = .ok (.goto 19, 3) := by decide +kernel
theorem dX7_plan_59 : decode cX7_plan 59 = .ok (.iload_n 1, 1) := by decide +kernel
theorem dX7_plan_60 : decode cX7_plan 60 = .ok (.iconst 3, 1) := by decide +kernel
theorem dX7_plan_61 : decode cX7_plan 61 = .ok (.if_icmp .ne 10, 3) := by decide +kernel
theorem dX7_plan_64 : decode cX7_plan 64 = .ok (.aload_n 0, 1) := by decide +kernel
theorem dX7_plan_65 : decode cX7_plan 65 = .ok (.getfield 218, 3) := by decide +kernel
theorem dX7_plan_68 : decode cX7_plan 68 = .ok (.goto 7, 3) := by decide +kernel
theorem dX7_plan_71 : decode cX7_plan 71 = .ok (.aload_n 0, 1) := by decide +kernel
theorem dX7_plan_72 : decode cX7_plan 72 = .ok (.getfield 221, 3) := by decide +kernel
theorem dX7_plan_75 : decode cX7_plan 75 = .ok (.ireturn, 1) := by decide +kernel
theorem dX7_step_0 : decode cX7_step 0 = .ok (.iload_n 1, 1) := by decide +kernel
theorem dX7_step_1 : decode cX7_step 1 = .ok (.ifCond .lt 12, 3) := by decide +kernel
theorem dX7_step_4 : decode cX7_step 4 = .ok (.iload_n 2, 1) := by decide +kernel
theorem dX7_step_5 : decode cX7_step 5 = .ok (.iconst 0, 1) := by decide +kernel
theorem dX7_step_6 : decode cX7_step 6 = .ok (.iconst 3, 1) := by decide +kernel
theorem dX7_step_7 : decode cX7_step 7 = .ok (.invokestatic 75, 3) := by decide +kernel
theorem dX7_step_10 : decode cX7_step 10 = .ok (.ifCond .ne 6, 3) := by decide +kernel
theorem dX7_step_13 : decode cX7_step 13 = .ok (.ldc 79, 2) := by decide +kernel
theorem dX7_step_15 : decode cX7_step 15 = .ok (.ireturn, 1) := by decide +kernel
theorem dX7_step_16 : decode cX7_step 16 = .ok (.aload_n 0, 1) := by decide +kernel
theorem dX7_step_17 : decode cX7_step 17 = .ok (.aload_n 0, 1) := by decide +kernel
theorem dX7_step_18 : decode cX7_step 18 = .ok (.getfield 7, 3) := by decide +kernel
theorem dX7_step_21 : decode cX7_step 21 = .ok (.iconst 1, 1) := by decide +kernel
theorem dX7_step_22 : decode cX7_step 22 = .ok (.iaload, 1) := by decide +kernel
theorem dX7_step_23 : decode cX7_step 23 = .ok (.iload_n 1, 1) := by decide +kernel
theorem dX7_step_24 : decode cX7_step 24 = .ok (.invokevirtual 237, 3) := by decide +kernel
theorem dX7_step_27 : decode cX7_step 27 = .ok (.iload_n 1, 1) := by decide +kernel
theorem dX7_step_28 : decode cX7_step 28 = .ok (.aload_n 0, 1) := by decide +kernel
theorem dX7_step_29 : decode cX7_step 29 = .ok (.getfield 203, 3) := by decide +kernel
theorem dX7_step_32 : decode cX7_step 32 = .ok (.if_icmp .ge 12, 3) := by decide +kernel
theorem dX7_step_35 : decode cX7_step 35 = .ok (.aload_n 0, 1) := by decide +kernel
theorem dX7_step_36 : decode cX7_step 36 = .ok (.getfield 56, 3) := by decide +kernel
theorem dX7_step_39 : decode cX7_step 39 = .ok (.iload_n 2, 1) := by decide +kernel
theorem dX7_step_40 : decode cX7_step 40 = .ok (.iaload, 1) := by decide +kernel
theorem dX7_step_41 : decode cX7_step 41 = .ok (.goto 5, 3) := by decide +kernel
theorem dX7_step_44 : decode cX7_step 44 = .ok (.ldc 87, 2) := by decide +kernel
theorem dX7_step_46 : decode cX7_step 46 = .ok (.ireturn, 1) := by decide +kernel
theorem dX7_costWith_0 : decode cX7_costWith 0 = .ok (.iload_n 1, 1) := by decide +kernel
theorem dX7_costWith_1 : decode cX7_costWith 1 = .ok (.iconst 2, 1) := by decide +kernel
theorem dX7_costWith_2 : decode cX7_costWith 2 = .ok (.bipush 8, 2) := by decide +kernel
theorem dX7_costWith_4 : decode cX7_costWith 4 = .ok (.invokestatic 75, 3) := by decide +kernel
theorem dX7_costWith_7 : decode cX7_costWith 7 = .ok (.ifCond .ne 6, 3) := by decide +kernel
theorem dX7_costWith_10 : decode cX7_costWith 10 = .ok (.ldc 79, 2) := by decide +kernel
theorem dX7_costWith_12 : decode cX7_costWith 12 = .ok (.ireturn, 1) := by decide +kernel
theorem dX7_costWith_13 : decode cX7_costWith 13 = .ok (.aload_n 0, 1) := by decide +kernel
theorem dX7_costWith_14 : decode cX7_costWith 14 = .ok (.iload_n 1, 1) := by decide +kernel
theorem dX7_costWith_15 : decode cX7_costWith 15 = .ok (.ldc 87, 2) := by decide +kernel
theorem dX7_costWith_17 : decode cX7_costWith 17 = .ok (.invokevirtual 237, 3) := by decide +kernel
theorem dX7_costWith_20 : decode cX7_costWith 20 = .ok (.aload_n 0, 1) := by decide +kernel
theorem dX7_costWith_21 : decode cX7_costWith 21 = .ok (.getfield 212, 3) := by decide +kernel
theorem dX7_costWith_24 : decode cX7_costWith 24 = .ok (.ireturn, 1) := by decide +kernel
theorem dX7_enough_0 : decode cX7_enough 0 = .ok (.iconst 2, 1) := by decide +kernel
theorem dX7_enough_1 : decode cX7_enough 1 = .ok (.istore_n 1, 1) := by decide +kernel
theorem dX7_enough_2 : decode cX7_enough 2 = .ok (.aload_n 0, 1) := by decide +kernel
theorem dX7_enough_3 : decode cX7_enough 3 = .ok (.iload_n 1, 1) := by decide +kernel
theorem dX7_enough_4 : decode cX7_enough 4 = .ok (.ldc 87, 2) := by decide +kernel
theorem dX7_enough_6 : decode cX7_enough 6 = .ok (.invokevirtual 237, 3) := by decide +kernel
theorem dX7_enough_9 : decode cX7_enough 9 = .ok (.aload_n 0, 1) := by decide +kernel
theorem dX7_enough_10 : decode cX7_enough 10 = .ok (.getfield 215, 3) := by decide +kernel
theorem dX7_enough_13 : decode cX7_enough 13 = .ok (.ifCond .le 22, 3) := by decide +kernel
theorem dX7_enough_16 : decode cX7_enough 16 = .ok (.iload_n 1, 1) := by decide +kernel
theorem dX7_enough_17 : decode cX7_enough 17 = .ok (.bipush 8, 2) := by decide +kernel
theorem dX7_enough_19 : decode cX7_enough 19 = .ok (.if_icmp .ge 16, 3) := by decide +kernel
theorem dX7_enough_22 : decode cX7_enough 22 = .ok (.iinc 1 1, 3) := by decide +kernel
theorem dX7_enough_25 : decode cX7_enough 25 = .ok (.aload_n 0, 1) := by decide +kernel
theorem dX7_enough_26 : decode cX7_enough 26 = .ok (.iload_n 1, 1) := by decide +kernel
theorem dX7_enough_27 : decode cX7_enough 27 = .ok (.ldc 87, 2) := by decide +kernel
theorem dX7_enough_29 : decode cX7_enough 29 = .ok (.invokevirtual 237, 3) := by decide +kernel
theorem dX7_enough_32 : decode cX7_enough 32 = .ok (.goto (-23), 3) := by decide +kernel
theorem dX7_enough_35 : decode cX7_enough 35 = .ok (.iload_n 1, 1) := by decide +kernel
theorem dX7_enough_36 : decode cX7_enough 36 = .ok (.ireturn, 1) := by decide +kernel
theorem dX7_tries_0 : decode cX7_tries 0 = .ok (.iconst 0, 1) := by decide +kernel
theorem dX7_tries_1 : decode cX7_tries 1 = .ok (.istore_n 2, 1) := by decide +kernel
theorem dX7_tries_2 : decode cX7_tries 2 = .ok (.iconst 0, 1) := by decide +kernel
theorem dX7_tries_3 : decode cX7_tries 3 = .ok (.istore_n 3, 1) := by decide +kernel
theorem dX7_tries_4 : decode cX7_tries 4 = .ok (.iload_n 3, 1) := by decide +kernel
theorem dX7_tries_5 : decode cX7_tries 5 = .ok (.aload_n 0, 1) := by decide +kernel
theorem dX7_tries_6 : decode cX7_tries 6 = .ok (.getfield 49, 3) := by decide +kernel
theorem dX7_tries_9 : decode cX7_tries 9 = .ok (.iload_n 1, 1) := by decide +kernel
theorem dX7_tries_10 : decode cX7_tries 10 = .ok (.iaload, 1) := by decide +kernel
theorem dX7_tries_11 : decode cX7_tries 11 = .ok (.if_icmp .ge 32, 3) := by decide +kernel
theorem dX7_tries_14 : decode cX7_tries 14 = .ok (.iload_n 2, 1) := by decide +kernel
theorem dX7_tries_15 : decode cX7_tries 15 = .ok (.aload_n 0, 1) := by decide +kernel
theorem dX7_tries_16 : decode cX7_tries 16 = .ok (.getfield 31, 3) := by decide +kernel
theorem dX7_tries_19 : decode cX7_tries 19 = .ok (.bipush 90, 2) := by decide +kernel
theorem dX7_tries_21 : decode cX7_tries 21 = .ok (.iload_n 1, 1) := by decide +kernel
theorem dX7_tries_22 : decode cX7_tries 22 = .ok (.imul, 1) := by decide +kernel
theorem dX7_tries_23 : decode cX7_tries 23 = .ok (.iload_n 3, 1) := by decide +kernel
theorem dX7_tries_24 : decode cX7_tries 24 = .ok (.iadd, 1) := by decide +kernel
theorem dX7_tries_25 : decode cX7_tries 25 = .ok (.iaload, 1) := by decide +kernel
theorem dX7_tries_26 : decode cX7_tries 26 = .ok (.iconst 3, 1) := by decide +kernel
theorem dX7_tries_27 : decode cX7_tries 27 = .ok (.if_icmp .le 7, 3) := by decide +kernel
theorem dX7_tries_30 : decode cX7_tries 30 = .ok (.iconst 1, 1) := by decide +kernel
theorem dX7_tries_31 : decode cX7_tries 31 = .ok (.goto 4, 3) := by decide +kernel
theorem dX7_tries_34 : decode cX7_tries 34 = .ok (.iconst 0, 1) := by decide +kernel
theorem dX7_tries_35 : decode cX7_tries 35 = .ok (.iadd, 1) := by decide +kernel
theorem dX7_tries_36 : decode cX7_tries 36 = .ok (.istore_n 2, 1) := by decide +kernel
theorem dX7_tries_37 : decode cX7_tries 37 = .ok (.iinc 3 1, 3) := by decide +kernel
theorem dX7_tries_40 : decode cX7_tries 40 = .ok (.goto (-36), 3) := by decide +kernel
theorem dX7_tries_43 : decode cX7_tries 43 = .ok (.aload_n 0, 1) := by decide +kernel
theorem dX7_tries_44 : decode cX7_tries 44 = .ok (.getfield 49, 3) := by decide +kernel
theorem dX7_tries_47 : decode cX7_tries 47 = .ok (.iload_n 1, 1) := by decide +kernel
theorem dX7_tries_48 : decode cX7_tries 48 = .ok (.iaload, 1) := by decide +kernel
theorem dX7_tries_49 : decode cX7_tries 49 = .ok (.iconst 1, 1) := by decide +kernel
theorem dX7_tries_50 : decode cX7_tries 50 = .ok (.isub, 1) := by decide +kernel
theorem dX7_tries_51 : decode cX7_tries 51 = .ok (.istore_n 3, 1) := by decide +kernel
theorem dX7_tries_52 : decode cX7_tries 52 = .ok (.iload_n 3, 1) := by decide +kernel
theorem dX7_tries_53 : decode cX7_tries 53 = .ok (.ifCond .lt 268, 3) := by decide +kernel
theorem dX7_tries_56 : decode cX7_tries 56 = .ok (.iload_n 2, 1) := by decide +kernel
theorem dX7_tries_57 : decode cX7_tries 57 = .ok (.bipush 10, 2) := by decide +kernel
theorem dX7_tries_59 : decode cX7_tries 59 = .ok (.if_icmp .gt 262, 3) := by decide +kernel
theorem dX7_tries_62 : decode cX7_tries 62 = .ok (.aload_n 0, 1) := by decide +kernel
theorem dX7_tries_63 : decode cX7_tries 63 = .ok (.getfield 31, 3) := by decide +kernel
theorem dX7_tries_66 : decode cX7_tries 66 = .ok (.bipush 90, 2) := by decide +kernel
theorem dX7_tries_68 : decode cX7_tries 68 = .ok (.iload_n 1, 1) := by decide +kernel
theorem dX7_tries_69 : decode cX7_tries 69 = .ok (.imul, 1) := by decide +kernel
theorem dX7_tries_70 : decode cX7_tries 70 = .ok (.iload_n 3, 1) := by decide +kernel
theorem dX7_tries_71 : decode cX7_tries 71 = .ok (.iadd, 1) := by decide +kernel
theorem dX7_tries_72 : decode cX7_tries 72 = .ok (.iaload, 1) := by decide +kernel
theorem dX7_tries_73 : decode cX7_tries 73 = .ok (.istore 4, 2) := by decide +kernel
theorem dX7_tries_75 : decode cX7_tries 75 = .ok (.iload_n 3, 1) := by decide +kernel
theorem dX7_tries_76 : decode cX7_tries 76 = .ok (.iconst 1, 1) := by decide +kernel
theorem dX7_tries_77 : decode cX7_tries 77 = .ok (.iadd, 1) := by decide +kernel
theorem dX7_tries_78 : decode cX7_tries 78 = .ok (.istore 5, 2) := by decide +kernel
theorem dX7_tries_80 : decode cX7_tries 80 = .ok (.iload 4, 2) := by decide +kernel
theorem dX7_tries_82 : decode cX7_tries 82 = .ok (.iconst 3, 1) := by decide +kernel
theorem dX7_tries_83 : decode cX7_tries 83 = .ok (.if_icmp .le 21, 3) := by decide +kernel
theorem dX7_tries_86 : decode cX7_tries 86 = .ok (.iload 5, 2) := by decide +kernel
theorem dX7_tries_88 : decode cX7_tries 88 = .ok (.aload_n 0, 1) := by decide +kernel
theorem dX7_tries_89 : decode cX7_tries 89 = .ok (.getfield 37, 3) := by decide +kernel
theorem dX7_tries_92 : decode cX7_tries 92 = .ok (.bipush 90, 2) := by decide +kernel
theorem dX7_tries_94 : decode cX7_tries 94 = .ok (.iload_n 1, 1) := by decide +kernel
theorem dX7_tries_95 : decode cX7_tries 95 = .ok (.imul, 1) := by decide +kernel
theorem dX7_tries_96 : decode cX7_tries 96 = .ok (.iload 5, 2) := by decide +kernel
theorem dX7_tries_98 : decode cX7_tries 98 = .ok (.iadd, 1) := by decide +kernel
theorem dX7_tries_99 : decode cX7_tries 99 = .ok (.iaload, 1) := by decide +kernel
theorem dX7_tries_100 : decode cX7_tries 100 = .ok (.iadd, 1) := by decide +kernel
theorem dX7_tries_101 : decode cX7_tries 101 = .ok (.goto 4, 3) := by decide +kernel
theorem dX7_tries_104 : decode cX7_tries 104 = .ok (.iconst 0, 1) := by decide +kernel
theorem dX7_tries_105 : decode cX7_tries 105 = .ok (.istore 6, 2) := by decide +kernel
theorem dX7_tries_107 : decode cX7_tries 107 = .ok (.iconst 0, 1) := by decide +kernel
theorem dX7_tries_108 : decode cX7_tries 108 = .ok (.istore 7, 2) := by decide +kernel
theorem dX7_tries_110 : decode cX7_tries 110 = .ok (.iload 7, 2) := by decide +kernel
theorem dX7_tries_112 : decode cX7_tries 112 = .ok (.bipush 13, 2) := by decide +kernel
theorem dX7_tries_114 : decode cX7_tries 114 = .ok (.if_icmp .ge 64, 3) := by decide +kernel
theorem dX7_tries_117 : decode cX7_tries 117 = .ok (.aload_n 0, 1) := by decide +kernel
theorem dX7_tries_118 : decode cX7_tries 118 = .ok (.getfield 68, 3) := by decide +kernel
theorem dX7_tries_121 : decode cX7_tries 121 = .ok (.bipush 13, 2) := by decide +kernel
theorem dX7_tries_123 : decode cX7_tries 123 = .ok (.iload_n 3, 1) := by decide +kernel
theorem dX7_tries_124 : decode cX7_tries 124 = .ok (.imul, 1) := by decide +kernel
theorem dX7_tries_125 : decode cX7_tries 125 = .ok (.iload 7, 2) := by decide +kernel
theorem dX7_tries_127 : decode cX7_tries 127 = .ok (.iadd, 1) := by decide +kernel
theorem dX7_tries_128 : decode cX7_tries 128 = .ok (.iload 4, 2) := by decide +kernel
theorem dX7_tries_130 : decode cX7_tries 130 = .ok (.iconst 3, 1) := by decide +kernel
theorem dX7_tries_131 : decode cX7_tries 131 = .ok (.if_icmp .ge 17, 3) := by decide +kernel
theorem dX7_tries_134 : decode cX7_tries 134 = .ok (.iload 7, 2) := by decide +kernel
theorem dX7_tries_136 : decode cX7_tries 136 = .ok (.iconst 1, 1) := by decide +kernel
theorem dX7_tries_137 : decode cX7_tries 137 = .ok (.if_icmp .ne 7, 3) := by decide +kernel
theorem dX7_tries_140 : decode cX7_tries 140 = .ok (.iconst 1, 1) := by decide +kernel
theorem dX7_tries_141 : decode cX7_tries 141 = .ok (.goto 30, 3) := by decide +kernel
theorem dX7_tries_144 : decode cX7_tries 144 = .ok (.iconst 0, 1) := by decide +kernel
theorem dX7_tries_145 : decode cX7_tries 145 = .ok (.goto 26, 3) := by decide +kernel
theorem dX7_tries_148 : decode cX7_tries 148 = .ok (.iload 4, 2) := by decide +kernel
theorem dX7_tries_150 : decode cX7_tries 150 = .ok (.iconst 3, 1) := by decide +kernel
theorem dX7_tries_151 : decode cX7_tries 151 = .ok (.if_icmp .ne 19, 3) := by decide +kernel
theorem dX7_tries_154 : decode cX7_tries 154 = .ok (.aload_n 0, 1) := by decide +kernel
theorem dX7_tries_155 : decode cX7_tries 155 = .ok (.getfield 68, 3) := by decide +kernel
theorem dX7_tries_158 : decode cX7_tries 158 = .ok (.bipush 13, 2) := by decide +kernel
theorem dX7_tries_160 : decode cX7_tries 160 = .ok (.iload 5, 2) := by decide +kernel
theorem dX7_tries_162 : decode cX7_tries 162 = .ok (.imul, 1) := by decide +kernel
theorem dX7_tries_163 : decode cX7_tries 163 = .ok (.iload 7, 2) := by decide +kernel
theorem dX7_tries_165 : decode cX7_tries 165 = .ok (.iadd, 1) := by decide +kernel
theorem dX7_tries_166 : decode cX7_tries 166 = .ok (.iaload, 1) := by decide +kernel
theorem dX7_tries_167 : decode cX7_tries 167 = .ok (.goto 4, 3) := by decide +kernel
theorem dX7_tries_170 : decode cX7_tries 170 = .ok (.iconst 0, 1) := by decide +kernel
theorem dX7_tries_171 : decode cX7_tries 171 = .ok (.iastore, 1) := by decide +kernel
theorem dX7_tries_172 : decode cX7_tries 172 = .ok (.iinc 7 1, 3) := by decide +kernel
theorem dX7_tries_175 : decode cX7_tries 175 = .ok (.goto (-65), 3) := by decide +kernel
theorem dX7_tries_178 : decode cX7_tries 178 = .ok (.iconst 0, 1) := by decide +kernel
theorem dX7_tries_179 : decode cX7_tries 179 = .ok (.istore 7, 2) := by decide +kernel
theorem dX7_tries_181 : decode cX7_tries 181 = .ok (.iload 7, 2) := by decide +kernel
theorem dX7_tries_183 : decode cX7_tries 183 = .ok (.sipush 169, 3) := by decide +kernel
theorem dX7_tries_186 : decode cX7_tries 186 = .ok (.if_icmp .ge 129, 3) := by decide +kernel
theorem dX7_tries_189 : decode cX7_tries 189 = .ok (.iload 4, 2) := by decide +kernel
theorem dX7_tries_191 : decode cX7_tries 191 = .ok (.iconst 3, 1) := by decide +kernel
theorem dX7_tries_192 : decode cX7_tries 192 = .ok (.if_icmp .le 123, 3) := by decide +kernel
theorem dX7_tries_195 : decode cX7_tries 195 = .ok (.iload 7, 2) := by decide +kernel
theorem dX7_tries_197 : decode cX7_tries 197 = .ok (.bipush 13, 2) := by decide +kernel
theorem dX7_tries_199 : decode cX7_tries 199 = .ok (.idiv, 1) := by decide +kernel
theorem dX7_tries_200 : decode cX7_tries 200 = .ok (.istore 8, 2) := by decide +kernel
theorem dX7_tries_202 : decode cX7_tries 202 = .ok (.iload 7, 2) := by decide +kernel
theorem dX7_tries_204 : decode cX7_tries 204 = .ok (.bipush 13, 2) := by decide +kernel
theorem dX7_tries_206 : decode cX7_tries 206 = .ok (.irem, 1) := by decide +kernel
theorem dX7_tries_207 : decode cX7_tries 207 = .ok (.istore 9, 2) := by decide +kernel
theorem dX7_tries_209 : decode cX7_tries 209 = .ok (.aload_n 0, 1) := by decide +kernel
theorem dX7_tries_210 : decode cX7_tries 210 = .ok (.getfield 68, 3) := by decide +kernel
theorem dX7_tries_213 : decode cX7_tries 213 = .ok (.bipush 13, 2) := by decide +kernel
theorem dX7_tries_215 : decode cX7_tries 215 = .ok (.iload 5, 2) := by decide +kernel
theorem dX7_tries_217 : decode cX7_tries 217 = .ok (.imul, 1) := by decide +kernel
theorem dX7_tries_218 : decode cX7_tries 218 = .ok (.iload 8, 2) := by decide +kernel
theorem dX7_tries_220 : decode cX7_tries 220 = .ok (.iadd, 1) := by decide +kernel
theorem dX7_tries_221 : decode cX7_tries 221 = .ok (.iaload, 1) := by decide +kernel
theorem dX7_tries_222 : decode cX7_tries 222 = .ok (.aload_n 0, 1) := by decide +kernel
theorem dX7_tries_223 : decode cX7_tries 223 = .ok (.getfield 68, 3) := by decide +kernel
theorem dX7_tries_226 : decode cX7_tries 226 = .ok (.bipush 13, 2) := by decide +kernel
theorem dX7_tries_228 : decode cX7_tries 228 = .ok (.iload 6, 2) := by decide +kernel
theorem dX7_tries_230 : decode cX7_tries 230 = .ok (.imul, 1) := by decide +kernel
theorem dX7_tries_231 : decode cX7_tries 231 = .ok (.iload 9, 2) := by decide +kernel
theorem dX7_tries_233 : decode cX7_tries 233 = .ok (.iadd, 1) := by decide +kernel
theorem dX7_tries_234 : decode cX7_tries 234 = .ok (.iaload, 1) := by decide +kernel
theorem dX7_tries_235 : decode cX7_tries 235 = .ok (.imul, 1) := by decide +kernel
theorem dX7_tries_236 : decode cX7_tries 236 = .ok (.istore 10, 2) := by decide +kernel
theorem dX7_tries_238 : decode cX7_tries 238 = .ok (.iload 10, 2) := by decide +kernel
theorem dX7_tries_240 : decode cX7_tries 240 = .ok (.ifCond .le 69, 3) := by decide +kernel
theorem dX7_tries_243 : decode cX7_tries 243 = .ok (.aload_n 0, 1) := by decide +kernel
theorem dX7_tries_244 : decode cX7_tries 244 = .ok (.getfield 68, 3) := by decide +kernel
theorem dX7_tries_247 : decode cX7_tries 247 = .ok (.bipush 13, 2) := by decide +kernel
theorem dX7_tries_249 : decode cX7_tries 249 = .ok (.iload_n 3, 1) := by decide +kernel
theorem dX7_tries_250 : decode cX7_tries 250 = .ok (.imul, 1) := by decide +kernel
theorem dX7_tries_251 : decode cX7_tries 251 = .ok (.iload 8, 2) := by decide +kernel
theorem dX7_tries_253 : decode cX7_tries 253 = .ok (.iload 9, 2) := by decide +kernel
theorem dX7_tries_255 : decode cX7_tries 255 = .ok (.iconst 1, 1) := by decide +kernel
theorem dX7_tries_256 : decode cX7_tries 256 = .ok (.iadd, 1) := by decide +kernel
theorem dX7_tries_257 : decode cX7_tries 257 = .ok (.if_icmp .le 8, 3) := by decide +kernel
theorem dX7_tries_260 : decode cX7_tries 260 = .ok (.iload 8, 2) := by decide +kernel
theorem dX7_tries_262 : decode cX7_tries 262 = .ok (.goto 7, 3) := by decide +kernel
theorem dX7_tries_265 : decode cX7_tries 265 = .ok (.iload 9, 2) := by decide +kernel
theorem dX7_tries_267 : decode cX7_tries 267 = .ok (.iconst 1, 1) := by decide +kernel
theorem dX7_tries_268 : decode cX7_tries 268 = .ok (.iadd, 1) := by decide +kernel
theorem dX7_tries_269 : decode cX7_tries 269 = .ok (.iadd, 1) := by decide +kernel
theorem dX7_tries_270 : decode cX7_tries 270 = .ok (.dup2, 1) := by decide +kernel
theorem dX7_tries_271 : decode cX7_tries 271 = .ok (.iaload, 1) := by decide +kernel
theorem dX7_tries_272 : decode cX7_tries 272 = .ok (.iload 10, 2) := by decide +kernel
theorem dX7_tries_274 : decode cX7_tries 274 = .ok (.iadd, 1) := by decide +kernel
theorem dX7_tries_275 : decode cX7_tries 275 = .ok (.iastore, 1) := by decide +kernel
theorem dX7_tries_276 : decode cX7_tries 276 = .ok (.aload_n 0, 1) := by decide +kernel
theorem dX7_tries_277 : decode cX7_tries 277 = .ok (.getfield 68, 3) := by decide +kernel
theorem dX7_tries_280 : decode cX7_tries 280 = .ok (.bipush 13, 2) := by decide +kernel
theorem dX7_tries_282 : decode cX7_tries 282 = .ok (.iload_n 3, 1) := by decide +kernel
theorem dX7_tries_283 : decode cX7_tries 283 = .ok (.imul, 1) := by decide +kernel
theorem dX7_tries_284 : decode cX7_tries 284 = .ok (.iload 9, 2) := by decide +kernel
theorem dX7_tries_286 : decode cX7_tries 286 = .ok (.iload 8, 2) := by decide +kernel
theorem dX7_tries_288 : decode cX7_tries 288 = .ok (.iconst 1, 1) := by decide +kernel
theorem dX7_tries_289 : decode cX7_tries 289 = .ok (.iadd, 1) := by decide +kernel
theorem dX7_tries_290 : decode cX7_tries 290 = .ok (.if_icmp .le 8, 3) := by decide +kernel
theorem dX7_tries_293 : decode cX7_tries 293 = .ok (.iload 9, 2) := by decide +kernel
theorem dX7_tries_295 : decode cX7_tries 295 = .ok (.goto 7, 3) := by decide +kernel
theorem dX7_tries_298 : decode cX7_tries 298 = .ok (.iload 8, 2) := by decide +kernel
theorem dX7_tries_300 : decode cX7_tries 300 = .ok (.iconst 1, 1) := by decide +kernel
theorem dX7_tries_301 : decode cX7_tries 301 = .ok (.iadd, 1) := by decide +kernel
theorem dX7_tries_302 : decode cX7_tries 302 = .ok (.iadd, 1) := by decide +kernel
theorem dX7_tries_303 : decode cX7_tries 303 = .ok (.dup2, 1) := by decide +kernel
theorem dX7_tries_304 : decode cX7_tries 304 = .ok (.iaload, 1) := by decide +kernel
theorem dX7_tries_305 : decode cX7_tries 305 = .ok (.iload 10, 2) := by decide +kernel
theorem dX7_tries_307 : decode cX7_tries 307 = .ok (.iadd, 1) := by decide +kernel
theorem dX7_tries_308 : decode cX7_tries 308 = .ok (.iastore, 1) := by decide +kernel
theorem dX7_tries_309 : decode cX7_tries 309 = .ok (.iinc 7 1, 3) := by decide +kernel
theorem dX7_tries_312 : decode cX7_tries 312 = .ok (.goto (-131), 3) := by decide +kernel
theorem dX7_tries_315 : decode cX7_tries 315 = .ok (.iinc 3 (-1), 3) := by decide +kernel
theorem dX7_tries_318 : decode cX7_tries 318 = .ok (.goto (-266), 3) := by decide +kernel
theorem dX7_tries_321 : decode cX7_tries 321 = .ok (.iload_n 2, 1) := by decide +kernel
theorem dX7_tries_322 : decode cX7_tries 322 = .ok (.ireturn, 1) := by decide +kernel
theorem dX7_fewest_0 : decode cX7_fewest 0 = .ok (.iconst 1, 1) := by decide +kernel
theorem dX7_fewest_1 : decode cX7_fewest 1 = .ok (.istore_n 1, 1) := by decide +kernel
theorem dX7_fewest_2 : decode cX7_fewest 2 = .ok (.aload_n 0, 1) := by decide +kernel
theorem dX7_fewest_3 : decode cX7_fewest 3 = .ok (.getfield 68, 3) := by decide +kernel
theorem dX7_fewest_6 : decode cX7_fewest 6 = .ok (.iload_n 1, 1) := by decide +kernel
theorem dX7_fewest_7 : decode cX7_fewest 7 = .ok (.iaload, 1) := by decide +kernel
theorem dX7_fewest_8 : decode cX7_fewest 8 = .ok (.ifCond .ne 9, 3) := by decide +kernel
theorem dX7_fewest_11 : decode cX7_fewest 11 = .ok (.iinc 1 1, 3) := by decide +kernel
theorem dX7_fewest_14 : decode cX7_fewest 14 = .ok (.goto (-12), 3) := by decide +kernel
theorem dX7_fewest_17 : decode cX7_fewest 17 = .ok (.iload_n 1, 1) := by decide +kernel
theorem dX7_fewest_18 : decode cX7_fewest 18 = .ok (.ireturn, 1) := by decide +kernel
theorem dX7_proved_0 : decode cX7_proved 0 = .ok (.aload_n 0, 1) := by decide +kernel
theorem dX7_proved_1 : decode cX7_proved 1 = .ok (.iload_n 1, 1) := by decide +kernel
theorem dX7_proved_2 : decode cX7_proved 2 = .ok (.invokevirtual 156, 3) := by decide +kernel
theorem dX7_proved_5 : decode cX7_proved 5 = .ok (.ifCond .ne 6, 3) := by decide +kernel
theorem dX7_proved_8 : decode cX7_proved 8 = .ok (.ldc 79, 2) := by decide +kernel
theorem dX7_proved_10 : decode cX7_proved 10 = .ok (.ireturn, 1) := by decide +kernel
theorem dX7_proved_11 : decode cX7_proved 11 = .ok (.aload_n 0, 1) := by decide +kernel
theorem dX7_proved_12 : decode cX7_proved 12 = .ok (.invokevirtual 164, 3) := by decide +kernel
theorem dX7_proved_15 : decode cX7_proved 15 = .ok (.aload_n 0, 1) := by decide +kernel
theorem dX7_proved_16 : decode cX7_proved 16 = .ok (.iload_n 1, 1) := by decide +kernel
theorem dX7_proved_17 : decode cX7_proved 17 = .ok (.invokevirtual 240, 3) := by decide +kernel
theorem dX7_proved_20 : decode cX7_proved 20 = .ok (.bipush 10, 2) := by decide +kernel
theorem dX7_proved_22 : decode cX7_proved 22 = .ok (.if_icmp .le 8, 3) := by decide +kernel
theorem dX7_proved_25 : decode cX7_proved 25 = .ok (.ldc 87, 2) := by decide +kernel
theorem dX7_proved_27 : decode cX7_proved 27 = .ok (.goto 7, 3) := by decide +kernel
theorem dX7_proved_30 : decode cX7_proved 30 = .ok (.aload_n 0, 1) := by decide +kernel
theorem dX7_proved_31 : decode cX7_proved 31 = .ok (.invokevirtual 243, 3) := by decide +kernel
theorem dX7_proved_34 : decode cX7_proved 34 = .ok (.ireturn, 1) := by decide +kernel
theorem dX7_ways_0 : decode cX7_ways 0 = .ok (.aload_n 0, 1) := by decide +kernel
theorem dX7_ways_1 : decode cX7_ways 1 = .ok (.iload_n 1, 1) := by decide +kernel
theorem dX7_ways_2 : decode cX7_ways 2 = .ok (.invokevirtual 156, 3) := by decide +kernel
theorem dX7_ways_5 : decode cX7_ways 5 = .ok (.ifCond .ne 6, 3) := by decide +kernel
theorem dX7_ways_8 : decode cX7_ways 8 = .ok (.ldc 79, 2) := by decide +kernel
theorem dX7_ways_10 : decode cX7_ways 10 = .ok (.ireturn, 1) := by decide +kernel
theorem dX7_ways_11 : decode cX7_ways 11 = .ok (.aload_n 0, 1) := by decide +kernel
theorem dX7_ways_12 : decode cX7_ways 12 = .ok (.invokevirtual 164, 3) := by decide +kernel
theorem dX7_ways_15 : decode cX7_ways 15 = .ok (.aload_n 0, 1) := by decide +kernel
theorem dX7_ways_16 : decode cX7_ways 16 = .ok (.iload_n 1, 1) := by decide +kernel
theorem dX7_ways_17 : decode cX7_ways 17 = .ok (.invokevirtual 240, 3) := by decide +kernel
theorem dX7_ways_20 : decode cX7_ways 20 = .ok (.bipush 10, 2) := by decide +kernel
theorem dX7_ways_22 : decode cX7_ways 22 = .ok (.if_icmp .le 8, 3) := by decide +kernel
theorem dX7_ways_25 : decode cX7_ways 25 = .ok (.ldc 87, 2) := by decide +kernel
theorem dX7_ways_27 : decode cX7_ways 27 = .ok (.goto 12, 3) := by decide +kernel
theorem dX7_ways_30 : decode cX7_ways 30 = .ok (.aload_n 0, 1) := by decide +kernel
theorem dX7_ways_31 : decode cX7_ways 31 = .ok (.getfield 68, 3) := by decide +kernel
theorem dX7_ways_34 : decode cX7_ways 34 = .ok (.aload_n 0, 1) := by decide +kernel
theorem dX7_ways_35 : decode cX7_ways 35 = .ok (.invokevirtual 243, 3) := by decide +kernel
theorem dX7_ways_38 : decode cX7_ways 38 = .ok (.iaload, 1) := by decide +kernel
theorem dX7_ways_39 : decode cX7_ways 39 = .ok (.ireturn, 1) := by decide +kernel
