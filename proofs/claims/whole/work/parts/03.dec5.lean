theorem dX7_init_0 : decode cX7_init 0 = .ok (.aload_n 0, 1) := by decide +kernel
theorem dX7_init_1 : decode cX7_init 1 = .ok (.invokespecial 1, 3) := by decide +kernel
theorem dX7_init_4 : decode cX7_init 4 = .ok (.aload_n 0, 1) := by decide +kernel
theorem dX7_init_5 : decode cX7_init 5 = .ok (.sipush 376, 3) := by decide +kernel
theorem dX7_init_8 : decode cX7_init 8 = .ok (.newarray .int, 2) := by decide +kernel
theorem dX7_init_10 : decode cX7_init 10 = .ok (.putfield 7, 3) := by decide +kernel
theorem dX7_init_13 : decode cX7_init 13 = .ok (.aload_n 0, 1) := by decide +kernel
theorem dX7_init_14 : decode cX7_init 14 = .ok (.sipush 1880, 3) := by decide +kernel
theorem dX7_init_17 : decode cX7_init 17 = .ok (.newarray .int, 2) := by decide +kernel
theorem dX7_init_19 : decode cX7_init 19 = .ok (.putfield 13, 3) := by decide +kernel
theorem dX7_init_22 : decode cX7_init 22 = .ok (.aload_n 0, 1) := by decide +kernel
theorem dX7_init_23 : decode cX7_init 23 = .ok (.bipush 100, 2) := by decide +kernel
theorem dX7_init_25 : decode cX7_init 25 = .ok (.newarray .int, 2) := by decide +kernel
theorem dX7_init_27 : decode cX7_init 27 = .ok (.putfield 16, 3) := by decide +kernel
theorem dX7_init_30 : decode cX7_init 30 = .ok (.aload_n 0, 1) := by decide +kernel
theorem dX7_init_31 : decode cX7_init 31 = .ok (.sipush 376, 3) := by decide +kernel
theorem dX7_init_34 : decode cX7_init 34 = .ok (.newarray .int, 2) := by decide +kernel
theorem dX7_init_36 : decode cX7_init 36 = .ok (.putfield 19, 3) := by decide +kernel
theorem dX7_init_39 : decode cX7_init 39 = .ok (.aload_n 0, 1) := by decide +kernel
theorem dX7_init_40 : decode cX7_init 40 = .ok (.bipush 31, 2) := by decide +kernel
theorem dX7_init_42 : decode cX7_init 42 = .ok (.newarray .int, 2) := by decide +kernel
theorem dX7_init_44 : decode cX7_init 44 = .ok (.putfield 22, 3) := by decide +kernel
theorem dX7_init_47 : decode cX7_init 47 = .ok (.aload_n 0, 1) := by decide +kernel
theorem dX7_init_48 : decode cX7_init 48 = .ok (.bipush 64, 2) := by decide +kernel
theorem dX7_init_50 : decode cX7_init 50 = .ok (.newarray .int, 2) := by decide +kernel
theorem dX7_init_52 : decode cX7_init 52 = .ok (.putfield 25, 3) := by decide +kernel
theorem dX7_init_55 : decode cX7_init 55 = .ok (.aload_n 0, 1) := by decide +kernel
theorem dX7_init_56 : decode cX7_init 56 = .ok (.bipush 60, 2) := by decide +kernel
theorem dX7_init_58 : decode cX7_init 58 = .ok (.newarray .int, 2) := by decide +kernel
theorem dX7_init_60 : decode cX7_init 60 = .ok (.putfield 28, 3) := by decide +kernel
theorem dX7_init_63 : decode cX7_init 63 = .ok (.aload_n 0, 1) := by decide +kernel
theorem dX7_init_64 : decode cX7_init 64 = .ok (.sipush 540, 3) := by decide +kernel
theorem dX7_init_67 : decode cX7_init 67 = .ok (.newarray .int, 2) := by decide +kernel
theorem dX7_init_69 : decode cX7_init 69 = .ok (.putfield 31, 3) := by decide +kernel
theorem dX7_init_72 : decode cX7_init 72 = .ok (.aload_n 0, 1) := by decide +kernel
theorem dX7_init_73 : decode cX7_init 73 = .ok (.sipush 540, 3) := by decide +kernel
theorem dX7_init_76 : decode cX7_init 76 = .ok (.newarray .int, 2) := by decide +kernel
theorem dX7_init_78 : decode cX7_init 78 = .ok (.putfield 34, 3) := by decide +kernel
theorem dX7_init_81 : decode cX7_init 81 = .ok (.aload_n 0, 1) := by decide +kernel
theorem dX7_init_82 : decode cX7_init 82 = .ok (.sipush 540, 3) := by decide +kernel
theorem dX7_init_85 : decode cX7_init 85 = .ok (.newarray .int, 2) := by decide +kernel
theorem dX7_init_87 : decode cX7_init 87 = .ok (.putfield 37, 3) := by decide +kernel
theorem dX7_init_90 : decode cX7_init 90 = .ok (.aload_n 0, 1) := by decide +kernel
theorem dX7_init_91 : decode cX7_init 91 = .ok (.sipush 540, 3) := by decide +kernel
theorem dX7_init_94 : decode cX7_init 94 = .ok (.newarray .int, 2) := by decide +kernel
theorem dX7_init_96 : decode cX7_init 96 = .ok (.putfield 40, 3) := by decide +kernel
theorem dX7_init_99 : decode cX7_init 99 = .ok (.aload_n 0, 1) := by decide +kernel
theorem dX7_init_100 : decode cX7_init 100 = .ok (.sipush 540, 3) := by decide +kernel
theorem dX7_init_103 : decode cX7_init 103 = .ok (.newarray .int, 2) := by decide +kernel
theorem dX7_init_105 : decode cX7_init 105 = .ok (.putfield 43, 3) := by decide +kernel
theorem dX7_init_108 : decode cX7_init 108 = .ok (.aload_n 0, 1) := by decide +kernel
theorem dX7_init_109 : decode cX7_init 109 = .ok (.sipush 540, 3) := by decide +kernel
theorem dX7_init_112 : decode cX7_init 112 = .ok (.newarray .int, 2) := by decide +kernel
theorem dX7_init_114 : decode cX7_init 114 = .ok (.putfield 46, 3) := by decide +kernel
theorem dX7_init_117 : decode cX7_init 117 = .ok (.aload_n 0, 1) := by decide +kernel
theorem dX7_init_118 : decode cX7_init 118 = .ok (.bipush 6, 2) := by decide +kernel
theorem dX7_init_120 : decode cX7_init 120 = .ok (.newarray .int, 2) := by decide +kernel
theorem dX7_init_122 : decode cX7_init 122 = .ok (.putfield 49, 3) := by decide +kernel
theorem dX7_init_125 : decode cX7_init 125 = .ok (.aload_n 0, 1) := by decide +kernel
theorem dX7_init_126 : decode cX7_init 126 = .ok (.bipush 6, 2) := by decide +kernel
theorem dX7_init_128 : decode cX7_init 128 = .ok (.newarray .boolean, 2) := by decide +kernel
theorem dX7_init_130 : decode cX7_init 130 = .ok (.putfield 52, 3) := by decide +kernel
theorem dX7_init_133 : decode cX7_init 133 = .ok (.aload_n 0, 1) := by decide +kernel
theorem dX7_init_134 : decode cX7_init 134 = .ok (.iconst 4, 1) := by decide +kernel
theorem dX7_init_135 : decode cX7_init 135 = .ok (.newarray .int, 2) := by decide +kernel
theorem dX7_init_137 : decode cX7_init 137 = .ok (.putfield 56, 3) := by decide +kernel
theorem dX7_init_140 : decode cX7_init 140 = .ok (.aload_n 0, 1) := by decide +kernel
theorem dX7_init_141 : decode cX7_init 141 = .ok (.bipush 100, 2) := by decide +kernel
theorem dX7_init_143 : decode cX7_init 143 = .ok (.newarray .int, 2) := by decide +kernel
theorem dX7_init_145 : decode cX7_init 145 = .ok (.putfield 59, 3) := by decide +kernel
theorem dX7_init_148 : decode cX7_init 148 = .ok (.aload_n 0, 1) := by decide +kernel
theorem dX7_init_149 : decode cX7_init 149 = .ok (.bipush 100, 2) := by decide +kernel
theorem dX7_init_151 : decode cX7_init 151 = .ok (.newarray .int, 2) := by decide +kernel
theorem dX7_init_153 : decode cX7_init 153 = .ok (.putfield 62, 3) := by decide +kernel
theorem dX7_init_156 : decode cX7_init 156 = .ok (.aload_n 0, 1) := by decide +kernel
theorem dX7_init_157 : decode cX7_init 157 = .ok (.bipush 100, 2) := by decide +kernel
theorem dX7_init_159 : decode cX7_init 159 = .ok (.newarray .int, 2) := by decide +kernel
theorem dX7_init_161 : decode cX7_init 161 = .ok (.putfield 65, 3) := by decide +kernel
theorem dX7_init_164 : decode cX7_init 164 = .ok (.aload_n 0, 1) := by decide +kernel
theorem dX7_init_165 : decode cX7_init 165 = .ok (.sipush 1170, 3) := by decide +kernel
theorem dX7_init_168 : decode cX7_init 168 = .ok (.newarray .int, 2) := by decide +kernel
theorem dX7_init_170 : decode cX7_init 170 = .ok (.putfield 68, 3) := by decide +kernel
theorem dX7_init_173 : decode cX7_init 173 = .ok (.aload_n 0, 1) := by decide +kernel
theorem dX7_init_174 : decode cX7_init 174 = .ok (.getfield 7, 3) := by decide +kernel
theorem dX7_init_177 : decode cX7_init 177 = .ok (.iconst 0, 1) := by decide +kernel
theorem dX7_init_178 : decode cX7_init 178 = .ok (.iconst 1, 1) := by decide +kernel
theorem dX7_init_179 : decode cX7_init 179 = .ok (.iastore, 1) := by decide +kernel
theorem dX7_init_180 : decode cX7_init 180 = .ok (.aload_n 0, 1) := by decide +kernel
theorem dX7_init_181 : decode cX7_init 181 = .ok (.getfield 7, 3) := by decide +kernel
theorem dX7_init_184 : decode cX7_init 184 = .ok (.iconst 1, 1) := by decide +kernel
theorem dX7_init_185 : decode cX7_init 185 = .ok (.iconst 3, 1) := by decide +kernel
theorem dX7_init_186 : decode cX7_init 186 = .ok (.iastore, 1) := by decide +kernel
theorem dX7_init_187 : decode cX7_init 187 = .ok (.aload_n 0, 1) := by decide +kernel
theorem dX7_init_188 : decode cX7_init 188 = .ok (.getfield 7, 3) := by decide +kernel
theorem dX7_init_191 : decode cX7_init 191 = .ok (.bipush 10, 2) := by decide +kernel
theorem dX7_init_193 : decode cX7_init 193 = .ok (.iconst 1, 1) := by decide +kernel
theorem dX7_init_194 : decode cX7_init 194 = .ok (.iastore, 1) := by decide +kernel
theorem dX7_init_195 : decode cX7_init 195 = .ok (.return_, 1) := by decide +kernel
theorem dX7_in_0 : decode cX7_in 0 = .ok (.iload_n 0, 1) := by decide +kernel
theorem dX7_in_1 : decode cX7_in 1 = .ok (.iload_n 1, 1) := by decide +kernel
theorem dX7_in_2 : decode cX7_in 2 = .ok (.if_icmp .lt 12, 3) := by decide +kernel
theorem dX7_in_5 : decode cX7_in 5 = .ok (.iload_n 0, 1) := by decide +kernel
theorem dX7_in_6 : decode cX7_in 6 = .ok (.iload_n 2, 1) := by decide +kernel
theorem dX7_in_7 : decode cX7_in 7 = .ok (.if_icmp .gt 7, 3) := by decide +kernel
theorem dX7_in_10 : decode cX7_in 10 = .ok (.iconst 1, 1) := by decide +kernel
theorem dX7_in_11 : decode cX7_in 11 = .ok (.goto 4, 3) := by decide +kernel
theorem dX7_in_14 : decode cX7_in 14 = .ok (.iconst 0, 1) := by decide +kernel
theorem dX7_in_15 : decode cX7_in 15 = .ok (.ireturn, 1) := by decide +kernel
theorem dX7_acts_0 : decode cX7_acts 0 = .ok (.aload_n 0, 1) := by decide +kernel
theorem dX7_acts_1 : decode cX7_acts 1 = .ok (.getfield 71, 3) := by decide +kernel
theorem dX7_acts_4 : decode cX7_acts 4 = .ok (.iconst 5, 1) := by decide +kernel
theorem dX7_acts_5 : decode cX7_acts 5 = .ok (.if_icmp .ne 44, 3) := by decide +kernel
theorem dX7_acts_8 : decode cX7_acts 8 = .ok (.iconst 0, 1) := by decide +kernel
theorem dX7_acts_9 : decode cX7_acts 9 = .ok (.istore_n 1, 1) := by decide +kernel
theorem dX7_acts_10 : decode cX7_acts 10 = .ok (.iload_n 1, 1) := by decide +kernel
theorem dX7_acts_11 : decode cX7_acts 11 = .ok (.sipush 1504, 3) := by decide +kernel
theorem dX7_acts_14 : decode cX7_acts 14 = .ok (.if_icmp .ge 25, 3) := by decide +kernel
theorem dX7_acts_17 : decode cX7_acts 17 = .ok (.aload_n 0, 1) := by decide +kernel
theorem dX7_acts_18 : decode cX7_acts 18 = .ok (.getfield 13, 3) := by decide +kernel
theorem dX7_acts_21 : decode cX7_acts 21 = .ok (.iload_n 1, 1) := by decide +kernel
theorem dX7_acts_22 : decode cX7_acts 22 = .ok (.aload_n 0, 1) := by decide +kernel
theorem dX7_acts_23 : decode cX7_acts 23 = .ok (.getfield 13, 3) := by decide +kernel
theorem dX7_acts_26 : decode cX7_acts 26 = .ok (.iload_n 1, 1) := by decide +kernel
theorem dX7_acts_27 : decode cX7_acts 27 = .ok (.sipush 376, 3) := by decide +kernel
theorem dX7_acts_30 : decode cX7_acts 30 = .ok (.iadd, 1) := by decide +kernel
theorem dX7_acts_31 : decode cX7_acts 31 = .ok (.iaload, 1) := by decide +kernel
theorem dX7_acts_32 : decode cX7_acts 32 = .ok (.iastore, 1) := by decide +kernel
theorem dX7_acts_33 : decode cX7_acts 33 = .ok (.iinc 1 1, 3) := by decide +kernel
theorem dX7_acts_36 : decode cX7_acts 36 = .ok (.goto (-26), 3) := by decide +kernel
theorem dX7_acts_39 : decode cX7_acts 39 = .ok (.aload_n 0, 1) := by decide +kernel
theorem dX7_acts_40 : decode cX7_acts 40 = .ok (.dup, 1) := by decide +kernel
theorem dX7_acts_41 : decode cX7_acts 41 = .ok (.getfield 71, 3) := by decide +kernel
theorem dX7_acts_44 : decode cX7_acts 44 = .ok (.iconst 1, 1) := by decide +kernel
theorem dX7_acts_45 : decode cX7_acts 45 = .ok (.isub, 1) := by decide +kernel
theorem dX7_acts_46 : decode cX7_acts 46 = .ok (.putfield 71, 3) := by decide +kernel
theorem dX7_acts_49 : decode cX7_acts 49 = .ok (.iconst 0, 1) := by decide +kernel
theorem dX7_acts_50 : decode cX7_acts 50 = .ok (.istore_n 1, 1) := by decide +kernel
theorem dX7_acts_51 : decode cX7_acts 51 = .ok (.iload_n 1, 1) := by decide +kernel
theorem dX7_acts_52 : decode cX7_acts 52 = .ok (.sipush 376, 3) := by decide +kernel
theorem dX7_acts_55 : decode cX7_acts 55 = .ok (.if_icmp .ge 30, 3) := by decide +kernel
theorem dX7_acts_58 : decode cX7_acts 58 = .ok (.aload_n 0, 1) := by decide +kernel
theorem dX7_acts_59 : decode cX7_acts 59 = .ok (.getfield 13, 3) := by decide +kernel
theorem dX7_acts_62 : decode cX7_acts 62 = .ok (.sipush 376, 3) := by decide +kernel
theorem dX7_acts_65 : decode cX7_acts 65 = .ok (.aload_n 0, 1) := by decide +kernel
theorem dX7_acts_66 : decode cX7_acts 66 = .ok (.getfield 71, 3) := by decide +kernel
theorem dX7_acts_69 : decode cX7_acts 69 = .ok (.imul, 1) := by decide +kernel
theorem dX7_acts_70 : decode cX7_acts 70 = .ok (.iload_n 1, 1) := by decide +kernel
theorem dX7_acts_71 : decode cX7_acts 71 = .ok (.iadd, 1) := by decide +kernel
theorem dX7_acts_72 : decode cX7_acts 72 = .ok (.aload_n 0, 1) := by decide +kernel
theorem dX7_acts_73 : decode cX7_acts 73 = .ok (.getfield 7, 3) := by decide +kernel
theorem dX7_acts_76 : decode cX7_acts 76 = .ok (.iload_n 1, 1) := by decide +kernel
theorem dX7_acts_77 : decode cX7_acts 77 = .ok (.iaload, 1) := by decide +kernel
theorem dX7_acts_78 : decode cX7_acts 78 = .ok (.iastore, 1) := by decide +kernel
theorem dX7_acts_79 : decode cX7_acts 79 = .ok (.iinc 1 1, 3) := by decide +kernel
theorem dX7_acts_82 : decode cX7_acts 82 = .ok (.goto (-31), 3) := by decide +kernel
theorem dX7_acts_85 : decode cX7_acts 85 = .ok (.aload_n 0, 1) := by decide +kernel
theorem dX7_acts_86 : decode cX7_acts 86 = .ok (.dup, 1) := by decide +kernel
theorem dX7_acts_87 : decode cX7_acts 87 = .ok (.getfield 71, 3) := by decide +kernel
theorem dX7_acts_90 : decode cX7_acts 90 = .ok (.iconst 1, 1) := by decide +kernel
theorem dX7_acts_91 : decode cX7_acts 91 = .ok (.iadd, 1) := by decide +kernel
theorem dX7_acts_92 : decode cX7_acts 92 = .ok (.putfield 71, 3) := by decide +kernel
theorem dX7_acts_95 : decode cX7_acts 95 = .ok (.return_, 1) := by decide +kernel
theorem dX7_append_0 : decode cX7_append 0 = .ok (.iload_n 1, 1) := by decide +kernel
theorem dX7_append_1 : decode cX7_append 1 = .ok (.iconst 1, 1) := by decide +kernel
theorem dX7_append_2 : decode cX7_append 2 = .ok (.sipush 255, 3) := by decide +kernel
theorem dX7_append_5 : decode cX7_append 5 = .ok (.invokestatic 75, 3) := by decide +kernel
theorem dX7_append_8 : decode cX7_append 8 = .ok (.ifCond .ne 6, 3) := by decide +kernel
theorem dX7_append_11 : decode cX7_append 11 = .ok (.ldc 79, 2) := by decide +kernel
theorem dX7_append_13 : decode cX7_append 13 = .ok (.ireturn, 1) := by decide +kernel
theorem dX7_append_14 : decode cX7_append 14 = .ok (.aload_n 0, 1) := by decide +kernel
theorem dX7_append_15 : decode cX7_append 15 = .ok (.getfield 80, 3) := by decide +kernel
theorem dX7_append_18 : decode cX7_append 18 = .ok (.bipush 100, 2) := by decide +kernel
theorem dX7_append_20 : decode cX7_append 20 = .ok (.if_icmp .ne 6, 3) := by decide +kernel
theorem dX7_append_23 : decode cX7_append 23 = .ok (.ldc 83, 2) := by decide +kernel
theorem dX7_append_25 : decode cX7_append 25 = .ok (.ireturn, 1) := by decide +kernel
theorem dX7_append_26 : decode cX7_append 26 = .ok (.aload_n 0, 1) := by decide +kernel
theorem dX7_append_27 : decode cX7_append 27 = .ok (.getfield 16, 3) := by decide +kernel
theorem dX7_append_30 : decode cX7_append 30 = .ok (.aload_n 0, 1) := by decide +kernel
theorem dX7_append_31 : decode cX7_append 31 = .ok (.getfield 80, 3) := by decide +kernel
theorem dX7_append_34 : decode cX7_append 34 = .ok (.iload_n 1, 1) := by decide +kernel
theorem dX7_append_35 : decode cX7_append 35 = .ok (.iastore, 1) := by decide +kernel
theorem dX7_append_36 : decode cX7_append 36 = .ok (.aload_n 0, 1) := by decide +kernel
theorem dX7_append_37 : decode cX7_append 37 = .ok (.dup, 1) := by decide +kernel
theorem dX7_append_38 : decode cX7_append 38 = .ok (.getfield 80, 3) := by decide +kernel
theorem dX7_append_41 : decode cX7_append 41 = .ok (.iconst 1, 1) := by decide +kernel
theorem dX7_append_42 : decode cX7_append 42 = .ok (.iadd, 1) := by decide +kernel
theorem dX7_append_43 : decode cX7_append 43 = .ok (.putfield 80, 3) := by decide +kernel
theorem dX7_append_46 : decode cX7_append 46 = .ok (.aload_n 0, 1) := by decide +kernel
theorem dX7_append_47 : decode cX7_append 47 = .ok (.getfield 80, 3) := by decide +kernel
theorem dX7_append_50 : decode cX7_append 50 = .ok (.ireturn, 1) := by decide +kernel
theorem dX7_clearText_0 : decode cX7_clearText 0 = .ok (.aload_n 0, 1) := by decide +kernel
theorem dX7_clearText_1 : decode cX7_clearText 1 = .ok (.getfield 80, 3) := by decide +kernel
theorem dX7_clearText_4 : decode cX7_clearText 4 = .ok (.istore_n 1, 1) := by decide +kernel
theorem dX7_clearText_5 : decode cX7_clearText 5 = .ok (.aload_n 0, 1) := by decide +kernel
theorem dX7_clearText_6 : decode cX7_clearText 6 = .ok (.iconst 0, 1) := by decide +kernel
theorem dX7_clearText_7 : decode cX7_clearText 7 = .ok (.putfield 80, 3) := by decide +kernel
theorem dX7_clearText_10 : decode cX7_clearText 10 = .ok (.iload_n 1, 1) := by decide +kernel
theorem dX7_clearText_11 : decode cX7_clearText 11 = .ok (.ireturn, 1) := by decide +kernel
theorem dX7_here_0 : decode cX7_here 0 = .ok (.aload_n 0, 1) := by decide +kernel
theorem dX7_here_1 : decode cX7_here 1 = .ok (.getfield 84, 3) := by decide +kernel
theorem dX7_here_4 : decode cX7_here 4 = .ok (.aload_n 0, 1) := by decide +kernel
theorem dX7_here_5 : decode cX7_here 5 = .ok (.getfield 80, 3) := by decide +kernel
theorem dX7_here_8 : decode cX7_here 8 = .ok (.if_icmp .ge 15, 3) := by decide +kernel
theorem dX7_here_11 : decode cX7_here 11 = .ok (.aload_n 0, 1) := by decide +kernel
theorem dX7_here_12 : decode cX7_here 12 = .ok (.getfield 16, 3) := by decide +kernel
theorem dX7_here_15 : decode cX7_here 15 = .ok (.aload_n 0, 1) := by decide +kernel
theorem dX7_here_16 : decode cX7_here 16 = .ok (.getfield 84, 3) := by decide +kernel
theorem dX7_here_19 : decode cX7_here 19 = .ok (.iaload, 1) := by decide +kernel
theorem dX7_here_20 : decode cX7_here 20 = .ok (.goto 5, 3) := by decide +kernel
theorem dX7_here_23 : decode cX7_here 23 = .ok (.ldc 87, 2) := by decide +kernel
theorem dX7_here_25 : decode cX7_here 25 = .ok (.ireturn, 1) := by decide +kernel
theorem dX7_puts_0 : decode cX7_puts 0 = .ok (.bipush 16, 2) := by decide +kernel
theorem dX7_puts_2 : decode cX7_puts 2 = .ok (.bipush 60, 2) := by decide +kernel
theorem dX7_puts_4 : decode cX7_puts 4 = .ok (.aload_n 0, 1) := by decide +kernel
theorem dX7_puts_5 : decode cX7_puts 5 = .ok (.getfield 88, 3) := by decide +kernel
theorem dX7_puts_8 : decode cX7_puts 8 = .ok (.imul, 1) := by decide +kernel
theorem dX7_puts_9 : decode cX7_puts 9 = .ok (.iadd, 1) := by decide +kernel
theorem dX7_puts_10 : decode cX7_puts 10 = .ok (.istore 4, 2) := by decide +kernel
theorem dX7_puts_12 : decode cX7_puts 12 = .ok (.aload_n 0, 1) := by decide +kernel
theorem dX7_puts_13 : decode cX7_puts 13 = .ok (.getfield 91, 3) := by decide +kernel
theorem dX7_puts_16 : decode cX7_puts 16 = .ok (.istore 5, 2) := by decide +kernel
theorem dX7_puts_18 : decode cX7_puts 18 = .ok (.iload 5, 2) := by decide +kernel
theorem dX7_puts_20 : decode cX7_puts 20 = .ok (.iload_n 1, 1) := by decide +kernel
theorem dX7_puts_21 : decode cX7_puts 21 = .ok (.if_icmp .le 63, 3) := by decide +kernel
theorem dX7_puts_24 : decode cX7_puts 24 = .ok (.aload_n 0, 1) := by decide +kernel
theorem dX7_puts_25 : decode cX7_puts 25 = .ok (.getfield 19, 3) := by decide +kernel
theorem dX7_puts_28 : decode cX7_puts 28 = .ok (.iload 4, 2) := by decide +kernel
theorem dX7_puts_30 : decode cX7_puts 30 = .ok (.iconst 2, 1) := by decide +kernel
theorem dX7_puts_31 : decode cX7_puts 31 = .ok (.iload 5, 2) := by decide +kernel
theorem dX7_puts_33 : decode cX7_puts 33 = .ok (.imul, 1) := by decide +kernel
theorem dX7_puts_34 : decode cX7_puts 34 = .ok (.iadd, 1) := by decide +kernel
theorem dX7_puts_35 : decode cX7_puts 35 = .ok (.aload_n 0, 1) := by decide +kernel
theorem dX7_puts_36 : decode cX7_puts 36 = .ok (.getfield 19, 3) := by decide +kernel
theorem dX7_puts_39 : decode cX7_puts 39 = .ok (.iload 4, 2) := by decide +kernel
theorem dX7_puts_41 : decode cX7_puts 41 = .ok (.iconst 2, 1) := by decide +kernel
theorem dX7_puts_42 : decode cX7_puts 42 = .ok (.iload 5, 2) := by decide +kernel
theorem dX7_puts_44 : decode cX7_puts 44 = .ok (.imul, 1) := by decide +kernel
theorem dX7_puts_45 : decode cX7_puts 45 = .ok (.iadd, 1) := by decide +kernel
theorem dX7_puts_46 : decode cX7_puts 46 = .ok (.iconst 2, 1) := by decide +kernel
theorem dX7_puts_47 : decode cX7_puts 47 = .ok (.isub, 1) := by decide +kernel
theorem dX7_puts_48 : decode cX7_puts 48 = .ok (.iaload, 1) := by decide +kernel
theorem dX7_puts_49 : decode cX7_puts 49 = .ok (.iastore, 1) := by decide +kernel
theorem dX7_puts_50 : decode cX7_puts 50 = .ok (.aload_n 0, 1) := by decide +kernel
theorem dX7_puts_51 : decode cX7_puts 51 = .ok (.getfield 19, 3) := by decide +kernel
theorem dX7_puts_54 : decode cX7_puts 54 = .ok (.iload 4, 2) := by decide +kernel
theorem dX7_puts_56 : decode cX7_puts 56 = .ok (.iconst 2, 1) := by decide +kernel
theorem dX7_puts_57 : decode cX7_puts 57 = .ok (.iload 5, 2) := by decide +kernel
theorem dX7_puts_59 : decode cX7_puts 59 = .ok (.imul, 1) := by decide +kernel
theorem dX7_puts_60 : decode cX7_puts 60 = .ok (.iadd, 1) := by decide +kernel
theorem dX7_puts_61 : decode cX7_puts 61 = .ok (.iconst 1, 1) := by decide +kernel
theorem dX7_puts_62 : decode cX7_puts 62 = .ok (.iadd, 1) := by decide +kernel
theorem dX7_puts_63 : decode cX7_puts 63 = .ok (.aload_n 0, 1) := by decide +kernel
theorem dX7_puts_64 : decode cX7_puts 64 = .ok (.getfield 19, 3) := by decide +kernel
theorem dX7_puts_67 : decode cX7_puts 67 = .ok (.iload 4, 2) := by decide +kernel
theorem dX7_puts_69 : decode cX7_puts 69 = .ok (.iconst 2, 1) := by decide +kernel
theorem dX7_puts_70 : decode cX7_puts 70 = .ok (.iload 5, 2) := by decide +kernel
theorem dX7_puts_72 : decode cX7_puts 72 = .ok (.imul, 1) := by decide +kernel
theorem dX7_puts_73 : decode cX7_puts 73 = .ok (.iadd, 1) := by decide +kernel
theorem dX7_puts_74 : decode cX7_puts 74 = .ok (.iconst 1, 1) := by decide +kernel
theorem dX7_puts_75 : decode cX7_puts 75 = .ok (.isub, 1) := by decide +kernel
theorem dX7_puts_76 : decode cX7_puts 76 = .ok (.iaload, 1) := by decide +kernel
theorem dX7_puts_77 : decode cX7_puts 77 = .ok (.iastore, 1) := by decide +kernel
theorem dX7_puts_78 : decode cX7_puts 78 = .ok (.iinc 5 (-1), 3) := by decide +kernel
theorem dX7_puts_81 : decode cX7_puts 81 = .ok (.goto (-63), 3) := by decide +kernel
theorem dX7_puts_84 : decode cX7_puts 84 = .ok (.aload_n 0, 1) := by decide +kernel
theorem dX7_puts_85 : decode cX7_puts 85 = .ok (.getfield 19, 3) := by decide +kernel
theorem dX7_puts_88 : decode cX7_puts 88 = .ok (.iload 4, 2) := by decide +kernel
theorem dX7_puts_90 : decode cX7_puts 90 = .ok (.iconst 2, 1) := by decide +kernel
theorem dX7_puts_91 : decode cX7_puts 91 = .ok (.iload_n 1, 1) := by decide +kernel
theorem dX7_puts_92 : decode cX7_puts 92 = .ok (.imul, 1) := by decide +kernel
theorem dX7_puts_93 : decode cX7_puts 93 = .ok (.iadd, 1) := by decide +kernel
theorem dX7_puts_94 : decode cX7_puts 94 = .ok (.iload_n 2, 1) := by decide +kernel
theorem dX7_puts_95 : decode cX7_puts 95 = .ok (.iastore, 1) := by decide +kernel
theorem dX7_puts_96 : decode cX7_puts 96 = .ok (.aload_n 0, 1) := by decide +kernel
theorem dX7_puts_97 : decode cX7_puts 97 = .ok (.getfield 19, 3) := by decide +kernel
theorem dX7_puts_100 : decode cX7_puts 100 = .ok (.iload 4, 2) := by decide +kernel
theorem dX7_puts_102 : decode cX7_puts 102 = .ok (.iconst 2, 1) := by decide +kernel
theorem dX7_puts_103 : decode cX7_puts 103 = .ok (.iload_n 1, 1) := by decide +kernel
theorem dX7_puts_104 : decode cX7_puts 104 = .ok (.imul, 1) := by decide +kernel
theorem dX7_puts_105 : decode cX7_puts 105 = .ok (.iadd, 1) := by decide +kernel
theorem dX7_puts_106 : decode cX7_puts 106 = .ok (.iconst 1, 1) := by decide +kernel
theorem dX7_puts_107 : decode cX7_puts 107 = .ok (.iadd, 1) := by decide +kernel
theorem dX7_puts_108 : decode cX7_puts 108 = .ok (.iload_n 3, 1) := by decide +kernel
theorem dX7_puts_109 : decode cX7_puts 109 = .ok (.iastore, 1) := by decide +kernel
theorem dX7_puts_110 : decode cX7_puts 110 = .ok (.aload_n 0, 1) := by decide +kernel
theorem dX7_puts_111 : decode cX7_puts 111 = .ok (.dup, 1) := by decide +kernel
theorem dX7_puts_112 : decode cX7_puts 112 = .ok (.getfield 91, 3) := by decide +kernel
theorem dX7_puts_115 : decode cX7_puts 115 = .ok (.iconst 1, 1) := by decide +kernel
theorem dX7_puts_116 : decode cX7_puts 116 = .ok (.iadd, 1) := by decide +kernel
theorem dX7_puts_117 : decode cX7_puts 117 = .ok (.putfield 91, 3) := by decide +kernel
theorem dX7_puts_120 : decode cX7_puts 120 = .ok (.return_, 1) := by decide +kernel
theorem dX7_leaf_0 : decode cX7_leaf 0 = .ok (.aload_n 0, 1) := by decide +kernel
theorem dX7_leaf_1 : decode cX7_leaf 1 = .ok (.getfield 22, 3) := by decide +kernel
theorem dX7_leaf_4 : decode cX7_leaf 4 = .ok (.aload_n 0, 1) := by decide +kernel
theorem dX7_leaf_5 : decode cX7_leaf 5 = .ok (.getfield 94, 3) := by decide +kernel
theorem dX7_leaf_8 : decode cX7_leaf 8 = .ok (.aload_n 0, 1) := by decide +kernel
theorem dX7_leaf_9 : decode cX7_leaf 9 = .ok (.getfield 91, 3) := by decide +kernel
theorem dX7_leaf_12 : decode cX7_leaf 12 = .ok (.iastore, 1) := by decide +kernel
theorem dX7_leaf_13 : decode cX7_leaf 13 = .ok (.aload_n 0, 1) := by decide +kernel
theorem dX7_leaf_14 : decode cX7_leaf 14 = .ok (.dup, 1) := by decide +kernel
theorem dX7_leaf_15 : decode cX7_leaf 15 = .ok (.getfield 94, 3) := by decide +kernel
theorem dX7_leaf_18 : decode cX7_leaf 18 = .ok (.iconst 1, 1) := by decide +kernel
theorem dX7_leaf_19 : decode cX7_leaf 19 = .ok (.iadd, 1) := by decide +kernel
theorem dX7_leaf_20 : decode cX7_leaf 20 = .ok (.putfield 94, 3) := by decide +kernel
theorem dX7_leaf_23 : decode cX7_leaf 23 = .ok (.aload_n 0, 1) := by decide +kernel
theorem dX7_leaf_24 : decode cX7_leaf 24 = .ok (.aload_n 0, 1) := by decide +kernel
theorem dX7_leaf_25 : decode cX7_leaf 25 = .ok (.getfield 91, 3) := by decide +kernel
theorem dX7_leaf_28 : decode cX7_leaf 28 = .ok (.iload_n 1, 1) := by decide +kernel
theorem dX7_leaf_29 : decode cX7_leaf 29 = .ok (.iload_n 2, 1) := by decide +kernel
theorem dX7_leaf_30 : decode cX7_leaf 30 = .ok (.invokevirtual 97, 3) := by decide +kernel
theorem dX7_leaf_33 : decode cX7_leaf 33 = .ok (.aload_n 0, 1) := by decide +kernel
theorem dX7_leaf_34 : decode cX7_leaf 34 = .ok (.dup, 1) := by decide +kernel
theorem dX7_leaf_35 : decode cX7_leaf 35 = .ok (.getfield 101, 3) := by decide +kernel
theorem dX7_leaf_38 : decode cX7_leaf 38 = .ok (.iconst 1, 1) := by decide +kernel
theorem dX7_leaf_39 : decode cX7_leaf 39 = .ok (.iadd, 1) := by decide +kernel
theorem dX7_leaf_40 : decode cX7_leaf 40 = .ok (.putfield 101, 3) := by decide +kernel
theorem dX7_leaf_43 : decode cX7_leaf 43 = .ok (.iconst 1, 1) := by decide +kernel
theorem dX7_leaf_44 : decode cX7_leaf 44 = .ok (.ireturn, 1) := by decide +kernel
theorem dX7_kindOf_0 : decode cX7_kindOf 0 = .ok (.iload_n 0, 1) := by decide +kernel
theorem dX7_kindOf_1 : decode cX7_kindOf 1 = .ok (.bipush 33, 2) := by decide +kernel
theorem dX7_kindOf_3 : decode cX7_kindOf 3 = .ok (.if_icmp .ne 7, 3) := by decide +kernel
theorem dX7_kindOf_6 : decode cX7_kindOf 6 = .ok (.iconst 3, 1) := by decide +kernel
theorem dX7_kindOf_7 : decode cX7_kindOf 7 = .ok (.goto 25, 3) := by decide +kernel
theorem dX7_kindOf_10 : decode cX7_kindOf 10 = .ok (.iload_n 0, 1) := by decide +kernel
theorem dX7_kindOf_11 : decode cX7_kindOf 11 = .ok (.bipush 43, 2) := by decide +kernel
theorem dX7_kindOf_13 : decode cX7_kindOf 13 = .ok (.if_icmp .ne 7, 3) := by decide +kernel
theorem dX7_kindOf_16 : decode cX7_kindOf 16 = .ok (.iconst 4, 1) := by decide +kernel
theorem dX7_kindOf_17 : decode cX7_kindOf 17 = .ok (.goto 15, 3) := by decide +kernel
theorem dX7_kindOf_20 : decode cX7_kindOf 20 = .ok (.iload_n 0, 1) := by decide +kernel
theorem dX7_kindOf_21 : decode cX7_kindOf 21 = .ok (.bipush 45, 2) := by decide +kernel
theorem dX7_kindOf_23 : decode cX7_kindOf 23 = .ok (.if_icmp .ne 7, 3) := by decide +kernel
theorem dX7_kindOf_26 : decode cX7_kindOf 26 = .ok (.iconst 5, 1) := by decide +kernel
theorem dX7_kindOf_27 : decode cX7_kindOf 27 = .ok (.goto 5, 3) := by decide +kernel
theorem dX7_kindOf_30 : decode cX7_kindOf 30 = .ok (.bipush 6, 2) := by decide +kernel
theorem dX7_kindOf_32 : decode cX7_kindOf 32 = .ok (.ireturn, 1) := by decide +kernel
theorem dX7_makes_0 : decode cX7_makes 0 = .ok (.iload_n 1, 1) := by decide +kernel
theorem dX7_makes_1 : decode cX7_makes 1 = .ok (.bipush 33, 2) := by decide +kernel
theorem dX7_makes_3 : decode cX7_makes 3 = .ok (.if_icmp .eq 13, 3) := by decide +kernel
theorem dX7_makes_6 : decode cX7_makes 6 = .ok (.aload_n 0, 1) := by decide +kernel
theorem dX7_makes_7 : decode cX7_makes 7 = .ok (.dup, 1) := by decide +kernel
theorem dX7_makes_8 : decode cX7_makes 8 = .ok (.getfield 94, 3) := by decide +kernel
theorem dX7_makes_11 : decode cX7_makes 11 = .ok (.iconst 1, 1) := by decide +kernel
theorem dX7_makes_12 : decode cX7_makes 12 = .ok (.isub, 1) := by decide +kernel
theorem dX7_makes_13 : decode cX7_makes 13 = .ok (.putfield 94, 3) := by decide +kernel
theorem dX7_makes_16 : decode cX7_makes 16 = .ok (.aload_n 0, 1) := by decide +kernel
theorem dX7_makes_17 : decode cX7_makes 17 = .ok (.aload_n 0, 1) := by decide +kernel
theorem dX7_makes_18 : decode cX7_makes 18 = .ok (.getfield 22, 3) := by decide +kernel
theorem dX7_makes_21 : decode cX7_makes 21 = .ok (.aload_n 0, 1) := by decide +kernel
theorem dX7_makes_22 : decode cX7_makes 22 = .ok (.getfield 94, 3) := by decide +kernel
theorem dX7_makes_25 : decode cX7_makes 25 = .ok (.iconst 1, 1) := by decide +kernel
theorem dX7_makes_26 : decode cX7_makes 26 = .ok (.isub, 1) := by decide +kernel
theorem dX7_makes_27 : decode cX7_makes 27 = .ok (.iaload, 1) := by decide +kernel
theorem dX7_makes_28 : decode cX7_makes 28 = .ok (.iload_n 1, 1) := by decide +kernel
theorem dX7_makes_29 : decode cX7_makes 29 = .ok (.invokestatic 104, 3) := by decide +kernel
theorem dX7_makes_32 : decode cX7_makes 32 = .ok (.ldc 87, 2) := by decide +kernel
theorem dX7_makes_34 : decode cX7_makes 34 = .ok (.invokevirtual 97, 3) := by decide +kernel
theorem dX7_makes_37 : decode cX7_makes 37 = .ok (.return_, 1) := by decide +kernel
theorem dX7_settles_0 : decode cX7_settles 0 = .ok (.iconst 1, 1) := by decide +kernel
theorem dX7_settles_1 : decode cX7_settles 1 = .ok (.istore_n 2, 1) := by decide +kernel
theorem dX7_settles_2 : decode cX7_settles 2 = .ok (.iload_n 2, 1) := by decide +kernel
theorem dX7_settles_3 : decode cX7_settles 3 = .ok (.ifCond .eq 109, 3) := by decide +kernel
theorem dX7_settles_6 : decode cX7_settles 6 = .ok (.aload_n 0, 1) := by decide +kernel
theorem dX7_settles_7 : decode cX7_settles 7 = .ok (.getfield 108, 3) := by decide +kernel
theorem dX7_settles_10 : decode cX7_settles 10 = .ok (.ifCond .le 102, 3) := by decide +kernel
theorem dX7_settles_13 : decode cX7_settles 13 = .ok (.aload_n 0, 1) := by decide +kernel
theorem dX7_settles_14 : decode cX7_settles 14 = .ok (.getfield 25, 3) := by decide +kernel
theorem dX7_settles_17 : decode cX7_settles 17 = .ok (.aload_n 0, 1) := by decide +kernel
theorem dX7_settles_18 : decode cX7_settles 18 = .ok (.getfield 108, 3) := by decide +kernel
theorem dX7_settles_21 : decode cX7_settles 21 = .ok (.iconst 1, 1) := by decide +kernel
theorem dX7_settles_22 : decode cX7_settles 22 = .ok (.isub, 1) := by decide +kernel
theorem dX7_settles_23 : decode cX7_settles 23 = .ok (.iaload, 1) := by decide +kernel
theorem dX7_settles_24 : decode cX7_settles 24 = .ok (.istore_n 3, 1) := by decide +kernel
theorem dX7_settles_25 : decode cX7_settles 25 = .ok (.iload_n 3, 1) := by decide +kernel
theorem dX7_settles_26 : decode cX7_settles 26 = .ok (.bipush 40, 2) := by decide +kernel
theorem dX7_settles_28 : decode cX7_settles 28 = .ok (.if_icmp .ne 7, 3) := by decide +kernel
theorem dX7_settles_31 : decode cX7_settles 31 = .ok (.iconst 0, 1) := by decide +kernel
theorem dX7_settles_32 : decode cX7_settles 32 = .ok (.goto 24, 3) := by decide +kernel
theorem dX7_settles_35 : decode cX7_settles 35 = .ok (.iload_n 3, 1) := by decide +kernel
theorem dX7_settles_36 : decode cX7_settles 36 = .ok (.bipush 33, 2) := by decide +kernel
theorem dX7_settles_38 : decode cX7_settles 38 = .ok (.if_icmp .ne 7, 3) := by decide +kernel
theorem dX7_settles_41 : decode cX7_settles 41 = .ok (.iconst 3, 1) := by decide +kernel
theorem dX7_settles_42 : decode cX7_settles 42 = .ok (.goto 14, 3) := by decide +kernel
theorem dX7_settles_45 : decode cX7_settles 45 = .ok (.iload_n 3, 1) := by decide +kernel
theorem dX7_settles_46 : decode cX7_settles 46 = .ok (.bipush 42, 2) := by decide +kernel
theorem dX7_settles_48 : decode cX7_settles 48 = .ok (.if_icmp .ne 7, 3) := by decide +kernel
theorem dX7_settles_51 : decode cX7_settles 51 = .ok (.iconst 2, 1) := by decide +kernel
theorem dX7_settles_52 : decode cX7_settles 52 = .ok (.goto 4, 3) := by decide +kernel
theorem dX7_settles_55 : decode cX7_settles 55 = .ok (.iconst 1, 1) := by decide +kernel
theorem dX7_settles_56 : decode cX7_settles 56 = .ok (.istore 4, 2) := by decide +kernel
theorem dX7_settles_58 : decode cX7_settles 58 = .ok (.iload 4, 2) := by decide +kernel
theorem dX7_settles_60 : decode cX7_settles 60 = .ok (.iload_n 1, 1) := by decide +kernel
theorem dX7_settles_61 : decode cX7_settles 61 = .ok (.if_icmp .lt 7, 3) := by decide +kernel
theorem dX7_settles_64 : decode cX7_settles 64 = .ok (.iconst 1, 1) := by decide +kernel
theorem dX7_settles_65 : decode cX7_settles 65 = .ok (.goto 4, 3) := by decide +kernel
theorem dX7_settles_68 : decode cX7_settles 68 = .ok (.iconst 0, 1) := by decide +kernel
theorem dX7_settles_69 : decode cX7_settles 69 = .ok (.istore_n 2, 1) := by decide +kernel
theorem dX7_settles_70 : decode cX7_settles 70 = .ok (.iload_n 2, 1) := by decide +kernel
theorem dX7_settles_71 : decode cX7_settles 71 = .ok (.ifCond .eq 38, 3) := by decide +kernel
theorem dX7_settles_74 : decode cX7_settles 74 = .ok (.aload_n 0, 1) := by decide +kernel
theorem dX7_settles_75 : decode cX7_settles 75 = .ok (.iload_n 3, 1) := by decide +kernel
theorem dX7_settles_76 : decode cX7_settles 76 = .ok (.invokevirtual 111, 3) := by decide +kernel
theorem dX7_settles_79 : decode cX7_settles 79 = .ok (.aload_n 0, 1) := by decide +kernel
theorem dX7_settles_80 : decode cX7_settles 80 = .ok (.dup, 1) := by decide +kernel
theorem dX7_settles_81 : decode cX7_settles 81 = .ok (.getfield 108, 3) := by decide +kernel
theorem dX7_settles_84 : decode cX7_settles 84 = .ok (.iconst 1, 1) := by decide +kernel
theorem dX7_settles_85 : decode cX7_settles 85 = .ok (.isub, 1) := by decide +kernel
theorem dX7_settles_86 : decode cX7_settles 86 = .ok (.putfield 108, 3) := by decide +kernel
theorem dX7_settles_89 : decode cX7_settles 89 = .ok (.aload_n 0, 1) := by decide +kernel
theorem dX7_settles_90 : decode cX7_settles 90 = .ok (.dup, 1) := by decide +kernel
theorem dX7_settles_91 : decode cX7_settles 91 = .ok (.getfield 115, 3) := by decide +kernel
theorem dX7_settles_94 : decode cX7_settles 94 = .ok (.iload_n 3, 1) := by decide +kernel
theorem dX7_settles_95 : decode cX7_settles 95 = .ok (.bipush 33, 2) := by decide +kernel
theorem dX7_settles_97 : decode cX7_settles 97 = .ok (.if_icmp .ne 7, 3) := by decide +kernel
theorem dX7_settles_100 : decode cX7_settles 100 = .ok (.iconst 1, 1) := by decide +kernel
theorem dX7_settles_101 : decode cX7_settles 101 = .ok (.goto 4, 3) := by decide +kernel
theorem dX7_settles_104 : decode cX7_settles 104 = .ok (.iconst 0, 1) := by decide +kernel
theorem dX7_settles_105 : decode cX7_settles 105 = .ok (.isub, 1) := by decide +kernel
theorem dX7_settles_106 : decode cX7_settles 106 = .ok (.putfield 115, 3) := by decide +kernel
theorem dX7_settles_109 : decode cX7_settles 109 = .ok (.goto (-107), 3) := by decide +kernel
theorem dX7_settles_112 : decode cX7_settles 112 = .ok (.return_, 1) := by decide +kernel
theorem dX7_number_0 : decode cX7_number 0 = .ok (.aload_n 0, 1) := by decide +kernel
theorem dX7_number_1 : decode cX7_number 1 = .ok (.invokevirtual 118, 3) := by decide +kernel
theorem dX7_number_4 : decode cX7_number 4 = .ok (.bipush 48, 2) := by decide +kernel
theorem dX7_number_6 : decode cX7_number 6 = .ok (.isub, 1) := by decide +kernel
theorem dX7_number_7 : decode cX7_number 7 = .ok (.istore_n 1, 1) := by decide +kernel
theorem dX7_number_8 : decode cX7_number 8 = .ok (.aload_n 0, 1) := by decide +kernel
theorem dX7_number_9 : decode cX7_number 9 = .ok (.getfield 84, 3) := by decide +kernel
theorem dX7_number_12 : decode cX7_number 12 = .ok (.istore_n 2, 1) := by decide +kernel
theorem dX7_number_13 : decode cX7_number 13 = .ok (.aload_n 0, 1) := by decide +kernel
theorem dX7_number_14 : decode cX7_number 14 = .ok (.dup, 1) := by decide +kernel
theorem dX7_number_15 : decode cX7_number 15 = .ok (.getfield 84, 3) := by decide +kernel
theorem dX7_number_18 : decode cX7_number 18 = .ok (.iconst 1, 1) := by decide +kernel
theorem dX7_number_19 : decode cX7_number 19 = .ok (.iadd, 1) := by decide +kernel
theorem dX7_number_20 : decode cX7_number 20 = .ok (.putfield 84, 3) := by decide +kernel
theorem dX7_number_23 : decode cX7_number 23 = .ok (.aload_n 0, 1) := by decide +kernel
theorem dX7_number_24 : decode cX7_number 24 = .ok (.invokevirtual 118, 3) := by decide +kernel
theorem dX7_number_27 : decode cX7_number 27 = .ok (.bipush 48, 2) := by decide +kernel
theorem dX7_number_29 : decode cX7_number 29 = .ok (.bipush 57, 2) := by decide +kernel
theorem dX7_number_31 : decode cX7_number 31 = .ok (.invokestatic 75, 3) := by decide +kernel
theorem dX7_number_34 : decode cX7_number 34 = .ok (.ifCond .eq 45, 3) := by decide +kernel
theorem dX7_number_37 : decode cX7_number 37 = .ok (.iload_n 1, 1) := by decide +kernel
theorem dX7_number_38 : decode cX7_number 38 = .ok (.ifCond .eq 13, 3) := by decide +kernel
theorem dX7_number_41 : decode cX7_number 41 = .ok (.aload_n 0, 1) := by decide +kernel
theorem dX7_number_42 : decode cX7_number 42 = .ok (.getfield 84, 3) := by decide +kernel
theorem dX7_number_45 : decode cX7_number 45 = .ok (.iload_n 2, 1) := by decide +kernel
theorem dX7_number_46 : decode cX7_number 46 = .ok (.isub, 1) := by decide +kernel
theorem dX7_number_47 : decode cX7_number 47 = .ok (.iconst 3, 1) := by decide +kernel
theorem dX7_number_48 : decode cX7_number 48 = .ok (.if_icmp .ne 5, 3) := by decide +kernel
theorem dX7_number_51 : decode cX7_number 51 = .ok (.iconst 0, 1) := by decide +kernel
theorem dX7_number_52 : decode cX7_number 52 = .ok (.ireturn, 1) := by decide +kernel
theorem dX7_number_53 : decode cX7_number 53 = .ok (.bipush 10, 2) := by decide +kernel
theorem dX7_number_55 : decode cX7_number 55 = .ok (.iload_n 1, 1) := by decide +kernel
theorem dX7_number_56 : decode cX7_number 56 = .ok (.imul, 1) := by decide +kernel
theorem dX7_number_57 : decode cX7_number 57 = .ok (.aload_n 0, 1) := by decide +kernel
theorem dX7_number_58 : decode cX7_number 58 = .ok (.invokevirtual 118, 3) := by decide +kernel
theorem dX7_number_61 : decode cX7_number 61 = .ok (.iadd, 1) := by decide +kernel
theorem dX7_number_62 : decode cX7_number 62 = .ok (.bipush 48, 2) := by decide +kernel
theorem dX7_number_64 : decode cX7_number 64 = .ok (.isub, 1) := by decide +kernel
theorem dX7_number_65 : decode cX7_number 65 = .ok (.istore_n 1, 1) := by decide +kernel
theorem dX7_number_66 : decode cX7_number 66 = .ok (.aload_n 0, 1) := by decide +kernel
theorem dX7_number_67 : decode cX7_number 67 = .ok (.dup, 1) := by decide +kernel
theorem dX7_number_68 : decode cX7_number 68 = .ok (.getfield 84, 3) := by decide +kernel
theorem dX7_number_71 : decode cX7_number 71 = .ok (.iconst 1, 1) := by decide +kernel
theorem dX7_number_72 : decode cX7_number 72 = .ok (.iadd, 1) := by decide +kernel
theorem dX7_number_73 : decode cX7_number 73 = .ok (.putfield 84, 3) := by decide +kernel
theorem dX7_number_76 : decode cX7_number 76 = .ok (.goto (-53), 3) := by decide +kernel
theorem dX7_number_79 : decode cX7_number 79 = .ok (.aload_n 0, 1) := by decide +kernel
theorem dX7_number_80 : decode cX7_number 80 = .ok (.iconst 0, 1) := by decide +kernel
theorem dX7_number_81 : decode cX7_number 81 = .ok (.iload_n 1, 1) := by decide +kernel
theorem dX7_number_82 : decode cX7_number 82 = .ok (.invokevirtual 122, 3) := by decide +kernel
theorem dX7_number_85 : decode cX7_number 85 = .ok (.ireturn, 1) := by decide +kernel
theorem dX7_factor_0 : decode cX7_factor 0 = .ok (.aload_n 0, 1) := by decide +kernel
theorem dX7_factor_1 : decode cX7_factor 1 = .ok (.invokevirtual 118, 3) := by decide +kernel
theorem dX7_factor_4 : decode cX7_factor 4 = .ok (.istore_n 1, 1) := by decide +kernel
theorem dX7_factor_5 : decode cX7_factor 5 = .ok (.aload_n 0, 1) := by decide +kernel
theorem dX7_factor_6 : decode cX7_factor 6 = .ok (.iconst 0, 1) := by decide +kernel
theorem dX7_factor_7 : decode cX7_factor 7 = .ok (.putfield 126, 3) := by decide +kernel
theorem dX7_factor_10 : decode cX7_factor 10 = .ok (.iload_n 1, 1) := by decide +kernel
theorem dX7_factor_11 : decode cX7_factor 11 = .ok (.bipush 40, 2) := by decide +kernel
theorem dX7_factor_13 : decode cX7_factor 13 = .ok (.if_icmp .eq 9, 3) := by decide +kernel
theorem dX7_factor_16 : decode cX7_factor 16 = .ok (.iload_n 1, 1) := by decide +kernel
theorem dX7_factor_17 : decode cX7_factor 17 = .ok (.bipush 33, 2) := by decide +kernel
theorem dX7_factor_19 : decode cX7_factor 19 = .ok (.if_icmp .ne 91, 3) := by decide +kernel
theorem dX7_factor_22 : decode cX7_factor 22 = .ok (.aload_n 0, 1) := by decide +kernel
theorem dX7_factor_23 : decode cX7_factor 23 = .ok (.getfield 115, 3) := by decide +kernel
theorem dX7_factor_26 : decode cX7_factor 26 = .ok (.bipush 8, 2) := by decide +kernel
theorem dX7_factor_28 : decode cX7_factor 28 = .ok (.if_icmp .eq 18, 3) := by decide +kernel
theorem dX7_factor_31 : decode cX7_factor 31 = .ok (.iload_n 1, 1) := by decide +kernel
theorem dX7_factor_32 : decode cX7_factor 32 = .ok (.bipush 33, 2) := by decide +kernel
theorem dX7_factor_34 : decode cX7_factor 34 = .ok (.if_icmp .ne 14, 3) := by decide +kernel
theorem dX7_factor_37 : decode cX7_factor 37 = .ok (.aload_n 0, 1) := by decide +kernel
theorem dX7_factor_38 : decode cX7_factor 38 = .ok (.getfield 101, 3) := by decide +kernel
theorem dX7_factor_41 : decode cX7_factor 41 = .ok (.bipush 30, 2) := by decide +kernel
theorem dX7_factor_43 : decode cX7_factor 43 = .ok (.if_icmp .ne 5, 3) := by decide +kernel
theorem dX7_factor_46 : decode cX7_factor 46 = .ok (.iconst 0, 1) := by decide +kernel
theorem dX7_factor_47 : decode cX7_factor 47 = .ok (.ireturn, 1) := by decide +kernel
theorem dX7_factor_48 : decode cX7_factor 48 = .ok (.aload_n 0, 1) := by decide +kernel
theorem dX7_factor_49 : decode cX7_factor 49 = .ok (.getfield 25, 3) := by decide +kernel
theorem dX7_factor_52 : decode cX7_factor 52 = .ok (.aload_n 0, 1) := by decide +kernel
theorem dX7_factor_53 : decode cX7_factor 53 = .ok (.getfield 108, 3) := by decide +kernel
theorem dX7_factor_56 : decode cX7_factor 56 = .ok (.iload_n 1, 1) := by decide +kernel
theorem dX7_factor_57 : decode cX7_factor 57 = .ok (.iastore, 1) := by decide +kernel
theorem dX7_factor_58 : decode cX7_factor 58 = .ok (.aload_n 0, 1) := by decide +kernel
theorem dX7_factor_59 : decode cX7_factor 59 = .ok (.dup, 1) := by decide +kernel
theorem dX7_factor_60 : decode cX7_factor 60 = .ok (.getfield 108, 3) := by decide +kernel
theorem dX7_factor_63 : decode cX7_factor 63 = .ok (.iconst 1, 1) := by decide +kernel
theorem dX7_factor_64 : decode cX7_factor 64 = .ok (.iadd, 1) := by decide +kernel
theorem dX7_factor_65 : decode cX7_factor 65 = .ok (.putfield 108, 3) := by decide +kernel
theorem dX7_factor_68 : decode cX7_factor 68 = .ok (.aload_n 0, 1) := by decide +kernel
theorem dX7_factor_69 : decode cX7_factor 69 = .ok (.dup, 1) := by decide +kernel
theorem dX7_factor_70 : decode cX7_factor 70 = .ok (.getfield 115, 3) := by decide +kernel
theorem dX7_factor_73 : decode cX7_factor 73 = .ok (.iconst 1, 1) := by decide +kernel
theorem dX7_factor_74 : decode cX7_factor 74 = .ok (.iadd, 1) := by decide +kernel
theorem dX7_factor_75 : decode cX7_factor 75 = .ok (.putfield 115, 3) := by decide +kernel
theorem dX7_factor_78 : decode cX7_factor 78 = .ok (.aload_n 0, 1) := by decide +kernel
theorem dX7_factor_79 : decode cX7_factor 79 = .ok (.dup, 1) := by decide +kernel
theorem dX7_factor_80 : decode cX7_factor 80 = .ok (.getfield 101, 3) := by decide +kernel
theorem dX7_factor_83 : decode cX7_factor 83 = .ok (.iload_n 1, 1) := by decide +kernel
theorem dX7_factor_84 : decode cX7_factor 84 = .ok (.bipush 33, 2) := by decide +kernel
theorem dX7_factor_86 : decode cX7_factor 86 = .ok (.if_icmp .ne 7, 3) := by decide +kernel
theorem dX7_factor_89 : decode cX7_factor 89 = .ok (.iconst 1, 1) := by decide +kernel
theorem dX7_factor_90 : decode cX7_factor 90 = .ok (.goto 4, 3) := by decide +kernel
theorem dX7_factor_93 : decode cX7_factor 93 = .ok (.iconst 0, 1) := by decide +kernel
theorem dX7_factor_94 : decode cX7_factor 94 = .ok (.iadd, 1) := by decide +kernel
theorem dX7_factor_95 : decode cX7_factor 95 = .ok (.putfield 101, 3) := by decide +kernel
theorem dX7_factor_98 : decode cX7_factor 98 = .ok (.aload_n 0, 1) := by decide +kernel
theorem dX7_factor_99 : decode cX7_factor 99 = .ok (.dup, 1) := by decide +kernel
theorem dX7_factor_100 : decode cX7_factor 100 = .ok (.getfield 84, 3) := by decide +kernel
theorem dX7_factor_103 : decode cX7_factor 103 = .ok (.iconst 1, 1) := by decide +kernel
theorem dX7_factor_104 : decode cX7_factor 104 = .ok (.iadd, 1) := by decide +kernel
theorem dX7_factor_105 : decode cX7_factor 105 = .ok (.putfield 84, 3) := by decide +kernel
theorem dX7_factor_108 : decode cX7_factor 108 = .ok (.iconst 1, 1) := by decide +kernel
theorem dX7_factor_109 : decode cX7_factor 109 = .ok (.ireturn, 1) := by decide +kernel
theorem dX7_factor_110 : decode cX7_factor 110 = .ok (.iload_n 1, 1) := by decide +kernel
theorem dX7_factor_111 : decode cX7_factor 111 = .ok (.bipush 97, 2) := by decide +kernel
theorem dX7_factor_113 : decode cX7_factor 113 = .ok (.bipush 104, 2) := by decide +kernel
theorem dX7_factor_115 : decode cX7_factor 115 = .ok (.invokestatic 75, 3) := by decide +kernel
theorem dX7_factor_118 : decode cX7_factor 118 = .ok (.istore_n 2, 1) := by decide +kernel
theorem dX7_factor_119 : decode cX7_factor 119 = .ok (.iload_n 1, 1) := by decide +kernel
theorem dX7_factor_120 : decode cX7_factor 120 = .ok (.bipush 65, 2) := by decide +kernel
theorem dX7_factor_122 : decode cX7_factor 122 = .ok (.if_icmp .lt 18, 3) := by decide +kernel
theorem dX7_factor_125 : decode cX7_factor 125 = .ok (.iload_n 1, 1) := by decide +kernel
theorem dX7_factor_126 : decode cX7_factor 126 = .ok (.bipush 65, 2) := by decide +kernel
theorem dX7_factor_128 : decode cX7_factor 128 = .ok (.aload_n 0, 1) := by decide +kernel
theorem dX7_factor_129 : decode cX7_factor 129 = .ok (.getfield 88, 3) := by decide +kernel
theorem dX7_factor_132 : decode cX7_factor 132 = .ok (.iadd, 1) := by decide +kernel
theorem dX7_factor_133 : decode cX7_factor 133 = .ok (.if_icmp .ge 7, 3) := by decide +kernel
theorem dX7_factor_136 : decode cX7_factor 136 = .ok (.iconst 1, 1) := by decide +kernel
theorem dX7_factor_137 : decode cX7_factor 137 = .ok (.goto 4, 3) := by decide +kernel
theorem dX7_factor_140 : decode cX7_factor 140 = .ok (.iconst 0, 1) := by decide +kernel
theorem dX7_factor_141 : decode cX7_factor 141 = .ok (.istore_n 3, 1) := by decide +kernel
theorem dX7_factor_142 : decode cX7_factor 142 = .ok (.iload_n 2, 1) := by decide +kernel
theorem dX7_factor_143 : decode cX7_factor 143 = .ok (.ifCond .ne 18, 3) := by decide +kernel
theorem dX7_factor_146 : decode cX7_factor 146 = .ok (.iload_n 3, 1) := by decide +kernel
theorem dX7_factor_147 : decode cX7_factor 147 = .ok (.ifCond .ne 14, 3) := by decide +kernel
theorem dX7_factor_150 : decode cX7_factor 150 = .ok (.iload_n 1, 1) := by decide +kernel
theorem dX7_factor_151 : decode cX7_factor 151 = .ok (.bipush 48, 2) := by decide +kernel
theorem dX7_factor_153 : decode cX7_factor 153 = .ok (.bipush 57, 2) := by decide +kernel
theorem dX7_factor_155 : decode cX7_factor 155 = .ok (.invokestatic 75, 3) := by decide +kernel
theorem dX7_factor_158 : decode cX7_factor 158 = .ok (.ifCond .eq 12, 3) := by decide +kernel
theorem dX7_factor_161 : decode cX7_factor 161 = .ok (.aload_n 0, 1) := by decide +kernel
theorem dX7_factor_162 : decode cX7_factor 162 = .ok (.getfield 101, 3) := by decide +kernel
theorem dX7_factor_165 : decode cX7_factor 165 = .ok (.bipush 30, 2) := by decide +kernel
theorem dX7_factor_167 : decode cX7_factor 167 = .ok (.if_icmp .ne 5, 3) := by decide +kernel
theorem dX7_factor_170 : decode cX7_factor 170 = .ok (.iconst 0, 1) := by decide +kernel
theorem dX7_factor_171 : decode cX7_factor 171 = .ok (.ireturn, 1) := by decide +kernel
theorem dX7_factor_172 : decode cX7_factor 172 = .ok (.aload_n 0, 1) := by decide +kernel
theorem dX7_factor_173 : decode cX7_factor 173 = .ok (.iconst 1, 1) := by decide +kernel
theorem dX7_factor_174 : decode cX7_factor 174 = .ok (.putfield 126, 3) := by decide +kernel
theorem dX7_factor_177 : decode cX7_factor 177 = .ok (.iload_n 1, 1) := by decide +kernel
theorem dX7_factor_178 : decode cX7_factor 178 = .ok (.bipush 48, 2) := by decide +kernel
theorem dX7_factor_180 : decode cX7_factor 180 = .ok (.bipush 57, 2) := by decide +kernel
theorem dX7_factor_182 : decode cX7_factor 182 = .ok (.invokestatic 75, 3) := by decide +kernel
theorem dX7_factor_185 : decode cX7_factor 185 = .ok (.ifCond .eq 8, 3) := by decide +kernel
theorem dX7_factor_188 : decode cX7_factor 188 = .ok (.aload_n 0, 1) := by decide +kernel
theorem dX7_factor_189 : decode cX7_factor 189 = .ok (.invokevirtual 130, 3) := by decide +kernel
theorem dX7_factor_192 : decode cX7_factor 192 = .ok (.ireturn, 1) := by decide +kernel
theorem dX7_factor_193 : decode cX7_factor 193 = .ok (.aload_n 0, 1) := by decide +kernel
theorem dX7_factor_194 : decode cX7_factor 194 = .ok (.dup, 1) := by decide +kernel
theorem dX7_factor_195 : decode cX7_factor 195 = .ok (.getfield 84, 3) := by decide +kernel
theorem dX7_factor_198 : decode cX7_factor 198 = .ok (.iconst 1, 1) := by decide +kernel
theorem dX7_factor_199 : decode cX7_factor 199 = .ok (.iadd, 1) := by decide +kernel
theorem dX7_factor_200 : decode cX7_factor 200 = .ok (.putfield 84, 3) := by decide +kernel
theorem dX7_factor_203 : decode cX7_factor 203 = .ok (.aload_n 0, 1) := by decide +kernel
theorem dX7_factor_204 : decode cX7_factor 204 = .ok (.iload_n 2, 1) := by decide +kernel
theorem dX7_factor_205 : decode cX7_factor 205 = .ok (.ifCond .eq 7, 3) := by decide +kernel
theorem dX7_factor_208 : decode cX7_factor 208 = .ok (.iconst 1, 1) := by decide +kernel
theorem dX7_factor_209 : decode cX7_factor 209 = .ok (.goto 4, 3) := by decide +kernel
theorem dX7_factor_212 : decode cX7_factor 212 = .ok (.iconst 2, 1) := by decide +kernel
theorem dX7_factor_213 : decode cX7_factor 213 = .ok (.iload_n 2, 1) := by decide +kernel
theorem dX7_factor_214 : decode cX7_factor 214 = .ok (.ifCond .eq 10, 3) := by decide +kernel
theorem dX7_factor_217 : decode cX7_factor 217 = .ok (.iload_n 1, 1) := by decide +kernel
theorem dX7_factor_218 : decode cX7_factor 218 = .ok (.bipush 97, 2) := by decide +kernel
theorem dX7_factor_220 : decode cX7_factor 220 = .ok (.isub, 1) := by decide +kernel
theorem dX7_factor_221 : decode cX7_factor 221 = .ok (.goto 7, 3) := by decide +kernel
theorem dX7_factor_224 : decode cX7_factor 224 = .ok (.iload_n 1, 1) := by decide +kernel
theorem dX7_factor_225 : decode cX7_factor 225 = .ok (.bipush 65, 2) := by decide +kernel
theorem dX7_factor_227 : decode cX7_factor 227 = .ok (.isub, 1) := by decide +kernel
theorem dX7_factor_228 : decode cX7_factor 228 = .ok (.invokevirtual 122, 3) := by decide +kernel
theorem dX7_factor_231 : decode cX7_factor 231 = .ok (.ireturn, 1) := by decide +kernel
theorem dX7_isOpen_0 : decode cX7_isOpen 0 = .ok (.iconst 0, 1) := by decide +kernel
theorem dX7_isOpen_1 : decode cX7_isOpen 1 = .ok (.istore_n 1, 1) := by decide +kernel
theorem dX7_isOpen_2 : decode cX7_isOpen 2 = .ok (.iconst 0, 1) := by decide +kernel
theorem dX7_isOpen_3 : decode cX7_isOpen 3 = .ok (.istore_n 2, 1) := by decide +kernel
theorem dX7_isOpen_4 : decode cX7_isOpen 4 = .ok (.iload_n 2, 1) := by decide +kernel
theorem dX7_isOpen_5 : decode cX7_isOpen 5 = .ok (.aload_n 0, 1) := by decide +kernel
theorem dX7_isOpen_6 : decode cX7_isOpen 6 = .ok (.getfield 108, 3) := by decide +kernel
theorem dX7_isOpen_9 : decode cX7_isOpen 9 = .ok (.if_icmp .ge 30, 3) := by decide +kernel
theorem dX7_isOpen_12 : decode cX7_isOpen 12 = .ok (.iload_n 1, 1) := by decide +kernel
theorem dX7_isOpen_13 : decode cX7_isOpen 13 = .ok (.ifCond .ne 14, 3) := by decide +kernel
theorem dX7_isOpen_16 : decode cX7_isOpen 16 = .ok (.aload_n 0, 1) := by decide +kernel
theorem dX7_isOpen_17 : decode cX7_isOpen 17 = .ok (.getfield 25, 3) := by decide +kernel
theorem dX7_isOpen_20 : decode cX7_isOpen 20 = .ok (.iload_n 2, 1) := by decide +kernel
theorem dX7_isOpen_21 : decode cX7_isOpen 21 = .ok (.iaload, 1) := by decide +kernel
theorem dX7_isOpen_22 : decode cX7_isOpen 22 = .ok (.bipush 40, 2) := by decide +kernel
theorem dX7_isOpen_24 : decode cX7_isOpen 24 = .ok (.if_icmp .ne 7, 3) := by decide +kernel
theorem dX7_isOpen_27 : decode cX7_isOpen 27 = .ok (.iconst 1, 1) := by decide +kernel
theorem dX7_isOpen_28 : decode cX7_isOpen 28 = .ok (.goto 4, 3) := by decide +kernel
theorem dX7_isOpen_31 : decode cX7_isOpen 31 = .ok (.iconst 0, 1) := by decide +kernel
theorem dX7_isOpen_32 : decode cX7_isOpen 32 = .ok (.istore_n 1, 1) := by decide +kernel
theorem dX7_isOpen_33 : decode cX7_isOpen 33 = .ok (.iinc 2 1, 3) := by decide +kernel
theorem dX7_isOpen_36 : decode cX7_isOpen 36 = .ok (.goto (-32), 3) := by decide +kernel
theorem dX7_isOpen_39 : decode cX7_isOpen 39 = .ok (.iload_n 1, 1) := by decide +kernel
theorem dX7_isOpen_40 : decode cX7_isOpen 40 = .ok (.ireturn, 1) := by decide +kernel
theorem dX7_formulaRead_0 : decode cX7_formulaRead 0 = .ok (.aload_n 0, 1) := by decide +kernel
theorem dX7_formulaRead_1 : decode cX7_formulaRead 1 = .ok (.iconst 0, 1) := by decide +kernel
theorem dX7_formulaRead_2 : decode cX7_formulaRead 2 = .ok (.putfield 91, 3) := by decide +kernel
theorem dX7_formulaRead_5 : decode cX7_formulaRead 5 = .ok (.aload_n 0, 1) := by decide +kernel
theorem dX7_formulaRead_6 : decode cX7_formulaRead 6 = .ok (.iconst 0, 1) := by decide +kernel
theorem dX7_formulaRead_7 : decode cX7_formulaRead 7 = .ok (.putfield 101, 3) := by decide +kernel
theorem dX7_formulaRead_10 : decode cX7_formulaRead 10 = .ok (.aload_n 0, 1) := by decide +kernel
theorem dX7_formulaRead_11 : decode cX7_formulaRead 11 = .ok (.iconst 0, 1) := by decide +kernel
theorem dX7_formulaRead_12 : decode cX7_formulaRead 12 = .ok (.putfield 115, 3) := by decide +kernel
theorem dX7_formulaRead_15 : decode cX7_formulaRead 15 = .ok (.aload_n 0, 1) := by decide +kernel
theorem dX7_formulaRead_16 : decode cX7_formulaRead 16 = .ok (.iconst 0, 1) := by decide +kernel
theorem dX7_formulaRead_17 : decode cX7_formulaRead 17 = .ok (.putfield 94, 3) := by decide +kernel
theorem dX7_formulaRead_20 : decode cX7_formulaRead 20 = .ok (.aload_n 0, 1) := by decide +kernel
theorem dX7_formulaRead_21 : decode cX7_formulaRead 21 = .ok (.iconst 0, 1) := by decide +kernel
theorem dX7_formulaRead_22 : decode cX7_formulaRead 22 = .ok (.putfield 108, 3) := by decide +kernel
theorem dX7_formulaRead_25 : decode cX7_formulaRead 25 = .ok (.iconst 1, 1) := by decide +kernel
theorem dX7_formulaRead_26 : decode cX7_formulaRead 26 = .ok (.istore_n 1, 1) := by decide +kernel
theorem dX7_formulaRead_27 : decode cX7_formulaRead 27 = .ok (.aload_n 0, 1) := by decide +kernel
theorem dX7_formulaRead_28 : decode cX7_formulaRead 28 = .ok (.invokevirtual 118, 3) := by decide +kernel
theorem dX7_formulaRead_31 : decode cX7_formulaRead 31 = .ok (.istore_n 2, 1) := by decide +kernel
theorem dX7_formulaRead_32 : decode cX7_formulaRead 32 = .ok (.iload_n 1, 1) := by decide +kernel
theorem dX7_formulaRead_33 : decode cX7_formulaRead 33 = .ok (.ifCond .eq 40, 3) := by decide +kernel
theorem dX7_formulaRead_36 : decode cX7_formulaRead 36 = .ok (.aload_n 0, 1) := by decide +kernel
theorem dX7_formulaRead_37 : decode cX7_formulaRead 37 = .ok (.invokevirtual 134, 3) := by decide +kernel
theorem dX7_formulaRead_40 : decode cX7_formulaRead 40 = .ok (.ifCond .ne 5, 3) := by decide +kernel
theorem dX7_formulaRead_43 : decode cX7_formulaRead 43 = .ok (.iconst 0, 1) := by decide +kernel
theorem dX7_formulaRead_44 : decode cX7_formulaRead 44 = .ok (.ireturn, 1) := by decide +kernel
theorem dX7_formulaRead_45 : decode cX7_formulaRead 45 = .ok (.aload_n 0, 1) := by decide +kernel
theorem dX7_formulaRead_46 : decode cX7_formulaRead 46 = .ok (.getfield 126, 3) := by decide +kernel
theorem dX7_formulaRead_49 : decode cX7_formulaRead 49 = .ok (.ifCond .ne 7, 3) := by decide +kernel
theorem dX7_formulaRead_52 : decode cX7_formulaRead 52 = .ok (.iconst 1, 1) := by decide +kernel
theorem dX7_formulaRead_53 : decode cX7_formulaRead 53 = .ok (.goto 4, 3) := by decide +kernel
theorem dX7_formulaRead_56 : decode cX7_formulaRead 56 = .ok (.iconst 0, 1) := by decide +kernel
theorem dX7_formulaRead_57 : decode cX7_formulaRead 57 = .ok (.istore_n 1, 1) := by decide +kernel
theorem dX7_formulaRead_58 : decode cX7_formulaRead 58 = .ok (.aload_n 0, 1) := by decide +kernel
theorem dX7_formulaRead_59 : decode cX7_formulaRead 59 = .ok (.getfield 126, 3) := by decide +kernel
theorem dX7_formulaRead_62 : decode cX7_formulaRead 62 = .ok (.ifCond .eq 201, 3) := by decide +kernel
theorem dX7_formulaRead_65 : decode cX7_formulaRead 65 = .ok (.aload_n 0, 1) := by decide +kernel
theorem dX7_formulaRead_66 : decode cX7_formulaRead 66 = .ok (.iconst 3, 1) := by decide +kernel
theorem dX7_formulaRead_67 : decode cX7_formulaRead 67 = .ok (.invokevirtual 137, 3) := by decide +kernel
theorem dX7_formulaRead_70 : decode cX7_formulaRead 70 = .ok (.goto 193, 3) := by decide +kernel
theorem dX7_formulaRead_73 : decode cX7_formulaRead 73 = .ok (.iload_n 2, 1) := by decide +kernel
theorem dX7_formulaRead_74 : decode cX7_formulaRead 74 = .ok (.bipush 41, 2) := by decide +kernel
theorem dX7_formulaRead_76 : decode cX7_formulaRead 76 = .ok (.if_icmp .ne 53, 3) := by decide +kernel
theorem dX7_formulaRead_79 : decode cX7_formulaRead 79 = .ok (.aload_n 0, 1) := by decide +kernel
theorem dX7_formulaRead_80 : decode cX7_formulaRead 80 = .ok (.invokevirtual 140, 3) := by decide +kernel
theorem dX7_formulaRead_83 : decode cX7_formulaRead 83 = .ok (.ifCond .eq 46, 3) := by decide +kernel
theorem dX7_formulaRead_86 : decode cX7_formulaRead 86 = .ok (.aload_n 0, 1) := by decide +kernel
theorem dX7_formulaRead_87 : decode cX7_formulaRead 87 = .ok (.iconst 1, 1) := by decide +kernel
theorem dX7_formulaRead_88 : decode cX7_formulaRead 88 = .ok (.invokevirtual 137, 3) := by decide +kernel
theorem dX7_formulaRead_91 : decode cX7_formulaRead 91 = .ok (.aload_n 0, 1) := by decide +kernel
theorem dX7_formulaRead_92 : decode cX7_formulaRead 92 = .ok (.dup, 1) := by decide +kernel
theorem dX7_formulaRead_93 : decode cX7_formulaRead 93 = .ok (.getfield 108, 3) := by decide +kernel
theorem dX7_formulaRead_96 : decode cX7_formulaRead 96 = .ok (.iconst 1, 1) := by decide +kernel
theorem dX7_formulaRead_97 : decode cX7_formulaRead 97 = .ok (.isub, 1) := by decide +kernel
theorem dX7_formulaRead_98 : decode cX7_formulaRead 98 = .ok (.putfield 108, 3) := by decide +kernel
theorem dX7_formulaRead_101 : decode cX7_formulaRead 101 = .ok (.aload_n 0, 1) := by decide +kernel
theorem dX7_formulaRead_102 : decode cX7_formulaRead 102 = .ok (.dup, 1) := by decide +kernel
theorem dX7_formulaRead_103 : decode cX7_formulaRead 103 = .ok (.getfield 115, 3) := by decide +kernel
theorem dX7_formulaRead_106 : decode cX7_formulaRead 106 = .ok (.iconst 1, 1) := by decide +kernel
theorem dX7_formulaRead_107 : decode cX7_formulaRead 107 = .ok (.isub, 1) := by decide +kernel
theorem dX7_formulaRead_108 : decode cX7_formulaRead 108 = .ok (.putfield 115, 3) := by decide +kernel
theorem dX7_formulaRead_111 : decode cX7_formulaRead 111 = .ok (.aload_n 0, 1) := by decide +kernel
theorem dX7_formulaRead_112 : decode cX7_formulaRead 112 = .ok (.dup, 1) := by decide +kernel
theorem dX7_formulaRead_113 : decode cX7_formulaRead 113 = .ok (.getfield 84, 3) := by decide +kernel
theorem dX7_formulaRead_116 : decode cX7_formulaRead 116 = .ok (.iconst 1, 1) := by decide +kernel
theorem dX7_formulaRead_117 : decode cX7_formulaRead 117 = .ok (.iadd, 1) := by decide +kernel
theorem dX7_formulaRead_118 : decode cX7_formulaRead 118 = .ok (.putfield 84, 3) := by decide +kernel
theorem dX7_formulaRead_121 : decode cX7_formulaRead 121 = .ok (.aload_n 0, 1) := by decide +kernel
theorem dX7_formulaRead_122 : decode cX7_formulaRead 122 = .ok (.iconst 3, 1) := by decide +kernel
theorem dX7_formulaRead_123 : decode cX7_formulaRead 123 = .ok (.invokevirtual 137, 3) := by decide +kernel
theorem dX7_formulaRead_126 : decode cX7_formulaRead 126 = .ok (.goto 137, 3) := by decide +kernel
theorem dX7_formulaRead_129 : decode cX7_formulaRead 129 = .ok (.iload_n 2, 1) := by decide +kernel
theorem dX7_formulaRead_130 : decode cX7_formulaRead 130 = .ok (.bipush 43, 2) := by decide +kernel
theorem dX7_formulaRead_132 : decode cX7_formulaRead 132 = .ok (.if_icmp .eq 15, 3) := by decide +kernel
theorem dX7_formulaRead_135 : decode cX7_formulaRead 135 = .ok (.iload_n 2, 1) := by decide +kernel
theorem dX7_formulaRead_136 : decode cX7_formulaRead 136 = .ok (.bipush 45, 2) := by decide +kernel
theorem dX7_formulaRead_138 : decode cX7_formulaRead 138 = .ok (.if_icmp .eq 9, 3) := by decide +kernel
theorem dX7_formulaRead_141 : decode cX7_formulaRead 141 = .ok (.iload_n 2, 1) := by decide +kernel
theorem dX7_formulaRead_142 : decode cX7_formulaRead 142 = .ok (.bipush 42, 2) := by decide +kernel
theorem dX7_formulaRead_144 : decode cX7_formulaRead 144 = .ok (.if_icmp .ne 74, 3) := by decide +kernel
theorem dX7_formulaRead_147 : decode cX7_formulaRead 147 = .ok (.aload_n 0, 1) := by decide +kernel
theorem dX7_formulaRead_148 : decode cX7_formulaRead 148 = .ok (.getfield 101, 3) := by decide +kernel
theorem dX7_formulaRead_151 : decode cX7_formulaRead 151 = .ok (.bipush 30, 2) := by decide +kernel
theorem dX7_formulaRead_153 : decode cX7_formulaRead 153 = .ok (.if_icmp .ne 5, 3) := by decide +kernel
theorem dX7_formulaRead_156 : decode cX7_formulaRead 156 = .ok (.iconst 0, 1) := by decide +kernel
theorem dX7_formulaRead_157 : decode cX7_formulaRead 157 = .ok (.ireturn, 1) := by decide +kernel
theorem dX7_formulaRead_158 : decode cX7_formulaRead 158 = .ok (.aload_n 0, 1) := by decide +kernel
theorem dX7_formulaRead_159 : decode cX7_formulaRead 159 = .ok (.iload_n 2, 1) := by decide +kernel
theorem dX7_formulaRead_160 : decode cX7_formulaRead 160 = .ok (.bipush 42, 2) := by decide +kernel
theorem dX7_formulaRead_162 : decode cX7_formulaRead 162 = .ok (.if_icmp .ne 7, 3) := by decide +kernel
theorem dX7_formulaRead_165 : decode cX7_formulaRead 165 = .ok (.iconst 2, 1) := by decide +kernel
theorem dX7_formulaRead_166 : decode cX7_formulaRead 166 = .ok (.goto 4, 3) := by decide +kernel
theorem dX7_formulaRead_169 : decode cX7_formulaRead 169 = .ok (.iconst 1, 1) := by decide +kernel
theorem dX7_formulaRead_170 : decode cX7_formulaRead 170 = .ok (.invokevirtual 137, 3) := by decide +kernel
theorem dX7_formulaRead_173 : decode cX7_formulaRead 173 = .ok (.aload_n 0, 1) := by decide +kernel
theorem dX7_formulaRead_174 : decode cX7_formulaRead 174 = .ok (.getfield 25, 3) := by decide +kernel
theorem dX7_formulaRead_177 : decode cX7_formulaRead 177 = .ok (.aload_n 0, 1) := by decide +kernel
theorem dX7_formulaRead_178 : decode cX7_formulaRead 178 = .ok (.getfield 108, 3) := by decide +kernel
theorem dX7_formulaRead_181 : decode cX7_formulaRead 181 = .ok (.iload_n 2, 1) := by decide +kernel
theorem dX7_formulaRead_182 : decode cX7_formulaRead 182 = .ok (.iastore, 1) := by decide +kernel
theorem dX7_formulaRead_183 : decode cX7_formulaRead 183 = .ok (.aload_n 0, 1) := by decide +kernel
theorem dX7_formulaRead_184 : decode cX7_formulaRead 184 = .ok (.dup, 1) := by decide +kernel
theorem dX7_formulaRead_185 : decode cX7_formulaRead 185 = .ok (.getfield 108, 3) := by decide +kernel
theorem dX7_formulaRead_188 : decode cX7_formulaRead 188 = .ok (.iconst 1, 1) := by decide +kernel
theorem dX7_formulaRead_189 : decode cX7_formulaRead 189 = .ok (.iadd, 1) := by decide +kernel
theorem dX7_formulaRead_190 : decode cX7_formulaRead 190 = .ok (.putfield 108, 3) := by decide +kernel
theorem dX7_formulaRead_193 : decode cX7_formulaRead 193 = .ok (.aload_n 0, 1) := by decide +kernel
theorem dX7_formulaRead_194 : decode cX7_formulaRead 194 = .ok (.dup, 1) := by decide +kernel
theorem dX7_formulaRead_195 : decode cX7_formulaRead 195 = .ok (.getfield 101, 3) := by decide +kernel
theorem dX7_formulaRead_198 : decode cX7_formulaRead 198 = .ok (.iconst 1, 1) := by decide +kernel
theorem dX7_formulaRead_199 : decode cX7_formulaRead 199 = .ok (.iadd, 1) := by decide +kernel
theorem dX7_formulaRead_200 : decode cX7_formulaRead 200 = .ok (.putfield 101, 3) := by decide +kernel
theorem dX7_formulaRead_203 : decode cX7_formulaRead 203 = .ok (.aload_n 0, 1) := by decide +kernel
theorem dX7_formulaRead_204 : decode cX7_formulaRead 204 = .ok (.dup, 1) := by decide +kernel
theorem dX7_formulaRead_205 : decode cX7_formulaRead 205 = .ok (.getfield 84, 3) := by decide +kernel
theorem dX7_formulaRead_208 : decode cX7_formulaRead 208 = .ok (.iconst 1, 1) := by decide +kernel
theorem dX7_formulaRead_209 : decode cX7_formulaRead 209 = .ok (.iadd, 1) := by decide +kernel
theorem dX7_formulaRead_210 : decode cX7_formulaRead 210 = .ok (.putfield 84, 3) := by decide +kernel
theorem dX7_formulaRead_213 : decode cX7_formulaRead 213 = .ok (.iconst 1, 1) := by decide +kernel
theorem dX7_formulaRead_214 : decode cX7_formulaRead 214 = .ok (.istore_n 1, 1) := by decide +kernel
theorem dX7_formulaRead_215 : decode cX7_formulaRead 215 = .ok (.goto 48, 3) := by decide +kernel
theorem dX7_formulaRead_218 : decode cX7_formulaRead 218 = .ok (.aload_n 0, 1) := by decide +kernel
theorem dX7_formulaRead_219 : decode cX7_formulaRead 219 = .ok (.invokevirtual 140, 3) := by decide +kernel
theorem dX7_formulaRead_222 : decode cX7_formulaRead 222 = .ok (.ifCond .ne 7, 3) := by decide +kernel
theorem dX7_formulaRead_225 : decode cX7_formulaRead 225 = .ok (.iconst 1, 1) := by decide +kernel
theorem dX7_formulaRead_226 : decode cX7_formulaRead 226 = .ok (.goto 4, 3) := by decide +kernel
theorem dX7_formulaRead_229 : decode cX7_formulaRead 229 = .ok (.iconst 0, 1) := by decide +kernel
theorem dX7_formulaRead_230 : decode cX7_formulaRead 230 = .ok (.istore_n 3, 1) := by decide +kernel
theorem dX7_formulaRead_231 : decode cX7_formulaRead 231 = .ok (.aload_n 0, 1) := by decide +kernel
theorem dX7_formulaRead_232 : decode cX7_formulaRead 232 = .ok (.iload_n 3, 1) := by decide +kernel
theorem dX7_formulaRead_233 : decode cX7_formulaRead 233 = .ok (.ifCond .eq 7, 3) := by decide +kernel
theorem dX7_formulaRead_236 : decode cX7_formulaRead 236 = .ok (.iconst 1, 1) := by decide +kernel
theorem dX7_formulaRead_237 : decode cX7_formulaRead 237 = .ok (.goto 5, 3) := by decide +kernel
theorem dX7_formulaRead_240 : decode cX7_formulaRead 240 = .ok (.bipush 9, 2) := by decide +kernel
theorem dX7_formulaRead_242 : decode cX7_formulaRead 242 = .ok (.invokevirtual 137, 3) := by decide +kernel
theorem dX7_formulaRead_245 : decode cX7_formulaRead 245 = .ok (.aload_n 0, 1) := by decide +kernel
theorem dX7_formulaRead_246 : decode cX7_formulaRead 246 = .ok (.getfield 19, 3) := by decide +kernel
theorem dX7_formulaRead_249 : decode cX7_formulaRead 249 = .ok (.bipush 10, 2) := by decide +kernel
theorem dX7_formulaRead_251 : decode cX7_formulaRead 251 = .ok (.aload_n 0, 1) := by decide +kernel
theorem dX7_formulaRead_252 : decode cX7_formulaRead 252 = .ok (.getfield 88, 3) := by decide +kernel
theorem dX7_formulaRead_255 : decode cX7_formulaRead 255 = .ok (.iadd, 1) := by decide +kernel
theorem dX7_formulaRead_256 : decode cX7_formulaRead 256 = .ok (.aload_n 0, 1) := by decide +kernel
theorem dX7_formulaRead_257 : decode cX7_formulaRead 257 = .ok (.getfield 91, 3) := by decide +kernel
theorem dX7_formulaRead_260 : decode cX7_formulaRead 260 = .ok (.iastore, 1) := by decide +kernel
theorem dX7_formulaRead_261 : decode cX7_formulaRead 261 = .ok (.iload_n 3, 1) := by decide +kernel
theorem dX7_formulaRead_262 : decode cX7_formulaRead 262 = .ok (.ireturn, 1) := by decide +kernel
theorem dX7_formulaRead_263 : decode cX7_formulaRead 263 = .ok (.goto (-236), 3) := by decide +kernel
theorem dX7_reads_0 : decode cX7_reads 0 = .ok (.aload_n 0, 1) := by decide +kernel
theorem dX7_reads_1 : decode cX7_reads 1 = .ok (.iconst 0, 1) := by decide +kernel
theorem dX7_reads_2 : decode cX7_reads 2 = .ok (.putfield 84, 3) := by decide +kernel
theorem dX7_reads_5 : decode cX7_reads 5 = .ok (.aload_n 0, 1) := by decide +kernel
theorem dX7_reads_6 : decode cX7_reads 6 = .ok (.iconst 0, 1) := by decide +kernel
theorem dX7_reads_7 : decode cX7_reads 7 = .ok (.putfield 88, 3) := by decide +kernel
theorem dX7_reads_10 : decode cX7_reads 10 = .ok (.iconst 0, 1) := by decide +kernel
theorem dX7_reads_11 : decode cX7_reads 11 = .ok (.istore_n 1, 1) := by decide +kernel
theorem dX7_reads_12 : decode cX7_reads 12 = .ok (.iload_n 1, 1) := by decide +kernel
theorem dX7_reads_13 : decode cX7_reads 13 = .ok (.sipush 376, 3) := by decide +kernel
theorem dX7_reads_16 : decode cX7_reads 16 = .ok (.if_icmp .ge 31, 3) := by decide +kernel
theorem dX7_reads_19 : decode cX7_reads 19 = .ok (.aload_n 0, 1) := by decide +kernel
theorem dX7_reads_20 : decode cX7_reads 20 = .ok (.getfield 19, 3) := by decide +kernel
theorem dX7_reads_23 : decode cX7_reads 23 = .ok (.iload_n 1, 1) := by decide +kernel
theorem dX7_reads_24 : decode cX7_reads 24 = .ok (.iload_n 1, 1) := by decide +kernel
theorem dX7_reads_25 : decode cX7_reads 25 = .ok (.bipush 10, 2) := by decide +kernel
theorem dX7_reads_27 : decode cX7_reads 27 = .ok (.if_icmp .lt 7, 3) := by decide +kernel
theorem dX7_reads_30 : decode cX7_reads 30 = .ok (.iconst 0, 1) := by decide +kernel
theorem dX7_reads_31 : decode cX7_reads 31 = .ok (.goto 9, 3) := by decide +kernel
theorem dX7_reads_34 : decode cX7_reads 34 = .ok (.aload_n 0, 1) := by decide +kernel
theorem dX7_reads_35 : decode cX7_reads 35 = .ok (.getfield 7, 3) := by decide +kernel
theorem dX7_reads_38 : decode cX7_reads 38 = .ok (.iload_n 1, 1) := by decide +kernel
theorem dX7_reads_39 : decode cX7_reads 39 = .ok (.iaload, 1) := by decide +kernel
theorem dX7_reads_40 : decode cX7_reads 40 = .ok (.iastore, 1) := by decide +kernel
theorem dX7_reads_41 : decode cX7_reads 41 = .ok (.iinc 1 1, 3) := by decide +kernel
theorem dX7_reads_44 : decode cX7_reads 44 = .ok (.goto (-32), 3) := by decide +kernel
theorem dX7_reads_47 : decode cX7_reads 47 = .ok (.aload_n 0, 1) := by decide +kernel
theorem dX7_reads_48 : decode cX7_reads 48 = .ok (.getfield 88, 3) := by decide +kernel
theorem dX7_reads_51 : decode cX7_reads 51 = .ok (.iconst 5, 1) := by decide +kernel
theorem dX7_reads_52 : decode cX7_reads 52 = .ok (.if_icmp .ge 89, 3) := by decide +kernel
theorem dX7_reads_55 : decode cX7_reads 55 = .ok (.aload_n 0, 1) := by decide +kernel
theorem dX7_reads_56 : decode cX7_reads 56 = .ok (.invokevirtual 118, 3) := by decide +kernel
theorem dX7_reads_59 : decode cX7_reads 59 = .ok (.bipush 65, 2) := by decide +kernel
theorem dX7_reads_61 : decode cX7_reads 61 = .ok (.aload_n 0, 1) := by decide +kernel
theorem dX7_reads_62 : decode cX7_reads 62 = .ok (.getfield 88, 3) := by decide +kernel
theorem dX7_reads_65 : decode cX7_reads 65 = .ok (.iadd, 1) := by decide +kernel
theorem dX7_reads_66 : decode cX7_reads 66 = .ok (.if_icmp .ne 75, 3) := by decide +kernel
theorem dX7_reads_69 : decode cX7_reads 69 = .ok (.aload_n 0, 1) := by decide +kernel
theorem dX7_reads_70 : decode cX7_reads 70 = .ok (.dup, 1) := by decide +kernel
theorem dX7_reads_71 : decode cX7_reads 71 = .ok (.getfield 84, 3) := by decide +kernel
theorem dX7_reads_74 : decode cX7_reads 74 = .ok (.iconst 1, 1) := by decide +kernel
theorem dX7_reads_75 : decode cX7_reads 75 = .ok (.iadd, 1) := by decide +kernel
theorem dX7_reads_76 : decode cX7_reads 76 = .ok (.putfield 84, 3) := by decide +kernel
theorem dX7_reads_79 : decode cX7_reads 79 = .ok (.aload_n 0, 1) := by decide +kernel
theorem dX7_reads_80 : decode cX7_reads 80 = .ok (.invokevirtual 118, 3) := by decide +kernel
theorem dX7_reads_83 : decode cX7_reads 83 = .ok (.bipush 61, 2) := by decide +kernel
theorem dX7_reads_85 : decode cX7_reads 85 = .ok (.if_icmp .eq 5, 3) := by decide +kernel
theorem dX7_reads_88 : decode cX7_reads 88 = .ok (.iconst 0, 1) := by decide +kernel
theorem dX7_reads_89 : decode cX7_reads 89 = .ok (.ireturn, 1) := by decide +kernel
theorem dX7_reads_90 : decode cX7_reads 90 = .ok (.aload_n 0, 1) := by decide +kernel
theorem dX7_reads_91 : decode cX7_reads 91 = .ok (.dup, 1) := by decide +kernel
theorem dX7_reads_92 : decode cX7_reads 92 = .ok (.getfield 84, 3) := by decide +kernel
theorem dX7_reads_95 : decode cX7_reads 95 = .ok (.iconst 1, 1) := by decide +kernel
theorem dX7_reads_96 : decode cX7_reads 96 = .ok (.iadd, 1) := by decide +kernel
theorem dX7_reads_97 : decode cX7_reads 97 = .ok (.putfield 84, 3) := by decide +kernel
theorem dX7_reads_100 : decode cX7_reads 100 = .ok (.aload_n 0, 1) := by decide +kernel
theorem dX7_reads_101 : decode cX7_reads 101 = .ok (.invokevirtual 143, 3) := by decide +kernel
theorem dX7_reads_104 : decode cX7_reads 104 = .ok (.ifCond .eq 12, 3) := by decide +kernel
theorem dX7_reads_107 : decode cX7_reads 107 = .ok (.aload_n 0, 1) := by decide +kernel
theorem dX7_reads_108 : decode cX7_reads 108 = .ok (.invokevirtual 118, 3) := by decide +kernel
theorem dX7_reads_111 : decode cX7_reads 111 = .ok (.bipush 59, 2) := by decide +kernel
theorem dX7_reads_113 : decode cX7_reads 113 = .ok (.if_icmp .eq 5, 3) := by decide +kernel
theorem dX7_reads_116 : decode cX7_reads 116 = .ok (.iconst 0, 1) := by decide +kernel
theorem dX7_reads_117 : decode cX7_reads 117 = .ok (.ireturn, 1) := by decide +kernel
theorem dX7_reads_118 : decode cX7_reads 118 = .ok (.aload_n 0, 1) := by decide +kernel
theorem dX7_reads_119 : decode cX7_reads 119 = .ok (.dup, 1) := by decide +kernel
theorem dX7_reads_120 : decode cX7_reads 120 = .ok (.getfield 84, 3) := by decide +kernel
theorem dX7_reads_123 : decode cX7_reads 123 = .ok (.iconst 1, 1) := by decide +kernel
theorem dX7_reads_124 : decode cX7_reads 124 = .ok (.iadd, 1) := by decide +kernel
theorem dX7_reads_125 : decode cX7_reads 125 = .ok (.putfield 84, 3) := by decide +kernel
theorem dX7_reads_128 : decode cX7_reads 128 = .ok (.aload_n 0, 1) := by decide +kernel
theorem dX7_reads_129 : decode cX7_reads 129 = .ok (.dup, 1) := by decide +kernel
theorem dX7_reads_130 : decode cX7_reads 130 = .ok (.getfield 88, 3) := by decide +kernel
theorem dX7_reads_133 : decode cX7_reads 133 = .ok (.iconst 1, 1) := by decide +kernel
theorem dX7_reads_134 : decode cX7_reads 134 = .ok (.iadd, 1) := by decide +kernel
theorem dX7_reads_135 : decode cX7_reads 135 = .ok (.putfield 88, 3) := by decide +kernel
theorem dX7_reads_138 : decode cX7_reads 138 = .ok (.goto (-91), 3) := by decide +kernel
theorem dX7_reads_141 : decode cX7_reads 141 = .ok (.aload_n 0, 1) := by decide +kernel
theorem dX7_reads_142 : decode cX7_reads 142 = .ok (.invokevirtual 143, 3) := by decide +kernel
theorem dX7_reads_145 : decode cX7_reads 145 = .ok (.istore_n 1, 1) := by decide +kernel
theorem dX7_reads_146 : decode cX7_reads 146 = .ok (.aload_n 0, 1) := by decide +kernel
theorem dX7_reads_147 : decode cX7_reads 147 = .ok (.getfield 19, 3) := by decide +kernel
theorem dX7_reads_150 : decode cX7_reads 150 = .ok (.iconst 0, 1) := by decide +kernel
theorem dX7_reads_151 : decode cX7_reads 151 = .ok (.aload_n 0, 1) := by decide +kernel
theorem dX7_reads_152 : decode cX7_reads 152 = .ok (.getfield 88, 3) := by decide +kernel
theorem dX7_reads_155 : decode cX7_reads 155 = .ok (.iconst 1, 1) := by decide +kernel
theorem dX7_reads_156 : decode cX7_reads 156 = .ok (.iadd, 1) := by decide +kernel
theorem dX7_reads_157 : decode cX7_reads 157 = .ok (.iastore, 1) := by decide +kernel
theorem dX7_reads_158 : decode cX7_reads 158 = .ok (.iload_n 1, 1) := by decide +kernel
theorem dX7_reads_159 : decode cX7_reads 159 = .ok (.ifCond .eq 18, 3) := by decide +kernel
theorem dX7_reads_162 : decode cX7_reads 162 = .ok (.aload_n 0, 1) := by decide +kernel
theorem dX7_reads_163 : decode cX7_reads 163 = .ok (.getfield 84, 3) := by decide +kernel
theorem dX7_reads_166 : decode cX7_reads 166 = .ok (.aload_n 0, 1) := by decide +kernel
theorem dX7_reads_167 : decode cX7_reads 167 = .ok (.getfield 80, 3) := by decide +kernel
theorem dX7_reads_170 : decode cX7_reads 170 = .ok (.if_icmp .ne 7, 3) := by decide +kernel
theorem dX7_reads_173 : decode cX7_reads 173 = .ok (.iconst 1, 1) := by decide +kernel
theorem dX7_reads_174 : decode cX7_reads 174 = .ok (.goto 4, 3) := by decide +kernel
theorem dX7_reads_177 : decode cX7_reads 177 = .ok (.iconst 0, 1) := by decide +kernel
theorem dX7_reads_178 : decode cX7_reads 178 = .ok (.ireturn, 1) := by decide +kernel
theorem dX7_read_0 : decode cX7_read 0 = .ok (.aload_n 0, 1) := by decide +kernel
theorem dX7_read_1 : decode cX7_read 1 = .ok (.invokevirtual 146, 3) := by decide +kernel
theorem dX7_read_4 : decode cX7_read 4 = .ok (.ifCond .ne 12, 3) := by decide +kernel
theorem dX7_read_7 : decode cX7_read 7 = .ok (.sipush (-1000), 3) := by decide +kernel
theorem dX7_read_10 : decode cX7_read 10 = .ok (.aload_n 0, 1) := by decide +kernel
theorem dX7_read_11 : decode cX7_read 11 = .ok (.getfield 84, 3) := by decide +kernel
theorem dX7_read_14 : decode cX7_read 14 = .ok (.isub, 1) := by decide +kernel
theorem dX7_read_15 : decode cX7_read 15 = .ok (.ireturn, 1) := by decide +kernel
theorem dX7_read_16 : decode cX7_read 16 = .ok (.aload_n 0, 1) := by decide +kernel
theorem dX7_read_17 : decode cX7_read 17 = .ok (.invokevirtual 149, 3) := by decide +kernel
theorem dX7_read_20 : decode cX7_read 20 = .ok (.iconst 0, 1) := by decide +kernel
theorem dX7_read_21 : decode cX7_read 21 = .ok (.istore_n 1, 1) := by decide +kernel
theorem dX7_read_22 : decode cX7_read 22 = .ok (.iload_n 1, 1) := by decide +kernel
theorem dX7_read_23 : decode cX7_read 23 = .ok (.sipush 376, 3) := by decide +kernel
theorem dX7_read_26 : decode cX7_read 26 = .ok (.if_icmp .ge 21, 3) := by decide +kernel
theorem dX7_read_29 : decode cX7_read 29 = .ok (.aload_n 0, 1) := by decide +kernel
theorem dX7_read_30 : decode cX7_read 30 = .ok (.getfield 7, 3) := by decide +kernel
theorem dX7_read_33 : decode cX7_read 33 = .ok (.iload_n 1, 1) := by decide +kernel
theorem dX7_read_34 : decode cX7_read 34 = .ok (.aload_n 0, 1) := by decide +kernel
theorem dX7_read_35 : decode cX7_read 35 = .ok (.getfield 19, 3) := by decide +kernel
theorem dX7_read_38 : decode cX7_read 38 = .ok (.iload_n 1, 1) := by decide +kernel
theorem dX7_read_39 : decode cX7_read 39 = .ok (.iaload, 1) := by decide +kernel
theorem dX7_read_40 : decode cX7_read 40 = .ok (.iastore, 1) := by decide +kernel
theorem dX7_read_41 : decode cX7_read 41 = .ok (.iinc 1 1, 3) := by decide +kernel
theorem dX7_read_44 : decode cX7_read 44 = .ok (.goto (-22), 3) := by decide +kernel
theorem dX7_read_47 : decode cX7_read 47 = .ok (.aload_n 0, 1) := by decide +kernel
theorem dX7_read_48 : decode cX7_read 48 = .ok (.getfield 7, 3) := by decide +kernel
theorem dX7_read_51 : decode cX7_read 51 = .ok (.iconst 0, 1) := by decide +kernel
theorem dX7_read_52 : decode cX7_read 52 = .ok (.iaload, 1) := by decide +kernel
