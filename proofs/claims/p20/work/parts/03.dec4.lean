theorem dX3_init_0 : decode cX3_init 0 = .ok (.aload_n 0, 1) := by decide +kernel
theorem dX3_init_1 : decode cX3_init 1 = .ok (.invokespecial 3, 3) := by decide +kernel
theorem dX3_init_4 : decode cX3_init 4 = .ok (.aload_n 0, 1) := by decide +kernel
theorem dX3_init_5 : decode cX3_init 5 = .ok (.bipush 100, 2) := by decide +kernel
theorem dX3_init_7 : decode cX3_init 7 = .ok (.newarray .int, 2) := by decide +kernel
theorem dX3_init_9 : decode cX3_init 9 = .ok (.putfield 9, 3) := by decide +kernel
theorem dX3_init_12 : decode cX3_init 12 = .ok (.aload_n 0, 1) := by decide +kernel
theorem dX3_init_13 : decode cX3_init 13 = .ok (.new 15, 3) := by decide +kernel
theorem dX3_init_16 : decode cX3_init 16 = .ok (.dup, 1) := by decide +kernel
theorem dX3_init_17 : decode cX3_init 17 = .ok (.invokespecial 17, 3) := by decide +kernel
theorem dX3_init_20 : decode cX3_init 20 = .ok (.putfield 18, 3) := by decide +kernel
theorem dX3_init_23 : decode cX3_init 23 = .ok (.return_, 1) := by decide +kernel
theorem dX3_take_0 : decode cX3_take 0 = .ok (.aload_n 0, 1) := by decide +kernel
theorem dX3_take_1 : decode cX3_take 1 = .ok (.getfield 22, 3) := by decide +kernel
theorem dX3_take_4 : decode cX3_take 4 = .ok (.ifCond .lt 15, 3) := by decide +kernel
theorem dX3_take_7 : decode cX3_take 7 = .ok (.aload_n 0, 1) := by decide +kernel
theorem dX3_take_8 : decode cX3_take 8 = .ok (.getfield 22, 3) := by decide +kernel
theorem dX3_take_11 : decode cX3_take 11 = .ok (.aload_n 0, 1) := by decide +kernel
theorem dX3_take_12 : decode cX3_take 12 = .ok (.getfield 9, 3) := by decide +kernel
theorem dX3_take_15 : decode cX3_take 15 = .ok (.arraylength, 1) := by decide +kernel
theorem dX3_take_16 : decode cX3_take 16 = .ok (.if_icmp .lt 5, 3) := by decide +kernel
theorem dX3_take_19 : decode cX3_take 19 = .ok (.iconst 0, 1) := by decide +kernel
theorem dX3_take_20 : decode cX3_take 20 = .ok (.ireturn, 1) := by decide +kernel
theorem dX3_take_21 : decode cX3_take 21 = .ok (.aload_n 0, 1) := by decide +kernel
theorem dX3_take_22 : decode cX3_take 22 = .ok (.getfield 9, 3) := by decide +kernel
theorem dX3_take_25 : decode cX3_take 25 = .ok (.aload_n 0, 1) := by decide +kernel
theorem dX3_take_26 : decode cX3_take 26 = .ok (.getfield 22, 3) := by decide +kernel
theorem dX3_take_29 : decode cX3_take 29 = .ok (.iload_n 1, 1) := by decide +kernel
theorem dX3_take_30 : decode cX3_take 30 = .ok (.iastore, 1) := by decide +kernel
theorem dX3_take_31 : decode cX3_take 31 = .ok (.aload_n 0, 1) := by decide +kernel
theorem dX3_take_32 : decode cX3_take 32 = .ok (.dup, 1) := by decide +kernel
theorem dX3_take_33 : decode cX3_take 33 = .ok (.getfield 22, 3) := by decide +kernel
theorem dX3_take_36 : decode cX3_take 36 = .ok (.iconst 1, 1) := by decide +kernel
theorem dX3_take_37 : decode cX3_take 37 = .ok (.iadd, 1) := by decide +kernel
theorem dX3_take_38 : decode cX3_take 38 = .ok (.putfield 22, 3) := by decide +kernel
theorem dX3_take_41 : decode cX3_take 41 = .ok (.iconst 1, 1) := by decide +kernel
theorem dX3_take_42 : decode cX3_take 42 = .ok (.ireturn, 1) := by decide +kernel
theorem dX3_sign_0 : decode cX3_sign 0 = .ok (.aload_n 0, 1) := by decide +kernel
theorem dX3_sign_1 : decode cX3_sign 1 = .ok (.getfield 26, 3) := by decide +kernel
theorem dX3_sign_4 : decode cX3_sign 4 = .ok (.ifCond .lt 38, 3) := by decide +kernel
theorem dX3_sign_7 : decode cX3_sign 7 = .ok (.aload_n 0, 1) := by decide +kernel
theorem dX3_sign_8 : decode cX3_sign 8 = .ok (.getfield 26, 3) := by decide +kernel
theorem dX3_sign_11 : decode cX3_sign 11 = .ok (.aload_n 0, 1) := by decide +kernel
theorem dX3_sign_12 : decode cX3_sign 12 = .ok (.getfield 22, 3) := by decide +kernel
theorem dX3_sign_15 : decode cX3_sign 15 = .ok (.if_icmp .ge 27, 3) := by decide +kernel
theorem dX3_sign_18 : decode cX3_sign 18 = .ok (.aload_n 0, 1) := by decide +kernel
theorem dX3_sign_19 : decode cX3_sign 19 = .ok (.getfield 26, 3) := by decide +kernel
theorem dX3_sign_22 : decode cX3_sign 22 = .ok (.aload_n 0, 1) := by decide +kernel
theorem dX3_sign_23 : decode cX3_sign 23 = .ok (.getfield 9, 3) := by decide +kernel
theorem dX3_sign_26 : decode cX3_sign 26 = .ok (.arraylength, 1) := by decide +kernel
theorem dX3_sign_27 : decode cX3_sign 27 = .ok (.if_icmp .ge 15, 3) := by decide +kernel
theorem dX3_sign_30 : decode cX3_sign 30 = .ok (.aload_n 0, 1) := by decide +kernel
theorem dX3_sign_31 : decode cX3_sign 31 = .ok (.getfield 9, 3) := by decide +kernel
theorem dX3_sign_34 : decode cX3_sign 34 = .ok (.aload_n 0, 1) := by decide +kernel
theorem dX3_sign_35 : decode cX3_sign 35 = .ok (.getfield 26, 3) := by decide +kernel
theorem dX3_sign_38 : decode cX3_sign 38 = .ok (.iaload, 1) := by decide +kernel
theorem dX3_sign_39 : decode cX3_sign 39 = .ok (.goto 4, 3) := by decide +kernel
theorem dX3_sign_42 : decode cX3_sign 42 = .ok (.iconst 0, 1) := by decide +kernel
theorem dX3_sign_43 : decode cX3_sign 43 = .ok (.ireturn, 1) := by decide +kernel
theorem dX3_pass_0 : decode cX3_pass 0 = .ok (.aload_n 0, 1) := by decide +kernel
theorem dX3_pass_1 : decode cX3_pass 1 = .ok (.invokevirtual 29, 3) := by decide +kernel
theorem dX3_pass_4 : decode cX3_pass 4 = .ok (.iload_n 1, 1) := by decide +kernel
theorem dX3_pass_5 : decode cX3_pass 5 = .ok (.if_icmp .ne 7, 3) := by decide +kernel
theorem dX3_pass_8 : decode cX3_pass 8 = .ok (.iconst 1, 1) := by decide +kernel
theorem dX3_pass_9 : decode cX3_pass 9 = .ok (.goto 4, 3) := by decide +kernel
theorem dX3_pass_12 : decode cX3_pass 12 = .ok (.iconst 0, 1) := by decide +kernel
theorem dX3_pass_13 : decode cX3_pass 13 = .ok (.istore_n 2, 1) := by decide +kernel
theorem dX3_pass_14 : decode cX3_pass 14 = .ok (.aload_n 0, 1) := by decide +kernel
theorem dX3_pass_15 : decode cX3_pass 15 = .ok (.dup, 1) := by decide +kernel
theorem dX3_pass_16 : decode cX3_pass 16 = .ok (.getfield 26, 3) := by decide +kernel
theorem dX3_pass_19 : decode cX3_pass 19 = .ok (.iload_n 2, 1) := by decide +kernel
theorem dX3_pass_20 : decode cX3_pass 20 = .ok (.ifCond .eq 7, 3) := by decide +kernel
theorem dX3_pass_23 : decode cX3_pass 23 = .ok (.iconst 1, 1) := by decide +kernel
theorem dX3_pass_24 : decode cX3_pass 24 = .ok (.goto 4, 3) := by decide +kernel
theorem dX3_pass_27 : decode cX3_pass 27 = .ok (.iconst 0, 1) := by decide +kernel
theorem dX3_pass_28 : decode cX3_pass 28 = .ok (.iadd, 1) := by decide +kernel
theorem dX3_pass_29 : decode cX3_pass 29 = .ok (.putfield 26, 3) := by decide +kernel
theorem dX3_pass_32 : decode cX3_pass 32 = .ok (.iload_n 2, 1) := by decide +kernel
theorem dX3_pass_33 : decode cX3_pass 33 = .ok (.ireturn, 1) := by decide +kernel
theorem dX3_readSheet_0 : decode cX3_readSheet 0 = .ok (.aload_n 0, 1) := by decide +kernel
theorem dX3_readSheet_1 : decode cX3_readSheet 1 = .ok (.iconst 0, 1) := by decide +kernel
theorem dX3_readSheet_2 : decode cX3_readSheet 2 = .ok (.putfield 26, 3) := by decide +kernel
theorem dX3_readSheet_5 : decode cX3_readSheet 5 = .ok (.iconst 0, 1) := by decide +kernel
theorem dX3_readSheet_6 : decode cX3_readSheet 6 = .ok (.istore_n 1, 1) := by decide +kernel
theorem dX3_readSheet_7 : decode cX3_readSheet 7 = .ok (.iload_n 1, 1) := by decide +kernel
theorem dX3_readSheet_8 : decode cX3_readSheet 8 = .ok (.bipush 6, 2) := by decide +kernel
theorem dX3_readSheet_10 : decode cX3_readSheet 10 = .ok (.if_icmp .ge 22, 3) := by decide +kernel
theorem dX3_readSheet_13 : decode cX3_readSheet 13 = .ok (.aload_n 0, 1) := by decide +kernel
theorem dX3_readSheet_14 : decode cX3_readSheet 14 = .ok (.getfield 18, 3) := by decide +kernel
theorem dX3_readSheet_17 : decode cX3_readSheet 17 = .ok (.getfield 33, 3) := by decide +kernel
theorem dX3_readSheet_20 : decode cX3_readSheet 20 = .ok (.iload_n 1, 1) := by decide +kernel
theorem dX3_readSheet_21 : decode cX3_readSheet 21 = .ok (.aaload, 1) := by decide +kernel
theorem dX3_readSheet_22 : decode cX3_readSheet 22 = .ok (.iconst 0, 1) := by decide +kernel
theorem dX3_readSheet_23 : decode cX3_readSheet 23 = .ok (.putfield 37, 3) := by decide +kernel
theorem dX3_readSheet_26 : decode cX3_readSheet 26 = .ok (.iinc 1 1, 3) := by decide +kernel
theorem dX3_readSheet_29 : decode cX3_readSheet 29 = .ok (.goto (-22), 3) := by decide +kernel
theorem dX3_readSheet_32 : decode cX3_readSheet 32 = .ok (.iconst 0, 1) := by decide +kernel
theorem dX3_readSheet_33 : decode cX3_readSheet 33 = .ok (.istore_n 1, 1) := by decide +kernel
theorem dX3_readSheet_34 : decode cX3_readSheet 34 = .ok (.iload_n 1, 1) := by decide +kernel
theorem dX3_readSheet_35 : decode cX3_readSheet 35 = .ok (.iconst 5, 1) := by decide +kernel
theorem dX3_readSheet_36 : decode cX3_readSheet 36 = .ok (.if_icmp .ge 58, 3) := by decide +kernel
theorem dX3_readSheet_39 : decode cX3_readSheet 39 = .ok (.aload_n 0, 1) := by decide +kernel
theorem dX3_readSheet_40 : decode cX3_readSheet 40 = .ok (.bipush 65, 2) := by decide +kernel
theorem dX3_readSheet_42 : decode cX3_readSheet 42 = .ok (.iload_n 1, 1) := by decide +kernel
theorem dX3_readSheet_43 : decode cX3_readSheet 43 = .ok (.iadd, 1) := by decide +kernel
theorem dX3_readSheet_44 : decode cX3_readSheet 44 = .ok (.invokevirtual 42, 3) := by decide +kernel
theorem dX3_readSheet_47 : decode cX3_readSheet 47 = .ok (.ifCond .eq 47, 3) := by decide +kernel
theorem dX3_readSheet_50 : decode cX3_readSheet 50 = .ok (.aload_n 0, 1) := by decide +kernel
theorem dX3_readSheet_51 : decode cX3_readSheet 51 = .ok (.bipush 61, 2) := by decide +kernel
theorem dX3_readSheet_53 : decode cX3_readSheet 53 = .ok (.invokevirtual 42, 3) := by decide +kernel
theorem dX3_readSheet_56 : decode cX3_readSheet 56 = .ok (.ifCond .eq 30, 3) := by decide +kernel
theorem dX3_readSheet_59 : decode cX3_readSheet 59 = .ok (.aload_n 0, 1) := by decide +kernel
theorem dX3_readSheet_60 : decode cX3_readSheet 60 = .ok (.aload_n 0, 1) := by decide +kernel
theorem dX3_readSheet_61 : decode cX3_readSheet 61 = .ok (.getfield 18, 3) := by decide +kernel
theorem dX3_readSheet_64 : decode cX3_readSheet 64 = .ok (.getfield 33, 3) := by decide +kernel
theorem dX3_readSheet_67 : decode cX3_readSheet 67 = .ok (.iload_n 1, 1) := by decide +kernel
theorem dX3_readSheet_68 : decode cX3_readSheet 68 = .ok (.aaload, 1) := by decide +kernel
theorem dX3_readSheet_69 : decode cX3_readSheet 69 = .ok (.iload_n 1, 1) := by decide +kernel
theorem dX3_readSheet_70 : decode cX3_readSheet 70 = .ok (.iconst 0, 1) := by decide +kernel
theorem dX3_readSheet_71 : decode cX3_readSheet 71 = .ok (.invokevirtual 46, 3) := by decide +kernel
theorem dX3_readSheet_74 : decode cX3_readSheet 74 = .ok (.ifCond .eq 12, 3) := by decide +kernel
theorem dX3_readSheet_77 : decode cX3_readSheet 77 = .ok (.aload_n 0, 1) := by decide +kernel
theorem dX3_readSheet_78 : decode cX3_readSheet 78 = .ok (.bipush 59, 2) := by decide +kernel
theorem dX3_readSheet_80 : decode cX3_readSheet 80 = .ok (.invokevirtual 42, 3) := by decide +kernel
theorem dX3_readSheet_83 : decode cX3_readSheet 83 = .ok (.ifCond .ne 5, 3) := by decide +kernel
theorem dX3_readSheet_86 : decode cX3_readSheet 86 = .ok (.iconst 0, 1) := by decide +kernel
theorem dX3_readSheet_87 : decode cX3_readSheet 87 = .ok (.ireturn, 1) := by decide +kernel
theorem dX3_readSheet_88 : decode cX3_readSheet 88 = .ok (.iinc 1 1, 3) := by decide +kernel
theorem dX3_readSheet_91 : decode cX3_readSheet 91 = .ok (.goto (-57), 3) := by decide +kernel
theorem dX3_readSheet_94 : decode cX3_readSheet 94 = .ok (.aload_n 0, 1) := by decide +kernel
theorem dX3_readSheet_95 : decode cX3_readSheet 95 = .ok (.getfield 18, 3) := by decide +kernel
theorem dX3_readSheet_98 : decode cX3_readSheet 98 = .ok (.iload_n 1, 1) := by decide +kernel
theorem dX3_readSheet_99 : decode cX3_readSheet 99 = .ok (.iconst 1, 1) := by decide +kernel
theorem dX3_readSheet_100 : decode cX3_readSheet 100 = .ok (.iadd, 1) := by decide +kernel
theorem dX3_readSheet_101 : decode cX3_readSheet 101 = .ok (.putfield 50, 3) := by decide +kernel
theorem dX3_readSheet_104 : decode cX3_readSheet 104 = .ok (.aload_n 0, 1) := by decide +kernel
theorem dX3_readSheet_105 : decode cX3_readSheet 105 = .ok (.aload_n 0, 1) := by decide +kernel
theorem dX3_readSheet_106 : decode cX3_readSheet 106 = .ok (.getfield 18, 3) := by decide +kernel
theorem dX3_readSheet_109 : decode cX3_readSheet 109 = .ok (.getfield 33, 3) := by decide +kernel
theorem dX3_readSheet_112 : decode cX3_readSheet 112 = .ok (.iload_n 1, 1) := by decide +kernel
theorem dX3_readSheet_113 : decode cX3_readSheet 113 = .ok (.aaload, 1) := by decide +kernel
theorem dX3_readSheet_114 : decode cX3_readSheet 114 = .ok (.iload_n 1, 1) := by decide +kernel
theorem dX3_readSheet_115 : decode cX3_readSheet 115 = .ok (.iconst 0, 1) := by decide +kernel
theorem dX3_readSheet_116 : decode cX3_readSheet 116 = .ok (.invokevirtual 46, 3) := by decide +kernel
theorem dX3_readSheet_119 : decode cX3_readSheet 119 = .ok (.ifCond .eq 14, 3) := by decide +kernel
theorem dX3_readSheet_122 : decode cX3_readSheet 122 = .ok (.aload_n 0, 1) := by decide +kernel
theorem dX3_readSheet_123 : decode cX3_readSheet 123 = .ok (.invokevirtual 29, 3) := by decide +kernel
theorem dX3_readSheet_126 : decode cX3_readSheet 126 = .ok (.ifCond .ne 7, 3) := by decide +kernel
theorem dX3_readSheet_129 : decode cX3_readSheet 129 = .ok (.iconst 1, 1) := by decide +kernel
theorem dX3_readSheet_130 : decode cX3_readSheet 130 = .ok (.goto 4, 3) := by decide +kernel
theorem dX3_readSheet_133 : decode cX3_readSheet 133 = .ok (.iconst 0, 1) := by decide +kernel
theorem dX3_readSheet_134 : decode cX3_readSheet 134 = .ok (.ireturn, 1) := by decide +kernel
theorem dX3_readSum_0 : decode cX3_readSum 0 = .ok (.aload_n 1, 1) := by decide +kernel
theorem dX3_readSum_1 : decode cX3_readSum 1 = .ok (.getfield 37, 3) := by decide +kernel
theorem dX3_readSum_4 : decode cX3_readSum 4 = .ok (.istore 4, 2) := by decide +kernel
theorem dX3_readSum_6 : decode cX3_readSum 6 = .ok (.aload_n 0, 1) := by decide +kernel
theorem dX3_readSum_7 : decode cX3_readSum 7 = .ok (.aload_n 1, 1) := by decide +kernel
theorem dX3_readSum_8 : decode cX3_readSum 8 = .ok (.iload_n 2, 1) := by decide +kernel
theorem dX3_readSum_9 : decode cX3_readSum 9 = .ok (.iload_n 3, 1) := by decide +kernel
theorem dX3_readSum_10 : decode cX3_readSum 10 = .ok (.invokevirtual 53, 3) := by decide +kernel
theorem dX3_readSum_13 : decode cX3_readSum 13 = .ok (.istore 5, 2) := by decide +kernel
theorem dX3_readSum_15 : decode cX3_readSum 15 = .ok (.iconst 0, 1) := by decide +kernel
theorem dX3_readSum_16 : decode cX3_readSum 16 = .ok (.istore 6, 2) := by decide +kernel
theorem dX3_readSum_18 : decode cX3_readSum 18 = .ok (.iload 6, 2) := by decide +kernel
theorem dX3_readSum_20 : decode cX3_readSum 20 = .ok (.bipush 30, 2) := by decide +kernel
theorem dX3_readSum_22 : decode cX3_readSum 22 = .ok (.if_icmp .ge 77, 3) := by decide +kernel
theorem dX3_readSum_25 : decode cX3_readSum 25 = .ok (.iload 5, 2) := by decide +kernel
theorem dX3_readSum_27 : decode cX3_readSum 27 = .ok (.ifCond .eq 72, 3) := by decide +kernel
theorem dX3_readSum_30 : decode cX3_readSum 30 = .ok (.aload_n 0, 1) := by decide +kernel
theorem dX3_readSum_31 : decode cX3_readSum 31 = .ok (.invokevirtual 29, 3) := by decide +kernel
theorem dX3_readSum_34 : decode cX3_readSum 34 = .ok (.bipush 43, 2) := by decide +kernel
theorem dX3_readSum_36 : decode cX3_readSum 36 = .ok (.if_icmp .eq 12, 3) := by decide +kernel
theorem dX3_readSum_39 : decode cX3_readSum 39 = .ok (.aload_n 0, 1) := by decide +kernel
theorem dX3_readSum_40 : decode cX3_readSum 40 = .ok (.invokevirtual 29, 3) := by decide +kernel
theorem dX3_readSum_43 : decode cX3_readSum 43 = .ok (.bipush 45, 2) := by decide +kernel
theorem dX3_readSum_45 : decode cX3_readSum 45 = .ok (.if_icmp .ne 54, 3) := by decide +kernel
theorem dX3_readSum_48 : decode cX3_readSum 48 = .ok (.aload_n 0, 1) := by decide +kernel
theorem dX3_readSum_49 : decode cX3_readSum 49 = .ok (.invokevirtual 29, 3) := by decide +kernel
theorem dX3_readSum_52 : decode cX3_readSum 52 = .ok (.bipush 43, 2) := by decide +kernel
theorem dX3_readSum_54 : decode cX3_readSum 54 = .ok (.if_icmp .ne 7, 3) := by decide +kernel
theorem dX3_readSum_57 : decode cX3_readSum 57 = .ok (.iconst 4, 1) := by decide +kernel
theorem dX3_readSum_58 : decode cX3_readSum 58 = .ok (.goto 4, 3) := by decide +kernel
theorem dX3_readSum_61 : decode cX3_readSum 61 = .ok (.iconst 5, 1) := by decide +kernel
theorem dX3_readSum_62 : decode cX3_readSum 62 = .ok (.istore 7, 2) := by decide +kernel
theorem dX3_readSum_64 : decode cX3_readSum 64 = .ok (.aload_n 0, 1) := by decide +kernel
theorem dX3_readSum_65 : decode cX3_readSum 65 = .ok (.aload_n 1, 1) := by decide +kernel
theorem dX3_readSum_66 : decode cX3_readSum 66 = .ok (.iload 4, 2) := by decide +kernel
theorem dX3_readSum_68 : decode cX3_readSum 68 = .ok (.iload 7, 2) := by decide +kernel
theorem dX3_readSum_70 : decode cX3_readSum 70 = .ok (.invokevirtual 56, 3) := by decide +kernel
theorem dX3_readSum_73 : decode cX3_readSum 73 = .ok (.ifCond .eq 17, 3) := by decide +kernel
theorem dX3_readSum_76 : decode cX3_readSum 76 = .ok (.aload_n 0, 1) := by decide +kernel
theorem dX3_readSum_77 : decode cX3_readSum 77 = .ok (.aload_n 1, 1) := by decide +kernel
theorem dX3_readSum_78 : decode cX3_readSum 78 = .ok (.iload_n 2, 1) := by decide +kernel
theorem dX3_readSum_79 : decode cX3_readSum 79 = .ok (.iload_n 3, 1) := by decide +kernel
theorem dX3_readSum_80 : decode cX3_readSum 80 = .ok (.invokevirtual 53, 3) := by decide +kernel
theorem dX3_readSum_83 : decode cX3_readSum 83 = .ok (.ifCond .eq 7, 3) := by decide +kernel
theorem dX3_readSum_86 : decode cX3_readSum 86 = .ok (.iconst 1, 1) := by decide +kernel
theorem dX3_readSum_87 : decode cX3_readSum 87 = .ok (.goto 4, 3) := by decide +kernel
theorem dX3_readSum_90 : decode cX3_readSum 90 = .ok (.iconst 0, 1) := by decide +kernel
theorem dX3_readSum_91 : decode cX3_readSum 91 = .ok (.istore 5, 2) := by decide +kernel
theorem dX3_readSum_93 : decode cX3_readSum 93 = .ok (.iinc 6 1, 3) := by decide +kernel
theorem dX3_readSum_96 : decode cX3_readSum 96 = .ok (.goto (-78), 3) := by decide +kernel
theorem dX3_readSum_99 : decode cX3_readSum 99 = .ok (.iload 5, 2) := by decide +kernel
theorem dX3_readSum_101 : decode cX3_readSum 101 = .ok (.ireturn, 1) := by decide +kernel
theorem dX3_readProduct_0 : decode cX3_readProduct 0 = .ok (.aload_n 1, 1) := by decide +kernel
theorem dX3_readProduct_1 : decode cX3_readProduct 1 = .ok (.getfield 37, 3) := by decide +kernel
theorem dX3_readProduct_4 : decode cX3_readProduct 4 = .ok (.istore 4, 2) := by decide +kernel
theorem dX3_readProduct_6 : decode cX3_readProduct 6 = .ok (.aload_n 0, 1) := by decide +kernel
theorem dX3_readProduct_7 : decode cX3_readProduct 7 = .ok (.aload_n 1, 1) := by decide +kernel
theorem dX3_readProduct_8 : decode cX3_readProduct 8 = .ok (.iload_n 2, 1) := by decide +kernel
theorem dX3_readProduct_9 : decode cX3_readProduct 9 = .ok (.iload_n 3, 1) := by decide +kernel
theorem dX3_readProduct_10 : decode cX3_readProduct 10 = .ok (.invokevirtual 59, 3) := by decide +kernel
theorem dX3_readProduct_13 : decode cX3_readProduct 13 = .ok (.istore 5, 2) := by decide +kernel
theorem dX3_readProduct_15 : decode cX3_readProduct 15 = .ok (.iconst 0, 1) := by decide +kernel
theorem dX3_readProduct_16 : decode cX3_readProduct 16 = .ok (.istore 6, 2) := by decide +kernel
theorem dX3_readProduct_18 : decode cX3_readProduct 18 = .ok (.iload 6, 2) := by decide +kernel
theorem dX3_readProduct_20 : decode cX3_readProduct 20 = .ok (.bipush 30, 2) := by decide +kernel
theorem dX3_readProduct_22 : decode cX3_readProduct 22 = .ok (.if_icmp .ge 52, 3) := by decide +kernel
theorem dX3_readProduct_25 : decode cX3_readProduct 25 = .ok (.iload 5, 2) := by decide +kernel
theorem dX3_readProduct_27 : decode cX3_readProduct 27 = .ok (.ifCond .eq 47, 3) := by decide +kernel
theorem dX3_readProduct_30 : decode cX3_readProduct 30 = .ok (.aload_n 0, 1) := by decide +kernel
theorem dX3_readProduct_31 : decode cX3_readProduct 31 = .ok (.invokevirtual 29, 3) := by decide +kernel
theorem dX3_readProduct_34 : decode cX3_readProduct 34 = .ok (.bipush 42, 2) := by decide +kernel
theorem dX3_readProduct_36 : decode cX3_readProduct 36 = .ok (.if_icmp .ne 38, 3) := by decide +kernel
theorem dX3_readProduct_39 : decode cX3_readProduct 39 = .ok (.aload_n 0, 1) := by decide +kernel
theorem dX3_readProduct_40 : decode cX3_readProduct 40 = .ok (.aload_n 1, 1) := by decide +kernel
theorem dX3_readProduct_41 : decode cX3_readProduct 41 = .ok (.iload 4, 2) := by decide +kernel
theorem dX3_readProduct_43 : decode cX3_readProduct 43 = .ok (.bipush 6, 2) := by decide +kernel
theorem dX3_readProduct_45 : decode cX3_readProduct 45 = .ok (.invokevirtual 56, 3) := by decide +kernel
theorem dX3_readProduct_48 : decode cX3_readProduct 48 = .ok (.ifCond .eq 17, 3) := by decide +kernel
theorem dX3_readProduct_51 : decode cX3_readProduct 51 = .ok (.aload_n 0, 1) := by decide +kernel
theorem dX3_readProduct_52 : decode cX3_readProduct 52 = .ok (.aload_n 1, 1) := by decide +kernel
theorem dX3_readProduct_53 : decode cX3_readProduct 53 = .ok (.iload_n 2, 1) := by decide +kernel
theorem dX3_readProduct_54 : decode cX3_readProduct 54 = .ok (.iload_n 3, 1) := by decide +kernel
theorem dX3_readProduct_55 : decode cX3_readProduct 55 = .ok (.invokevirtual 59, 3) := by decide +kernel
theorem dX3_readProduct_58 : decode cX3_readProduct 58 = .ok (.ifCond .eq 7, 3) := by decide +kernel
theorem dX3_readProduct_61 : decode cX3_readProduct 61 = .ok (.iconst 1, 1) := by decide +kernel
theorem dX3_readProduct_62 : decode cX3_readProduct 62 = .ok (.goto 4, 3) := by decide +kernel
theorem dX3_readProduct_65 : decode cX3_readProduct 65 = .ok (.iconst 0, 1) := by decide +kernel
theorem dX3_readProduct_66 : decode cX3_readProduct 66 = .ok (.istore 5, 2) := by decide +kernel
theorem dX3_readProduct_68 : decode cX3_readProduct 68 = .ok (.iinc 6 1, 3) := by decide +kernel
theorem dX3_readProduct_71 : decode cX3_readProduct 71 = .ok (.goto (-53), 3) := by decide +kernel
theorem dX3_readProduct_74 : decode cX3_readProduct 74 = .ok (.iload 5, 2) := by decide +kernel
theorem dX3_readProduct_76 : decode cX3_readProduct 76 = .ok (.ireturn, 1) := by decide +kernel
theorem dX3_readOperation_0 : decode cX3_readOperation 0 = .ok (.aload_n 1, 1) := by decide +kernel
theorem dX3_readOperation_1 : decode cX3_readOperation 1 = .ok (.iload_n 2, 1) := by decide +kernel
theorem dX3_readOperation_2 : decode cX3_readOperation 2 = .ok (.iload_n 3, 1) := by decide +kernel
theorem dX3_readOperation_3 : decode cX3_readOperation 3 = .ok (.iconst 0, 1) := by decide +kernel
theorem dX3_readOperation_4 : decode cX3_readOperation 4 = .ok (.invokevirtual 62, 3) := by decide +kernel
theorem dX3_readOperation_7 : decode cX3_readOperation 7 = .ok (.istore 4, 2) := by decide +kernel
theorem dX3_readOperation_9 : decode cX3_readOperation 9 = .ok (.aload_n 0, 1) := by decide +kernel
theorem dX3_readOperation_10 : decode cX3_readOperation 10 = .ok (.dup, 1) := by decide +kernel
theorem dX3_readOperation_11 : decode cX3_readOperation 11 = .ok (.getfield 26, 3) := by decide +kernel
theorem dX3_readOperation_14 : decode cX3_readOperation 14 = .ok (.iload 4, 2) := by decide +kernel
theorem dX3_readOperation_16 : decode cX3_readOperation 16 = .ok (.ifCond .eq 7, 3) := by decide +kernel
theorem dX3_readOperation_19 : decode cX3_readOperation 19 = .ok (.iconst 1, 1) := by decide +kernel
theorem dX3_readOperation_20 : decode cX3_readOperation 20 = .ok (.goto 4, 3) := by decide +kernel
theorem dX3_readOperation_23 : decode cX3_readOperation 23 = .ok (.iconst 0, 1) := by decide +kernel
theorem dX3_readOperation_24 : decode cX3_readOperation 24 = .ok (.iadd, 1) := by decide +kernel
theorem dX3_readOperation_25 : decode cX3_readOperation 25 = .ok (.putfield 26, 3) := by decide +kernel
theorem dX3_readOperation_28 : decode cX3_readOperation 28 = .ok (.iload 4, 2) := by decide +kernel
theorem dX3_readOperation_30 : decode cX3_readOperation 30 = .ok (.ireturn, 1) := by decide +kernel
theorem dX3_readFactor_0 : decode cX3_readFactor 0 = .ok (.aload_n 0, 1) := by decide +kernel
theorem dX3_readFactor_1 : decode cX3_readFactor 1 = .ok (.invokevirtual 29, 3) := by decide +kernel
theorem dX3_readFactor_4 : decode cX3_readFactor 4 = .ok (.bipush 40, 2) := by decide +kernel
theorem dX3_readFactor_6 : decode cX3_readFactor 6 = .ok (.if_icmp .eq 12, 3) := by decide +kernel
theorem dX3_readFactor_9 : decode cX3_readFactor 9 = .ok (.aload_n 0, 1) := by decide +kernel
theorem dX3_readFactor_10 : decode cX3_readFactor 10 = .ok (.invokevirtual 29, 3) := by decide +kernel
theorem dX3_readFactor_13 : decode cX3_readFactor 13 = .ok (.bipush 33, 2) := by decide +kernel
theorem dX3_readFactor_15 : decode cX3_readFactor 15 = .ok (.if_icmp .ne 27, 3) := by decide +kernel
theorem dX3_readFactor_18 : decode cX3_readFactor 18 = .ok (.iload_n 3, 1) := by decide +kernel
theorem dX3_readFactor_19 : decode cX3_readFactor 19 = .ok (.bipush 8, 2) := by decide +kernel
theorem dX3_readFactor_21 : decode cX3_readFactor 21 = .ok (.if_icmp .ge 19, 3) := by decide +kernel
theorem dX3_readFactor_24 : decode cX3_readFactor 24 = .ok (.aload_n 0, 1) := by decide +kernel
theorem dX3_readFactor_25 : decode cX3_readFactor 25 = .ok (.aload_n 1, 1) := by decide +kernel
theorem dX3_readFactor_26 : decode cX3_readFactor 26 = .ok (.iload_n 2, 1) := by decide +kernel
theorem dX3_readFactor_27 : decode cX3_readFactor 27 = .ok (.iload_n 3, 1) := by decide +kernel
theorem dX3_readFactor_28 : decode cX3_readFactor 28 = .ok (.iconst 1, 1) := by decide +kernel
theorem dX3_readFactor_29 : decode cX3_readFactor 29 = .ok (.iadd, 1) := by decide +kernel
theorem dX3_readFactor_30 : decode cX3_readFactor 30 = .ok (.invokevirtual 66, 3) := by decide +kernel
theorem dX3_readFactor_33 : decode cX3_readFactor 33 = .ok (.ifCond .eq 7, 3) := by decide +kernel
theorem dX3_readFactor_36 : decode cX3_readFactor 36 = .ok (.iconst 1, 1) := by decide +kernel
theorem dX3_readFactor_37 : decode cX3_readFactor 37 = .ok (.goto 4, 3) := by decide +kernel
theorem dX3_readFactor_40 : decode cX3_readFactor 40 = .ok (.iconst 0, 1) := by decide +kernel
theorem dX3_readFactor_41 : decode cX3_readFactor 41 = .ok (.ireturn, 1) := by decide +kernel
theorem dX3_readFactor_42 : decode cX3_readFactor 42 = .ok (.aload_n 0, 1) := by decide +kernel
theorem dX3_readFactor_43 : decode cX3_readFactor 43 = .ok (.aload_n 1, 1) := by decide +kernel
theorem dX3_readFactor_44 : decode cX3_readFactor 44 = .ok (.iload_n 2, 1) := by decide +kernel
theorem dX3_readFactor_45 : decode cX3_readFactor 45 = .ok (.invokevirtual 69, 3) := by decide +kernel
theorem dX3_readFactor_48 : decode cX3_readFactor 48 = .ok (.ireturn, 1) := by decide +kernel
theorem dX3_readNested_0 : decode cX3_readNested 0 = .ok (.aload_n 0, 1) := by decide +kernel
theorem dX3_readNested_1 : decode cX3_readNested 1 = .ok (.bipush 40, 2) := by decide +kernel
theorem dX3_readNested_3 : decode cX3_readNested 3 = .ok (.invokevirtual 42, 3) := by decide +kernel
theorem dX3_readNested_6 : decode cX3_readNested 6 = .ok (.ifCond .eq 28, 3) := by decide +kernel
theorem dX3_readNested_9 : decode cX3_readNested 9 = .ok (.aload_n 0, 1) := by decide +kernel
theorem dX3_readNested_10 : decode cX3_readNested 10 = .ok (.aload_n 1, 1) := by decide +kernel
theorem dX3_readNested_11 : decode cX3_readNested 11 = .ok (.iload_n 2, 1) := by decide +kernel
theorem dX3_readNested_12 : decode cX3_readNested 12 = .ok (.iload_n 3, 1) := by decide +kernel
theorem dX3_readNested_13 : decode cX3_readNested 13 = .ok (.invokevirtual 46, 3) := by decide +kernel
theorem dX3_readNested_16 : decode cX3_readNested 16 = .ok (.ifCond .eq 16, 3) := by decide +kernel
theorem dX3_readNested_19 : decode cX3_readNested 19 = .ok (.aload_n 0, 1) := by decide +kernel
theorem dX3_readNested_20 : decode cX3_readNested 20 = .ok (.bipush 41, 2) := by decide +kernel
theorem dX3_readNested_22 : decode cX3_readNested 22 = .ok (.invokevirtual 42, 3) := by decide +kernel
theorem dX3_readNested_25 : decode cX3_readNested 25 = .ok (.ifCond .eq 7, 3) := by decide +kernel
theorem dX3_readNested_28 : decode cX3_readNested 28 = .ok (.iconst 1, 1) := by decide +kernel
theorem dX3_readNested_29 : decode cX3_readNested 29 = .ok (.goto 4, 3) := by decide +kernel
theorem dX3_readNested_32 : decode cX3_readNested 32 = .ok (.iconst 0, 1) := by decide +kernel
theorem dX3_readNested_33 : decode cX3_readNested 33 = .ok (.ireturn, 1) := by decide +kernel
theorem dX3_readNested_34 : decode cX3_readNested 34 = .ok (.aload_n 1, 1) := by decide +kernel
theorem dX3_readNested_35 : decode cX3_readNested 35 = .ok (.invokevirtual 73, 3) := by decide +kernel
theorem dX3_readNested_38 : decode cX3_readNested 38 = .ok (.ifCond .ne 35, 3) := by decide +kernel
theorem dX3_readNested_41 : decode cX3_readNested 41 = .ok (.aload_n 0, 1) := by decide +kernel
theorem dX3_readNested_42 : decode cX3_readNested 42 = .ok (.bipush 33, 2) := by decide +kernel
theorem dX3_readNested_44 : decode cX3_readNested 44 = .ok (.invokevirtual 42, 3) := by decide +kernel
theorem dX3_readNested_47 : decode cX3_readNested 47 = .ok (.ifCond .eq 26, 3) := by decide +kernel
theorem dX3_readNested_50 : decode cX3_readNested 50 = .ok (.aload_n 1, 1) := by decide +kernel
theorem dX3_readNested_51 : decode cX3_readNested 51 = .ok (.iconst 3, 1) := by decide +kernel
theorem dX3_readNested_52 : decode cX3_readNested 52 = .ok (.iconst 0, 1) := by decide +kernel
theorem dX3_readNested_53 : decode cX3_readNested 53 = .ok (.invokevirtual 77, 3) := by decide +kernel
theorem dX3_readNested_56 : decode cX3_readNested 56 = .ok (.ifCond .eq 17, 3) := by decide +kernel
theorem dX3_readNested_59 : decode cX3_readNested 59 = .ok (.aload_n 0, 1) := by decide +kernel
theorem dX3_readNested_60 : decode cX3_readNested 60 = .ok (.aload_n 1, 1) := by decide +kernel
theorem dX3_readNested_61 : decode cX3_readNested 61 = .ok (.iload_n 2, 1) := by decide +kernel
theorem dX3_readNested_62 : decode cX3_readNested 62 = .ok (.iload_n 3, 1) := by decide +kernel
theorem dX3_readNested_63 : decode cX3_readNested 63 = .ok (.invokevirtual 59, 3) := by decide +kernel
theorem dX3_readNested_66 : decode cX3_readNested 66 = .ok (.ifCond .eq 7, 3) := by decide +kernel
theorem dX3_readNested_69 : decode cX3_readNested 69 = .ok (.iconst 1, 1) := by decide +kernel
theorem dX3_readNested_70 : decode cX3_readNested 70 = .ok (.goto 4, 3) := by decide +kernel
theorem dX3_readNested_73 : decode cX3_readNested 73 = .ok (.iconst 0, 1) := by decide +kernel
theorem dX3_readNested_74 : decode cX3_readNested 74 = .ok (.ireturn, 1) := by decide +kernel
theorem dX3_readLeaf_0 : decode cX3_readLeaf 0 = .ok (.aload_n 0, 1) := by decide +kernel
theorem dX3_readLeaf_1 : decode cX3_readLeaf 1 = .ok (.invokevirtual 29, 3) := by decide +kernel
theorem dX3_readLeaf_4 : decode cX3_readLeaf 4 = .ok (.istore_n 3, 1) := by decide +kernel
theorem dX3_readLeaf_5 : decode cX3_readLeaf 5 = .ok (.aload_n 1, 1) := by decide +kernel
theorem dX3_readLeaf_6 : decode cX3_readLeaf 6 = .ok (.invokevirtual 73, 3) := by decide +kernel
theorem dX3_readLeaf_9 : decode cX3_readLeaf 9 = .ok (.ifCond .eq 5, 3) := by decide +kernel
theorem dX3_readLeaf_12 : decode cX3_readLeaf 12 = .ok (.iconst 0, 1) := by decide +kernel
theorem dX3_readLeaf_13 : decode cX3_readLeaf 13 = .ok (.ireturn, 1) := by decide +kernel
theorem dX3_readLeaf_14 : decode cX3_readLeaf 14 = .ok (.iload_n 3, 1) := by decide +kernel
theorem dX3_readLeaf_15 : decode cX3_readLeaf 15 = .ok (.invokestatic 81, 3) := by decide +kernel
theorem dX3_readLeaf_18 : decode cX3_readLeaf 18 = .ok (.ifCond .eq 13, 3) := by decide +kernel
theorem dX3_readLeaf_21 : decode cX3_readLeaf 21 = .ok (.aload_n 1, 1) := by decide +kernel
theorem dX3_readLeaf_22 : decode cX3_readLeaf 22 = .ok (.iconst 0, 1) := by decide +kernel
theorem dX3_readLeaf_23 : decode cX3_readLeaf 23 = .ok (.aload_n 0, 1) := by decide +kernel
theorem dX3_readLeaf_24 : decode cX3_readLeaf 24 = .ok (.invokevirtual 84, 3) := by decide +kernel
theorem dX3_readLeaf_27 : decode cX3_readLeaf 27 = .ok (.invokevirtual 77, 3) := by decide +kernel
theorem dX3_readLeaf_30 : decode cX3_readLeaf 30 = .ok (.ireturn, 1) := by decide +kernel
theorem dX3_readLeaf_31 : decode cX3_readLeaf 31 = .ok (.iload_n 3, 1) := by decide +kernel
theorem dX3_readLeaf_32 : decode cX3_readLeaf 32 = .ok (.bipush 97, 2) := by decide +kernel
theorem dX3_readLeaf_34 : decode cX3_readLeaf 34 = .ok (.if_icmp .lt 35, 3) := by decide +kernel
theorem dX3_readLeaf_37 : decode cX3_readLeaf 37 = .ok (.iload_n 3, 1) := by decide +kernel
theorem dX3_readLeaf_38 : decode cX3_readLeaf 38 = .ok (.bipush 105, 2) := by decide +kernel
theorem dX3_readLeaf_40 : decode cX3_readLeaf 40 = .ok (.if_icmp .ge 29, 3) := by decide +kernel
theorem dX3_readLeaf_43 : decode cX3_readLeaf 43 = .ok (.aload_n 0, 1) := by decide +kernel
theorem dX3_readLeaf_44 : decode cX3_readLeaf 44 = .ok (.iload_n 3, 1) := by decide +kernel
theorem dX3_readLeaf_45 : decode cX3_readLeaf 45 = .ok (.invokevirtual 42, 3) := by decide +kernel
theorem dX3_readLeaf_48 : decode cX3_readLeaf 48 = .ok (.ifCond .eq 19, 3) := by decide +kernel
theorem dX3_readLeaf_51 : decode cX3_readLeaf 51 = .ok (.aload_n 1, 1) := by decide +kernel
theorem dX3_readLeaf_52 : decode cX3_readLeaf 52 = .ok (.iconst 1, 1) := by decide +kernel
theorem dX3_readLeaf_53 : decode cX3_readLeaf 53 = .ok (.iload_n 3, 1) := by decide +kernel
theorem dX3_readLeaf_54 : decode cX3_readLeaf 54 = .ok (.bipush 97, 2) := by decide +kernel
theorem dX3_readLeaf_56 : decode cX3_readLeaf 56 = .ok (.isub, 1) := by decide +kernel
theorem dX3_readLeaf_57 : decode cX3_readLeaf 57 = .ok (.invokevirtual 77, 3) := by decide +kernel
theorem dX3_readLeaf_60 : decode cX3_readLeaf 60 = .ok (.ifCond .eq 7, 3) := by decide +kernel
theorem dX3_readLeaf_63 : decode cX3_readLeaf 63 = .ok (.iconst 1, 1) := by decide +kernel
theorem dX3_readLeaf_64 : decode cX3_readLeaf 64 = .ok (.goto 4, 3) := by decide +kernel
theorem dX3_readLeaf_67 : decode cX3_readLeaf 67 = .ok (.iconst 0, 1) := by decide +kernel
theorem dX3_readLeaf_68 : decode cX3_readLeaf 68 = .ok (.ireturn, 1) := by decide +kernel
theorem dX3_readLeaf_69 : decode cX3_readLeaf 69 = .ok (.iload_n 3, 1) := by decide +kernel
theorem dX3_readLeaf_70 : decode cX3_readLeaf 70 = .ok (.bipush 65, 2) := by decide +kernel
theorem dX3_readLeaf_72 : decode cX3_readLeaf 72 = .ok (.if_icmp .lt 35, 3) := by decide +kernel
theorem dX3_readLeaf_75 : decode cX3_readLeaf 75 = .ok (.iload_n 3, 1) := by decide +kernel
theorem dX3_readLeaf_76 : decode cX3_readLeaf 76 = .ok (.bipush 65, 2) := by decide +kernel
theorem dX3_readLeaf_78 : decode cX3_readLeaf 78 = .ok (.iload_n 2, 1) := by decide +kernel
theorem dX3_readLeaf_79 : decode cX3_readLeaf 79 = .ok (.iadd, 1) := by decide +kernel
theorem dX3_readLeaf_80 : decode cX3_readLeaf 80 = .ok (.if_icmp .ge 27, 3) := by decide +kernel
theorem dX3_readLeaf_83 : decode cX3_readLeaf 83 = .ok (.aload_n 0, 1) := by decide +kernel
theorem dX3_readLeaf_84 : decode cX3_readLeaf 84 = .ok (.iload_n 3, 1) := by decide +kernel
theorem dX3_readLeaf_85 : decode cX3_readLeaf 85 = .ok (.invokevirtual 42, 3) := by decide +kernel
theorem dX3_readLeaf_88 : decode cX3_readLeaf 88 = .ok (.ifCond .eq 19, 3) := by decide +kernel
theorem dX3_readLeaf_91 : decode cX3_readLeaf 91 = .ok (.aload_n 1, 1) := by decide +kernel
theorem dX3_readLeaf_92 : decode cX3_readLeaf 92 = .ok (.iconst 2, 1) := by decide +kernel
theorem dX3_readLeaf_93 : decode cX3_readLeaf 93 = .ok (.iload_n 3, 1) := by decide +kernel
theorem dX3_readLeaf_94 : decode cX3_readLeaf 94 = .ok (.bipush 65, 2) := by decide +kernel
theorem dX3_readLeaf_96 : decode cX3_readLeaf 96 = .ok (.isub, 1) := by decide +kernel
theorem dX3_readLeaf_97 : decode cX3_readLeaf 97 = .ok (.invokevirtual 77, 3) := by decide +kernel
theorem dX3_readLeaf_100 : decode cX3_readLeaf 100 = .ok (.ifCond .eq 7, 3) := by decide +kernel
theorem dX3_readLeaf_103 : decode cX3_readLeaf 103 = .ok (.iconst 1, 1) := by decide +kernel
theorem dX3_readLeaf_104 : decode cX3_readLeaf 104 = .ok (.goto 4, 3) := by decide +kernel
theorem dX3_readLeaf_107 : decode cX3_readLeaf 107 = .ok (.iconst 0, 1) := by decide +kernel
theorem dX3_readLeaf_108 : decode cX3_readLeaf 108 = .ok (.ireturn, 1) := by decide +kernel
theorem dX3_readNumber_0 : decode cX3_readNumber 0 = .ok (.iconst 0, 1) := by decide +kernel
theorem dX3_readNumber_1 : decode cX3_readNumber 1 = .ok (.istore_n 1, 1) := by decide +kernel
theorem dX3_readNumber_2 : decode cX3_readNumber 2 = .ok (.iconst 0, 1) := by decide +kernel
theorem dX3_readNumber_3 : decode cX3_readNumber 3 = .ok (.istore_n 2, 1) := by decide +kernel
theorem dX3_readNumber_4 : decode cX3_readNumber 4 = .ok (.iload_n 2, 1) := by decide +kernel
theorem dX3_readNumber_5 : decode cX3_readNumber 5 = .ok (.iconst 3, 1) := by decide +kernel
theorem dX3_readNumber_6 : decode cX3_readNumber 6 = .ok (.if_icmp .ge 50, 3) := by decide +kernel
theorem dX3_readNumber_9 : decode cX3_readNumber 9 = .ok (.aload_n 0, 1) := by decide +kernel
theorem dX3_readNumber_10 : decode cX3_readNumber 10 = .ok (.invokevirtual 29, 3) := by decide +kernel
theorem dX3_readNumber_13 : decode cX3_readNumber 13 = .ok (.invokestatic 81, 3) := by decide +kernel
theorem dX3_readNumber_16 : decode cX3_readNumber 16 = .ok (.ifCond .eq 40, 3) := by decide +kernel
theorem dX3_readNumber_19 : decode cX3_readNumber 19 = .ok (.iload_n 2, 1) := by decide +kernel
theorem dX3_readNumber_20 : decode cX3_readNumber 20 = .ok (.ifCond .eq 7, 3) := by decide +kernel
theorem dX3_readNumber_23 : decode cX3_readNumber 23 = .ok (.iload_n 1, 1) := by decide +kernel
theorem dX3_readNumber_24 : decode cX3_readNumber 24 = .ok (.ifCond .le 32, 3) := by decide +kernel
theorem dX3_readNumber_27 : decode cX3_readNumber 27 = .ok (.bipush 10, 2) := by decide +kernel
theorem dX3_readNumber_29 : decode cX3_readNumber 29 = .ok (.iload_n 1, 1) := by decide +kernel
theorem dX3_readNumber_30 : decode cX3_readNumber 30 = .ok (.imul, 1) := by decide +kernel
theorem dX3_readNumber_31 : decode cX3_readNumber 31 = .ok (.aload_n 0, 1) := by decide +kernel
theorem dX3_readNumber_32 : decode cX3_readNumber 32 = .ok (.invokevirtual 29, 3) := by decide +kernel
theorem dX3_readNumber_35 : decode cX3_readNumber 35 = .ok (.iadd, 1) := by decide +kernel
theorem dX3_readNumber_36 : decode cX3_readNumber 36 = .ok (.bipush 48, 2) := by decide +kernel
theorem dX3_readNumber_38 : decode cX3_readNumber 38 = .ok (.isub, 1) := by decide +kernel
theorem dX3_readNumber_39 : decode cX3_readNumber 39 = .ok (.istore_n 1, 1) := by decide +kernel
theorem dX3_readNumber_40 : decode cX3_readNumber 40 = .ok (.iinc 2 1, 3) := by decide +kernel
theorem dX3_readNumber_43 : decode cX3_readNumber 43 = .ok (.aload_n 0, 1) := by decide +kernel
theorem dX3_readNumber_44 : decode cX3_readNumber 44 = .ok (.dup, 1) := by decide +kernel
theorem dX3_readNumber_45 : decode cX3_readNumber 45 = .ok (.getfield 26, 3) := by decide +kernel
theorem dX3_readNumber_48 : decode cX3_readNumber 48 = .ok (.iconst 1, 1) := by decide +kernel
theorem dX3_readNumber_49 : decode cX3_readNumber 49 = .ok (.iadd, 1) := by decide +kernel
theorem dX3_readNumber_50 : decode cX3_readNumber 50 = .ok (.putfield 26, 3) := by decide +kernel
theorem dX3_readNumber_53 : decode cX3_readNumber 53 = .ok (.goto (-49), 3) := by decide +kernel
theorem dX3_readNumber_56 : decode cX3_readNumber 56 = .ok (.iload_n 1, 1) := by decide +kernel
theorem dX3_readNumber_57 : decode cX3_readNumber 57 = .ok (.ireturn, 1) := by decide +kernel
theorem dX3_isDigit_0 : decode cX3_isDigit 0 = .ok (.iload_n 0, 1) := by decide +kernel
theorem dX3_isDigit_1 : decode cX3_isDigit 1 = .ok (.bipush 48, 2) := by decide +kernel
theorem dX3_isDigit_3 : decode cX3_isDigit 3 = .ok (.if_icmp .lt 13, 3) := by decide +kernel
theorem dX3_isDigit_6 : decode cX3_isDigit 6 = .ok (.iload_n 0, 1) := by decide +kernel
theorem dX3_isDigit_7 : decode cX3_isDigit 7 = .ok (.bipush 57, 2) := by decide +kernel
theorem dX3_isDigit_9 : decode cX3_isDigit 9 = .ok (.if_icmp .gt 7, 3) := by decide +kernel
theorem dX3_isDigit_12 : decode cX3_isDigit 12 = .ok (.iconst 1, 1) := by decide +kernel
theorem dX3_isDigit_13 : decode cX3_isDigit 13 = .ok (.goto 4, 3) := by decide +kernel
theorem dX3_isDigit_16 : decode cX3_isDigit 16 = .ok (.iconst 0, 1) := by decide +kernel
theorem dX3_isDigit_17 : decode cX3_isDigit 17 = .ok (.ireturn, 1) := by decide +kernel
theorem dX4_init_0 : decode cX4_init 0 = .ok (.aload_n 0, 1) := by decide +kernel
theorem dX4_init_1 : decode cX4_init 1 = .ok (.invokespecial 3, 3) := by decide +kernel
theorem dX4_init_4 : decode cX4_init 4 = .ok (.aload_n 0, 1) := by decide +kernel
theorem dX4_init_5 : decode cX4_init 5 = .ok (.bipush 6, 2) := by decide +kernel
theorem dX4_init_7 : decode cX4_init 7 = .ok (.anewarray 9, 3) := by decide +kernel
theorem dX4_init_10 : decode cX4_init 10 = .ok (.putfield 11, 3) := by decide +kernel
theorem dX4_init_13 : decode cX4_init 13 = .ok (.aload_n 0, 1) := by decide +kernel
theorem dX4_init_14 : decode cX4_init 14 = .ok (.iconst 1, 1) := by decide +kernel
theorem dX4_init_15 : decode cX4_init 15 = .ok (.putfield 17, 3) := by decide +kernel
theorem dX4_init_18 : decode cX4_init 18 = .ok (.aload_n 0, 1) := by decide +kernel
theorem dX4_init_19 : decode cX4_init 19 = .ok (.bipush 8, 2) := by decide +kernel
theorem dX4_init_21 : decode cX4_init 21 = .ok (.newarray .int, 2) := by decide +kernel
theorem dX4_init_23 : decode cX4_init 23 = .ok (.putfield 21, 3) := by decide +kernel
theorem dX4_init_26 : decode cX4_init 26 = .ok (.aload_n 0, 1) := by decide +kernel
theorem dX4_init_27 : decode cX4_init 27 = .ok (.iconst 3, 1) := by decide +kernel
theorem dX4_init_28 : decode cX4_init 28 = .ok (.putfield 25, 3) := by decide +kernel
theorem dX4_init_31 : decode cX4_init 31 = .ok (.iconst 0, 1) := by decide +kernel
theorem dX4_init_32 : decode cX4_init 32 = .ok (.istore_n 1, 1) := by decide +kernel
theorem dX4_init_33 : decode cX4_init 33 = .ok (.iload_n 1, 1) := by decide +kernel
theorem dX4_init_34 : decode cX4_init 34 = .ok (.aload_n 0, 1) := by decide +kernel
theorem dX4_init_35 : decode cX4_init 35 = .ok (.getfield 11, 3) := by decide +kernel
theorem dX4_init_38 : decode cX4_init 38 = .ok (.arraylength, 1) := by decide +kernel
theorem dX4_init_39 : decode cX4_init 39 = .ok (.if_icmp .ge 24, 3) := by decide +kernel
theorem dX4_init_42 : decode cX4_init 42 = .ok (.aload_n 0, 1) := by decide +kernel
theorem dX4_init_43 : decode cX4_init 43 = .ok (.getfield 11, 3) := by decide +kernel
theorem dX4_init_46 : decode cX4_init 46 = .ok (.iload_n 1, 1) := by decide +kernel
theorem dX4_init_47 : decode cX4_init 47 = .ok (.new 9, 3) := by decide +kernel
theorem dX4_init_50 : decode cX4_init 50 = .ok (.dup, 1) := by decide +kernel
theorem dX4_init_51 : decode cX4_init 51 = .ok (.bipush 30, 2) := by decide +kernel
theorem dX4_init_53 : decode cX4_init 53 = .ok (.invokespecial 28, 3) := by decide +kernel
theorem dX4_init_56 : decode cX4_init 56 = .ok (.aastore, 1) := by decide +kernel
theorem dX4_init_57 : decode cX4_init 57 = .ok (.iinc 1 1, 3) := by decide +kernel
theorem dX4_init_60 : decode cX4_init 60 = .ok (.goto (-27), 3) := by decide +kernel
theorem dX4_init_63 : decode cX4_init 63 = .ok (.return_, 1) := by decide +kernel
theorem dX4_copyFormulas_0 : decode cX4_copyFormulas 0 = .ok (.aload_n 0, 1) := by decide +kernel
theorem dX4_copyFormulas_1 : decode cX4_copyFormulas 1 = .ok (.aload_n 1, 1) := by decide +kernel
theorem dX4_copyFormulas_2 : decode cX4_copyFormulas 2 = .ok (.getfield 17, 3) := by decide +kernel
theorem dX4_copyFormulas_5 : decode cX4_copyFormulas 5 = .ok (.putfield 17, 3) := by decide +kernel
theorem dX4_copyFormulas_8 : decode cX4_copyFormulas 8 = .ok (.iconst 0, 1) := by decide +kernel
theorem dX4_copyFormulas_9 : decode cX4_copyFormulas 9 = .ok (.istore_n 2, 1) := by decide +kernel
theorem dX4_copyFormulas_10 : decode cX4_copyFormulas 10 = .ok (.iload_n 2, 1) := by decide +kernel
theorem dX4_copyFormulas_11 : decode cX4_copyFormulas 11 = .ok (.aload_n 0, 1) := by decide +kernel
theorem dX4_copyFormulas_12 : decode cX4_copyFormulas 12 = .ok (.getfield 17, 3) := by decide +kernel
theorem dX4_copyFormulas_15 : decode cX4_copyFormulas 15 = .ok (.if_icmp .ge 30, 3) := by decide +kernel
theorem dX4_copyFormulas_18 : decode cX4_copyFormulas 18 = .ok (.iload_n 2, 1) := by decide +kernel
theorem dX4_copyFormulas_19 : decode cX4_copyFormulas 19 = .ok (.bipush 6, 2) := by decide +kernel
theorem dX4_copyFormulas_21 : decode cX4_copyFormulas 21 = .ok (.if_icmp .ge 24, 3) := by decide +kernel
theorem dX4_copyFormulas_24 : decode cX4_copyFormulas 24 = .ok (.aload_n 0, 1) := by decide +kernel
theorem dX4_copyFormulas_25 : decode cX4_copyFormulas 25 = .ok (.getfield 11, 3) := by decide +kernel
theorem dX4_copyFormulas_28 : decode cX4_copyFormulas 28 = .ok (.iload_n 2, 1) := by decide +kernel
theorem dX4_copyFormulas_29 : decode cX4_copyFormulas 29 = .ok (.aaload, 1) := by decide +kernel
theorem dX4_copyFormulas_30 : decode cX4_copyFormulas 30 = .ok (.aload_n 1, 1) := by decide +kernel
theorem dX4_copyFormulas_31 : decode cX4_copyFormulas 31 = .ok (.getfield 11, 3) := by decide +kernel
theorem dX4_copyFormulas_34 : decode cX4_copyFormulas 34 = .ok (.iload_n 2, 1) := by decide +kernel
theorem dX4_copyFormulas_35 : decode cX4_copyFormulas 35 = .ok (.aaload, 1) := by decide +kernel
theorem dX4_copyFormulas_36 : decode cX4_copyFormulas 36 = .ok (.invokevirtual 31, 3) := by decide +kernel
theorem dX4_copyFormulas_39 : decode cX4_copyFormulas 39 = .ok (.iinc 2 1, 3) := by decide +kernel
theorem dX4_copyFormulas_42 : decode cX4_copyFormulas 42 = .ok (.goto (-32), 3) := by decide +kernel
theorem dX4_copyFormulas_45 : decode cX4_copyFormulas 45 = .ok (.return_, 1) := by decide +kernel
theorem dX4_copyState_0 : decode cX4_copyState 0 = .ok (.aload_n 0, 1) := by decide +kernel
theorem dX4_copyState_1 : decode cX4_copyState 1 = .ok (.aload_n 1, 1) := by decide +kernel
theorem dX4_copyState_2 : decode cX4_copyState 2 = .ok (.invokevirtual 35, 3) := by decide +kernel
theorem dX4_copyState_5 : decode cX4_copyState 5 = .ok (.aload_n 1, 1) := by decide +kernel
theorem dX4_copyState_6 : decode cX4_copyState 6 = .ok (.getfield 21, 3) := by decide +kernel
theorem dX4_copyState_9 : decode cX4_copyState 9 = .ok (.iconst 0, 1) := by decide +kernel
theorem dX4_copyState_10 : decode cX4_copyState 10 = .ok (.aload_n 0, 1) := by decide +kernel
theorem dX4_copyState_11 : decode cX4_copyState 11 = .ok (.getfield 21, 3) := by decide +kernel
theorem dX4_copyState_14 : decode cX4_copyState 14 = .ok (.iconst 0, 1) := by decide +kernel
theorem dX4_copyState_15 : decode cX4_copyState 15 = .ok (.bipush 8, 2) := by decide +kernel
theorem dX4_copyState_17 : decode cX4_copyState 17 = .ok (.invokestatic 39, 3) := by decide +kernel
theorem dX4_copyState_20 : decode cX4_copyState 20 = .ok (.aload_n 0, 1) := by decide +kernel
theorem dX4_copyState_21 : decode cX4_copyState 21 = .ok (.aload_n 1, 1) := by decide +kernel
theorem dX4_copyState_22 : decode cX4_copyState 22 = .ok (.getfield 25, 3) := by decide +kernel
theorem dX4_copyState_25 : decode cX4_copyState 25 = .ok (.putfield 25, 3) := by decide +kernel
theorem dX4_copyState_28 : decode cX4_copyState 28 = .ok (.return_, 1) := by decide +kernel
theorem dX5_init_0 : decode cX5_init 0 = .ok (.aload_n 0, 1) := by decide +kernel
theorem dX5_init_1 : decode cX5_init 1 = .ok (.invokespecial 3, 3) := by decide +kernel
theorem dX5_init_4 : decode cX5_init 4 = .ok (.aload_n 0, 1) := by decide +kernel
theorem dX5_init_5 : decode cX5_init 5 = .ok (.bipush 60, 2) := by decide +kernel
theorem dX5_init_7 : decode cX5_init 7 = .ok (.newarray .int, 2) := by decide +kernel
theorem dX5_init_9 : decode cX5_init 9 = .ok (.putfield 9, 3) := by decide +kernel
theorem dX5_init_12 : decode cX5_init 12 = .ok (.aload_n 0, 1) := by decide +kernel
theorem dX5_init_13 : decode cX5_init 13 = .ok (.bipush 60, 2) := by decide +kernel
theorem dX5_init_15 : decode cX5_init 15 = .ok (.newarray .int, 2) := by decide +kernel
theorem dX5_init_17 : decode cX5_init 17 = .ok (.putfield 15, 3) := by decide +kernel
theorem dX5_init_20 : decode cX5_init 20 = .ok (.return_, 1) := by decide +kernel
theorem dX5_tryOrders_0 : decode cX5_tryOrders 0 = .ok (.aload_n 0, 1) := by decide +kernel
theorem dX5_tryOrders_1 : decode cX5_tryOrders 1 = .ok (.iconst 0, 1) := by decide +kernel
theorem dX5_tryOrders_2 : decode cX5_tryOrders 2 = .ok (.putfield 18, 3) := by decide +kernel
theorem dX5_tryOrders_5 : decode cX5_tryOrders 5 = .ok (.iconst 0, 1) := by decide +kernel
theorem dX5_tryOrders_6 : decode cX5_tryOrders 6 = .ok (.istore_n 2, 1) := by decide +kernel
theorem dX5_tryOrders_7 : decode cX5_tryOrders 7 = .ok (.iload_n 2, 1) := by decide +kernel
theorem dX5_tryOrders_8 : decode cX5_tryOrders 8 = .ok (.bipush 60, 2) := by decide +kernel
theorem dX5_tryOrders_10 : decode cX5_tryOrders 10 = .ok (.if_icmp .ge 16, 3) := by decide +kernel
theorem dX5_tryOrders_13 : decode cX5_tryOrders 13 = .ok (.aload_n 0, 1) := by decide +kernel
theorem dX5_tryOrders_14 : decode cX5_tryOrders 14 = .ok (.getfield 9, 3) := by decide +kernel
theorem dX5_tryOrders_17 : decode cX5_tryOrders 17 = .ok (.iload_n 2, 1) := by decide +kernel
theorem dX5_tryOrders_18 : decode cX5_tryOrders 18 = .ok (.iconst 0, 1) := by decide +kernel
theorem dX5_tryOrders_19 : decode cX5_tryOrders 19 = .ok (.iastore, 1) := by decide +kernel
theorem dX5_tryOrders_20 : decode cX5_tryOrders 20 = .ok (.iinc 2 1, 3) := by decide +kernel
theorem dX5_tryOrders_23 : decode cX5_tryOrders 23 = .ok (.goto (-16), 3) := by decide +kernel
theorem dX5_tryOrders_26 : decode cX5_tryOrders 26 = .ok (.aload_n 0, 1) := by decide +kernel
theorem dX5_tryOrders_27 : decode cX5_tryOrders 27 = .ok (.getfield 18, 3) := by decide +kernel
theorem dX5_tryOrders_30 : decode cX5_tryOrders 30 = .ok (.bipush 10, 2) := by decide +kernel
theorem dX5_tryOrders_32 : decode cX5_tryOrders 32 = .ok (.if_icmp .gt 77, 3) := by decide +kernel
theorem dX5_tryOrders_35 : decode cX5_tryOrders 35 = .ok (.aload_n 0, 1) := by decide +kernel
theorem dX5_tryOrders_36 : decode cX5_tryOrders 36 = .ok (.getfield 9, 3) := by decide +kernel
theorem dX5_tryOrders_39 : decode cX5_tryOrders 39 = .ok (.iconst 0, 1) := by decide +kernel
theorem dX5_tryOrders_40 : decode cX5_tryOrders 40 = .ok (.iaload, 1) := by decide +kernel
theorem dX5_tryOrders_41 : decode cX5_tryOrders 41 = .ok (.ifCond .ne 68, 3) := by decide +kernel
theorem dX5_tryOrders_44 : decode cX5_tryOrders 44 = .ok (.aload_n 0, 1) := by decide +kernel
theorem dX5_tryOrders_45 : decode cX5_tryOrders 45 = .ok (.dup, 1) := by decide +kernel
theorem dX5_tryOrders_46 : decode cX5_tryOrders 46 = .ok (.getfield 18, 3) := by decide +kernel
theorem dX5_tryOrders_49 : decode cX5_tryOrders 49 = .ok (.iconst 1, 1) := by decide +kernel
theorem dX5_tryOrders_50 : decode cX5_tryOrders 50 = .ok (.iadd, 1) := by decide +kernel
theorem dX5_tryOrders_51 : decode cX5_tryOrders 51 = .ok (.putfield 18, 3) := by decide +kernel
theorem dX5_tryOrders_54 : decode cX5_tryOrders 54 = .ok (.aload_n 0, 1) := by decide +kernel
theorem dX5_tryOrders_55 : decode cX5_tryOrders 55 = .ok (.getfield 9, 3) := by decide +kernel
theorem dX5_tryOrders_58 : decode cX5_tryOrders 58 = .ok (.iconst 0, 1) := by decide +kernel
theorem dX5_tryOrders_59 : decode cX5_tryOrders 59 = .ok (.aload_n 0, 1) := by decide +kernel
theorem dX5_tryOrders_60 : decode cX5_tryOrders 60 = .ok (.getfield 15, 3) := by decide +kernel
theorem dX5_tryOrders_63 : decode cX5_tryOrders 63 = .ok (.iconst 0, 1) := by decide +kernel
theorem dX5_tryOrders_64 : decode cX5_tryOrders 64 = .ok (.bipush 60, 2) := by decide +kernel
theorem dX5_tryOrders_66 : decode cX5_tryOrders 66 = .ok (.invokestatic 22, 3) := by decide +kernel
theorem dX5_tryOrders_69 : decode cX5_tryOrders 69 = .ok (.aload_n 1, 1) := by decide +kernel
theorem dX5_tryOrders_70 : decode cX5_tryOrders 70 = .ok (.getfield 28, 3) := by decide +kernel
theorem dX5_tryOrders_73 : decode cX5_tryOrders 73 = .ok (.getfield 34, 3) := by decide +kernel
theorem dX5_tryOrders_76 : decode cX5_tryOrders 76 = .ok (.bipush 60, 2) := by decide +kernel
theorem dX5_tryOrders_78 : decode cX5_tryOrders 78 = .ok (.invokestatic 39, 3) := by decide +kernel
theorem dX5_tryOrders_81 : decode cX5_tryOrders 81 = .ok (.iconst 1, 1) := by decide +kernel
theorem dX5_tryOrders_82 : decode cX5_tryOrders 82 = .ok (.isub, 1) := by decide +kernel
theorem dX5_tryOrders_83 : decode cX5_tryOrders 83 = .ok (.istore_n 2, 1) := by decide +kernel
theorem dX5_tryOrders_84 : decode cX5_tryOrders 84 = .ok (.iload_n 2, 1) := by decide +kernel
theorem dX5_tryOrders_85 : decode cX5_tryOrders 85 = .ok (.ifCond .lt 21, 3) := by decide +kernel
theorem dX5_tryOrders_88 : decode cX5_tryOrders 88 = .ok (.aload_n 0, 1) := by decide +kernel
theorem dX5_tryOrders_89 : decode cX5_tryOrders 89 = .ok (.getfield 9, 3) := by decide +kernel
theorem dX5_tryOrders_92 : decode cX5_tryOrders 92 = .ok (.iload_n 2, 1) := by decide +kernel
theorem dX5_tryOrders_93 : decode cX5_tryOrders 93 = .ok (.aload_n 0, 1) := by decide +kernel
theorem dX5_tryOrders_94 : decode cX5_tryOrders 94 = .ok (.aload_n 1, 1) := by decide +kernel
theorem dX5_tryOrders_95 : decode cX5_tryOrders 95 = .ok (.iload_n 2, 1) := by decide +kernel
theorem dX5_tryOrders_96 : decode cX5_tryOrders 96 = .ok (.invokevirtual 45, 3) := by decide +kernel
theorem dX5_tryOrders_99 : decode cX5_tryOrders 99 = .ok (.iastore, 1) := by decide +kernel
theorem dX5_tryOrders_100 : decode cX5_tryOrders 100 = .ok (.iinc 2 (-1), 3) := by decide +kernel
theorem dX5_tryOrders_103 : decode cX5_tryOrders 103 = .ok (.goto (-19), 3) := by decide +kernel
theorem dX5_tryOrders_106 : decode cX5_tryOrders 106 = .ok (.goto (-80), 3) := by decide +kernel
theorem dX5_tryOrders_109 : decode cX5_tryOrders 109 = .ok (.return_, 1) := by decide +kernel
theorem dX5_waysFor_0 : decode cX5_waysFor 0 = .ok (.iload_n 2, 1) := by decide +kernel
theorem dX5_waysFor_1 : decode cX5_waysFor 1 = .ok (.iconst 1, 1) := by decide +kernel
theorem dX5_waysFor_2 : decode cX5_waysFor 2 = .ok (.iadd, 1) := by decide +kernel
theorem dX5_waysFor_3 : decode cX5_waysFor 3 = .ok (.istore_n 3, 1) := by decide +kernel
theorem dX5_waysFor_4 : decode cX5_waysFor 4 = .ok (.aload_n 1, 1) := by decide +kernel
theorem dX5_waysFor_5 : decode cX5_waysFor 5 = .ok (.getfield 28, 3) := by decide +kernel
theorem dX5_waysFor_8 : decode cX5_waysFor 8 = .ok (.iload_n 2, 1) := by decide +kernel
theorem dX5_waysFor_9 : decode cX5_waysFor 9 = .ok (.invokevirtual 49, 3) := by decide +kernel
theorem dX5_waysFor_12 : decode cX5_waysFor 12 = .ok (.invokestatic 53, 3) := by decide +kernel
theorem dX5_waysFor_15 : decode cX5_waysFor 15 = .ok (.istore 4, 2) := by decide +kernel
theorem dX5_waysFor_17 : decode cX5_waysFor 17 = .ok (.iload 4, 2) := by decide +kernel
theorem dX5_waysFor_19 : decode cX5_waysFor 19 = .ok (.ifCond .ne 5, 3) := by decide +kernel
theorem dX5_waysFor_22 : decode cX5_waysFor 22 = .ok (.iconst 1, 1) := by decide +kernel
theorem dX5_waysFor_23 : decode cX5_waysFor 23 = .ok (.ireturn, 1) := by decide +kernel
theorem dX5_waysFor_24 : decode cX5_waysFor 24 = .ok (.iload 4, 2) := by decide +kernel
theorem dX5_waysFor_26 : decode cX5_waysFor 26 = .ok (.iconst 1, 1) := by decide +kernel
theorem dX5_waysFor_27 : decode cX5_waysFor 27 = .ok (.if_icmp .ne 12, 3) := by decide +kernel
theorem dX5_waysFor_30 : decode cX5_waysFor 30 = .ok (.aload_n 0, 1) := by decide +kernel
theorem dX5_waysFor_31 : decode cX5_waysFor 31 = .ok (.getfield 9, 3) := by decide +kernel
theorem dX5_waysFor_34 : decode cX5_waysFor 34 = .ok (.iload_n 3, 1) := by decide +kernel
theorem dX5_waysFor_35 : decode cX5_waysFor 35 = .ok (.invokestatic 56, 3) := by decide +kernel
theorem dX5_waysFor_38 : decode cX5_waysFor 38 = .ok (.ireturn, 1) := by decide +kernel
theorem dX5_waysFor_39 : decode cX5_waysFor 39 = .ok (.aload_n 1, 1) := by decide +kernel
theorem dX5_waysFor_40 : decode cX5_waysFor 40 = .ok (.iload_n 2, 1) := by decide +kernel
theorem dX5_waysFor_41 : decode cX5_waysFor 41 = .ok (.invokevirtual 60, 3) := by decide +kernel
theorem dX5_waysFor_44 : decode cX5_waysFor 44 = .ok (.istore 5, 2) := by decide +kernel
theorem dX5_waysFor_46 : decode cX5_waysFor 46 = .ok (.aload_n 0, 1) := by decide +kernel
theorem dX5_waysFor_47 : decode cX5_waysFor 47 = .ok (.getfield 9, 3) := by decide +kernel
theorem dX5_waysFor_50 : decode cX5_waysFor 50 = .ok (.iload_n 3, 1) := by decide +kernel
theorem dX5_waysFor_51 : decode cX5_waysFor 51 = .ok (.invokestatic 56, 3) := by decide +kernel
theorem dX5_waysFor_54 : decode cX5_waysFor 54 = .ok (.aload_n 0, 1) := by decide +kernel
theorem dX5_waysFor_55 : decode cX5_waysFor 55 = .ok (.getfield 15, 3) := by decide +kernel
theorem dX5_waysFor_58 : decode cX5_waysFor 58 = .ok (.iload 5, 2) := by decide +kernel
theorem dX5_waysFor_60 : decode cX5_waysFor 60 = .ok (.invokestatic 56, 3) := by decide +kernel
theorem dX5_waysFor_63 : decode cX5_waysFor 63 = .ok (.imul, 1) := by decide +kernel
theorem dX5_waysFor_64 : decode cX5_waysFor 64 = .ok (.istore 6, 2) := by decide +kernel
theorem dX5_waysFor_66 : decode cX5_waysFor 66 = .ok (.aload_n 0, 1) := by decide +kernel
theorem dX5_waysFor_67 : decode cX5_waysFor 67 = .ok (.getfield 9, 3) := by decide +kernel
theorem dX5_waysFor_70 : decode cX5_waysFor 70 = .ok (.iload 5, 2) := by decide +kernel
theorem dX5_waysFor_72 : decode cX5_waysFor 72 = .ok (.invokestatic 56, 3) := by decide +kernel
theorem dX5_waysFor_75 : decode cX5_waysFor 75 = .ok (.aload_n 0, 1) := by decide +kernel
theorem dX5_waysFor_76 : decode cX5_waysFor 76 = .ok (.getfield 15, 3) := by decide +kernel
theorem dX5_waysFor_79 : decode cX5_waysFor 79 = .ok (.iload_n 3, 1) := by decide +kernel
theorem dX5_waysFor_80 : decode cX5_waysFor 80 = .ok (.invokestatic 56, 3) := by decide +kernel
theorem dX5_waysFor_83 : decode cX5_waysFor 83 = .ok (.imul, 1) := by decide +kernel
theorem dX5_waysFor_84 : decode cX5_waysFor 84 = .ok (.istore 7, 2) := by decide +kernel
theorem dX5_waysFor_86 : decode cX5_waysFor 86 = .ok (.iload 6, 2) := by decide +kernel
theorem dX5_waysFor_88 : decode cX5_waysFor 88 = .ok (.iload 7, 2) := by decide +kernel
theorem dX5_waysFor_90 : decode cX5_waysFor 90 = .ok (.iadd, 1) := by decide +kernel
theorem dX5_waysFor_91 : decode cX5_waysFor 91 = .ok (.ireturn, 1) := by decide +kernel
