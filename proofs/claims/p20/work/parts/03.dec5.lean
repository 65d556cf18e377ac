theorem dX6_init_0 : decode cX6_init 0 = .ok (.aload_n 0, 1) := by decide +kernel
theorem dX6_init_1 : decode cX6_init 1 = .ok (.invokespecial 3, 3) := by decide +kernel
theorem dX6_init_4 : decode cX6_init 4 = .ok (.aload_n 0, 1) := by decide +kernel
theorem dX6_init_5 : decode cX6_init 5 = .ok (.new 9, 3) := by decide +kernel
theorem dX6_init_8 : decode cX6_init 8 = .ok (.dup, 1) := by decide +kernel
theorem dX6_init_9 : decode cX6_init 9 = .ok (.invokespecial 11, 3) := by decide +kernel
theorem dX6_init_12 : decode cX6_init 12 = .ok (.putfield 12, 3) := by decide +kernel
theorem dX6_init_15 : decode cX6_init 15 = .ok (.aload_n 0, 1) := by decide +kernel
theorem dX6_init_16 : decode cX6_init 16 = .ok (.new 16, 3) := by decide +kernel
theorem dX6_init_19 : decode cX6_init 19 = .ok (.dup, 1) := by decide +kernel
theorem dX6_init_20 : decode cX6_init 20 = .ok (.invokespecial 18, 3) := by decide +kernel
theorem dX6_init_23 : decode cX6_init 23 = .ok (.putfield 19, 3) := by decide +kernel
theorem dX6_init_26 : decode cX6_init 26 = .ok (.aload_n 0, 1) := by decide +kernel
theorem dX6_init_27 : decode cX6_init 27 = .ok (.iconst 5, 1) := by decide +kernel
theorem dX6_init_28 : decode cX6_init 28 = .ok (.anewarray 16, 3) := by decide +kernel
theorem dX6_init_31 : decode cX6_init 31 = .ok (.putfield 23, 3) := by decide +kernel
theorem dX6_init_34 : decode cX6_init 34 = .ok (.aload_n 0, 1) := by decide +kernel
theorem dX6_init_35 : decode cX6_init 35 = .ok (.bipush 6, 2) := by decide +kernel
theorem dX6_init_37 : decode cX6_init 37 = .ok (.anewarray 27, 3) := by decide +kernel
theorem dX6_init_40 : decode cX6_init 40 = .ok (.putfield 29, 3) := by decide +kernel
theorem dX6_init_43 : decode cX6_init 43 = .ok (.aload_n 0, 1) := by decide +kernel
theorem dX6_init_44 : decode cX6_init 44 = .ok (.new 33, 3) := by decide +kernel
theorem dX6_init_47 : decode cX6_init 47 = .ok (.dup, 1) := by decide +kernel
theorem dX6_init_48 : decode cX6_init 48 = .ok (.invokespecial 35, 3) := by decide +kernel
theorem dX6_init_51 : decode cX6_init 51 = .ok (.putfield 36, 3) := by decide +kernel
theorem dX6_init_54 : decode cX6_init 54 = .ok (.aload_n 0, 1) := by decide +kernel
theorem dX6_init_55 : decode cX6_init 55 = .ok (.new 40, 3) := by decide +kernel
theorem dX6_init_58 : decode cX6_init 58 = .ok (.dup, 1) := by decide +kernel
theorem dX6_init_59 : decode cX6_init 59 = .ok (.invokespecial 42, 3) := by decide +kernel
theorem dX6_init_62 : decode cX6_init 62 = .ok (.putfield 43, 3) := by decide +kernel
theorem dX6_init_65 : decode cX6_init 65 = .ok (.iconst 0, 1) := by decide +kernel
theorem dX6_init_66 : decode cX6_init 66 = .ok (.istore_n 1, 1) := by decide +kernel
theorem dX6_init_67 : decode cX6_init 67 = .ok (.iload_n 1, 1) := by decide +kernel
theorem dX6_init_68 : decode cX6_init 68 = .ok (.aload_n 0, 1) := by decide +kernel
theorem dX6_init_69 : decode cX6_init 69 = .ok (.getfield 23, 3) := by decide +kernel
theorem dX6_init_72 : decode cX6_init 72 = .ok (.arraylength, 1) := by decide +kernel
theorem dX6_init_73 : decode cX6_init 73 = .ok (.if_icmp .ge 22, 3) := by decide +kernel
theorem dX6_init_76 : decode cX6_init 76 = .ok (.aload_n 0, 1) := by decide +kernel
theorem dX6_init_77 : decode cX6_init 77 = .ok (.getfield 23, 3) := by decide +kernel
theorem dX6_init_80 : decode cX6_init 80 = .ok (.iload_n 1, 1) := by decide +kernel
theorem dX6_init_81 : decode cX6_init 81 = .ok (.new 16, 3) := by decide +kernel
theorem dX6_init_84 : decode cX6_init 84 = .ok (.dup, 1) := by decide +kernel
theorem dX6_init_85 : decode cX6_init 85 = .ok (.invokespecial 18, 3) := by decide +kernel
theorem dX6_init_88 : decode cX6_init 88 = .ok (.aastore, 1) := by decide +kernel
theorem dX6_init_89 : decode cX6_init 89 = .ok (.iinc 1 1, 3) := by decide +kernel
theorem dX6_init_92 : decode cX6_init 92 = .ok (.goto (-25), 3) := by decide +kernel
theorem dX6_init_95 : decode cX6_init 95 = .ok (.iconst 0, 1) := by decide +kernel
theorem dX6_init_96 : decode cX6_init 96 = .ok (.istore_n 1, 1) := by decide +kernel
theorem dX6_init_97 : decode cX6_init 97 = .ok (.iload_n 1, 1) := by decide +kernel
theorem dX6_init_98 : decode cX6_init 98 = .ok (.aload_n 0, 1) := by decide +kernel
theorem dX6_init_99 : decode cX6_init 99 = .ok (.getfield 29, 3) := by decide +kernel
theorem dX6_init_102 : decode cX6_init 102 = .ok (.arraylength, 1) := by decide +kernel
theorem dX6_init_103 : decode cX6_init 103 = .ok (.if_icmp .ge 23, 3) := by decide +kernel
theorem dX6_init_106 : decode cX6_init 106 = .ok (.aload_n 0, 1) := by decide +kernel
theorem dX6_init_107 : decode cX6_init 107 = .ok (.getfield 29, 3) := by decide +kernel
theorem dX6_init_110 : decode cX6_init 110 = .ok (.iload_n 1, 1) := by decide +kernel
theorem dX6_init_111 : decode cX6_init 111 = .ok (.new 27, 3) := by decide +kernel
theorem dX6_init_114 : decode cX6_init 114 = .ok (.dup, 1) := by decide +kernel
theorem dX6_init_115 : decode cX6_init 115 = .ok (.iload_n 1, 1) := by decide +kernel
theorem dX6_init_116 : decode cX6_init 116 = .ok (.invokespecial 47, 3) := by decide +kernel
theorem dX6_init_119 : decode cX6_init 119 = .ok (.aastore, 1) := by decide +kernel
theorem dX6_init_120 : decode cX6_init 120 = .ok (.iinc 1 1, 3) := by decide +kernel
theorem dX6_init_123 : decode cX6_init 123 = .ok (.goto (-26), 3) := by decide +kernel
theorem dX6_init_126 : decode cX6_init 126 = .ok (.return_, 1) := by decide +kernel
theorem dX6_append_0 : decode cX6_append 0 = .ok (.iload_n 1, 1) := by decide +kernel
theorem dX6_append_1 : decode cX6_append 1 = .ok (.iconst 1, 1) := by decide +kernel
theorem dX6_append_2 : decode cX6_append 2 = .ok (.if_icmp .lt 10, 3) := by decide +kernel
theorem dX6_append_5 : decode cX6_append 5 = .ok (.iload_n 1, 1) := by decide +kernel
theorem dX6_append_6 : decode cX6_append 6 = .ok (.sipush 255, 3) := by decide +kernel
theorem dX6_append_9 : decode cX6_append 9 = .ok (.if_icmp .le 6, 3) := by decide +kernel
theorem dX6_append_12 : decode cX6_append 12 = .ok (.ldc 50, 2) := by decide +kernel
theorem dX6_append_14 : decode cX6_append 14 = .ok (.ireturn, 1) := by decide +kernel
theorem dX6_append_15 : decode cX6_append 15 = .ok (.aload_n 0, 1) := by decide +kernel
theorem dX6_append_16 : decode cX6_append 16 = .ok (.getfield 12, 3) := by decide +kernel
theorem dX6_append_19 : decode cX6_append 19 = .ok (.iload_n 1, 1) := by decide +kernel
theorem dX6_append_20 : decode cX6_append 20 = .ok (.invokevirtual 51, 3) := by decide +kernel
theorem dX6_append_23 : decode cX6_append 23 = .ok (.ifCond .eq 13, 3) := by decide +kernel
theorem dX6_append_26 : decode cX6_append 26 = .ok (.aload_n 0, 1) := by decide +kernel
theorem dX6_append_27 : decode cX6_append 27 = .ok (.getfield 12, 3) := by decide +kernel
theorem dX6_append_30 : decode cX6_append 30 = .ok (.getfield 55, 3) := by decide +kernel
theorem dX6_append_33 : decode cX6_append 33 = .ok (.goto 5, 3) := by decide +kernel
theorem dX6_append_36 : decode cX6_append 36 = .ok (.ldc 59, 2) := by decide +kernel
theorem dX6_append_38 : decode cX6_append 38 = .ok (.ireturn, 1) := by decide +kernel
theorem dX6_clearText_0 : decode cX6_clearText 0 = .ok (.aload_n 0, 1) := by decide +kernel
theorem dX6_clearText_1 : decode cX6_clearText 1 = .ok (.getfield 12, 3) := by decide +kernel
theorem dX6_clearText_4 : decode cX6_clearText 4 = .ok (.getfield 55, 3) := by decide +kernel
theorem dX6_clearText_7 : decode cX6_clearText 7 = .ok (.istore_n 1, 1) := by decide +kernel
theorem dX6_clearText_8 : decode cX6_clearText 8 = .ok (.aload_n 0, 1) := by decide +kernel
theorem dX6_clearText_9 : decode cX6_clearText 9 = .ok (.getfield 12, 3) := by decide +kernel
theorem dX6_clearText_12 : decode cX6_clearText 12 = .ok (.iconst 0, 1) := by decide +kernel
theorem dX6_clearText_13 : decode cX6_clearText 13 = .ok (.putfield 55, 3) := by decide +kernel
theorem dX6_clearText_16 : decode cX6_clearText 16 = .ok (.iload_n 1, 1) := by decide +kernel
theorem dX6_clearText_17 : decode cX6_clearText 17 = .ok (.ireturn, 1) := by decide +kernel
theorem dX6_read_0 : decode cX6_read 0 = .ok (.aload_n 0, 1) := by decide +kernel
theorem dX6_read_1 : decode cX6_read 1 = .ok (.getfield 12, 3) := by decide +kernel
theorem dX6_read_4 : decode cX6_read 4 = .ok (.invokevirtual 60, 3) := by decide +kernel
theorem dX6_read_7 : decode cX6_read 7 = .ok (.ifCond .ne 15, 3) := by decide +kernel
theorem dX6_read_10 : decode cX6_read 10 = .ok (.sipush (-1000), 3) := by decide +kernel
theorem dX6_read_13 : decode cX6_read 13 = .ok (.aload_n 0, 1) := by decide +kernel
theorem dX6_read_14 : decode cX6_read 14 = .ok (.getfield 12, 3) := by decide +kernel
theorem dX6_read_17 : decode cX6_read 17 = .ok (.getfield 64, 3) := by decide +kernel
theorem dX6_read_20 : decode cX6_read 20 = .ok (.isub, 1) := by decide +kernel
theorem dX6_read_21 : decode cX6_read 21 = .ok (.ireturn, 1) := by decide +kernel
theorem dX6_read_22 : decode cX6_read 22 = .ok (.aload_n 0, 1) := by decide +kernel
theorem dX6_read_23 : decode cX6_read 23 = .ok (.invokevirtual 67, 3) := by decide +kernel
theorem dX6_read_26 : decode cX6_read 26 = .ok (.aload_n 0, 1) := by decide +kernel
theorem dX6_read_27 : decode cX6_read 27 = .ok (.getfield 19, 3) := by decide +kernel
theorem dX6_read_30 : decode cX6_read 30 = .ok (.aload_n 0, 1) := by decide +kernel
theorem dX6_read_31 : decode cX6_read 31 = .ok (.getfield 12, 3) := by decide +kernel
theorem dX6_read_34 : decode cX6_read 34 = .ok (.getfield 70, 3) := by decide +kernel
theorem dX6_read_37 : decode cX6_read 37 = .ok (.invokevirtual 73, 3) := by decide +kernel
theorem dX6_read_40 : decode cX6_read 40 = .ok (.aload_n 0, 1) := by decide +kernel
theorem dX6_read_41 : decode cX6_read 41 = .ok (.invokevirtual 77, 3) := by decide +kernel
theorem dX6_read_44 : decode cX6_read 44 = .ok (.aload_n 0, 1) := by decide +kernel
theorem dX6_read_45 : decode cX6_read 45 = .ok (.getfield 19, 3) := by decide +kernel
theorem dX6_read_48 : decode cX6_read 48 = .ok (.getfield 80, 3) := by decide +kernel
theorem dX6_read_51 : decode cX6_read 51 = .ok (.ireturn, 1) := by decide +kernel
theorem dX6_turn_0 : decode cX6_turn 0 = .ok (.aload_n 0, 1) := by decide +kernel
theorem dX6_turn_1 : decode cX6_turn 1 = .ok (.iload_n 1, 1) := by decide +kernel
theorem dX6_turn_2 : decode cX6_turn 2 = .ok (.invokevirtual 83, 3) := by decide +kernel
theorem dX6_turn_5 : decode cX6_turn 5 = .ok (.ifCond .eq 19, 3) := by decide +kernel
theorem dX6_turn_8 : decode cX6_turn 8 = .ok (.aload_n 0, 1) := by decide +kernel
theorem dX6_turn_9 : decode cX6_turn 9 = .ok (.getfield 19, 3) := by decide +kernel
theorem dX6_turn_12 : decode cX6_turn 12 = .ok (.getfield 86, 3) := by decide +kernel
theorem dX6_turn_15 : decode cX6_turn 15 = .ok (.iload_n 1, 1) := by decide +kernel
theorem dX6_turn_16 : decode cX6_turn 16 = .ok (.aaload, 1) := by decide +kernel
theorem dX6_turn_17 : decode cX6_turn 17 = .ok (.iload_n 2, 1) := by decide +kernel
theorem dX6_turn_18 : decode cX6_turn 18 = .ok (.invokevirtual 90, 3) := by decide +kernel
theorem dX6_turn_21 : decode cX6_turn 21 = .ok (.ifCond .ne 6, 3) := by decide +kernel
theorem dX6_turn_24 : decode cX6_turn 24 = .ok (.ldc 50, 2) := by decide +kernel
theorem dX6_turn_26 : decode cX6_turn 26 = .ok (.ireturn, 1) := by decide +kernel
theorem dX6_turn_27 : decode cX6_turn 27 = .ok (.aload_n 0, 1) := by decide +kernel
theorem dX6_turn_28 : decode cX6_turn 28 = .ok (.getfield 19, 3) := by decide +kernel
theorem dX6_turn_31 : decode cX6_turn 31 = .ok (.getfield 86, 3) := by decide +kernel
theorem dX6_turn_34 : decode cX6_turn 34 = .ok (.iload_n 1, 1) := by decide +kernel
theorem dX6_turn_35 : decode cX6_turn 35 = .ok (.aaload, 1) := by decide +kernel
theorem dX6_turn_36 : decode cX6_turn 36 = .ok (.iload_n 2, 1) := by decide +kernel
theorem dX6_turn_37 : decode cX6_turn 37 = .ok (.invokevirtual 95, 3) := by decide +kernel
theorem dX6_turn_40 : decode cX6_turn 40 = .ok (.istore_n 3, 1) := by decide +kernel
theorem dX6_turn_41 : decode cX6_turn 41 = .ok (.iload_n 3, 1) := by decide +kernel
theorem dX6_turn_42 : decode cX6_turn 42 = .ok (.iconst 4, 1) := by decide +kernel
theorem dX6_turn_43 : decode cX6_turn 43 = .ok (.if_icmp .eq 12, 3) := by decide +kernel
theorem dX6_turn_46 : decode cX6_turn 46 = .ok (.iload_n 3, 1) := by decide +kernel
theorem dX6_turn_47 : decode cX6_turn 47 = .ok (.bipush 6, 2) := by decide +kernel
theorem dX6_turn_49 : decode cX6_turn 49 = .ok (.if_icmp .eq 6, 3) := by decide +kernel
theorem dX6_turn_52 : decode cX6_turn 52 = .ok (.ldc 99, 2) := by decide +kernel
theorem dX6_turn_54 : decode cX6_turn 54 = .ok (.ireturn, 1) := by decide +kernel
theorem dX6_turn_55 : decode cX6_turn 55 = .ok (.aload_n 0, 1) := by decide +kernel
theorem dX6_turn_56 : decode cX6_turn 56 = .ok (.invokevirtual 67, 3) := by decide +kernel
theorem dX6_turn_59 : decode cX6_turn 59 = .ok (.aload_n 0, 1) := by decide +kernel
theorem dX6_turn_60 : decode cX6_turn 60 = .ok (.getfield 19, 3) := by decide +kernel
theorem dX6_turn_63 : decode cX6_turn 63 = .ok (.getfield 86, 3) := by decide +kernel
theorem dX6_turn_66 : decode cX6_turn 66 = .ok (.iload_n 1, 1) := by decide +kernel
theorem dX6_turn_67 : decode cX6_turn 67 = .ok (.aaload, 1) := by decide +kernel
theorem dX6_turn_68 : decode cX6_turn 68 = .ok (.iload_n 2, 1) := by decide +kernel
theorem dX6_turn_69 : decode cX6_turn 69 = .ok (.invokevirtual 100, 3) := by decide +kernel
theorem dX6_turn_72 : decode cX6_turn 72 = .ok (.aload_n 0, 1) := by decide +kernel
theorem dX6_turn_73 : decode cX6_turn 73 = .ok (.invokevirtual 77, 3) := by decide +kernel
theorem dX6_turn_76 : decode cX6_turn 76 = .ok (.aload_n 0, 1) := by decide +kernel
theorem dX6_turn_77 : decode cX6_turn 77 = .ok (.getfield 29, 3) := by decide +kernel
theorem dX6_turn_80 : decode cX6_turn 80 = .ok (.iload_n 1, 1) := by decide +kernel
theorem dX6_turn_81 : decode cX6_turn 81 = .ok (.aaload, 1) := by decide +kernel
theorem dX6_turn_82 : decode cX6_turn 82 = .ok (.iconst 0, 1) := by decide +kernel
theorem dX6_turn_83 : decode cX6_turn 83 = .ok (.invokevirtual 103, 3) := by decide +kernel
theorem dX6_turn_86 : decode cX6_turn 86 = .ok (.ireturn, 1) := by decide +kernel
theorem dX6_setCell_0 : decode cX6_setCell 0 = .ok (.iload_n 1, 1) := by decide +kernel
theorem dX6_setCell_1 : decode cX6_setCell 1 = .ok (.invokestatic 106, 3) := by decide +kernel
theorem dX6_setCell_4 : decode cX6_setCell 4 = .ok (.ifCond .eq 17, 3) := by decide +kernel
theorem dX6_setCell_7 : decode cX6_setCell 7 = .ok (.iload_n 2, 1) := by decide +kernel
theorem dX6_setCell_8 : decode cX6_setCell 8 = .ok (.sipush (-999), 3) := by decide +kernel
theorem dX6_setCell_11 : decode cX6_setCell 11 = .ok (.if_icmp .lt 10, 3) := by decide +kernel
theorem dX6_setCell_14 : decode cX6_setCell 14 = .ok (.iload_n 2, 1) := by decide +kernel
theorem dX6_setCell_15 : decode cX6_setCell 15 = .ok (.sipush 999, 3) := by decide +kernel
theorem dX6_setCell_18 : decode cX6_setCell 18 = .ok (.if_icmp .le 6, 3) := by decide +kernel
theorem dX6_setCell_21 : decode cX6_setCell 21 = .ok (.ldc 50, 2) := by decide +kernel
theorem dX6_setCell_23 : decode cX6_setCell 23 = .ok (.ireturn, 1) := by decide +kernel
theorem dX6_setCell_24 : decode cX6_setCell 24 = .ok (.aload_n 0, 1) := by decide +kernel
theorem dX6_setCell_25 : decode cX6_setCell 25 = .ok (.invokevirtual 67, 3) := by decide +kernel
theorem dX6_setCell_28 : decode cX6_setCell 28 = .ok (.aload_n 0, 1) := by decide +kernel
theorem dX6_setCell_29 : decode cX6_setCell 29 = .ok (.getfield 19, 3) := by decide +kernel
theorem dX6_setCell_32 : decode cX6_setCell 32 = .ok (.getfield 109, 3) := by decide +kernel
theorem dX6_setCell_35 : decode cX6_setCell 35 = .ok (.iload_n 1, 1) := by decide +kernel
theorem dX6_setCell_36 : decode cX6_setCell 36 = .ok (.iaload, 1) := by decide +kernel
theorem dX6_setCell_37 : decode cX6_setCell 37 = .ok (.istore_n 3, 1) := by decide +kernel
theorem dX6_setCell_38 : decode cX6_setCell 38 = .ok (.aload_n 0, 1) := by decide +kernel
theorem dX6_setCell_39 : decode cX6_setCell 39 = .ok (.getfield 19, 3) := by decide +kernel
theorem dX6_setCell_42 : decode cX6_setCell 42 = .ok (.getfield 109, 3) := by decide +kernel
theorem dX6_setCell_45 : decode cX6_setCell 45 = .ok (.iload_n 1, 1) := by decide +kernel
theorem dX6_setCell_46 : decode cX6_setCell 46 = .ok (.iload_n 2, 1) := by decide +kernel
theorem dX6_setCell_47 : decode cX6_setCell 47 = .ok (.iastore, 1) := by decide +kernel
theorem dX6_setCell_48 : decode cX6_setCell 48 = .ok (.aload_n 0, 1) := by decide +kernel
theorem dX6_setCell_49 : decode cX6_setCell 49 = .ok (.invokevirtual 77, 3) := by decide +kernel
theorem dX6_setCell_52 : decode cX6_setCell 52 = .ok (.iload_n 3, 1) := by decide +kernel
theorem dX6_setCell_53 : decode cX6_setCell 53 = .ok (.ireturn, 1) := by decide +kernel
theorem dX6_setPlaces_0 : decode cX6_setPlaces 0 = .ok (.iload_n 1, 1) := by decide +kernel
theorem dX6_setPlaces_1 : decode cX6_setPlaces 1 = .ok (.invokestatic 113, 3) := by decide +kernel
theorem dX6_setPlaces_4 : decode cX6_setPlaces 4 = .ok (.ifCond .ne 6, 3) := by decide +kernel
theorem dX6_setPlaces_7 : decode cX6_setPlaces 7 = .ok (.ldc 50, 2) := by decide +kernel
theorem dX6_setPlaces_9 : decode cX6_setPlaces 9 = .ok (.ireturn, 1) := by decide +kernel
theorem dX6_setPlaces_10 : decode cX6_setPlaces 10 = .ok (.aload_n 0, 1) := by decide +kernel
theorem dX6_setPlaces_11 : decode cX6_setPlaces 11 = .ok (.invokevirtual 67, 3) := by decide +kernel
theorem dX6_setPlaces_14 : decode cX6_setPlaces 14 = .ok (.aload_n 0, 1) := by decide +kernel
theorem dX6_setPlaces_15 : decode cX6_setPlaces 15 = .ok (.getfield 19, 3) := by decide +kernel
theorem dX6_setPlaces_18 : decode cX6_setPlaces 18 = .ok (.getfield 116, 3) := by decide +kernel
theorem dX6_setPlaces_21 : decode cX6_setPlaces 21 = .ok (.istore_n 2, 1) := by decide +kernel
theorem dX6_setPlaces_22 : decode cX6_setPlaces 22 = .ok (.aload_n 0, 1) := by decide +kernel
theorem dX6_setPlaces_23 : decode cX6_setPlaces 23 = .ok (.getfield 19, 3) := by decide +kernel
theorem dX6_setPlaces_26 : decode cX6_setPlaces 26 = .ok (.iload_n 1, 1) := by decide +kernel
theorem dX6_setPlaces_27 : decode cX6_setPlaces 27 = .ok (.putfield 116, 3) := by decide +kernel
theorem dX6_setPlaces_30 : decode cX6_setPlaces 30 = .ok (.iload_n 2, 1) := by decide +kernel
theorem dX6_setPlaces_31 : decode cX6_setPlaces 31 = .ok (.ireturn, 1) := by decide +kernel
theorem dX6_count_0 : decode cX6_count 0 = .ok (.iload_n 1, 1) := by decide +kernel
theorem dX6_count_1 : decode cX6_count 1 = .ok (.tableswitch 87 0 6 #[43, 51, 56, 61, 69, 74, 79], 43) := by decide +kernel
theorem dX6_count_44 : decode cX6_count 44 = .ok (.aload_n 0, 1) := by decide +kernel
theorem dX6_count_45 : decode cX6_count 45 = .ok (.getfield 19, 3) := by decide +kernel
theorem dX6_count_48 : decode cX6_count 48 = .ok (.getfield 80, 3) := by decide +kernel
theorem dX6_count_51 : decode cX6_count 51 = .ok (.ireturn, 1) := by decide +kernel
theorem dX6_count_52 : decode cX6_count 52 = .ok (.aload_n 0, 1) := by decide +kernel
theorem dX6_count_53 : decode cX6_count 53 = .ok (.invokevirtual 125, 3) := by decide +kernel
theorem dX6_count_56 : decode cX6_count 56 = .ok (.ireturn, 1) := by decide +kernel
theorem dX6_count_57 : decode cX6_count 57 = .ok (.aload_n 0, 1) := by decide +kernel
theorem dX6_count_58 : decode cX6_count 58 = .ok (.invokevirtual 129, 3) := by decide +kernel
theorem dX6_count_61 : decode cX6_count 61 = .ok (.ireturn, 1) := by decide +kernel
theorem dX6_count_62 : decode cX6_count 62 = .ok (.aload_n 0, 1) := by decide +kernel
theorem dX6_count_63 : decode cX6_count 63 = .ok (.getfield 19, 3) := by decide +kernel
theorem dX6_count_66 : decode cX6_count 66 = .ok (.getfield 116, 3) := by decide +kernel
theorem dX6_count_69 : decode cX6_count 69 = .ok (.ireturn, 1) := by decide +kernel
theorem dX6_count_70 : decode cX6_count 70 = .ok (.aload_n 0, 1) := by decide +kernel
theorem dX6_count_71 : decode cX6_count 71 = .ok (.invokevirtual 132, 3) := by decide +kernel
theorem dX6_count_74 : decode cX6_count 74 = .ok (.ireturn, 1) := by decide +kernel
theorem dX6_count_75 : decode cX6_count 75 = .ok (.aload_n 0, 1) := by decide +kernel
theorem dX6_count_76 : decode cX6_count 76 = .ok (.getfield 119, 3) := by decide +kernel
theorem dX6_count_79 : decode cX6_count 79 = .ok (.ireturn, 1) := by decide +kernel
theorem dX6_count_80 : decode cX6_count 80 = .ok (.aload_n 0, 1) := by decide +kernel
theorem dX6_count_81 : decode cX6_count 81 = .ok (.getfield 12, 3) := by decide +kernel
theorem dX6_count_84 : decode cX6_count 84 = .ok (.getfield 55, 3) := by decide +kernel
theorem dX6_count_87 : decode cX6_count 87 = .ok (.ireturn, 1) := by decide +kernel
theorem dX6_count_88 : decode cX6_count 88 = .ok (.ldc 50, 2) := by decide +kernel
theorem dX6_count_90 : decode cX6_count 90 = .ok (.ireturn, 1) := by decide +kernel
theorem dX6_formula_0 : decode cX6_formula 0 = .ok (.aload_n 0, 1) := by decide +kernel
theorem dX6_formula_1 : decode cX6_formula 1 = .ok (.iload_n 1, 1) := by decide +kernel
theorem dX6_formula_2 : decode cX6_formula 2 = .ok (.invokevirtual 83, 3) := by decide +kernel
theorem dX6_formula_5 : decode cX6_formula 5 = .ok (.ifCond .ne 6, 3) := by decide +kernel
theorem dX6_formula_8 : decode cX6_formula 8 = .ok (.ldc 50, 2) := by decide +kernel
theorem dX6_formula_10 : decode cX6_formula 10 = .ok (.ireturn, 1) := by decide +kernel
theorem dX6_formula_11 : decode cX6_formula 11 = .ok (.aload_n 0, 1) := by decide +kernel
theorem dX6_formula_12 : decode cX6_formula 12 = .ok (.getfield 29, 3) := by decide +kernel
theorem dX6_formula_15 : decode cX6_formula 15 = .ok (.iload_n 1, 1) := by decide +kernel
theorem dX6_formula_16 : decode cX6_formula 16 = .ok (.aaload, 1) := by decide +kernel
theorem dX6_formula_17 : decode cX6_formula 17 = .ok (.astore_n 3, 1) := by decide +kernel
theorem dX6_formula_18 : decode cX6_formula 18 = .ok (.iload_n 2, 1) := by decide +kernel
theorem dX6_formula_19 : decode cX6_formula 19 = .ok (.tableswitch 99 0 6 #[41, 54, 62, 68, 81, 87, 93], 41) := by decide +kernel
theorem dX6_formula_60 : decode cX6_formula 60 = .ok (.aload_n 0, 1) := by decide +kernel
theorem dX6_formula_61 : decode cX6_formula 61 = .ok (.getfield 19, 3) := by decide +kernel
theorem dX6_formula_64 : decode cX6_formula 64 = .ok (.getfield 86, 3) := by decide +kernel
theorem dX6_formula_67 : decode cX6_formula 67 = .ok (.iload_n 1, 1) := by decide +kernel
theorem dX6_formula_68 : decode cX6_formula 68 = .ok (.aaload, 1) := by decide +kernel
theorem dX6_formula_69 : decode cX6_formula 69 = .ok (.getfield 135, 3) := by decide +kernel
theorem dX6_formula_72 : decode cX6_formula 72 = .ok (.ireturn, 1) := by decide +kernel
theorem dX6_formula_73 : decode cX6_formula 73 = .ok (.aload_n 3, 1) := by decide +kernel
theorem dX6_formula_74 : decode cX6_formula 74 = .ok (.getfield 138, 3) := by decide +kernel
theorem dX6_formula_77 : decode cX6_formula 77 = .ok (.getfield 135, 3) := by decide +kernel
theorem dX6_formula_80 : decode cX6_formula 80 = .ok (.ireturn, 1) := by decide +kernel
theorem dX6_formula_81 : decode cX6_formula 81 = .ok (.aload_n 3, 1) := by decide +kernel
theorem dX6_formula_82 : decode cX6_formula 82 = .ok (.iconst 0, 1) := by decide +kernel
theorem dX6_formula_83 : decode cX6_formula 83 = .ok (.invokevirtual 103, 3) := by decide +kernel
theorem dX6_formula_86 : decode cX6_formula 86 = .ok (.ireturn, 1) := by decide +kernel
theorem dX6_formula_87 : decode cX6_formula 87 = .ok (.aload_n 3, 1) := by decide +kernel
theorem dX6_formula_88 : decode cX6_formula 88 = .ok (.getfield 142, 3) := by decide +kernel
theorem dX6_formula_91 : decode cX6_formula 91 = .ok (.ifCond .eq 7, 3) := by decide +kernel
theorem dX6_formula_94 : decode cX6_formula 94 = .ok (.iconst 1, 1) := by decide +kernel
theorem dX6_formula_95 : decode cX6_formula 95 = .ok (.goto 4, 3) := by decide +kernel
theorem dX6_formula_98 : decode cX6_formula 98 = .ok (.iconst 0, 1) := by decide +kernel
theorem dX6_formula_99 : decode cX6_formula 99 = .ok (.ireturn, 1) := by decide +kernel
theorem dX6_formula_100 : decode cX6_formula 100 = .ok (.aload_n 3, 1) := by decide +kernel
theorem dX6_formula_101 : decode cX6_formula 101 = .ok (.iconst 0, 1) := by decide +kernel
theorem dX6_formula_102 : decode cX6_formula 102 = .ok (.invokevirtual 146, 3) := by decide +kernel
theorem dX6_formula_105 : decode cX6_formula 105 = .ok (.ireturn, 1) := by decide +kernel
theorem dX6_formula_106 : decode cX6_formula 106 = .ok (.aload_n 3, 1) := by decide +kernel
theorem dX6_formula_107 : decode cX6_formula 107 = .ok (.iconst 0, 1) := by decide +kernel
theorem dX6_formula_108 : decode cX6_formula 108 = .ok (.invokevirtual 149, 3) := by decide +kernel
theorem dX6_formula_111 : decode cX6_formula 111 = .ok (.ireturn, 1) := by decide +kernel
theorem dX6_formula_112 : decode cX6_formula 112 = .ok (.aload_n 0, 1) := by decide +kernel
theorem dX6_formula_113 : decode cX6_formula 113 = .ok (.iload_n 1, 1) := by decide +kernel
theorem dX6_formula_114 : decode cX6_formula 114 = .ok (.invokevirtual 152, 3) := by decide +kernel
theorem dX6_formula_117 : decode cX6_formula 117 = .ok (.ireturn, 1) := by decide +kernel
theorem dX6_formula_118 : decode cX6_formula 118 = .ok (.ldc 50, 2) := by decide +kernel
theorem dX6_formula_120 : decode cX6_formula 120 = .ok (.ireturn, 1) := by decide +kernel
theorem dX6_node_0 : decode cX6_node 0 = .ok (.aload_n 0, 1) := by decide +kernel
theorem dX6_node_1 : decode cX6_node 1 = .ok (.iload_n 1, 1) := by decide +kernel
theorem dX6_node_2 : decode cX6_node 2 = .ok (.invokevirtual 83, 3) := by decide +kernel
theorem dX6_node_5 : decode cX6_node 5 = .ok (.ifCond .eq 19, 3) := by decide +kernel
theorem dX6_node_8 : decode cX6_node 8 = .ok (.aload_n 0, 1) := by decide +kernel
theorem dX6_node_9 : decode cX6_node 9 = .ok (.getfield 29, 3) := by decide +kernel
theorem dX6_node_12 : decode cX6_node 12 = .ok (.iload_n 1, 1) := by decide +kernel
theorem dX6_node_13 : decode cX6_node 13 = .ok (.aaload, 1) := by decide +kernel
theorem dX6_node_14 : decode cX6_node 14 = .ok (.getfield 138, 3) := by decide +kernel
theorem dX6_node_17 : decode cX6_node 17 = .ok (.iload_n 2, 1) := by decide +kernel
theorem dX6_node_18 : decode cX6_node 18 = .ok (.invokevirtual 90, 3) := by decide +kernel
theorem dX6_node_21 : decode cX6_node 21 = .ok (.ifCond .ne 6, 3) := by decide +kernel
theorem dX6_node_24 : decode cX6_node 24 = .ok (.ldc 50, 2) := by decide +kernel
theorem dX6_node_26 : decode cX6_node 26 = .ok (.ireturn, 1) := by decide +kernel
theorem dX6_node_27 : decode cX6_node 27 = .ok (.aload_n 0, 1) := by decide +kernel
theorem dX6_node_28 : decode cX6_node 28 = .ok (.getfield 29, 3) := by decide +kernel
theorem dX6_node_31 : decode cX6_node 31 = .ok (.iload_n 1, 1) := by decide +kernel
theorem dX6_node_32 : decode cX6_node 32 = .ok (.aaload, 1) := by decide +kernel
theorem dX6_node_33 : decode cX6_node 33 = .ok (.astore 4, 2) := by decide +kernel
theorem dX6_node_35 : decode cX6_node 35 = .ok (.aload 4, 2) := by decide +kernel
theorem dX6_node_37 : decode cX6_node 37 = .ok (.getfield 138, 3) := by decide +kernel
theorem dX6_node_40 : decode cX6_node 40 = .ok (.iload_n 2, 1) := by decide +kernel
theorem dX6_node_41 : decode cX6_node 41 = .ok (.invokevirtual 95, 3) := by decide +kernel
theorem dX6_node_44 : decode cX6_node 44 = .ok (.invokestatic 155, 3) := by decide +kernel
theorem dX6_node_47 : decode cX6_node 47 = .ok (.istore 5, 2) := by decide +kernel
theorem dX6_node_49 : decode cX6_node 49 = .ok (.iload_n 3, 1) := by decide +kernel
theorem dX6_node_50 : decode cX6_node 50 = .ok (.tableswitch 125 0 6 #[42, 52, 72, 86, 104, 111, 118], 42) := by decide +kernel
theorem dX6_node_92 : decode cX6_node 92 = .ok (.aload 4, 2) := by decide +kernel
theorem dX6_node_94 : decode cX6_node 94 = .ok (.getfield 138, 3) := by decide +kernel
theorem dX6_node_97 : decode cX6_node 97 = .ok (.iload_n 2, 1) := by decide +kernel
theorem dX6_node_98 : decode cX6_node 98 = .ok (.invokevirtual 95, 3) := by decide +kernel
theorem dX6_node_101 : decode cX6_node 101 = .ok (.ireturn, 1) := by decide +kernel
theorem dX6_node_102 : decode cX6_node 102 = .ok (.iload 5, 2) := by decide +kernel
theorem dX6_node_104 : decode cX6_node 104 = .ok (.ifCond .ne 15, 3) := by decide +kernel
theorem dX6_node_107 : decode cX6_node 107 = .ok (.aload 4, 2) := by decide +kernel
theorem dX6_node_109 : decode cX6_node 109 = .ok (.getfield 138, 3) := by decide +kernel
theorem dX6_node_112 : decode cX6_node 112 = .ok (.iload_n 2, 1) := by decide +kernel
theorem dX6_node_113 : decode cX6_node 113 = .ok (.invokevirtual 158, 3) := by decide +kernel
theorem dX6_node_116 : decode cX6_node 116 = .ok (.goto 5, 3) := by decide +kernel
theorem dX6_node_119 : decode cX6_node 119 = .ok (.ldc 161, 2) := by decide +kernel
theorem dX6_node_121 : decode cX6_node 121 = .ok (.ireturn, 1) := by decide +kernel
theorem dX6_node_122 : decode cX6_node 122 = .ok (.iload 5, 2) := by decide +kernel
theorem dX6_node_124 : decode cX6_node 124 = .ok (.ifCond .le 9, 3) := by decide +kernel
theorem dX6_node_127 : decode cX6_node 127 = .ok (.iload_n 2, 1) := by decide +kernel
theorem dX6_node_128 : decode cX6_node 128 = .ok (.iconst 1, 1) := by decide +kernel
theorem dX6_node_129 : decode cX6_node 129 = .ok (.iadd, 1) := by decide +kernel
theorem dX6_node_130 : decode cX6_node 130 = .ok (.goto 5, 3) := by decide +kernel
theorem dX6_node_133 : decode cX6_node 133 = .ok (.ldc 161, 2) := by decide +kernel
theorem dX6_node_135 : decode cX6_node 135 = .ok (.ireturn, 1) := by decide +kernel
theorem dX6_node_136 : decode cX6_node 136 = .ok (.iload 5, 2) := by decide +kernel
theorem dX6_node_138 : decode cX6_node 138 = .ok (.iconst 1, 1) := by decide +kernel
theorem dX6_node_139 : decode cX6_node 139 = .ok (.if_icmp .le 12, 3) := by decide +kernel
theorem dX6_node_142 : decode cX6_node 142 = .ok (.aload 4, 2) := by decide +kernel
theorem dX6_node_144 : decode cX6_node 144 = .ok (.iload_n 2, 1) := by decide +kernel
theorem dX6_node_145 : decode cX6_node 145 = .ok (.invokevirtual 162, 3) := by decide +kernel
theorem dX6_node_148 : decode cX6_node 148 = .ok (.goto 5, 3) := by decide +kernel
theorem dX6_node_151 : decode cX6_node 151 = .ok (.ldc 161, 2) := by decide +kernel
theorem dX6_node_153 : decode cX6_node 153 = .ok (.ireturn, 1) := by decide +kernel
theorem dX6_node_154 : decode cX6_node 154 = .ok (.aload 4, 2) := by decide +kernel
theorem dX6_node_156 : decode cX6_node 156 = .ok (.iload_n 2, 1) := by decide +kernel
theorem dX6_node_157 : decode cX6_node 157 = .ok (.invokevirtual 103, 3) := by decide +kernel
theorem dX6_node_160 : decode cX6_node 160 = .ok (.ireturn, 1) := by decide +kernel
theorem dX6_node_161 : decode cX6_node 161 = .ok (.aload 4, 2) := by decide +kernel
theorem dX6_node_163 : decode cX6_node 163 = .ok (.iload_n 2, 1) := by decide +kernel
theorem dX6_node_164 : decode cX6_node 164 = .ok (.invokevirtual 165, 3) := by decide +kernel
theorem dX6_node_167 : decode cX6_node 167 = .ok (.ireturn, 1) := by decide +kernel
theorem dX6_node_168 : decode cX6_node 168 = .ok (.aload 4, 2) := by decide +kernel
theorem dX6_node_170 : decode cX6_node 170 = .ok (.iload_n 2, 1) := by decide +kernel
theorem dX6_node_171 : decode cX6_node 171 = .ok (.invokevirtual 146, 3) := by decide +kernel
theorem dX6_node_174 : decode cX6_node 174 = .ok (.ireturn, 1) := by decide +kernel
theorem dX6_node_175 : decode cX6_node 175 = .ok (.ldc 50, 2) := by decide +kernel
theorem dX6_node_177 : decode cX6_node 177 = .ok (.ireturn, 1) := by decide +kernel
theorem dX6_cell_0 : decode cX6_cell 0 = .ok (.iload_n 1, 1) := by decide +kernel
theorem dX6_cell_1 : decode cX6_cell 1 = .ok (.invokestatic 106, 3) := by decide +kernel
theorem dX6_cell_4 : decode cX6_cell 4 = .ok (.ifCond .eq 15, 3) := by decide +kernel
theorem dX6_cell_7 : decode cX6_cell 7 = .ok (.aload_n 0, 1) := by decide +kernel
theorem dX6_cell_8 : decode cX6_cell 8 = .ok (.getfield 19, 3) := by decide +kernel
theorem dX6_cell_11 : decode cX6_cell 11 = .ok (.getfield 109, 3) := by decide +kernel
theorem dX6_cell_14 : decode cX6_cell 14 = .ok (.iload_n 1, 1) := by decide +kernel
theorem dX6_cell_15 : decode cX6_cell 15 = .ok (.iaload, 1) := by decide +kernel
theorem dX6_cell_16 : decode cX6_cell 16 = .ok (.goto 5, 3) := by decide +kernel
theorem dX6_cell_19 : decode cX6_cell 19 = .ok (.ldc 50, 2) := by decide +kernel
theorem dX6_cell_21 : decode cX6_cell 21 = .ok (.ireturn, 1) := by decide +kernel
theorem dX6_proved_0 : decode cX6_proved 0 = .ok (.aload_n 0, 1) := by decide +kernel
theorem dX6_proved_1 : decode cX6_proved 1 = .ok (.iload_n 1, 1) := by decide +kernel
theorem dX6_proved_2 : decode cX6_proved 2 = .ok (.invokevirtual 196, 3) := by decide +kernel
theorem dX6_proved_5 : decode cX6_proved 5 = .ok (.istore_n 2, 1) := by decide +kernel
theorem dX6_proved_6 : decode cX6_proved 6 = .ok (.iload_n 2, 1) := by decide +kernel
theorem dX6_proved_7 : decode cX6_proved 7 = .ok (.ifCond .eq 5, 3) := by decide +kernel
theorem dX6_proved_10 : decode cX6_proved 10 = .ok (.iload_n 2, 1) := by decide +kernel
theorem dX6_proved_11 : decode cX6_proved 11 = .ok (.ireturn, 1) := by decide +kernel
theorem dX6_proved_12 : decode cX6_proved 12 = .ok (.aload_n 0, 1) := by decide +kernel
theorem dX6_proved_13 : decode cX6_proved 13 = .ok (.getfield 43, 3) := by decide +kernel
theorem dX6_proved_16 : decode cX6_proved 16 = .ok (.aload_n 0, 1) := by decide +kernel
theorem dX6_proved_17 : decode cX6_proved 17 = .ok (.getfield 29, 3) := by decide +kernel
theorem dX6_proved_20 : decode cX6_proved 20 = .ok (.iload_n 1, 1) := by decide +kernel
theorem dX6_proved_21 : decode cX6_proved 21 = .ok (.aaload, 1) := by decide +kernel
theorem dX6_proved_22 : decode cX6_proved 22 = .ok (.invokevirtual 199, 3) := by decide +kernel
theorem dX6_proved_25 : decode cX6_proved 25 = .ok (.aload_n 0, 1) := by decide +kernel
theorem dX6_proved_26 : decode cX6_proved 26 = .ok (.getfield 43, 3) := by decide +kernel
theorem dX6_proved_29 : decode cX6_proved 29 = .ok (.getfield 203, 3) := by decide +kernel
theorem dX6_proved_32 : decode cX6_proved 32 = .ok (.ireturn, 1) := by decide +kernel
theorem dX6_isFormula_0 : decode cX6_isFormula 0 = .ok (.iload_n 1, 1) := by decide +kernel
theorem dX6_isFormula_1 : decode cX6_isFormula 1 = .ok (.ifCond .lt 24, 3) := by decide +kernel
theorem dX6_isFormula_4 : decode cX6_isFormula 4 = .ok (.iload_n 1, 1) := by decide +kernel
theorem dX6_isFormula_5 : decode cX6_isFormula 5 = .ok (.aload_n 0, 1) := by decide +kernel
theorem dX6_isFormula_6 : decode cX6_isFormula 6 = .ok (.getfield 19, 3) := by decide +kernel
theorem dX6_isFormula_9 : decode cX6_isFormula 9 = .ok (.getfield 80, 3) := by decide +kernel
theorem dX6_isFormula_12 : decode cX6_isFormula 12 = .ok (.if_icmp .ge 13, 3) := by decide +kernel
theorem dX6_isFormula_15 : decode cX6_isFormula 15 = .ok (.iload_n 1, 1) := by decide +kernel
theorem dX6_isFormula_16 : decode cX6_isFormula 16 = .ok (.bipush 6, 2) := by decide +kernel
theorem dX6_isFormula_18 : decode cX6_isFormula 18 = .ok (.if_icmp .ge 7, 3) := by decide +kernel
theorem dX6_isFormula_21 : decode cX6_isFormula 21 = .ok (.iconst 1, 1) := by decide +kernel
theorem dX6_isFormula_22 : decode cX6_isFormula 22 = .ok (.goto 4, 3) := by decide +kernel
theorem dX6_isFormula_25 : decode cX6_isFormula 25 = .ok (.iconst 0, 1) := by decide +kernel
theorem dX6_isFormula_26 : decode cX6_isFormula 26 = .ok (.ireturn, 1) := by decide +kernel
theorem dX6_isCell_0 : decode cX6_isCell 0 = .ok (.iload_n 0, 1) := by decide +kernel
theorem dX6_isCell_1 : decode cX6_isCell 1 = .ok (.ifCond .lt 13, 3) := by decide +kernel
theorem dX6_isCell_4 : decode cX6_isCell 4 = .ok (.iload_n 0, 1) := by decide +kernel
theorem dX6_isCell_5 : decode cX6_isCell 5 = .ok (.bipush 8, 2) := by decide +kernel
theorem dX6_isCell_7 : decode cX6_isCell 7 = .ok (.if_icmp .ge 7, 3) := by decide +kernel
theorem dX6_isCell_10 : decode cX6_isCell 10 = .ok (.iconst 1, 1) := by decide +kernel
theorem dX6_isCell_11 : decode cX6_isCell 11 = .ok (.goto 4, 3) := by decide +kernel
theorem dX6_isCell_14 : decode cX6_isCell 14 = .ok (.iconst 0, 1) := by decide +kernel
theorem dX6_isCell_15 : decode cX6_isCell 15 = .ok (.ireturn, 1) := by decide +kernel
theorem dX6_arePlaces_0 : decode cX6_arePlaces 0 = .ok (.iload_n 0, 1) := by decide +kernel
theorem dX6_arePlaces_1 : decode cX6_arePlaces 1 = .ok (.iconst 2, 1) := by decide +kernel
theorem dX6_arePlaces_2 : decode cX6_arePlaces 2 = .ok (.if_icmp .lt 13, 3) := by decide +kernel
theorem dX6_arePlaces_5 : decode cX6_arePlaces 5 = .ok (.iload_n 0, 1) := by decide +kernel
theorem dX6_arePlaces_6 : decode cX6_arePlaces 6 = .ok (.bipush 8, 2) := by decide +kernel
theorem dX6_arePlaces_8 : decode cX6_arePlaces 8 = .ok (.if_icmp .gt 7, 3) := by decide +kernel
theorem dX6_arePlaces_11 : decode cX6_arePlaces 11 = .ok (.iconst 1, 1) := by decide +kernel
theorem dX6_arePlaces_12 : decode cX6_arePlaces 12 = .ok (.goto 4, 3) := by decide +kernel
theorem dX6_arePlaces_15 : decode cX6_arePlaces 15 = .ok (.iconst 0, 1) := by decide +kernel
theorem dX6_arePlaces_16 : decode cX6_arePlaces 16 = .ok (.ireturn, 1) := by decide +kernel
theorem dX6_refusalToTry_0 : decode cX6_refusalToTry 0 = .ok (.aload_n 0, 1) := by decide +kernel
theorem dX6_refusalToTry_1 : decode cX6_refusalToTry 1 = .ok (.iload_n 1, 1) := by decide +kernel
theorem dX6_refusalToTry_2 : decode cX6_refusalToTry 2 = .ok (.invokevirtual 83, 3) := by decide +kernel
theorem dX6_refusalToTry_5 : decode cX6_refusalToTry 5 = .ok (.ifCond .ne 6, 3) := by decide +kernel
theorem dX6_refusalToTry_8 : decode cX6_refusalToTry 8 = .ok (.ldc 50, 2) := by decide +kernel
theorem dX6_refusalToTry_10 : decode cX6_refusalToTry 10 = .ok (.ireturn, 1) := by decide +kernel
theorem dX6_refusalToTry_11 : decode cX6_refusalToTry 11 = .ok (.aload_n 0, 1) := by decide +kernel
theorem dX6_refusalToTry_12 : decode cX6_refusalToTry 12 = .ok (.getfield 29, 3) := by decide +kernel
theorem dX6_refusalToTry_15 : decode cX6_refusalToTry 15 = .ok (.iload_n 1, 1) := by decide +kernel
theorem dX6_refusalToTry_16 : decode cX6_refusalToTry 16 = .ok (.aaload, 1) := by decide +kernel
theorem dX6_refusalToTry_17 : decode cX6_refusalToTry 17 = .ok (.invokevirtual 207, 3) := by decide +kernel
theorem dX6_refusalToTry_20 : decode cX6_refusalToTry 20 = .ok (.bipush 10, 2) := by decide +kernel
theorem dX6_refusalToTry_22 : decode cX6_refusalToTry 22 = .ok (.if_icmp .le 8, 3) := by decide +kernel
theorem dX6_refusalToTry_25 : decode cX6_refusalToTry 25 = .ok (.ldc 161, 2) := by decide +kernel
theorem dX6_refusalToTry_27 : decode cX6_refusalToTry 27 = .ok (.goto 4, 3) := by decide +kernel
theorem dX6_refusalToTry_30 : decode cX6_refusalToTry 30 = .ok (.iconst 0, 1) := by decide +kernel
theorem dX6_refusalToTry_31 : decode cX6_refusalToTry 31 = .ok (.ireturn, 1) := by decide +kernel
theorem dX6_partsOf_0 : decode cX6_partsOf 0 = .ok (.iload_n 0, 1) := by decide +kernel
theorem dX6_partsOf_1 : decode cX6_partsOf 1 = .ok (.iconst 3, 1) := by decide +kernel
theorem dX6_partsOf_2 : decode cX6_partsOf 2 = .ok (.if_icmp .ge 5, 3) := by decide +kernel
theorem dX6_partsOf_5 : decode cX6_partsOf 5 = .ok (.iconst 0, 1) := by decide +kernel
theorem dX6_partsOf_6 : decode cX6_partsOf 6 = .ok (.ireturn, 1) := by decide +kernel
theorem dX6_partsOf_7 : decode cX6_partsOf 7 = .ok (.iload_n 0, 1) := by decide +kernel
theorem dX6_partsOf_8 : decode cX6_partsOf 8 = .ok (.iconst 3, 1) := by decide +kernel
theorem dX6_partsOf_9 : decode cX6_partsOf 9 = .ok (.if_icmp .ne 7, 3) := by decide +kernel
theorem dX6_partsOf_12 : decode cX6_partsOf 12 = .ok (.iconst 1, 1) := by decide +kernel
theorem dX6_partsOf_13 : decode cX6_partsOf 13 = .ok (.goto 4, 3) := by decide +kernel
theorem dX6_partsOf_16 : decode cX6_partsOf 16 = .ok (.iconst 2, 1) := by decide +kernel
theorem dX6_partsOf_17 : decode cX6_partsOf 17 = .ok (.ireturn, 1) := by decide +kernel
theorem dX6_recordState_0 : decode cX6_recordState 0 = .ok (.aload_n 0, 1) := by decide +kernel
theorem dX6_recordState_1 : decode cX6_recordState 1 = .ok (.getfield 119, 3) := by decide +kernel
theorem dX6_recordState_4 : decode cX6_recordState 4 = .ok (.aload_n 0, 1) := by decide +kernel
theorem dX6_recordState_5 : decode cX6_recordState 5 = .ok (.getfield 23, 3) := by decide +kernel
theorem dX6_recordState_8 : decode cX6_recordState 8 = .ok (.arraylength, 1) := by decide +kernel
theorem dX6_recordState_9 : decode cX6_recordState 9 = .ok (.if_icmp .lt 7, 3) := by decide +kernel
theorem dX6_recordState_12 : decode cX6_recordState 12 = .ok (.aload_n 0, 1) := by decide +kernel
theorem dX6_recordState_13 : decode cX6_recordState 13 = .ok (.invokevirtual 210, 3) := by decide +kernel
theorem dX6_recordState_16 : decode cX6_recordState 16 = .ok (.aload_n 0, 1) := by decide +kernel
theorem dX6_recordState_17 : decode cX6_recordState 17 = .ok (.getfield 119, 3) := by decide +kernel
theorem dX6_recordState_20 : decode cX6_recordState 20 = .ok (.ifCond .lt 41, 3) := by decide +kernel
theorem dX6_recordState_23 : decode cX6_recordState 23 = .ok (.aload_n 0, 1) := by decide +kernel
theorem dX6_recordState_24 : decode cX6_recordState 24 = .ok (.getfield 119, 3) := by decide +kernel
theorem dX6_recordState_27 : decode cX6_recordState 27 = .ok (.aload_n 0, 1) := by decide +kernel
theorem dX6_recordState_28 : decode cX6_recordState 28 = .ok (.getfield 23, 3) := by decide +kernel
theorem dX6_recordState_31 : decode cX6_recordState 31 = .ok (.arraylength, 1) := by decide +kernel
theorem dX6_recordState_32 : decode cX6_recordState 32 = .ok (.if_icmp .ge 29, 3) := by decide +kernel
theorem dX6_recordState_35 : decode cX6_recordState 35 = .ok (.aload_n 0, 1) := by decide +kernel
theorem dX6_recordState_36 : decode cX6_recordState 36 = .ok (.getfield 23, 3) := by decide +kernel
theorem dX6_recordState_39 : decode cX6_recordState 39 = .ok (.aload_n 0, 1) := by decide +kernel
theorem dX6_recordState_40 : decode cX6_recordState 40 = .ok (.getfield 119, 3) := by decide +kernel
theorem dX6_recordState_43 : decode cX6_recordState 43 = .ok (.aaload, 1) := by decide +kernel
theorem dX6_recordState_44 : decode cX6_recordState 44 = .ok (.aload_n 0, 1) := by decide +kernel
theorem dX6_recordState_45 : decode cX6_recordState 45 = .ok (.getfield 19, 3) := by decide +kernel
theorem dX6_recordState_48 : decode cX6_recordState 48 = .ok (.invokevirtual 122, 3) := by decide +kernel
theorem dX6_recordState_51 : decode cX6_recordState 51 = .ok (.aload_n 0, 1) := by decide +kernel
theorem dX6_recordState_52 : decode cX6_recordState 52 = .ok (.dup, 1) := by decide +kernel
theorem dX6_recordState_53 : decode cX6_recordState 53 = .ok (.getfield 119, 3) := by decide +kernel
theorem dX6_recordState_56 : decode cX6_recordState 56 = .ok (.iconst 1, 1) := by decide +kernel
theorem dX6_recordState_57 : decode cX6_recordState 57 = .ok (.iadd, 1) := by decide +kernel
theorem dX6_recordState_58 : decode cX6_recordState 58 = .ok (.putfield 119, 3) := by decide +kernel
theorem dX6_recordState_61 : decode cX6_recordState 61 = .ok (.return_, 1) := by decide +kernel
theorem dX6_dropOldestState_0 : decode cX6_dropOldestState 0 = .ok (.aload_n 0, 1) := by decide +kernel
theorem dX6_dropOldestState_1 : decode cX6_dropOldestState 1 = .ok (.getfield 23, 3) := by decide +kernel
theorem dX6_dropOldestState_4 : decode cX6_dropOldestState 4 = .ok (.iconst 0, 1) := by decide +kernel
theorem dX6_dropOldestState_5 : decode cX6_dropOldestState 5 = .ok (.aaload, 1) := by decide +kernel
theorem dX6_dropOldestState_6 : decode cX6_dropOldestState 6 = .ok (.astore_n 1, 1) := by decide +kernel
theorem dX6_dropOldestState_7 : decode cX6_dropOldestState 7 = .ok (.iconst 1, 1) := by decide +kernel
theorem dX6_dropOldestState_8 : decode cX6_dropOldestState 8 = .ok (.istore_n 2, 1) := by decide +kernel
theorem dX6_dropOldestState_9 : decode cX6_dropOldestState 9 = .ok (.iload_n 2, 1) := by decide +kernel
theorem dX6_dropOldestState_10 : decode cX6_dropOldestState 10 = .ok (.aload_n 0, 1) := by decide +kernel
theorem dX6_dropOldestState_11 : decode cX6_dropOldestState 11 = .ok (.getfield 23, 3) := by decide +kernel
theorem dX6_dropOldestState_14 : decode cX6_dropOldestState 14 = .ok (.arraylength, 1) := by decide +kernel
theorem dX6_dropOldestState_15 : decode cX6_dropOldestState 15 = .ok (.if_icmp .ge 23, 3) := by decide +kernel
theorem dX6_dropOldestState_18 : decode cX6_dropOldestState 18 = .ok (.aload_n 0, 1) := by decide +kernel
theorem dX6_dropOldestState_19 : decode cX6_dropOldestState 19 = .ok (.getfield 23, 3) := by decide +kernel
theorem dX6_dropOldestState_22 : decode cX6_dropOldestState 22 = .ok (.iload_n 2, 1) := by decide +kernel
theorem dX6_dropOldestState_23 : decode cX6_dropOldestState 23 = .ok (.iconst 1, 1) := by decide +kernel
theorem dX6_dropOldestState_24 : decode cX6_dropOldestState 24 = .ok (.isub, 1) := by decide +kernel
theorem dX6_dropOldestState_25 : decode cX6_dropOldestState 25 = .ok (.aload_n 0, 1) := by decide +kernel
theorem dX6_dropOldestState_26 : decode cX6_dropOldestState 26 = .ok (.getfield 23, 3) := by decide +kernel
theorem dX6_dropOldestState_29 : decode cX6_dropOldestState 29 = .ok (.iload_n 2, 1) := by decide +kernel
theorem dX6_dropOldestState_30 : decode cX6_dropOldestState 30 = .ok (.aaload, 1) := by decide +kernel
theorem dX6_dropOldestState_31 : decode cX6_dropOldestState 31 = .ok (.aastore, 1) := by decide +kernel
theorem dX6_dropOldestState_32 : decode cX6_dropOldestState 32 = .ok (.iinc 2 1, 3) := by decide +kernel
theorem dX6_dropOldestState_35 : decode cX6_dropOldestState 35 = .ok (.goto (-26), 3) := by decide +kernel
theorem dX6_dropOldestState_38 : decode cX6_dropOldestState 38 = .ok (.aload_n 0, 1) := by decide +kernel
theorem dX6_dropOldestState_39 : decode cX6_dropOldestState 39 = .ok (.getfield 23, 3) := by decide +kernel
theorem dX6_dropOldestState_42 : decode cX6_dropOldestState 42 = .ok (.aload_n 0, 1) := by decide +kernel
theorem dX6_dropOldestState_43 : decode cX6_dropOldestState 43 = .ok (.getfield 23, 3) := by decide +kernel
theorem dX6_dropOldestState_46 : decode cX6_dropOldestState 46 = .ok (.arraylength, 1) := by decide +kernel
theorem dX6_dropOldestState_47 : decode cX6_dropOldestState 47 = .ok (.iconst 1, 1) := by decide +kernel
theorem dX6_dropOldestState_48 : decode cX6_dropOldestState 48 = .ok (.isub, 1) := by decide +kernel
theorem dX6_dropOldestState_49 : decode cX6_dropOldestState 49 = .ok (.aload_n 1, 1) := by decide +kernel
theorem dX6_dropOldestState_50 : decode cX6_dropOldestState 50 = .ok (.aastore, 1) := by decide +kernel
theorem dX6_dropOldestState_51 : decode cX6_dropOldestState 51 = .ok (.aload_n 0, 1) := by decide +kernel
theorem dX6_dropOldestState_52 : decode cX6_dropOldestState 52 = .ok (.aload_n 0, 1) := by decide +kernel
theorem dX6_dropOldestState_53 : decode cX6_dropOldestState 53 = .ok (.getfield 23, 3) := by decide +kernel
theorem dX6_dropOldestState_56 : decode cX6_dropOldestState 56 = .ok (.arraylength, 1) := by decide +kernel
theorem dX6_dropOldestState_57 : decode cX6_dropOldestState 57 = .ok (.iconst 1, 1) := by decide +kernel
theorem dX6_dropOldestState_58 : decode cX6_dropOldestState 58 = .ok (.isub, 1) := by decide +kernel
theorem dX6_dropOldestState_59 : decode cX6_dropOldestState 59 = .ok (.putfield 119, 3) := by decide +kernel
theorem dX6_dropOldestState_62 : decode cX6_dropOldestState 62 = .ok (.return_, 1) := by decide +kernel
theorem dX6_workAnew_0 : decode cX6_workAnew 0 = .ok (.iconst 0, 1) := by decide +kernel
theorem dX6_workAnew_1 : decode cX6_workAnew 1 = .ok (.istore_n 1, 1) := by decide +kernel
theorem dX6_workAnew_2 : decode cX6_workAnew 2 = .ok (.iload_n 1, 1) := by decide +kernel
theorem dX6_workAnew_3 : decode cX6_workAnew 3 = .ok (.aload_n 0, 1) := by decide +kernel
theorem dX6_workAnew_4 : decode cX6_workAnew 4 = .ok (.getfield 19, 3) := by decide +kernel
theorem dX6_workAnew_7 : decode cX6_workAnew 7 = .ok (.getfield 80, 3) := by decide +kernel
theorem dX6_workAnew_10 : decode cX6_workAnew 10 = .ok (.if_icmp .ge 77, 3) := by decide +kernel
theorem dX6_workAnew_13 : decode cX6_workAnew 13 = .ok (.iload_n 1, 1) := by decide +kernel
theorem dX6_workAnew_14 : decode cX6_workAnew 14 = .ok (.bipush 6, 2) := by decide +kernel
theorem dX6_workAnew_16 : decode cX6_workAnew 16 = .ok (.if_icmp .ge 71, 3) := by decide +kernel
theorem dX6_workAnew_19 : decode cX6_workAnew 19 = .ok (.iload_n 1, 1) := by decide +kernel
theorem dX6_workAnew_20 : decode cX6_workAnew 20 = .ok (.aload_n 0, 1) := by decide +kernel
theorem dX6_workAnew_21 : decode cX6_workAnew 21 = .ok (.getfield 19, 3) := by decide +kernel
theorem dX6_workAnew_24 : decode cX6_workAnew 24 = .ok (.getfield 80, 3) := by decide +kernel
theorem dX6_workAnew_27 : decode cX6_workAnew 27 = .ok (.iconst 1, 1) := by decide +kernel
theorem dX6_workAnew_28 : decode cX6_workAnew 28 = .ok (.isub, 1) := by decide +kernel
theorem dX6_workAnew_29 : decode cX6_workAnew 29 = .ok (.if_icmp .ge 7, 3) := by decide +kernel
theorem dX6_workAnew_32 : decode cX6_workAnew 32 = .ok (.iconst 1, 1) := by decide +kernel
theorem dX6_workAnew_33 : decode cX6_workAnew 33 = .ok (.goto 4, 3) := by decide +kernel
theorem dX6_workAnew_36 : decode cX6_workAnew 36 = .ok (.iconst 0, 1) := by decide +kernel
theorem dX6_workAnew_37 : decode cX6_workAnew 37 = .ok (.istore_n 2, 1) := by decide +kernel
theorem dX6_workAnew_38 : decode cX6_workAnew 38 = .ok (.aload_n 0, 1) := by decide +kernel
theorem dX6_workAnew_39 : decode cX6_workAnew 39 = .ok (.getfield 29, 3) := by decide +kernel
theorem dX6_workAnew_42 : decode cX6_workAnew 42 = .ok (.iload_n 1, 1) := by decide +kernel
theorem dX6_workAnew_43 : decode cX6_workAnew 43 = .ok (.aaload, 1) := by decide +kernel
theorem dX6_workAnew_44 : decode cX6_workAnew 44 = .ok (.aload_n 0, 1) := by decide +kernel
theorem dX6_workAnew_45 : decode cX6_workAnew 45 = .ok (.getfield 19, 3) := by decide +kernel
theorem dX6_workAnew_48 : decode cX6_workAnew 48 = .ok (.getfield 86, 3) := by decide +kernel
theorem dX6_workAnew_51 : decode cX6_workAnew 51 = .ok (.iload_n 1, 1) := by decide +kernel
theorem dX6_workAnew_52 : decode cX6_workAnew 52 = .ok (.aaload, 1) := by decide +kernel
theorem dX6_workAnew_53 : decode cX6_workAnew 53 = .ok (.iload_n 2, 1) := by decide +kernel
theorem dX6_workAnew_54 : decode cX6_workAnew 54 = .ok (.aload_n 0, 1) := by decide +kernel
theorem dX6_workAnew_55 : decode cX6_workAnew 55 = .ok (.getfield 29, 3) := by decide +kernel
theorem dX6_workAnew_58 : decode cX6_workAnew 58 = .ok (.invokevirtual 213, 3) := by decide +kernel
theorem dX6_workAnew_61 : decode cX6_workAnew 61 = .ok (.aload_n 0, 1) := by decide +kernel
theorem dX6_workAnew_62 : decode cX6_workAnew 62 = .ok (.getfield 29, 3) := by decide +kernel
theorem dX6_workAnew_65 : decode cX6_workAnew 65 = .ok (.iload_n 1, 1) := by decide +kernel
theorem dX6_workAnew_66 : decode cX6_workAnew 66 = .ok (.aaload, 1) := by decide +kernel
theorem dX6_workAnew_67 : decode cX6_workAnew 67 = .ok (.aload_n 0, 1) := by decide +kernel
theorem dX6_workAnew_68 : decode cX6_workAnew 68 = .ok (.getfield 19, 3) := by decide +kernel
theorem dX6_workAnew_71 : decode cX6_workAnew 71 = .ok (.getfield 109, 3) := by decide +kernel
theorem dX6_workAnew_74 : decode cX6_workAnew 74 = .ok (.aload_n 0, 1) := by decide +kernel
theorem dX6_workAnew_75 : decode cX6_workAnew 75 = .ok (.getfield 29, 3) := by decide +kernel
theorem dX6_workAnew_78 : decode cX6_workAnew 78 = .ok (.invokevirtual 216, 3) := by decide +kernel
theorem dX6_workAnew_81 : decode cX6_workAnew 81 = .ok (.iinc 1 1, 3) := by decide +kernel
theorem dX6_workAnew_84 : decode cX6_workAnew 84 = .ok (.goto (-82), 3) := by decide +kernel
theorem dX6_workAnew_87 : decode cX6_workAnew 87 = .ok (.return_, 1) := by decide +kernel
theorem dX6_cheapDefinitions_0 : decode cX6_cheapDefinitions 0 = .ok (.iconst 0, 1) := by decide +kernel
theorem dX6_cheapDefinitions_1 : decode cX6_cheapDefinitions 1 = .ok (.istore_n 1, 1) := by decide +kernel
theorem dX6_cheapDefinitions_2 : decode cX6_cheapDefinitions 2 = .ok (.iconst 0, 1) := by decide +kernel
theorem dX6_cheapDefinitions_3 : decode cX6_cheapDefinitions 3 = .ok (.istore_n 2, 1) := by decide +kernel
theorem dX6_cheapDefinitions_4 : decode cX6_cheapDefinitions 4 = .ok (.iload_n 2, 1) := by decide +kernel
theorem dX6_cheapDefinitions_5 : decode cX6_cheapDefinitions 5 = .ok (.aload_n 0, 1) := by decide +kernel
theorem dX6_cheapDefinitions_6 : decode cX6_cheapDefinitions 6 = .ok (.getfield 19, 3) := by decide +kernel
theorem dX6_cheapDefinitions_9 : decode cX6_cheapDefinitions 9 = .ok (.getfield 80, 3) := by decide +kernel
theorem dX6_cheapDefinitions_12 : decode cX6_cheapDefinitions 12 = .ok (.if_icmp .ge 35, 3) := by decide +kernel
theorem dX6_cheapDefinitions_15 : decode cX6_cheapDefinitions 15 = .ok (.iload_n 2, 1) := by decide +kernel
theorem dX6_cheapDefinitions_16 : decode cX6_cheapDefinitions 16 = .ok (.bipush 6, 2) := by decide +kernel
theorem dX6_cheapDefinitions_18 : decode cX6_cheapDefinitions 18 = .ok (.if_icmp .ge 29, 3) := by decide +kernel
theorem dX6_cheapDefinitions_21 : decode cX6_cheapDefinitions 21 = .ok (.iload_n 1, 1) := by decide +kernel
theorem dX6_cheapDefinitions_22 : decode cX6_cheapDefinitions 22 = .ok (.aload_n 0, 1) := by decide +kernel
theorem dX6_cheapDefinitions_23 : decode cX6_cheapDefinitions 23 = .ok (.getfield 29, 3) := by decide +kernel
theorem dX6_cheapDefinitions_26 : decode cX6_cheapDefinitions 26 = .ok (.iload_n 2, 1) := by decide +kernel
theorem dX6_cheapDefinitions_27 : decode cX6_cheapDefinitions 27 = .ok (.aaload, 1) := by decide +kernel
theorem dX6_cheapDefinitions_28 : decode cX6_cheapDefinitions 28 = .ok (.getfield 142, 3) := by decide +kernel
theorem dX6_cheapDefinitions_31 : decode cX6_cheapDefinitions 31 = .ok (.ifCond .eq 7, 3) := by decide +kernel
theorem dX6_cheapDefinitions_34 : decode cX6_cheapDefinitions 34 = .ok (.iconst 1, 1) := by decide +kernel
theorem dX6_cheapDefinitions_35 : decode cX6_cheapDefinitions 35 = .ok (.goto 4, 3) := by decide +kernel
theorem dX6_cheapDefinitions_38 : decode cX6_cheapDefinitions 38 = .ok (.iconst 0, 1) := by decide +kernel
theorem dX6_cheapDefinitions_39 : decode cX6_cheapDefinitions 39 = .ok (.iadd, 1) := by decide +kernel
theorem dX6_cheapDefinitions_40 : decode cX6_cheapDefinitions 40 = .ok (.istore_n 1, 1) := by decide +kernel
theorem dX6_cheapDefinitions_41 : decode cX6_cheapDefinitions 41 = .ok (.iinc 2 1, 3) := by decide +kernel
theorem dX6_cheapDefinitions_44 : decode cX6_cheapDefinitions 44 = .ok (.goto (-40), 3) := by decide +kernel
theorem dX6_cheapDefinitions_47 : decode cX6_cheapDefinitions 47 = .ok (.iload_n 1, 1) := by decide +kernel
theorem dX6_cheapDefinitions_48 : decode cX6_cheapDefinitions 48 = .ok (.ireturn, 1) := by decide +kernel
theorem dX6_nodesAsRead_0 : decode cX6_nodesAsRead 0 = .ok (.iconst 0, 1) := by decide +kernel
theorem dX6_nodesAsRead_1 : decode cX6_nodesAsRead 1 = .ok (.istore_n 1, 1) := by decide +kernel
theorem dX6_nodesAsRead_2 : decode cX6_nodesAsRead 2 = .ok (.iconst 0, 1) := by decide +kernel
theorem dX6_nodesAsRead_3 : decode cX6_nodesAsRead 3 = .ok (.istore_n 2, 1) := by decide +kernel
theorem dX6_nodesAsRead_4 : decode cX6_nodesAsRead 4 = .ok (.iload_n 2, 1) := by decide +kernel
theorem dX6_nodesAsRead_5 : decode cX6_nodesAsRead 5 = .ok (.aload_n 0, 1) := by decide +kernel
theorem dX6_nodesAsRead_6 : decode cX6_nodesAsRead 6 = .ok (.getfield 19, 3) := by decide +kernel
theorem dX6_nodesAsRead_9 : decode cX6_nodesAsRead 9 = .ok (.getfield 80, 3) := by decide +kernel
theorem dX6_nodesAsRead_12 : decode cX6_nodesAsRead 12 = .ok (.if_icmp .ge 30, 3) := by decide +kernel
theorem dX6_nodesAsRead_15 : decode cX6_nodesAsRead 15 = .ok (.iload_n 2, 1) := by decide +kernel
theorem dX6_nodesAsRead_16 : decode cX6_nodesAsRead 16 = .ok (.bipush 6, 2) := by decide +kernel
theorem dX6_nodesAsRead_18 : decode cX6_nodesAsRead 18 = .ok (.if_icmp .ge 24, 3) := by decide +kernel
theorem dX6_nodesAsRead_21 : decode cX6_nodesAsRead 21 = .ok (.iload_n 1, 1) := by decide +kernel
theorem dX6_nodesAsRead_22 : decode cX6_nodesAsRead 22 = .ok (.aload_n 0, 1) := by decide +kernel
theorem dX6_nodesAsRead_23 : decode cX6_nodesAsRead 23 = .ok (.getfield 19, 3) := by decide +kernel
theorem dX6_nodesAsRead_26 : decode cX6_nodesAsRead 26 = .ok (.getfield 86, 3) := by decide +kernel
theorem dX6_nodesAsRead_29 : decode cX6_nodesAsRead 29 = .ok (.iload_n 2, 1) := by decide +kernel
theorem dX6_nodesAsRead_30 : decode cX6_nodesAsRead 30 = .ok (.aaload, 1) := by decide +kernel
theorem dX6_nodesAsRead_31 : decode cX6_nodesAsRead 31 = .ok (.getfield 135, 3) := by decide +kernel
theorem dX6_nodesAsRead_34 : decode cX6_nodesAsRead 34 = .ok (.iadd, 1) := by decide +kernel
theorem dX6_nodesAsRead_35 : decode cX6_nodesAsRead 35 = .ok (.istore_n 1, 1) := by decide +kernel
theorem dX6_nodesAsRead_36 : decode cX6_nodesAsRead 36 = .ok (.iinc 2 1, 3) := by decide +kernel
theorem dX6_nodesAsRead_39 : decode cX6_nodesAsRead 39 = .ok (.goto (-35), 3) := by decide +kernel
theorem dX6_nodesAsRead_42 : decode cX6_nodesAsRead 42 = .ok (.iload_n 1, 1) := by decide +kernel
theorem dX6_nodesAsRead_43 : decode cX6_nodesAsRead 43 = .ok (.ireturn, 1) := by decide +kernel
theorem dX6_greatestNeed_0 : decode cX6_greatestNeed 0 = .ok (.iconst 0, 1) := by decide +kernel
theorem dX6_greatestNeed_1 : decode cX6_greatestNeed 1 = .ok (.istore_n 1, 1) := by decide +kernel
theorem dX6_greatestNeed_2 : decode cX6_greatestNeed 2 = .ok (.iconst 0, 1) := by decide +kernel
theorem dX6_greatestNeed_3 : decode cX6_greatestNeed 3 = .ok (.istore_n 2, 1) := by decide +kernel
theorem dX6_greatestNeed_4 : decode cX6_greatestNeed 4 = .ok (.iload_n 2, 1) := by decide +kernel
theorem dX6_greatestNeed_5 : decode cX6_greatestNeed 5 = .ok (.aload_n 0, 1) := by decide +kernel
theorem dX6_greatestNeed_6 : decode cX6_greatestNeed 6 = .ok (.getfield 19, 3) := by decide +kernel
theorem dX6_greatestNeed_9 : decode cX6_greatestNeed 9 = .ok (.getfield 80, 3) := by decide +kernel
theorem dX6_greatestNeed_12 : decode cX6_greatestNeed 12 = .ok (.if_icmp .ge 42, 3) := by decide +kernel
theorem dX6_greatestNeed_15 : decode cX6_greatestNeed 15 = .ok (.iload_n 2, 1) := by decide +kernel
theorem dX6_greatestNeed_16 : decode cX6_greatestNeed 16 = .ok (.bipush 6, 2) := by decide +kernel
theorem dX6_greatestNeed_18 : decode cX6_greatestNeed 18 = .ok (.if_icmp .ge 36, 3) := by decide +kernel
theorem dX6_greatestNeed_21 : decode cX6_greatestNeed 21 = .ok (.aload_n 0, 1) := by decide +kernel
theorem dX6_greatestNeed_22 : decode cX6_greatestNeed 22 = .ok (.getfield 29, 3) := by decide +kernel
theorem dX6_greatestNeed_25 : decode cX6_greatestNeed 25 = .ok (.iload_n 2, 1) := by decide +kernel
theorem dX6_greatestNeed_26 : decode cX6_greatestNeed 26 = .ok (.aaload, 1) := by decide +kernel
theorem dX6_greatestNeed_27 : decode cX6_greatestNeed 27 = .ok (.getfield 142, 3) := by decide +kernel
theorem dX6_greatestNeed_30 : decode cX6_greatestNeed 30 = .ok (.ifCond .ne 18, 3) := by decide +kernel
theorem dX6_greatestNeed_33 : decode cX6_greatestNeed 33 = .ok (.iload_n 1, 1) := by decide +kernel
theorem dX6_greatestNeed_34 : decode cX6_greatestNeed 34 = .ok (.aload_n 0, 1) := by decide +kernel
theorem dX6_greatestNeed_35 : decode cX6_greatestNeed 35 = .ok (.getfield 29, 3) := by decide +kernel
theorem dX6_greatestNeed_38 : decode cX6_greatestNeed 38 = .ok (.iload_n 2, 1) := by decide +kernel
theorem dX6_greatestNeed_39 : decode cX6_greatestNeed 39 = .ok (.aaload, 1) := by decide +kernel
theorem dX6_greatestNeed_40 : decode cX6_greatestNeed 40 = .ok (.iconst 0, 1) := by decide +kernel
theorem dX6_greatestNeed_41 : decode cX6_greatestNeed 41 = .ok (.invokevirtual 103, 3) := by decide +kernel
theorem dX6_greatestNeed_44 : decode cX6_greatestNeed 44 = .ok (.invokestatic 220, 3) := by decide +kernel
theorem dX6_greatestNeed_47 : decode cX6_greatestNeed 47 = .ok (.istore_n 1, 1) := by decide +kernel
theorem dX6_greatestNeed_48 : decode cX6_greatestNeed 48 = .ok (.iinc 2 1, 3) := by decide +kernel
theorem dX6_greatestNeed_51 : decode cX6_greatestNeed 51 = .ok (.goto (-47), 3) := by decide +kernel
theorem dX6_greatestNeed_54 : decode cX6_greatestNeed 54 = .ok (.iload_n 1, 1) := by decide +kernel
theorem dX6_greatestNeed_55 : decode cX6_greatestNeed 55 = .ok (.ireturn, 1) := by decide +kernel
theorem dX6_usesOf_0 : decode cX6_usesOf 0 = .ok (.iconst 0, 1) := by decide +kernel
theorem dX6_usesOf_1 : decode cX6_usesOf 1 = .ok (.istore_n 2, 1) := by decide +kernel
theorem dX6_usesOf_2 : decode cX6_usesOf 2 = .ok (.iconst 0, 1) := by decide +kernel
theorem dX6_usesOf_3 : decode cX6_usesOf 3 = .ok (.istore_n 3, 1) := by decide +kernel
theorem dX6_usesOf_4 : decode cX6_usesOf 4 = .ok (.iload_n 3, 1) := by decide +kernel
theorem dX6_usesOf_5 : decode cX6_usesOf 5 = .ok (.aload_n 0, 1) := by decide +kernel
theorem dX6_usesOf_6 : decode cX6_usesOf 6 = .ok (.getfield 19, 3) := by decide +kernel
theorem dX6_usesOf_9 : decode cX6_usesOf 9 = .ok (.getfield 80, 3) := by decide +kernel
theorem dX6_usesOf_12 : decode cX6_usesOf 12 = .ok (.if_icmp .ge 87, 3) := by decide +kernel
theorem dX6_usesOf_15 : decode cX6_usesOf 15 = .ok (.iload_n 3, 1) := by decide +kernel
theorem dX6_usesOf_16 : decode cX6_usesOf 16 = .ok (.bipush 6, 2) := by decide +kernel
theorem dX6_usesOf_18 : decode cX6_usesOf 18 = .ok (.if_icmp .ge 81, 3) := by decide +kernel
theorem dX6_usesOf_21 : decode cX6_usesOf 21 = .ok (.aload_n 0, 1) := by decide +kernel
theorem dX6_usesOf_22 : decode cX6_usesOf 22 = .ok (.getfield 29, 3) := by decide +kernel
theorem dX6_usesOf_25 : decode cX6_usesOf 25 = .ok (.iload_n 3, 1) := by decide +kernel
theorem dX6_usesOf_26 : decode cX6_usesOf 26 = .ok (.aaload, 1) := by decide +kernel
theorem dX6_usesOf_27 : decode cX6_usesOf 27 = .ok (.getfield 138, 3) := by decide +kernel
theorem dX6_usesOf_30 : decode cX6_usesOf 30 = .ok (.astore 4, 2) := by decide +kernel
theorem dX6_usesOf_32 : decode cX6_usesOf 32 = .ok (.iconst 0, 1) := by decide +kernel
theorem dX6_usesOf_33 : decode cX6_usesOf 33 = .ok (.istore 5, 2) := by decide +kernel
theorem dX6_usesOf_35 : decode cX6_usesOf 35 = .ok (.iload 5, 2) := by decide +kernel
theorem dX6_usesOf_37 : decode cX6_usesOf 37 = .ok (.aload 4, 2) := by decide +kernel
theorem dX6_usesOf_39 : decode cX6_usesOf 39 = .ok (.getfield 135, 3) := by decide +kernel
theorem dX6_usesOf_42 : decode cX6_usesOf 42 = .ok (.if_icmp .ge 51, 3) := by decide +kernel
theorem dX6_usesOf_45 : decode cX6_usesOf 45 = .ok (.aload 4, 2) := by decide +kernel
theorem dX6_usesOf_47 : decode cX6_usesOf 47 = .ok (.iload 5, 2) := by decide +kernel
theorem dX6_usesOf_49 : decode cX6_usesOf 49 = .ok (.invokevirtual 95, 3) := by decide +kernel
theorem dX6_usesOf_52 : decode cX6_usesOf 52 = .ok (.iconst 2, 1) := by decide +kernel
theorem dX6_usesOf_53 : decode cX6_usesOf 53 = .ok (.if_icmp .ne 18, 3) := by decide +kernel
theorem dX6_usesOf_56 : decode cX6_usesOf 56 = .ok (.aload 4, 2) := by decide +kernel
theorem dX6_usesOf_58 : decode cX6_usesOf 58 = .ok (.iload 5, 2) := by decide +kernel
theorem dX6_usesOf_60 : decode cX6_usesOf 60 = .ok (.invokevirtual 158, 3) := by decide +kernel
theorem dX6_usesOf_63 : decode cX6_usesOf 63 = .ok (.iload_n 1, 1) := by decide +kernel
theorem dX6_usesOf_64 : decode cX6_usesOf 64 = .ok (.if_icmp .ne 7, 3) := by decide +kernel
theorem dX6_usesOf_67 : decode cX6_usesOf 67 = .ok (.iconst 1, 1) := by decide +kernel
theorem dX6_usesOf_68 : decode cX6_usesOf 68 = .ok (.goto 4, 3) := by decide +kernel
theorem dX6_usesOf_71 : decode cX6_usesOf 71 = .ok (.iconst 0, 1) := by decide +kernel
theorem dX6_usesOf_72 : decode cX6_usesOf 72 = .ok (.istore 6, 2) := by decide +kernel
theorem dX6_usesOf_74 : decode cX6_usesOf 74 = .ok (.iload_n 2, 1) := by decide +kernel
theorem dX6_usesOf_75 : decode cX6_usesOf 75 = .ok (.iload 6, 2) := by decide +kernel
theorem dX6_usesOf_77 : decode cX6_usesOf 77 = .ok (.ifCond .eq 7, 3) := by decide +kernel
theorem dX6_usesOf_80 : decode cX6_usesOf 80 = .ok (.iconst 1, 1) := by decide +kernel
theorem dX6_usesOf_81 : decode cX6_usesOf 81 = .ok (.goto 4, 3) := by decide +kernel
theorem dX6_usesOf_84 : decode cX6_usesOf 84 = .ok (.iconst 0, 1) := by decide +kernel
theorem dX6_usesOf_85 : decode cX6_usesOf 85 = .ok (.iadd, 1) := by decide +kernel
theorem dX6_usesOf_86 : decode cX6_usesOf 86 = .ok (.istore_n 2, 1) := by decide +kernel
theorem dX6_usesOf_87 : decode cX6_usesOf 87 = .ok (.iinc 5 1, 3) := by decide +kernel
theorem dX6_usesOf_90 : decode cX6_usesOf 90 = .ok (.goto (-55), 3) := by decide +kernel
theorem dX6_usesOf_93 : decode cX6_usesOf 93 = .ok (.iinc 3 1, 3) := by decide +kernel
theorem dX6_usesOf_96 : decode cX6_usesOf 96 = .ok (.goto (-92), 3) := by decide +kernel
theorem dX6_usesOf_99 : decode cX6_usesOf 99 = .ok (.iload_n 2, 1) := by decide +kernel
theorem dX6_usesOf_100 : decode cX6_usesOf 100 = .ok (.ireturn, 1) := by decide +kernel
