theorem dX1_init_0 : decode cX1_init 0 = .ok (.aload_n 0, 1) := by decide +kernel
theorem dX1_init_1 : decode cX1_init 1 = .ok (.invokespecial 3, 3) := by decide +kernel
theorem dX1_init_4 : decode cX1_init 4 = .ok (.aload_n 0, 1) := by decide +kernel
theorem dX1_init_5 : decode cX1_init 5 = .ok (.iconst 1, 1) := by decide +kernel
theorem dX1_init_6 : decode cX1_init 6 = .ok (.putfield 9, 3) := by decide +kernel
theorem dX1_init_9 : decode cX1_init 9 = .ok (.aload_n 0, 1) := by decide +kernel
theorem dX1_init_10 : decode cX1_init 10 = .ok (.iconst 1, 1) := by decide +kernel
theorem dX1_init_11 : decode cX1_init 11 = .ok (.iload_n 1, 1) := by decide +kernel
theorem dX1_init_12 : decode cX1_init 12 = .ok (.invokestatic 15, 3) := by decide +kernel
theorem dX1_init_15 : decode cX1_init 15 = .ok (.newarray .int, 2) := by decide +kernel
theorem dX1_init_17 : decode cX1_init 17 = .ok (.putfield 21, 3) := by decide +kernel
theorem dX1_init_20 : decode cX1_init 20 = .ok (.aload_n 0, 1) := by decide +kernel
theorem dX1_init_21 : decode cX1_init 21 = .ok (.iconst 1, 1) := by decide +kernel
theorem dX1_init_22 : decode cX1_init 22 = .ok (.iload_n 1, 1) := by decide +kernel
theorem dX1_init_23 : decode cX1_init 23 = .ok (.invokestatic 15, 3) := by decide +kernel
theorem dX1_init_26 : decode cX1_init 26 = .ok (.newarray .int, 2) := by decide +kernel
theorem dX1_init_28 : decode cX1_init 28 = .ok (.putfield 25, 3) := by decide +kernel
theorem dX1_init_31 : decode cX1_init 31 = .ok (.return_, 1) := by decide +kernel
theorem dX1_has_0 : decode cX1_has 0 = .ok (.iload_n 1, 1) := by decide +kernel
theorem dX1_has_1 : decode cX1_has 1 = .ok (.ifCond .lt 33, 3) := by decide +kernel
theorem dX1_has_4 : decode cX1_has 4 = .ok (.iload_n 1, 1) := by decide +kernel
theorem dX1_has_5 : decode cX1_has 5 = .ok (.aload_n 0, 1) := by decide +kernel
theorem dX1_has_6 : decode cX1_has 6 = .ok (.getfield 9, 3) := by decide +kernel
theorem dX1_has_9 : decode cX1_has 9 = .ok (.if_icmp .ge 25, 3) := by decide +kernel
theorem dX1_has_12 : decode cX1_has 12 = .ok (.iload_n 1, 1) := by decide +kernel
theorem dX1_has_13 : decode cX1_has 13 = .ok (.aload_n 0, 1) := by decide +kernel
theorem dX1_has_14 : decode cX1_has 14 = .ok (.getfield 21, 3) := by decide +kernel
theorem dX1_has_17 : decode cX1_has 17 = .ok (.arraylength, 1) := by decide +kernel
theorem dX1_has_18 : decode cX1_has 18 = .ok (.if_icmp .ge 16, 3) := by decide +kernel
theorem dX1_has_21 : decode cX1_has 21 = .ok (.iload_n 1, 1) := by decide +kernel
theorem dX1_has_22 : decode cX1_has 22 = .ok (.aload_n 0, 1) := by decide +kernel
theorem dX1_has_23 : decode cX1_has 23 = .ok (.getfield 25, 3) := by decide +kernel
theorem dX1_has_26 : decode cX1_has 26 = .ok (.arraylength, 1) := by decide +kernel
theorem dX1_has_27 : decode cX1_has 27 = .ok (.if_icmp .ge 7, 3) := by decide +kernel
theorem dX1_has_30 : decode cX1_has 30 = .ok (.iconst 1, 1) := by decide +kernel
theorem dX1_has_31 : decode cX1_has 31 = .ok (.goto 4, 3) := by decide +kernel
theorem dX1_has_34 : decode cX1_has 34 = .ok (.iconst 0, 1) := by decide +kernel
theorem dX1_has_35 : decode cX1_has 35 = .ok (.ireturn, 1) := by decide +kernel
theorem dX1_kindOf_0 : decode cX1_kindOf 0 = .ok (.aload_n 0, 1) := by decide +kernel
theorem dX1_kindOf_1 : decode cX1_kindOf 1 = .ok (.iload_n 1, 1) := by decide +kernel
theorem dX1_kindOf_2 : decode cX1_kindOf 2 = .ok (.invokevirtual 28, 3) := by decide +kernel
theorem dX1_kindOf_5 : decode cX1_kindOf 5 = .ok (.ifCond .eq 12, 3) := by decide +kernel
theorem dX1_kindOf_8 : decode cX1_kindOf 8 = .ok (.aload_n 0, 1) := by decide +kernel
theorem dX1_kindOf_9 : decode cX1_kindOf 9 = .ok (.getfield 21, 3) := by decide +kernel
theorem dX1_kindOf_12 : decode cX1_kindOf 12 = .ok (.iload_n 1, 1) := by decide +kernel
theorem dX1_kindOf_13 : decode cX1_kindOf 13 = .ok (.iaload, 1) := by decide +kernel
theorem dX1_kindOf_14 : decode cX1_kindOf 14 = .ok (.goto 4, 3) := by decide +kernel
theorem dX1_kindOf_17 : decode cX1_kindOf 17 = .ok (.iconst 0, 1) := by decide +kernel
theorem dX1_kindOf_18 : decode cX1_kindOf 18 = .ok (.ireturn, 1) := by decide +kernel
theorem dX1_contentOf_0 : decode cX1_contentOf 0 = .ok (.aload_n 0, 1) := by decide +kernel
theorem dX1_contentOf_1 : decode cX1_contentOf 1 = .ok (.iload_n 1, 1) := by decide +kernel
theorem dX1_contentOf_2 : decode cX1_contentOf 2 = .ok (.invokevirtual 28, 3) := by decide +kernel
theorem dX1_contentOf_5 : decode cX1_contentOf 5 = .ok (.ifCond .eq 12, 3) := by decide +kernel
theorem dX1_contentOf_8 : decode cX1_contentOf 8 = .ok (.aload_n 0, 1) := by decide +kernel
theorem dX1_contentOf_9 : decode cX1_contentOf 9 = .ok (.getfield 25, 3) := by decide +kernel
theorem dX1_contentOf_12 : decode cX1_contentOf 12 = .ok (.iload_n 1, 1) := by decide +kernel
theorem dX1_contentOf_13 : decode cX1_contentOf 13 = .ok (.iaload, 1) := by decide +kernel
theorem dX1_contentOf_14 : decode cX1_contentOf 14 = .ok (.goto 4, 3) := by decide +kernel
theorem dX1_contentOf_17 : decode cX1_contentOf 17 = .ok (.iconst 0, 1) := by decide +kernel
theorem dX1_contentOf_18 : decode cX1_contentOf 18 = .ok (.ireturn, 1) := by decide +kernel
theorem dX1_hasKind_0 : decode cX1_hasKind 0 = .ok (.iconst 0, 1) := by decide +kernel
theorem dX1_hasKind_1 : decode cX1_hasKind 1 = .ok (.istore_n 2, 1) := by decide +kernel
theorem dX1_hasKind_2 : decode cX1_hasKind 2 = .ok (.iload_n 2, 1) := by decide +kernel
theorem dX1_hasKind_3 : decode cX1_hasKind 3 = .ok (.aload_n 0, 1) := by decide +kernel
theorem dX1_hasKind_4 : decode cX1_hasKind 4 = .ok (.getfield 9, 3) := by decide +kernel
theorem dX1_hasKind_7 : decode cX1_hasKind 7 = .ok (.if_icmp .ge 20, 3) := by decide +kernel
theorem dX1_hasKind_10 : decode cX1_hasKind 10 = .ok (.aload_n 0, 1) := by decide +kernel
theorem dX1_hasKind_11 : decode cX1_hasKind 11 = .ok (.iload_n 2, 1) := by decide +kernel
theorem dX1_hasKind_12 : decode cX1_hasKind 12 = .ok (.invokevirtual 32, 3) := by decide +kernel
theorem dX1_hasKind_15 : decode cX1_hasKind 15 = .ok (.iload_n 1, 1) := by decide +kernel
theorem dX1_hasKind_16 : decode cX1_hasKind 16 = .ok (.if_icmp .ne 5, 3) := by decide +kernel
theorem dX1_hasKind_19 : decode cX1_hasKind 19 = .ok (.iconst 1, 1) := by decide +kernel
theorem dX1_hasKind_20 : decode cX1_hasKind 20 = .ok (.ireturn, 1) := by decide +kernel
theorem dX1_hasKind_21 : decode cX1_hasKind 21 = .ok (.iinc 2 1, 3) := by decide +kernel
theorem dX1_hasKind_24 : decode cX1_hasKind 24 = .ok (.goto (-22), 3) := by decide +kernel
theorem dX1_hasKind_27 : decode cX1_hasKind 27 = .ok (.iconst 0, 1) := by decide +kernel
theorem dX1_hasKind_28 : decode cX1_hasKind 28 = .ok (.ireturn, 1) := by decide +kernel
theorem dX1_isFull_0 : decode cX1_isFull 0 = .ok (.aload_n 0, 1) := by decide +kernel
theorem dX1_isFull_1 : decode cX1_isFull 1 = .ok (.getfield 9, 3) := by decide +kernel
theorem dX1_isFull_4 : decode cX1_isFull 4 = .ok (.aload_n 0, 1) := by decide +kernel
theorem dX1_isFull_5 : decode cX1_isFull 5 = .ok (.getfield 21, 3) := by decide +kernel
theorem dX1_isFull_8 : decode cX1_isFull 8 = .ok (.arraylength, 1) := by decide +kernel
theorem dX1_isFull_9 : decode cX1_isFull 9 = .ok (.if_icmp .ge 15, 3) := by decide +kernel
theorem dX1_isFull_12 : decode cX1_isFull 12 = .ok (.aload_n 0, 1) := by decide +kernel
theorem dX1_isFull_13 : decode cX1_isFull 13 = .ok (.getfield 9, 3) := by decide +kernel
theorem dX1_isFull_16 : decode cX1_isFull 16 = .ok (.aload_n 0, 1) := by decide +kernel
theorem dX1_isFull_17 : decode cX1_isFull 17 = .ok (.getfield 25, 3) := by decide +kernel
theorem dX1_isFull_20 : decode cX1_isFull 20 = .ok (.arraylength, 1) := by decide +kernel
theorem dX1_isFull_21 : decode cX1_isFull 21 = .ok (.if_icmp .lt 7, 3) := by decide +kernel
theorem dX1_isFull_24 : decode cX1_isFull 24 = .ok (.iconst 1, 1) := by decide +kernel
theorem dX1_isFull_25 : decode cX1_isFull 25 = .ok (.goto 4, 3) := by decide +kernel
theorem dX1_isFull_28 : decode cX1_isFull 28 = .ok (.iconst 0, 1) := by decide +kernel
theorem dX1_isFull_29 : decode cX1_isFull 29 = .ok (.ireturn, 1) := by decide +kernel
theorem dX1_add_0 : decode cX1_add 0 = .ok (.aload_n 0, 1) := by decide +kernel
theorem dX1_add_1 : decode cX1_add 1 = .ok (.invokevirtual 36, 3) := by decide +kernel
theorem dX1_add_4 : decode cX1_add 4 = .ok (.ifCond .eq 5, 3) := by decide +kernel
theorem dX1_add_7 : decode cX1_add 7 = .ok (.iconst 0, 1) := by decide +kernel
theorem dX1_add_8 : decode cX1_add 8 = .ok (.ireturn, 1) := by decide +kernel
theorem dX1_add_9 : decode cX1_add 9 = .ok (.aload_n 0, 1) := by decide +kernel
theorem dX1_add_10 : decode cX1_add 10 = .ok (.getfield 21, 3) := by decide +kernel
theorem dX1_add_13 : decode cX1_add 13 = .ok (.aload_n 0, 1) := by decide +kernel
theorem dX1_add_14 : decode cX1_add 14 = .ok (.getfield 9, 3) := by decide +kernel
theorem dX1_add_17 : decode cX1_add 17 = .ok (.iload_n 1, 1) := by decide +kernel
theorem dX1_add_18 : decode cX1_add 18 = .ok (.iastore, 1) := by decide +kernel
theorem dX1_add_19 : decode cX1_add 19 = .ok (.aload_n 0, 1) := by decide +kernel
theorem dX1_add_20 : decode cX1_add 20 = .ok (.getfield 25, 3) := by decide +kernel
theorem dX1_add_23 : decode cX1_add 23 = .ok (.aload_n 0, 1) := by decide +kernel
theorem dX1_add_24 : decode cX1_add 24 = .ok (.getfield 9, 3) := by decide +kernel
theorem dX1_add_27 : decode cX1_add 27 = .ok (.iload_n 2, 1) := by decide +kernel
theorem dX1_add_28 : decode cX1_add 28 = .ok (.iastore, 1) := by decide +kernel
theorem dX1_add_29 : decode cX1_add 29 = .ok (.aload_n 0, 1) := by decide +kernel
theorem dX1_add_30 : decode cX1_add 30 = .ok (.dup, 1) := by decide +kernel
theorem dX1_add_31 : decode cX1_add 31 = .ok (.getfield 9, 3) := by decide +kernel
theorem dX1_add_34 : decode cX1_add 34 = .ok (.iconst 1, 1) := by decide +kernel
theorem dX1_add_35 : decode cX1_add 35 = .ok (.iadd, 1) := by decide +kernel
theorem dX1_add_36 : decode cX1_add 36 = .ok (.putfield 9, 3) := by decide +kernel
theorem dX1_add_39 : decode cX1_add 39 = .ok (.iconst 1, 1) := by decide +kernel
theorem dX1_add_40 : decode cX1_add 40 = .ok (.ireturn, 1) := by decide +kernel
theorem dX1_insert_0 : decode cX1_insert 0 = .ok (.aload_n 0, 1) := by decide +kernel
theorem dX1_insert_1 : decode cX1_insert 1 = .ok (.invokevirtual 36, 3) := by decide +kernel
theorem dX1_insert_4 : decode cX1_insert 4 = .ok (.ifCond .ne 15, 3) := by decide +kernel
theorem dX1_insert_7 : decode cX1_insert 7 = .ok (.iload_n 1, 1) := by decide +kernel
theorem dX1_insert_8 : decode cX1_insert 8 = .ok (.ifCond .lt 11, 3) := by decide +kernel
theorem dX1_insert_11 : decode cX1_insert 11 = .ok (.iload_n 1, 1) := by decide +kernel
theorem dX1_insert_12 : decode cX1_insert 12 = .ok (.aload_n 0, 1) := by decide +kernel
theorem dX1_insert_13 : decode cX1_insert 13 = .ok (.getfield 9, 3) := by decide +kernel
theorem dX1_insert_16 : decode cX1_insert 16 = .ok (.if_icmp .le 5, 3) := by decide +kernel
theorem dX1_insert_19 : decode cX1_insert 19 = .ok (.iconst 0, 1) := by decide +kernel
theorem dX1_insert_20 : decode cX1_insert 20 = .ok (.ireturn, 1) := by decide +kernel
theorem dX1_insert_21 : decode cX1_insert 21 = .ok (.aload_n 0, 1) := by decide +kernel
theorem dX1_insert_22 : decode cX1_insert 22 = .ok (.getfield 21, 3) := by decide +kernel
theorem dX1_insert_25 : decode cX1_insert 25 = .ok (.iload_n 1, 1) := by decide +kernel
theorem dX1_insert_26 : decode cX1_insert 26 = .ok (.aload_n 0, 1) := by decide +kernel
theorem dX1_insert_27 : decode cX1_insert 27 = .ok (.getfield 21, 3) := by decide +kernel
theorem dX1_insert_30 : decode cX1_insert 30 = .ok (.iload_n 1, 1) := by decide +kernel
theorem dX1_insert_31 : decode cX1_insert 31 = .ok (.iconst 1, 1) := by decide +kernel
theorem dX1_insert_32 : decode cX1_insert 32 = .ok (.iadd, 1) := by decide +kernel
theorem dX1_insert_33 : decode cX1_insert 33 = .ok (.aload_n 0, 1) := by decide +kernel
theorem dX1_insert_34 : decode cX1_insert 34 = .ok (.getfield 9, 3) := by decide +kernel
theorem dX1_insert_37 : decode cX1_insert 37 = .ok (.iload_n 1, 1) := by decide +kernel
theorem dX1_insert_38 : decode cX1_insert 38 = .ok (.isub, 1) := by decide +kernel
theorem dX1_insert_39 : decode cX1_insert 39 = .ok (.invokestatic 40, 3) := by decide +kernel
theorem dX1_insert_42 : decode cX1_insert 42 = .ok (.aload_n 0, 1) := by decide +kernel
theorem dX1_insert_43 : decode cX1_insert 43 = .ok (.getfield 25, 3) := by decide +kernel
theorem dX1_insert_46 : decode cX1_insert 46 = .ok (.iload_n 1, 1) := by decide +kernel
theorem dX1_insert_47 : decode cX1_insert 47 = .ok (.aload_n 0, 1) := by decide +kernel
theorem dX1_insert_48 : decode cX1_insert 48 = .ok (.getfield 25, 3) := by decide +kernel
theorem dX1_insert_51 : decode cX1_insert 51 = .ok (.iload_n 1, 1) := by decide +kernel
theorem dX1_insert_52 : decode cX1_insert 52 = .ok (.iconst 1, 1) := by decide +kernel
theorem dX1_insert_53 : decode cX1_insert 53 = .ok (.iadd, 1) := by decide +kernel
theorem dX1_insert_54 : decode cX1_insert 54 = .ok (.aload_n 0, 1) := by decide +kernel
theorem dX1_insert_55 : decode cX1_insert 55 = .ok (.getfield 9, 3) := by decide +kernel
theorem dX1_insert_58 : decode cX1_insert 58 = .ok (.iload_n 1, 1) := by decide +kernel
theorem dX1_insert_59 : decode cX1_insert 59 = .ok (.isub, 1) := by decide +kernel
theorem dX1_insert_60 : decode cX1_insert 60 = .ok (.invokestatic 40, 3) := by decide +kernel
theorem dX1_insert_63 : decode cX1_insert 63 = .ok (.aload_n 0, 1) := by decide +kernel
theorem dX1_insert_64 : decode cX1_insert 64 = .ok (.getfield 21, 3) := by decide +kernel
theorem dX1_insert_67 : decode cX1_insert 67 = .ok (.iload_n 1, 1) := by decide +kernel
theorem dX1_insert_68 : decode cX1_insert 68 = .ok (.iload_n 2, 1) := by decide +kernel
theorem dX1_insert_69 : decode cX1_insert 69 = .ok (.iastore, 1) := by decide +kernel
theorem dX1_insert_70 : decode cX1_insert 70 = .ok (.aload_n 0, 1) := by decide +kernel
theorem dX1_insert_71 : decode cX1_insert 71 = .ok (.getfield 25, 3) := by decide +kernel
theorem dX1_insert_74 : decode cX1_insert 74 = .ok (.iload_n 1, 1) := by decide +kernel
theorem dX1_insert_75 : decode cX1_insert 75 = .ok (.iload_n 3, 1) := by decide +kernel
theorem dX1_insert_76 : decode cX1_insert 76 = .ok (.iastore, 1) := by decide +kernel
theorem dX1_insert_77 : decode cX1_insert 77 = .ok (.aload_n 0, 1) := by decide +kernel
theorem dX1_insert_78 : decode cX1_insert 78 = .ok (.dup, 1) := by decide +kernel
theorem dX1_insert_79 : decode cX1_insert 79 = .ok (.getfield 9, 3) := by decide +kernel
theorem dX1_insert_82 : decode cX1_insert 82 = .ok (.iconst 1, 1) := by decide +kernel
theorem dX1_insert_83 : decode cX1_insert 83 = .ok (.iadd, 1) := by decide +kernel
theorem dX1_insert_84 : decode cX1_insert 84 = .ok (.putfield 9, 3) := by decide +kernel
theorem dX1_insert_87 : decode cX1_insert 87 = .ok (.iconst 1, 1) := by decide +kernel
theorem dX1_insert_88 : decode cX1_insert 88 = .ok (.ireturn, 1) := by decide +kernel
theorem dX1_addAll_0 : decode cX1_addAll 0 = .ok (.aload_n 1, 1) := by decide +kernel
theorem dX1_addAll_1 : decode cX1_addAll 1 = .ok (.getfield 9, 3) := by decide +kernel
theorem dX1_addAll_4 : decode cX1_addAll 4 = .ok (.istore_n 2, 1) := by decide +kernel
theorem dX1_addAll_5 : decode cX1_addAll 5 = .ok (.iconst 0, 1) := by decide +kernel
theorem dX1_addAll_6 : decode cX1_addAll 6 = .ok (.istore_n 3, 1) := by decide +kernel
theorem dX1_addAll_7 : decode cX1_addAll 7 = .ok (.iload_n 3, 1) := by decide +kernel
theorem dX1_addAll_8 : decode cX1_addAll 8 = .ok (.iload_n 2, 1) := by decide +kernel
theorem dX1_addAll_9 : decode cX1_addAll 9 = .ok (.if_icmp .ge 24, 3) := by decide +kernel
theorem dX1_addAll_12 : decode cX1_addAll 12 = .ok (.aload_n 0, 1) := by decide +kernel
theorem dX1_addAll_13 : decode cX1_addAll 13 = .ok (.aload_n 1, 1) := by decide +kernel
theorem dX1_addAll_14 : decode cX1_addAll 14 = .ok (.iload_n 3, 1) := by decide +kernel
theorem dX1_addAll_15 : decode cX1_addAll 15 = .ok (.invokevirtual 32, 3) := by decide +kernel
theorem dX1_addAll_18 : decode cX1_addAll 18 = .ok (.aload_n 1, 1) := by decide +kernel
theorem dX1_addAll_19 : decode cX1_addAll 19 = .ok (.iload_n 3, 1) := by decide +kernel
theorem dX1_addAll_20 : decode cX1_addAll 20 = .ok (.invokevirtual 46, 3) := by decide +kernel
theorem dX1_addAll_23 : decode cX1_addAll 23 = .ok (.invokevirtual 49, 3) := by decide +kernel
theorem dX1_addAll_26 : decode cX1_addAll 26 = .ok (.pop, 1) := by decide +kernel
theorem dX1_addAll_27 : decode cX1_addAll 27 = .ok (.iinc 3 1, 3) := by decide +kernel
theorem dX1_addAll_30 : decode cX1_addAll 30 = .ok (.goto (-23), 3) := by decide +kernel
theorem dX1_addAll_33 : decode cX1_addAll 33 = .ok (.return_, 1) := by decide +kernel
theorem dX1_copy_0 : decode cX1_copy 0 = .ok (.aload_n 0, 1) := by decide +kernel
theorem dX1_copy_1 : decode cX1_copy 1 = .ok (.iconst 0, 1) := by decide +kernel
theorem dX1_copy_2 : decode cX1_copy 2 = .ok (.putfield 9, 3) := by decide +kernel
theorem dX1_copy_5 : decode cX1_copy 5 = .ok (.aload_n 0, 1) := by decide +kernel
theorem dX1_copy_6 : decode cX1_copy 6 = .ok (.aload_n 1, 1) := by decide +kernel
theorem dX1_copy_7 : decode cX1_copy 7 = .ok (.invokevirtual 53, 3) := by decide +kernel
theorem dX1_copy_10 : decode cX1_copy 10 = .ok (.return_, 1) := by decide +kernel
theorem dX1_behind_0 : decode cX1_behind 0 = .ok (.iconst 0, 1) := by decide +kernel
theorem dX1_behind_1 : decode cX1_behind 1 = .ok (.iload_n 1, 1) := by decide +kernel
theorem dX1_behind_2 : decode cX1_behind 2 = .ok (.invokestatic 15, 3) := by decide +kernel
theorem dX1_behind_5 : decode cX1_behind 5 = .ok (.istore_n 2, 1) := by decide +kernel
theorem dX1_behind_6 : decode cX1_behind 6 = .ok (.iconst 1, 1) := by decide +kernel
theorem dX1_behind_7 : decode cX1_behind 7 = .ok (.istore_n 3, 1) := by decide +kernel
theorem dX1_behind_8 : decode cX1_behind 8 = .ok (.iload_n 3, 1) := by decide +kernel
theorem dX1_behind_9 : decode cX1_behind 9 = .ok (.ifCond .le 30, 3) := by decide +kernel
theorem dX1_behind_12 : decode cX1_behind 12 = .ok (.iload_n 2, 1) := by decide +kernel
theorem dX1_behind_13 : decode cX1_behind 13 = .ok (.aload_n 0, 1) := by decide +kernel
theorem dX1_behind_14 : decode cX1_behind 14 = .ok (.getfield 9, 3) := by decide +kernel
theorem dX1_behind_17 : decode cX1_behind 17 = .ok (.if_icmp .ge 22, 3) := by decide +kernel
theorem dX1_behind_20 : decode cX1_behind 20 = .ok (.iload_n 3, 1) := by decide +kernel
theorem dX1_behind_21 : decode cX1_behind 21 = .ok (.aload_n 0, 1) := by decide +kernel
theorem dX1_behind_22 : decode cX1_behind 22 = .ok (.iload_n 2, 1) := by decide +kernel
theorem dX1_behind_23 : decode cX1_behind 23 = .ok (.invokevirtual 32, 3) := by decide +kernel
theorem dX1_behind_26 : decode cX1_behind 26 = .ok (.invokestatic 57, 3) := by decide +kernel
theorem dX1_behind_29 : decode cX1_behind 29 = .ok (.iconst 1, 1) := by decide +kernel
theorem dX1_behind_30 : decode cX1_behind 30 = .ok (.isub, 1) := by decide +kernel
theorem dX1_behind_31 : decode cX1_behind 31 = .ok (.iadd, 1) := by decide +kernel
theorem dX1_behind_32 : decode cX1_behind 32 = .ok (.istore_n 3, 1) := by decide +kernel
theorem dX1_behind_33 : decode cX1_behind 33 = .ok (.iinc 2 1, 3) := by decide +kernel
theorem dX1_behind_36 : decode cX1_behind 36 = .ok (.goto (-28), 3) := by decide +kernel
theorem dX1_behind_39 : decode cX1_behind 39 = .ok (.iload_n 2, 1) := by decide +kernel
theorem dX1_behind_40 : decode cX1_behind 40 = .ok (.ireturn, 1) := by decide +kernel
theorem dX1_exchange_0 : decode cX1_exchange 0 = .ok (.aload_n 0, 1) := by decide +kernel
theorem dX1_exchange_1 : decode cX1_exchange 1 = .ok (.iload_n 1, 1) := by decide +kernel
theorem dX1_exchange_2 : decode cX1_exchange 2 = .ok (.iconst 1, 1) := by decide +kernel
theorem dX1_exchange_3 : decode cX1_exchange 3 = .ok (.iadd, 1) := by decide +kernel
theorem dX1_exchange_4 : decode cX1_exchange 4 = .ok (.invokevirtual 60, 3) := by decide +kernel
theorem dX1_exchange_7 : decode cX1_exchange 7 = .ok (.istore_n 2, 1) := by decide +kernel
theorem dX1_exchange_8 : decode cX1_exchange 8 = .ok (.aload_n 0, 1) := by decide +kernel
theorem dX1_exchange_9 : decode cX1_exchange 9 = .ok (.iload_n 2, 1) := by decide +kernel
theorem dX1_exchange_10 : decode cX1_exchange 10 = .ok (.invokevirtual 60, 3) := by decide +kernel
theorem dX1_exchange_13 : decode cX1_exchange 13 = .ok (.istore_n 3, 1) := by decide +kernel
theorem dX1_exchange_14 : decode cX1_exchange 14 = .ok (.aload_n 0, 1) := by decide +kernel
theorem dX1_exchange_15 : decode cX1_exchange 15 = .ok (.iload_n 1, 1) := by decide +kernel
theorem dX1_exchange_16 : decode cX1_exchange 16 = .ok (.iconst 1, 1) := by decide +kernel
theorem dX1_exchange_17 : decode cX1_exchange 17 = .ok (.iadd, 1) := by decide +kernel
theorem dX1_exchange_18 : decode cX1_exchange 18 = .ok (.iload_n 2, 1) := by decide +kernel
theorem dX1_exchange_19 : decode cX1_exchange 19 = .ok (.iconst 1, 1) := by decide +kernel
theorem dX1_exchange_20 : decode cX1_exchange 20 = .ok (.isub, 1) := by decide +kernel
theorem dX1_exchange_21 : decode cX1_exchange 21 = .ok (.invokevirtual 63, 3) := by decide +kernel
theorem dX1_exchange_24 : decode cX1_exchange 24 = .ok (.aload_n 0, 1) := by decide +kernel
theorem dX1_exchange_25 : decode cX1_exchange 25 = .ok (.iload_n 2, 1) := by decide +kernel
theorem dX1_exchange_26 : decode cX1_exchange 26 = .ok (.iload_n 3, 1) := by decide +kernel
theorem dX1_exchange_27 : decode cX1_exchange 27 = .ok (.iconst 1, 1) := by decide +kernel
theorem dX1_exchange_28 : decode cX1_exchange 28 = .ok (.isub, 1) := by decide +kernel
theorem dX1_exchange_29 : decode cX1_exchange 29 = .ok (.invokevirtual 63, 3) := by decide +kernel
theorem dX1_exchange_32 : decode cX1_exchange 32 = .ok (.aload_n 0, 1) := by decide +kernel
theorem dX1_exchange_33 : decode cX1_exchange 33 = .ok (.iload_n 1, 1) := by decide +kernel
theorem dX1_exchange_34 : decode cX1_exchange 34 = .ok (.iconst 1, 1) := by decide +kernel
theorem dX1_exchange_35 : decode cX1_exchange 35 = .ok (.iadd, 1) := by decide +kernel
theorem dX1_exchange_36 : decode cX1_exchange 36 = .ok (.iload_n 3, 1) := by decide +kernel
theorem dX1_exchange_37 : decode cX1_exchange 37 = .ok (.iconst 1, 1) := by decide +kernel
theorem dX1_exchange_38 : decode cX1_exchange 38 = .ok (.isub, 1) := by decide +kernel
theorem dX1_exchange_39 : decode cX1_exchange 39 = .ok (.invokevirtual 63, 3) := by decide +kernel
theorem dX1_exchange_42 : decode cX1_exchange 42 = .ok (.return_, 1) := by decide +kernel
theorem dX1_turnAround_0 : decode cX1_turnAround 0 = .ok (.iload_n 1, 1) := by decide +kernel
theorem dX1_turnAround_1 : decode cX1_turnAround 1 = .ok (.istore_n 3, 1) := by decide +kernel
theorem dX1_turnAround_2 : decode cX1_turnAround 2 = .ok (.iload_n 2, 1) := by decide +kernel
theorem dX1_turnAround_3 : decode cX1_turnAround 3 = .ok (.istore 4, 2) := by decide +kernel
theorem dX1_turnAround_5 : decode cX1_turnAround 5 = .ok (.iload_n 3, 1) := by decide +kernel
theorem dX1_turnAround_6 : decode cX1_turnAround 6 = .ok (.iload 4, 2) := by decide +kernel
theorem dX1_turnAround_8 : decode cX1_turnAround 8 = .ok (.if_icmp .ge 89, 3) := by decide +kernel
theorem dX1_turnAround_11 : decode cX1_turnAround 11 = .ok (.aload_n 0, 1) := by decide +kernel
theorem dX1_turnAround_12 : decode cX1_turnAround 12 = .ok (.iload_n 3, 1) := by decide +kernel
theorem dX1_turnAround_13 : decode cX1_turnAround 13 = .ok (.invokevirtual 28, 3) := by decide +kernel
theorem dX1_turnAround_16 : decode cX1_turnAround 16 = .ok (.ifCond .eq 81, 3) := by decide +kernel
theorem dX1_turnAround_19 : decode cX1_turnAround 19 = .ok (.aload_n 0, 1) := by decide +kernel
theorem dX1_turnAround_20 : decode cX1_turnAround 20 = .ok (.iload 4, 2) := by decide +kernel
theorem dX1_turnAround_22 : decode cX1_turnAround 22 = .ok (.invokevirtual 28, 3) := by decide +kernel
theorem dX1_turnAround_25 : decode cX1_turnAround 25 = .ok (.ifCond .eq 72, 3) := by decide +kernel
theorem dX1_turnAround_28 : decode cX1_turnAround 28 = .ok (.aload_n 0, 1) := by decide +kernel
theorem dX1_turnAround_29 : decode cX1_turnAround 29 = .ok (.getfield 21, 3) := by decide +kernel
theorem dX1_turnAround_32 : decode cX1_turnAround 32 = .ok (.iload_n 3, 1) := by decide +kernel
theorem dX1_turnAround_33 : decode cX1_turnAround 33 = .ok (.iaload, 1) := by decide +kernel
theorem dX1_turnAround_34 : decode cX1_turnAround 34 = .ok (.istore 5, 2) := by decide +kernel
theorem dX1_turnAround_36 : decode cX1_turnAround 36 = .ok (.aload_n 0, 1) := by decide +kernel
theorem dX1_turnAround_37 : decode cX1_turnAround 37 = .ok (.getfield 21, 3) := by decide +kernel
theorem dX1_turnAround_40 : decode cX1_turnAround 40 = .ok (.iload_n 3, 1) := by decide +kernel
theorem dX1_turnAround_41 : decode cX1_turnAround 41 = .ok (.aload_n 0, 1) := by decide +kernel
theorem dX1_turnAround_42 : decode cX1_turnAround 42 = .ok (.getfield 21, 3) := by decide +kernel
theorem dX1_turnAround_45 : decode cX1_turnAround 45 = .ok (.iload 4, 2) := by decide +kernel
theorem dX1_turnAround_47 : decode cX1_turnAround 47 = .ok (.iaload, 1) := by decide +kernel
theorem dX1_turnAround_48 : decode cX1_turnAround 48 = .ok (.iastore, 1) := by decide +kernel
theorem dX1_turnAround_49 : decode cX1_turnAround 49 = .ok (.aload_n 0, 1) := by decide +kernel
theorem dX1_turnAround_50 : decode cX1_turnAround 50 = .ok (.getfield 21, 3) := by decide +kernel
theorem dX1_turnAround_53 : decode cX1_turnAround 53 = .ok (.iload 4, 2) := by decide +kernel
theorem dX1_turnAround_55 : decode cX1_turnAround 55 = .ok (.iload 5, 2) := by decide +kernel
theorem dX1_turnAround_57 : decode cX1_turnAround 57 = .ok (.iastore, 1) := by decide +kernel
theorem dX1_turnAround_58 : decode cX1_turnAround 58 = .ok (.aload_n 0, 1) := by decide +kernel
theorem dX1_turnAround_59 : decode cX1_turnAround 59 = .ok (.getfield 25, 3) := by decide +kernel
theorem dX1_turnAround_62 : decode cX1_turnAround 62 = .ok (.iload_n 3, 1) := by decide +kernel
theorem dX1_turnAround_63 : decode cX1_turnAround 63 = .ok (.iaload, 1) := by decide +kernel
theorem dX1_turnAround_64 : decode cX1_turnAround 64 = .ok (.istore 6, 2) := by decide +kernel
theorem dX1_turnAround_66 : decode cX1_turnAround 66 = .ok (.aload_n 0, 1) := by decide +kernel
theorem dX1_turnAround_67 : decode cX1_turnAround 67 = .ok (.getfield 25, 3) := by decide +kernel
theorem dX1_turnAround_70 : decode cX1_turnAround 70 = .ok (.iload_n 3, 1) := by decide +kernel
theorem dX1_turnAround_71 : decode cX1_turnAround 71 = .ok (.aload_n 0, 1) := by decide +kernel
theorem dX1_turnAround_72 : decode cX1_turnAround 72 = .ok (.getfield 25, 3) := by decide +kernel
theorem dX1_turnAround_75 : decode cX1_turnAround 75 = .ok (.iload 4, 2) := by decide +kernel
theorem dX1_turnAround_77 : decode cX1_turnAround 77 = .ok (.iaload, 1) := by decide +kernel
theorem dX1_turnAround_78 : decode cX1_turnAround 78 = .ok (.iastore, 1) := by decide +kernel
theorem dX1_turnAround_79 : decode cX1_turnAround 79 = .ok (.aload_n 0, 1) := by decide +kernel
theorem dX1_turnAround_80 : decode cX1_turnAround 80 = .ok (.getfield 25, 3) := by decide +kernel
theorem dX1_turnAround_83 : decode cX1_turnAround 83 = .ok (.iload 4, 2) := by decide +kernel
theorem dX1_turnAround_85 : decode cX1_turnAround 85 = .ok (.iload 6, 2) := by decide +kernel
theorem dX1_turnAround_87 : decode cX1_turnAround 87 = .ok (.iastore, 1) := by decide +kernel
theorem dX1_turnAround_88 : decode cX1_turnAround 88 = .ok (.iinc 3 1, 3) := by decide +kernel
theorem dX1_turnAround_91 : decode cX1_turnAround 91 = .ok (.iinc 4 (-1), 3) := by decide +kernel
theorem dX1_turnAround_94 : decode cX1_turnAround 94 = .ok (.goto (-89), 3) := by decide +kernel
theorem dX1_turnAround_97 : decode cX1_turnAround 97 = .ok (.return_, 1) := by decide +kernel
theorem dX2_init_0 : decode cX2_init 0 = .ok (.aload_n 0, 1) := by decide +kernel
theorem dX2_init_1 : decode cX2_init 1 = .ok (.invokespecial 3, 3) := by decide +kernel
theorem dX2_init_4 : decode cX2_init 4 = .ok (.aload_n 0, 1) := by decide +kernel
theorem dX2_init_5 : decode cX2_init 5 = .ok (.sipush 726, 3) := by decide +kernel
theorem dX2_init_8 : decode cX2_init 8 = .ok (.newarray .int, 2) := by decide +kernel
theorem dX2_init_10 : decode cX2_init 10 = .ok (.putfield 11, 3) := by decide +kernel
theorem dX2_init_13 : decode cX2_init 13 = .ok (.aload_n 0, 1) := by decide +kernel
theorem dX2_init_14 : decode cX2_init 14 = .ok (.sipush 726, 3) := by decide +kernel
theorem dX2_init_17 : decode cX2_init 17 = .ok (.newarray .int, 2) := by decide +kernel
theorem dX2_init_19 : decode cX2_init 19 = .ok (.putfield 15, 3) := by decide +kernel
theorem dX2_init_22 : decode cX2_init 22 = .ok (.aload_n 0, 1) := by decide +kernel
theorem dX2_init_23 : decode cX2_init 23 = .ok (.sipush 726, 3) := by decide +kernel
theorem dX2_init_26 : decode cX2_init 26 = .ok (.newarray .int, 2) := by decide +kernel
theorem dX2_init_28 : decode cX2_init 28 = .ok (.putfield 18, 3) := by decide +kernel
theorem dX2_init_31 : decode cX2_init 31 = .ok (.aload_n 0, 1) := by decide +kernel
theorem dX2_init_32 : decode cX2_init 32 = .ok (.sipush 726, 3) := by decide +kernel
theorem dX2_init_35 : decode cX2_init 35 = .ok (.newarray .int, 2) := by decide +kernel
theorem dX2_init_37 : decode cX2_init 37 = .ok (.putfield 21, 3) := by decide +kernel
theorem dX2_init_40 : decode cX2_init 40 = .ok (.return_, 1) := by decide +kernel
theorem dX2_has_0 : decode cX2_has 0 = .ok (.iload_n 1, 1) := by decide +kernel
theorem dX2_has_1 : decode cX2_has 1 = .ok (.ifCond .lt 22, 3) := by decide +kernel
theorem dX2_has_4 : decode cX2_has 4 = .ok (.iload_n 1, 1) := by decide +kernel
theorem dX2_has_5 : decode cX2_has 5 = .ok (.aload_n 0, 1) := by decide +kernel
theorem dX2_has_6 : decode cX2_has 6 = .ok (.getfield 24, 3) := by decide +kernel
theorem dX2_has_9 : decode cX2_has 9 = .ok (.if_icmp .ge 14, 3) := by decide +kernel
theorem dX2_has_12 : decode cX2_has 12 = .ok (.iload_n 1, 1) := by decide +kernel
theorem dX2_has_13 : decode cX2_has 13 = .ok (.sipush 726, 3) := by decide +kernel
theorem dX2_has_16 : decode cX2_has 16 = .ok (.if_icmp .ge 7, 3) := by decide +kernel
theorem dX2_has_19 : decode cX2_has 19 = .ok (.iconst 1, 1) := by decide +kernel
theorem dX2_has_20 : decode cX2_has 20 = .ok (.goto 4, 3) := by decide +kernel
theorem dX2_has_23 : decode cX2_has 23 = .ok (.iconst 0, 1) := by decide +kernel
theorem dX2_has_24 : decode cX2_has 24 = .ok (.ireturn, 1) := by decide +kernel
theorem dX2_make_0 : decode cX2_make 0 = .ok (.aload_n 0, 1) := by decide +kernel
theorem dX2_make_1 : decode cX2_make 1 = .ok (.iconst 0, 1) := by decide +kernel
theorem dX2_make_2 : decode cX2_make 2 = .ok (.putfield 24, 3) := by decide +kernel
theorem dX2_make_5 : decode cX2_make 5 = .ok (.aload_n 0, 1) := by decide +kernel
theorem dX2_make_6 : decode cX2_make 6 = .ok (.iconst 0, 1) := by decide +kernel
theorem dX2_make_7 : decode cX2_make 7 = .ok (.putfield 28, 3) := by decide +kernel
theorem dX2_make_10 : decode cX2_make 10 = .ok (.aload_n 0, 1) := by decide +kernel
theorem dX2_make_11 : decode cX2_make 11 = .ok (.iconst 0, 1) := by decide +kernel
theorem dX2_make_12 : decode cX2_make 12 = .ok (.putfield 31, 3) := by decide +kernel
theorem dX2_make_15 : decode cX2_make 15 = .ok (.aload_n 0, 1) := by decide +kernel
theorem dX2_make_16 : decode cX2_make 16 = .ok (.iconst 0, 1) := by decide +kernel
theorem dX2_make_17 : decode cX2_make 17 = .ok (.putfield 34, 3) := by decide +kernel
theorem dX2_make_20 : decode cX2_make 20 = .ok (.aload_n 0, 1) := by decide +kernel
theorem dX2_make_21 : decode cX2_make 21 = .ok (.iconst 0, 1) := by decide +kernel
theorem dX2_make_22 : decode cX2_make 22 = .ok (.putfield 37, 3) := by decide +kernel
theorem dX2_make_25 : decode cX2_make 25 = .ok (.aload_n 0, 1) := by decide +kernel
theorem dX2_make_26 : decode cX2_make 26 = .ok (.iconst 0, 1) := by decide +kernel
theorem dX2_make_27 : decode cX2_make 27 = .ok (.putfield 40, 3) := by decide +kernel
theorem dX2_make_30 : decode cX2_make 30 = .ok (.iconst 0, 1) := by decide +kernel
theorem dX2_make_31 : decode cX2_make 31 = .ok (.istore 4, 2) := by decide +kernel
theorem dX2_make_33 : decode cX2_make 33 = .ok (.iload 4, 2) := by decide +kernel
theorem dX2_make_35 : decode cX2_make 35 = .ok (.iload_n 2, 1) := by decide +kernel
theorem dX2_make_36 : decode cX2_make 36 = .ok (.if_icmp .ge 57, 3) := by decide +kernel
theorem dX2_make_39 : decode cX2_make 39 = .ok (.iload 4, 2) := by decide +kernel
theorem dX2_make_41 : decode cX2_make 41 = .ok (.aload_n 1, 1) := by decide +kernel
theorem dX2_make_42 : decode cX2_make 42 = .ok (.arraylength, 1) := by decide +kernel
theorem dX2_make_43 : decode cX2_make 43 = .ok (.if_icmp .ge 50, 3) := by decide +kernel
theorem dX2_make_46 : decode cX2_make 46 = .ok (.aload_n 1, 1) := by decide +kernel
theorem dX2_make_47 : decode cX2_make 47 = .ok (.iload 4, 2) := by decide +kernel
theorem dX2_make_49 : decode cX2_make 49 = .ok (.aaload, 1) := by decide +kernel
theorem dX2_make_50 : decode cX2_make 50 = .ok (.getfield 43, 3) := by decide +kernel
theorem dX2_make_53 : decode cX2_make 53 = .ok (.ifCond .ne 34, 3) := by decide +kernel
theorem dX2_make_56 : decode cX2_make 56 = .ok (.aload_n 0, 1) := by decide +kernel
theorem dX2_make_57 : decode cX2_make 57 = .ok (.aload_n 1, 1) := by decide +kernel
theorem dX2_make_58 : decode cX2_make 58 = .ok (.iload 4, 2) := by decide +kernel
theorem dX2_make_60 : decode cX2_make 60 = .ok (.aaload, 1) := by decide +kernel
theorem dX2_make_61 : decode cX2_make 61 = .ok (.iconst 0, 1) := by decide +kernel
theorem dX2_make_62 : decode cX2_make 62 = .ok (.iload_n 3, 1) := by decide +kernel
theorem dX2_make_63 : decode cX2_make 63 = .ok (.iconst 1, 1) := by decide +kernel
theorem dX2_make_64 : decode cX2_make 64 = .ok (.invokevirtual 49, 3) := by decide +kernel
theorem dX2_make_67 : decode cX2_make 67 = .ok (.iload 4, 2) := by decide +kernel
theorem dX2_make_69 : decode cX2_make 69 = .ok (.iload_n 2, 1) := by decide +kernel
theorem dX2_make_70 : decode cX2_make 70 = .ok (.iconst 1, 1) := by decide +kernel
theorem dX2_make_71 : decode cX2_make 71 = .ok (.isub, 1) := by decide +kernel
theorem dX2_make_72 : decode cX2_make 72 = .ok (.if_icmp .ge 15, 3) := by decide +kernel
theorem dX2_make_75 : decode cX2_make 75 = .ok (.aload_n 0, 1) := by decide +kernel
theorem dX2_make_76 : decode cX2_make 76 = .ok (.iconst 4, 1) := by decide +kernel
theorem dX2_make_77 : decode cX2_make 77 = .ok (.aload_n 1, 1) := by decide +kernel
theorem dX2_make_78 : decode cX2_make 78 = .ok (.iload 4, 2) := by decide +kernel
theorem dX2_make_80 : decode cX2_make 80 = .ok (.aaload, 1) := by decide +kernel
theorem dX2_make_81 : decode cX2_make 81 = .ok (.iconst 0, 1) := by decide +kernel
theorem dX2_make_82 : decode cX2_make 82 = .ok (.iconst 4, 1) := by decide +kernel
theorem dX2_make_83 : decode cX2_make 83 = .ok (.iconst (-1), 1) := by decide +kernel
theorem dX2_make_84 : decode cX2_make 84 = .ok (.invokevirtual 53, 3) := by decide +kernel
theorem dX2_make_87 : decode cX2_make 87 = .ok (.iinc 4 1, 3) := by decide +kernel
theorem dX2_make_90 : decode cX2_make 90 = .ok (.goto (-57), 3) := by decide +kernel
theorem dX2_make_93 : decode cX2_make 93 = .ok (.return_, 1) := by decide +kernel
theorem dX2_workOut_0 : decode cX2_workOut 0 = .ok (.iload 4, 2) := by decide +kernel
theorem dX2_workOut_2 : decode cX2_workOut 2 = .ok (.bipush 40, 2) := by decide +kernel
theorem dX2_workOut_4 : decode cX2_workOut 4 = .ok (.if_icmp .le 4, 3) := by decide +kernel
theorem dX2_workOut_7 : decode cX2_workOut 7 = .ok (.return_, 1) := by decide +kernel
theorem dX2_workOut_8 : decode cX2_workOut 8 = .ok (.aload_n 1, 1) := by decide +kernel
theorem dX2_workOut_9 : decode cX2_workOut 9 = .ok (.getfield 57, 3) := by decide +kernel
theorem dX2_workOut_12 : decode cX2_workOut 12 = .ok (.iload_n 2, 1) := by decide +kernel
theorem dX2_workOut_13 : decode cX2_workOut 13 = .ok (.invokevirtual 60, 3) := by decide +kernel
theorem dX2_workOut_16 : decode cX2_workOut 16 = .ok (.istore 5, 2) := by decide +kernel
theorem dX2_workOut_18 : decode cX2_workOut 18 = .ok (.iload 5, 2) := by decide +kernel
theorem dX2_workOut_20 : decode cX2_workOut 20 = .ok (.invokestatic 66, 3) := by decide +kernel
theorem dX2_workOut_23 : decode cX2_workOut 23 = .ok (.istore 6, 2) := by decide +kernel
theorem dX2_workOut_25 : decode cX2_workOut 25 = .ok (.iload 5, 2) := by decide +kernel
theorem dX2_workOut_27 : decode cX2_workOut 27 = .ok (.iconst 2, 1) := by decide +kernel
theorem dX2_workOut_28 : decode cX2_workOut 28 = .ok (.if_icmp .ne 15, 3) := by decide +kernel
theorem dX2_workOut_31 : decode cX2_workOut 31 = .ok (.aload_n 0, 1) := by decide +kernel
theorem dX2_workOut_32 : decode cX2_workOut 32 = .ok (.iconst 5, 1) := by decide +kernel
theorem dX2_workOut_33 : decode cX2_workOut 33 = .ok (.aload_n 1, 1) := by decide +kernel
theorem dX2_workOut_34 : decode cX2_workOut 34 = .ok (.iload_n 2, 1) := by decide +kernel
theorem dX2_workOut_35 : decode cX2_workOut 35 = .ok (.iconst 4, 1) := by decide +kernel
theorem dX2_workOut_36 : decode cX2_workOut 36 = .ok (.iconst 1, 1) := by decide +kernel
theorem dX2_workOut_37 : decode cX2_workOut 37 = .ok (.invokevirtual 53, 3) := by decide +kernel
theorem dX2_workOut_40 : decode cX2_workOut 40 = .ok (.goto 82, 3) := by decide +kernel
theorem dX2_workOut_43 : decode cX2_workOut 43 = .ok (.iload 6, 2) := by decide +kernel
theorem dX2_workOut_45 : decode cX2_workOut 45 = .ok (.ifCond .ne 15, 3) := by decide +kernel
theorem dX2_workOut_48 : decode cX2_workOut 48 = .ok (.aload_n 0, 1) := by decide +kernel
theorem dX2_workOut_49 : decode cX2_workOut 49 = .ok (.iconst 0, 1) := by decide +kernel
theorem dX2_workOut_50 : decode cX2_workOut 50 = .ok (.aload_n 1, 1) := by decide +kernel
theorem dX2_workOut_51 : decode cX2_workOut 51 = .ok (.iload_n 2, 1) := by decide +kernel
theorem dX2_workOut_52 : decode cX2_workOut 52 = .ok (.iconst 1, 1) := by decide +kernel
theorem dX2_workOut_53 : decode cX2_workOut 53 = .ok (.iconst 1, 1) := by decide +kernel
theorem dX2_workOut_54 : decode cX2_workOut 54 = .ok (.invokevirtual 53, 3) := by decide +kernel
theorem dX2_workOut_57 : decode cX2_workOut 57 = .ok (.goto 65, 3) := by decide +kernel
theorem dX2_workOut_60 : decode cX2_workOut 60 = .ok (.iload 6, 2) := by decide +kernel
theorem dX2_workOut_62 : decode cX2_workOut 62 = .ok (.iconst 1, 1) := by decide +kernel
theorem dX2_workOut_63 : decode cX2_workOut 63 = .ok (.if_icmp .ne 28, 3) := by decide +kernel
theorem dX2_workOut_66 : decode cX2_workOut 66 = .ok (.aload_n 0, 1) := by decide +kernel
theorem dX2_workOut_67 : decode cX2_workOut 67 = .ok (.aload_n 1, 1) := by decide +kernel
theorem dX2_workOut_68 : decode cX2_workOut 68 = .ok (.iload_n 2, 1) := by decide +kernel
theorem dX2_workOut_69 : decode cX2_workOut 69 = .ok (.iconst 1, 1) := by decide +kernel
theorem dX2_workOut_70 : decode cX2_workOut 70 = .ok (.iadd, 1) := by decide +kernel
theorem dX2_workOut_71 : decode cX2_workOut 71 = .ok (.iload_n 3, 1) := by decide +kernel
theorem dX2_workOut_72 : decode cX2_workOut 72 = .ok (.iload 4, 2) := by decide +kernel
theorem dX2_workOut_74 : decode cX2_workOut 74 = .ok (.iconst 1, 1) := by decide +kernel
theorem dX2_workOut_75 : decode cX2_workOut 75 = .ok (.iadd, 1) := by decide +kernel
theorem dX2_workOut_76 : decode cX2_workOut 76 = .ok (.invokevirtual 49, 3) := by decide +kernel
theorem dX2_workOut_79 : decode cX2_workOut 79 = .ok (.aload_n 0, 1) := by decide +kernel
theorem dX2_workOut_80 : decode cX2_workOut 80 = .ok (.iconst 1, 1) := by decide +kernel
theorem dX2_workOut_81 : decode cX2_workOut 81 = .ok (.aload_n 1, 1) := by decide +kernel
theorem dX2_workOut_82 : decode cX2_workOut 82 = .ok (.iload_n 2, 1) := by decide +kernel
theorem dX2_workOut_83 : decode cX2_workOut 83 = .ok (.iconst 1, 1) := by decide +kernel
theorem dX2_workOut_84 : decode cX2_workOut 84 = .ok (.iconst 0, 1) := by decide +kernel
theorem dX2_workOut_85 : decode cX2_workOut 85 = .ok (.invokevirtual 53, 3) := by decide +kernel
theorem dX2_workOut_88 : decode cX2_workOut 88 = .ok (.goto 34, 3) := by decide +kernel
theorem dX2_workOut_91 : decode cX2_workOut 91 = .ok (.aload_n 0, 1) := by decide +kernel
theorem dX2_workOut_92 : decode cX2_workOut 92 = .ok (.aload_n 1, 1) := by decide +kernel
theorem dX2_workOut_93 : decode cX2_workOut 93 = .ok (.iload_n 2, 1) := by decide +kernel
theorem dX2_workOut_94 : decode cX2_workOut 94 = .ok (.iload_n 3, 1) := by decide +kernel
theorem dX2_workOut_95 : decode cX2_workOut 95 = .ok (.iload 4, 2) := by decide +kernel
theorem dX2_workOut_97 : decode cX2_workOut 97 = .ok (.iconst 1, 1) := by decide +kernel
theorem dX2_workOut_98 : decode cX2_workOut 98 = .ok (.iadd, 1) := by decide +kernel
theorem dX2_workOut_99 : decode cX2_workOut 99 = .ok (.invokevirtual 69, 3) := by decide +kernel
theorem dX2_workOut_102 : decode cX2_workOut 102 = .ok (.aload_n 0, 1) := by decide +kernel
theorem dX2_workOut_103 : decode cX2_workOut 103 = .ok (.iconst 1, 1) := by decide +kernel
theorem dX2_workOut_104 : decode cX2_workOut 104 = .ok (.aload_n 1, 1) := by decide +kernel
theorem dX2_workOut_105 : decode cX2_workOut 105 = .ok (.iload_n 2, 1) := by decide +kernel
theorem dX2_workOut_106 : decode cX2_workOut 106 = .ok (.iload 5, 2) := by decide +kernel
theorem dX2_workOut_108 : decode cX2_workOut 108 = .ok (.bipush 6, 2) := by decide +kernel
theorem dX2_workOut_110 : decode cX2_workOut 110 = .ok (.if_icmp .ne 7, 3) := by decide +kernel
theorem dX2_workOut_113 : decode cX2_workOut 113 = .ok (.iconst 3, 1) := by decide +kernel
theorem dX2_workOut_114 : decode cX2_workOut 114 = .ok (.goto 4, 3) := by decide +kernel
theorem dX2_workOut_117 : decode cX2_workOut 117 = .ok (.iconst 1, 1) := by decide +kernel
theorem dX2_workOut_118 : decode cX2_workOut 118 = .ok (.iconst (-1), 1) := by decide +kernel
theorem dX2_workOut_119 : decode cX2_workOut 119 = .ok (.invokevirtual 53, 3) := by decide +kernel
theorem dX2_workOut_122 : decode cX2_workOut 122 = .ok (.return_, 1) := by decide +kernel
theorem dX2_workOutParts_0 : decode cX2_workOutParts 0 = .ok (.iload_n 2, 1) := by decide +kernel
theorem dX2_workOutParts_1 : decode cX2_workOutParts 1 = .ok (.iconst 1, 1) := by decide +kernel
theorem dX2_workOutParts_2 : decode cX2_workOutParts 2 = .ok (.iadd, 1) := by decide +kernel
theorem dX2_workOutParts_3 : decode cX2_workOutParts 3 = .ok (.istore 5, 2) := by decide +kernel
theorem dX2_workOutParts_5 : decode cX2_workOutParts 5 = .ok (.aload_n 1, 1) := by decide +kernel
theorem dX2_workOutParts_6 : decode cX2_workOutParts 6 = .ok (.iload_n 2, 1) := by decide +kernel
theorem dX2_workOutParts_7 : decode cX2_workOutParts 7 = .ok (.invokevirtual 72, 3) := by decide +kernel
theorem dX2_workOutParts_10 : decode cX2_workOutParts 10 = .ok (.istore 6, 2) := by decide +kernel
theorem dX2_workOutParts_12 : decode cX2_workOutParts 12 = .ok (.aload_n 1, 1) := by decide +kernel
theorem dX2_workOutParts_13 : decode cX2_workOutParts 13 = .ok (.iload 5, 2) := by decide +kernel
theorem dX2_workOutParts_15 : decode cX2_workOutParts 15 = .ok (.invokevirtual 75, 3) := by decide +kernel
theorem dX2_workOutParts_18 : decode cX2_workOutParts 18 = .ok (.aload_n 1, 1) := by decide +kernel
theorem dX2_workOutParts_19 : decode cX2_workOutParts 19 = .ok (.iload 6, 2) := by decide +kernel
theorem dX2_workOutParts_21 : decode cX2_workOutParts 21 = .ok (.invokevirtual 75, 3) := by decide +kernel
theorem dX2_workOutParts_24 : decode cX2_workOutParts 24 = .ok (.if_icmp .lt 7, 3) := by decide +kernel
theorem dX2_workOutParts_27 : decode cX2_workOutParts 27 = .ok (.iconst 1, 1) := by decide +kernel
theorem dX2_workOutParts_28 : decode cX2_workOutParts 28 = .ok (.goto 4, 3) := by decide +kernel
theorem dX2_workOutParts_31 : decode cX2_workOutParts 31 = .ok (.iconst 0, 1) := by decide +kernel
theorem dX2_workOutParts_32 : decode cX2_workOutParts 32 = .ok (.istore 7, 2) := by decide +kernel
theorem dX2_workOutParts_34 : decode cX2_workOutParts 34 = .ok (.iload 7, 2) := by decide +kernel
theorem dX2_workOutParts_36 : decode cX2_workOutParts 36 = .ok (.ifCond .eq 8, 3) := by decide +kernel
theorem dX2_workOutParts_39 : decode cX2_workOutParts 39 = .ok (.iload 5, 2) := by decide +kernel
theorem dX2_workOutParts_41 : decode cX2_workOutParts 41 = .ok (.goto 5, 3) := by decide +kernel
theorem dX2_workOutParts_44 : decode cX2_workOutParts 44 = .ok (.iload 6, 2) := by decide +kernel
theorem dX2_workOutParts_46 : decode cX2_workOutParts 46 = .ok (.istore 8, 2) := by decide +kernel
theorem dX2_workOutParts_48 : decode cX2_workOutParts 48 = .ok (.iload 7, 2) := by decide +kernel
theorem dX2_workOutParts_50 : decode cX2_workOutParts 50 = .ok (.ifCond .eq 8, 3) := by decide +kernel
theorem dX2_workOutParts_53 : decode cX2_workOutParts 53 = .ok (.iload 6, 2) := by decide +kernel
theorem dX2_workOutParts_55 : decode cX2_workOutParts 55 = .ok (.goto 5, 3) := by decide +kernel
theorem dX2_workOutParts_58 : decode cX2_workOutParts 58 = .ok (.iload 5, 2) := by decide +kernel
theorem dX2_workOutParts_60 : decode cX2_workOutParts 60 = .ok (.istore 9, 2) := by decide +kernel
theorem dX2_workOutParts_62 : decode cX2_workOutParts 62 = .ok (.aload_n 0, 1) := by decide +kernel
theorem dX2_workOutParts_63 : decode cX2_workOutParts 63 = .ok (.aload_n 1, 1) := by decide +kernel
theorem dX2_workOutParts_64 : decode cX2_workOutParts 64 = .ok (.iload 8, 2) := by decide +kernel
theorem dX2_workOutParts_66 : decode cX2_workOutParts 66 = .ok (.iload_n 3, 1) := by decide +kernel
theorem dX2_workOutParts_67 : decode cX2_workOutParts 67 = .ok (.iload 4, 2) := by decide +kernel
theorem dX2_workOutParts_69 : decode cX2_workOutParts 69 = .ok (.invokevirtual 49, 3) := by decide +kernel
theorem dX2_workOutParts_72 : decode cX2_workOutParts 72 = .ok (.aload_n 1, 1) := by decide +kernel
theorem dX2_workOutParts_73 : decode cX2_workOutParts 73 = .ok (.iload 9, 2) := by decide +kernel
theorem dX2_workOutParts_75 : decode cX2_workOutParts 75 = .ok (.invokevirtual 75, 3) := by decide +kernel
theorem dX2_workOutParts_78 : decode cX2_workOutParts 78 = .ok (.iload_n 3, 1) := by decide +kernel
theorem dX2_workOutParts_79 : decode cX2_workOutParts 79 = .ok (.if_icmp .ge 18, 3) := by decide +kernel
theorem dX2_workOutParts_82 : decode cX2_workOutParts 82 = .ok (.aload_n 0, 1) := by decide +kernel
theorem dX2_workOutParts_83 : decode cX2_workOutParts 83 = .ok (.aload_n 1, 1) := by decide +kernel
theorem dX2_workOutParts_84 : decode cX2_workOutParts 84 = .ok (.iload 9, 2) := by decide +kernel
theorem dX2_workOutParts_86 : decode cX2_workOutParts 86 = .ok (.iload_n 3, 1) := by decide +kernel
theorem dX2_workOutParts_87 : decode cX2_workOutParts 87 = .ok (.iconst 1, 1) := by decide +kernel
theorem dX2_workOutParts_88 : decode cX2_workOutParts 88 = .ok (.isub, 1) := by decide +kernel
theorem dX2_workOutParts_89 : decode cX2_workOutParts 89 = .ok (.iload 4, 2) := by decide +kernel
theorem dX2_workOutParts_91 : decode cX2_workOutParts 91 = .ok (.invokevirtual 49, 3) := by decide +kernel
theorem dX2_workOutParts_94 : decode cX2_workOutParts 94 = .ok (.goto 33, 3) := by decide +kernel
theorem dX2_workOutParts_97 : decode cX2_workOutParts 97 = .ok (.aload_n 0, 1) := by decide +kernel
theorem dX2_workOutParts_98 : decode cX2_workOutParts 98 = .ok (.iconst 2, 1) := by decide +kernel
theorem dX2_workOutParts_99 : decode cX2_workOutParts 99 = .ok (.aload_n 1, 1) := by decide +kernel
theorem dX2_workOutParts_100 : decode cX2_workOutParts 100 = .ok (.iload 8, 2) := by decide +kernel
theorem dX2_workOutParts_102 : decode cX2_workOutParts 102 = .ok (.iconst 4, 1) := by decide +kernel
theorem dX2_workOutParts_103 : decode cX2_workOutParts 103 = .ok (.iconst (-1), 1) := by decide +kernel
theorem dX2_workOutParts_104 : decode cX2_workOutParts 104 = .ok (.invokevirtual 53, 3) := by decide +kernel
theorem dX2_workOutParts_107 : decode cX2_workOutParts 107 = .ok (.aload_n 0, 1) := by decide +kernel
theorem dX2_workOutParts_108 : decode cX2_workOutParts 108 = .ok (.aload_n 1, 1) := by decide +kernel
theorem dX2_workOutParts_109 : decode cX2_workOutParts 109 = .ok (.iload 9, 2) := by decide +kernel
theorem dX2_workOutParts_111 : decode cX2_workOutParts 111 = .ok (.iload_n 3, 1) := by decide +kernel
theorem dX2_workOutParts_112 : decode cX2_workOutParts 112 = .ok (.iload 4, 2) := by decide +kernel
theorem dX2_workOutParts_114 : decode cX2_workOutParts 114 = .ok (.invokevirtual 49, 3) := by decide +kernel
theorem dX2_workOutParts_117 : decode cX2_workOutParts 117 = .ok (.aload_n 0, 1) := by decide +kernel
theorem dX2_workOutParts_118 : decode cX2_workOutParts 118 = .ok (.iconst 3, 1) := by decide +kernel
theorem dX2_workOutParts_119 : decode cX2_workOutParts 119 = .ok (.aload_n 1, 1) := by decide +kernel
theorem dX2_workOutParts_120 : decode cX2_workOutParts 120 = .ok (.iload 8, 2) := by decide +kernel
theorem dX2_workOutParts_122 : decode cX2_workOutParts 122 = .ok (.iconst 4, 1) := by decide +kernel
theorem dX2_workOutParts_123 : decode cX2_workOutParts 123 = .ok (.iconst 1, 1) := by decide +kernel
theorem dX2_workOutParts_124 : decode cX2_workOutParts 124 = .ok (.invokevirtual 53, 3) := by decide +kernel
theorem dX2_workOutParts_127 : decode cX2_workOutParts 127 = .ok (.return_, 1) := by decide +kernel
theorem dX2_addStep_0 : decode cX2_addStep 0 = .ok (.aload_n 0, 1) := by decide +kernel
theorem dX2_addStep_1 : decode cX2_addStep 1 = .ok (.dup, 1) := by decide +kernel
theorem dX2_addStep_2 : decode cX2_addStep 2 = .ok (.getfield 40, 3) := by decide +kernel
theorem dX2_addStep_5 : decode cX2_addStep 5 = .ok (.iload 5, 2) := by decide +kernel
theorem dX2_addStep_7 : decode cX2_addStep 7 = .ok (.iadd, 1) := by decide +kernel
theorem dX2_addStep_8 : decode cX2_addStep 8 = .ok (.putfield 40, 3) := by decide +kernel
theorem dX2_addStep_11 : decode cX2_addStep 11 = .ok (.aload_n 0, 1) := by decide +kernel
theorem dX2_addStep_12 : decode cX2_addStep 12 = .ok (.dup, 1) := by decide +kernel
theorem dX2_addStep_13 : decode cX2_addStep 13 = .ok (.getfield 28, 3) := by decide +kernel
theorem dX2_addStep_16 : decode cX2_addStep 16 = .ok (.iload 4, 2) := by decide +kernel
theorem dX2_addStep_18 : decode cX2_addStep 18 = .ok (.iadd, 1) := by decide +kernel
theorem dX2_addStep_19 : decode cX2_addStep 19 = .ok (.putfield 28, 3) := by decide +kernel
theorem dX2_addStep_22 : decode cX2_addStep 22 = .ok (.aload_n 0, 1) := by decide +kernel
theorem dX2_addStep_23 : decode cX2_addStep 23 = .ok (.dup, 1) := by decide +kernel
theorem dX2_addStep_24 : decode cX2_addStep 24 = .ok (.getfield 31, 3) := by decide +kernel
theorem dX2_addStep_27 : decode cX2_addStep 27 = .ok (.iload_n 1, 1) := by decide +kernel
theorem dX2_addStep_28 : decode cX2_addStep 28 = .ok (.iconst 2, 1) := by decide +kernel
theorem dX2_addStep_29 : decode cX2_addStep 29 = .ok (.if_icmp .ne 7, 3) := by decide +kernel
theorem dX2_addStep_32 : decode cX2_addStep 32 = .ok (.iconst 1, 1) := by decide +kernel
theorem dX2_addStep_33 : decode cX2_addStep 33 = .ok (.goto 4, 3) := by decide +kernel
theorem dX2_addStep_36 : decode cX2_addStep 36 = .ok (.iconst 0, 1) := by decide +kernel
theorem dX2_addStep_37 : decode cX2_addStep 37 = .ok (.iadd, 1) := by decide +kernel
theorem dX2_addStep_38 : decode cX2_addStep 38 = .ok (.putfield 31, 3) := by decide +kernel
theorem dX2_addStep_41 : decode cX2_addStep 41 = .ok (.aload_n 0, 1) := by decide +kernel
theorem dX2_addStep_42 : decode cX2_addStep 42 = .ok (.dup, 1) := by decide +kernel
theorem dX2_addStep_43 : decode cX2_addStep 43 = .ok (.getfield 34, 3) := by decide +kernel
theorem dX2_addStep_46 : decode cX2_addStep 46 = .ok (.iload_n 1, 1) := by decide +kernel
theorem dX2_addStep_47 : decode cX2_addStep 47 = .ok (.iconst 5, 1) := by decide +kernel
theorem dX2_addStep_48 : decode cX2_addStep 48 = .ok (.if_icmp .ne 7, 3) := by decide +kernel
theorem dX2_addStep_51 : decode cX2_addStep 51 = .ok (.iconst 1, 1) := by decide +kernel
theorem dX2_addStep_52 : decode cX2_addStep 52 = .ok (.goto 4, 3) := by decide +kernel
theorem dX2_addStep_55 : decode cX2_addStep 55 = .ok (.iconst 0, 1) := by decide +kernel
theorem dX2_addStep_56 : decode cX2_addStep 56 = .ok (.iadd, 1) := by decide +kernel
theorem dX2_addStep_57 : decode cX2_addStep 57 = .ok (.putfield 34, 3) := by decide +kernel
theorem dX2_addStep_60 : decode cX2_addStep 60 = .ok (.aload_n 0, 1) := by decide +kernel
theorem dX2_addStep_61 : decode cX2_addStep 61 = .ok (.dup, 1) := by decide +kernel
theorem dX2_addStep_62 : decode cX2_addStep 62 = .ok (.getfield 37, 3) := by decide +kernel
theorem dX2_addStep_65 : decode cX2_addStep 65 = .ok (.iload_n 1, 1) := by decide +kernel
theorem dX2_addStep_66 : decode cX2_addStep 66 = .ok (.iconst 1, 1) := by decide +kernel
theorem dX2_addStep_67 : decode cX2_addStep 67 = .ok (.if_icmp .ne 8, 3) := by decide +kernel
theorem dX2_addStep_70 : decode cX2_addStep 70 = .ok (.iload 4, 2) := by decide +kernel
theorem dX2_addStep_72 : decode cX2_addStep 72 = .ok (.goto 4, 3) := by decide +kernel
theorem dX2_addStep_75 : decode cX2_addStep 75 = .ok (.iconst 0, 1) := by decide +kernel
theorem dX2_addStep_76 : decode cX2_addStep 76 = .ok (.iadd, 1) := by decide +kernel
theorem dX2_addStep_77 : decode cX2_addStep 77 = .ok (.putfield 37, 3) := by decide +kernel
theorem dX2_addStep_80 : decode cX2_addStep 80 = .ok (.aload_n 0, 1) := by decide +kernel
theorem dX2_addStep_81 : decode cX2_addStep 81 = .ok (.getfield 24, 3) := by decide +kernel
theorem dX2_addStep_84 : decode cX2_addStep 84 = .ok (.ifCond .lt 69, 3) := by decide +kernel
theorem dX2_addStep_87 : decode cX2_addStep 87 = .ok (.aload_n 0, 1) := by decide +kernel
theorem dX2_addStep_88 : decode cX2_addStep 88 = .ok (.getfield 24, 3) := by decide +kernel
theorem dX2_addStep_91 : decode cX2_addStep 91 = .ok (.sipush 726, 3) := by decide +kernel
theorem dX2_addStep_94 : decode cX2_addStep 94 = .ok (.if_icmp .ge 59, 3) := by decide +kernel
theorem dX2_addStep_97 : decode cX2_addStep 97 = .ok (.aload_n 0, 1) := by decide +kernel
theorem dX2_addStep_98 : decode cX2_addStep 98 = .ok (.getfield 11, 3) := by decide +kernel
theorem dX2_addStep_101 : decode cX2_addStep 101 = .ok (.aload_n 0, 1) := by decide +kernel
theorem dX2_addStep_102 : decode cX2_addStep 102 = .ok (.getfield 24, 3) := by decide +kernel
theorem dX2_addStep_105 : decode cX2_addStep 105 = .ok (.iload_n 1, 1) := by decide +kernel
theorem dX2_addStep_106 : decode cX2_addStep 106 = .ok (.iastore, 1) := by decide +kernel
theorem dX2_addStep_107 : decode cX2_addStep 107 = .ok (.aload_n 0, 1) := by decide +kernel
theorem dX2_addStep_108 : decode cX2_addStep 108 = .ok (.getfield 15, 3) := by decide +kernel
theorem dX2_addStep_111 : decode cX2_addStep 111 = .ok (.aload_n 0, 1) := by decide +kernel
theorem dX2_addStep_112 : decode cX2_addStep 112 = .ok (.getfield 24, 3) := by decide +kernel
theorem dX2_addStep_115 : decode cX2_addStep 115 = .ok (.aload_n 2, 1) := by decide +kernel
theorem dX2_addStep_116 : decode cX2_addStep 116 = .ok (.getfield 78, 3) := by decide +kernel
theorem dX2_addStep_119 : decode cX2_addStep 119 = .ok (.iastore, 1) := by decide +kernel
theorem dX2_addStep_120 : decode cX2_addStep 120 = .ok (.aload_n 0, 1) := by decide +kernel
theorem dX2_addStep_121 : decode cX2_addStep 121 = .ok (.getfield 18, 3) := by decide +kernel
theorem dX2_addStep_124 : decode cX2_addStep 124 = .ok (.aload_n 0, 1) := by decide +kernel
theorem dX2_addStep_125 : decode cX2_addStep 125 = .ok (.getfield 24, 3) := by decide +kernel
theorem dX2_addStep_128 : decode cX2_addStep 128 = .ok (.iload_n 3, 1) := by decide +kernel
theorem dX2_addStep_129 : decode cX2_addStep 129 = .ok (.iastore, 1) := by decide +kernel
theorem dX2_addStep_130 : decode cX2_addStep 130 = .ok (.aload_n 0, 1) := by decide +kernel
theorem dX2_addStep_131 : decode cX2_addStep 131 = .ok (.getfield 21, 3) := by decide +kernel
theorem dX2_addStep_134 : decode cX2_addStep 134 = .ok (.aload_n 0, 1) := by decide +kernel
theorem dX2_addStep_135 : decode cX2_addStep 135 = .ok (.getfield 24, 3) := by decide +kernel
theorem dX2_addStep_138 : decode cX2_addStep 138 = .ok (.aload_n 0, 1) := by decide +kernel
theorem dX2_addStep_139 : decode cX2_addStep 139 = .ok (.getfield 40, 3) := by decide +kernel
theorem dX2_addStep_142 : decode cX2_addStep 142 = .ok (.iastore, 1) := by decide +kernel
theorem dX2_addStep_143 : decode cX2_addStep 143 = .ok (.aload_n 0, 1) := by decide +kernel
theorem dX2_addStep_144 : decode cX2_addStep 144 = .ok (.dup, 1) := by decide +kernel
theorem dX2_addStep_145 : decode cX2_addStep 145 = .ok (.getfield 24, 3) := by decide +kernel
theorem dX2_addStep_148 : decode cX2_addStep 148 = .ok (.iconst 1, 1) := by decide +kernel
theorem dX2_addStep_149 : decode cX2_addStep 149 = .ok (.iadd, 1) := by decide +kernel
theorem dX2_addStep_150 : decode cX2_addStep 150 = .ok (.putfield 24, 3) := by decide +kernel
theorem dX2_addStep_153 : decode cX2_addStep 153 = .ok (.return_, 1) := by decide +kernel
