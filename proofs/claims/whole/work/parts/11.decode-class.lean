theorem dX0_init_0 : decode cX0_init 0 = .ok (.aload_n 0, 1) := by decide +kernel
theorem dX0_init_1 : decode cX0_init 1 = .ok (.invokespecial 3, 3) := by decide +kernel
theorem dX0_init_4 : decode cX0_init 4 = .ok (.aload_n 0, 1) := by decide +kernel
theorem dX0_init_5 : decode cX0_init 5 = .ok (.sipush 160, 3) := by decide +kernel
theorem dX0_init_8 : decode cX0_init 8 = .ok (.newarray .int, 2) := by decide +kernel
theorem dX0_init_10 : decode cX0_init 10 = .ok (.putfield 11, 3) := by decide +kernel
theorem dX0_init_13 : decode cX0_init 13 = .ok (.aload_n 0, 1) := by decide +kernel
theorem dX0_init_14 : decode cX0_init 14 = .ok (.iconst 0, 1) := by decide +kernel
theorem dX0_init_15 : decode cX0_init 15 = .ok (.putfield 15, 3) := by decide +kernel
theorem dX0_init_18 : decode cX0_init 18 = .ok (.return_, 1) := by decide +kernel
theorem dX0_keep_0 : decode cX0_keep 0 = .ok (.aload_n 0, 1) := by decide +kernel
theorem dX0_keep_1 : decode cX0_keep 1 = .ok (.getfield 15, 3) := by decide +kernel
theorem dX0_keep_4 : decode cX0_keep 4 = .ok (.bipush 40, 2) := by decide +kernel
theorem dX0_keep_6 : decode cX0_keep 6 = .ok (.if_icmp .lt 25, 3) := by decide +kernel
theorem dX0_keep_9 : decode cX0_keep 9 = .ok (.aload_n 0, 1) := by decide +kernel
theorem dX0_keep_10 : decode cX0_keep 10 = .ok (.getfield 11, 3) := by decide +kernel
theorem dX0_keep_13 : decode cX0_keep 13 = .ok (.iconst 4, 1) := by decide +kernel
theorem dX0_keep_14 : decode cX0_keep 14 = .ok (.aload_n 0, 1) := by decide +kernel
theorem dX0_keep_15 : decode cX0_keep 15 = .ok (.getfield 11, 3) := by decide +kernel
theorem dX0_keep_18 : decode cX0_keep 18 = .ok (.iconst 0, 1) := by decide +kernel
theorem dX0_keep_19 : decode cX0_keep 19 = .ok (.sipush 156, 3) := by decide +kernel
theorem dX0_keep_22 : decode cX0_keep 22 = .ok (.invokestatic 19, 3) := by decide +kernel
theorem dX0_keep_25 : decode cX0_keep 25 = .ok (.aload_n 0, 1) := by decide +kernel
theorem dX0_keep_26 : decode cX0_keep 26 = .ok (.bipush 39, 2) := by decide +kernel
theorem dX0_keep_28 : decode cX0_keep 28 = .ok (.putfield 15, 3) := by decide +kernel
theorem dX0_keep_31 : decode cX0_keep 31 = .ok (.iconst 4, 1) := by decide +kernel
theorem dX0_keep_32 : decode cX0_keep 32 = .ok (.aload_n 0, 1) := by decide +kernel
theorem dX0_keep_33 : decode cX0_keep 33 = .ok (.getfield 15, 3) := by decide +kernel
theorem dX0_keep_36 : decode cX0_keep 36 = .ok (.imul, 1) := by decide +kernel
theorem dX0_keep_37 : decode cX0_keep 37 = .ok (.istore 5, 2) := by decide +kernel
theorem dX0_keep_39 : decode cX0_keep 39 = .ok (.aload_n 0, 1) := by decide +kernel
theorem dX0_keep_40 : decode cX0_keep 40 = .ok (.getfield 11, 3) := by decide +kernel
theorem dX0_keep_43 : decode cX0_keep 43 = .ok (.iload 5, 2) := by decide +kernel
theorem dX0_keep_45 : decode cX0_keep 45 = .ok (.iload_n 1, 1) := by decide +kernel
theorem dX0_keep_46 : decode cX0_keep 46 = .ok (.iastore, 1) := by decide +kernel
theorem dX0_keep_47 : decode cX0_keep 47 = .ok (.aload_n 0, 1) := by decide +kernel
theorem dX0_keep_48 : decode cX0_keep 48 = .ok (.getfield 11, 3) := by decide +kernel
theorem dX0_keep_51 : decode cX0_keep 51 = .ok (.iload 5, 2) := by decide +kernel
theorem dX0_keep_53 : decode cX0_keep 53 = .ok (.iconst 1, 1) := by decide +kernel
theorem dX0_keep_54 : decode cX0_keep 54 = .ok (.iadd, 1) := by decide +kernel
theorem dX0_keep_55 : decode cX0_keep 55 = .ok (.iload_n 2, 1) := by decide +kernel
theorem dX0_keep_56 : decode cX0_keep 56 = .ok (.iastore, 1) := by decide +kernel
theorem dX0_keep_57 : decode cX0_keep 57 = .ok (.aload_n 0, 1) := by decide +kernel
theorem dX0_keep_58 : decode cX0_keep 58 = .ok (.getfield 11, 3) := by decide +kernel
theorem dX0_keep_61 : decode cX0_keep 61 = .ok (.iload 5, 2) := by decide +kernel
theorem dX0_keep_63 : decode cX0_keep 63 = .ok (.iconst 2, 1) := by decide +kernel
theorem dX0_keep_64 : decode cX0_keep 64 = .ok (.iadd, 1) := by decide +kernel
theorem dX0_keep_65 : decode cX0_keep 65 = .ok (.iload_n 3, 1) := by decide +kernel
theorem dX0_keep_66 : decode cX0_keep 66 = .ok (.iastore, 1) := by decide +kernel
theorem dX0_keep_67 : decode cX0_keep 67 = .ok (.aload_n 0, 1) := by decide +kernel
theorem dX0_keep_68 : decode cX0_keep 68 = .ok (.getfield 11, 3) := by decide +kernel
theorem dX0_keep_71 : decode cX0_keep 71 = .ok (.iload 5, 2) := by decide +kernel
theorem dX0_keep_73 : decode cX0_keep 73 = .ok (.iconst 3, 1) := by decide +kernel
theorem dX0_keep_74 : decode cX0_keep 74 = .ok (.iadd, 1) := by decide +kernel
theorem dX0_keep_75 : decode cX0_keep 75 = .ok (.iload 4, 2) := by decide +kernel
theorem dX0_keep_77 : decode cX0_keep 77 = .ok (.iastore, 1) := by decide +kernel
theorem dX0_keep_78 : decode cX0_keep 78 = .ok (.aload_n 0, 1) := by decide +kernel
theorem dX0_keep_79 : decode cX0_keep 79 = .ok (.dup, 1) := by decide +kernel
theorem dX0_keep_80 : decode cX0_keep 80 = .ok (.getfield 15, 3) := by decide +kernel
theorem dX0_keep_83 : decode cX0_keep 83 = .ok (.iconst 1, 1) := by decide +kernel
theorem dX0_keep_84 : decode cX0_keep 84 = .ok (.iadd, 1) := by decide +kernel
theorem dX0_keep_85 : decode cX0_keep 85 = .ok (.putfield 15, 3) := by decide +kernel
theorem dX0_keep_88 : decode cX0_keep 88 = .ok (.return_, 1) := by decide +kernel
theorem dX0_cell_0 : decode cX0_cell 0 = .ok (.iload_n 1, 1) := by decide +kernel
theorem dX0_cell_1 : decode cX0_cell 1 = .ok (.ifCond .lt 22, 3) := by decide +kernel
theorem dX0_cell_4 : decode cX0_cell 4 = .ok (.iload_n 1, 1) := by decide +kernel
theorem dX0_cell_5 : decode cX0_cell 5 = .ok (.bipush 40, 2) := by decide +kernel
theorem dX0_cell_7 : decode cX0_cell 7 = .ok (.if_icmp .ge 16, 3) := by decide +kernel
theorem dX0_cell_10 : decode cX0_cell 10 = .ok (.aload_n 0, 1) := by decide +kernel
theorem dX0_cell_11 : decode cX0_cell 11 = .ok (.getfield 11, 3) := by decide +kernel
theorem dX0_cell_14 : decode cX0_cell 14 = .ok (.iconst 4, 1) := by decide +kernel
theorem dX0_cell_15 : decode cX0_cell 15 = .ok (.iload_n 1, 1) := by decide +kernel
theorem dX0_cell_16 : decode cX0_cell 16 = .ok (.imul, 1) := by decide +kernel
theorem dX0_cell_17 : decode cX0_cell 17 = .ok (.iload_n 2, 1) := by decide +kernel
theorem dX0_cell_18 : decode cX0_cell 18 = .ok (.iadd, 1) := by decide +kernel
theorem dX0_cell_19 : decode cX0_cell 19 = .ok (.iaload, 1) := by decide +kernel
theorem dX0_cell_20 : decode cX0_cell 20 = .ok (.goto 4, 3) := by decide +kernel
theorem dX0_cell_23 : decode cX0_cell 23 = .ok (.iconst 0, 1) := by decide +kernel
theorem dX0_cell_24 : decode cX0_cell 24 = .ok (.ireturn, 1) := by decide +kernel
theorem dX0_kind_0 : decode cX0_kind 0 = .ok (.aload_n 0, 1) := by decide +kernel
theorem dX0_kind_1 : decode cX0_kind 1 = .ok (.iload_n 1, 1) := by decide +kernel
theorem dX0_kind_2 : decode cX0_kind 2 = .ok (.iconst 0, 1) := by decide +kernel
theorem dX0_kind_3 : decode cX0_kind 3 = .ok (.invokevirtual 25, 3) := by decide +kernel
theorem dX0_kind_6 : decode cX0_kind 6 = .ok (.ireturn, 1) := by decide +kernel
theorem dX0_one_0 : decode cX0_one 0 = .ok (.aload_n 0, 1) := by decide +kernel
theorem dX0_one_1 : decode cX0_one 1 = .ok (.iload_n 1, 1) := by decide +kernel
theorem dX0_one_2 : decode cX0_one 2 = .ok (.iconst 1, 1) := by decide +kernel
theorem dX0_one_3 : decode cX0_one 3 = .ok (.invokevirtual 25, 3) := by decide +kernel
theorem dX0_one_6 : decode cX0_one 6 = .ok (.ireturn, 1) := by decide +kernel
theorem dX0_two_0 : decode cX0_two 0 = .ok (.aload_n 0, 1) := by decide +kernel
theorem dX0_two_1 : decode cX0_two 1 = .ok (.iload_n 1, 1) := by decide +kernel
theorem dX0_two_2 : decode cX0_two 2 = .ok (.iconst 2, 1) := by decide +kernel
theorem dX0_two_3 : decode cX0_two 3 = .ok (.invokevirtual 25, 3) := by decide +kernel
theorem dX0_two_6 : decode cX0_two 6 = .ok (.ireturn, 1) := by decide +kernel
theorem dX0_three_0 : decode cX0_three 0 = .ok (.aload_n 0, 1) := by decide +kernel
theorem dX0_three_1 : decode cX0_three 1 = .ok (.iload_n 1, 1) := by decide +kernel
theorem dX0_three_2 : decode cX0_three 2 = .ok (.iconst 3, 1) := by decide +kernel
theorem dX0_three_3 : decode cX0_three 3 = .ok (.invokevirtual 25, 3) := by decide +kernel
theorem dX0_three_6 : decode cX0_three 6 = .ok (.ireturn, 1) := by decide +kernel
theorem dX0_copy_0 : decode cX0_copy 0 = .ok (.aload_n 0, 1) := by decide +kernel
theorem dX0_copy_1 : decode cX0_copy 1 = .ok (.aload_n 1, 1) := by decide +kernel
theorem dX0_copy_2 : decode cX0_copy 2 = .ok (.getfield 15, 3) := by decide +kernel
theorem dX0_copy_5 : decode cX0_copy 5 = .ok (.putfield 15, 3) := by decide +kernel
theorem dX0_copy_8 : decode cX0_copy 8 = .ok (.aload_n 1, 1) := by decide +kernel
theorem dX0_copy_9 : decode cX0_copy 9 = .ok (.getfield 11, 3) := by decide +kernel
theorem dX0_copy_12 : decode cX0_copy 12 = .ok (.iconst 0, 1) := by decide +kernel
theorem dX0_copy_13 : decode cX0_copy 13 = .ok (.aload_n 0, 1) := by decide +kernel
theorem dX0_copy_14 : decode cX0_copy 14 = .ok (.getfield 11, 3) := by decide +kernel
theorem dX0_copy_17 : decode cX0_copy 17 = .ok (.iconst 0, 1) := by decide +kernel
theorem dX0_copy_18 : decode cX0_copy 18 = .ok (.iconst 4, 1) := by decide +kernel
theorem dX0_copy_19 : decode cX0_copy 19 = .ok (.aload_n 0, 1) := by decide +kernel
theorem dX0_copy_20 : decode cX0_copy 20 = .ok (.getfield 15, 3) := by decide +kernel
theorem dX0_copy_23 : decode cX0_copy 23 = .ok (.imul, 1) := by decide +kernel
theorem dX0_copy_24 : decode cX0_copy 24 = .ok (.invokestatic 19, 3) := by decide +kernel
theorem dX0_copy_27 : decode cX0_copy 27 = .ok (.return_, 1) := by decide +kernel
theorem dX1_init_0 : decode cX1_init 0 = .ok (.aload_n 0, 1) := by decide +kernel
theorem dX1_init_1 : decode cX1_init 1 = .ok (.invokespecial 3, 3) := by decide +kernel
theorem dX1_init_4 : decode cX1_init 4 = .ok (.aload_n 0, 1) := by decide +kernel
theorem dX1_init_5 : decode cX1_init 5 = .ok (.bipush 6, 2) := by decide +kernel
theorem dX1_init_7 : decode cX1_init 7 = .ok (.newarray .int, 2) := by decide +kernel
theorem dX1_init_9 : decode cX1_init 9 = .ok (.putfield 9, 3) := by decide +kernel
theorem dX1_init_12 : decode cX1_init 12 = .ok (.aload_n 0, 1) := by decide +kernel
theorem dX1_init_13 : decode cX1_init 13 = .ok (.bipush 6, 2) := by decide +kernel
theorem dX1_init_15 : decode cX1_init 15 = .ok (.newarray .int, 2) := by decide +kernel
theorem dX1_init_17 : decode cX1_init 17 = .ok (.putfield 15, 3) := by decide +kernel
theorem dX1_init_20 : decode cX1_init 20 = .ok (.aload_n 0, 1) := by decide +kernel
theorem dX1_init_21 : decode cX1_init 21 = .ok (.iconst 0, 1) := by decide +kernel
theorem dX1_init_22 : decode cX1_init 22 = .ok (.putfield 18, 3) := by decide +kernel
theorem dX1_init_25 : decode cX1_init 25 = .ok (.return_, 1) := by decide +kernel
theorem dX1_has_0 : decode cX1_has 0 = .ok (.iload_n 1, 1) := by decide +kernel
theorem dX1_has_1 : decode cX1_has 1 = .ok (.ifCond .lt 15, 3) := by decide +kernel
theorem dX1_has_4 : decode cX1_has 4 = .ok (.iload_n 1, 1) := by decide +kernel
theorem dX1_has_5 : decode cX1_has 5 = .ok (.aload_n 0, 1) := by decide +kernel
theorem dX1_has_6 : decode cX1_has 6 = .ok (.getfield 18, 3) := by decide +kernel
theorem dX1_has_9 : decode cX1_has 9 = .ok (.if_icmp .ge 7, 3) := by decide +kernel
theorem dX1_has_12 : decode cX1_has 12 = .ok (.iconst 1, 1) := by decide +kernel
theorem dX1_has_13 : decode cX1_has 13 = .ok (.goto 4, 3) := by decide +kernel
theorem dX1_has_16 : decode cX1_has 16 = .ok (.iconst 0, 1) := by decide +kernel
theorem dX1_has_17 : decode cX1_has 17 = .ok (.ireturn, 1) := by decide +kernel
theorem dX1_between_0 : decode cX1_between 0 = .ok (.iconst 0, 1) := by decide +kernel
theorem dX1_between_1 : decode cX1_between 1 = .ok (.istore_n 3, 1) := by decide +kernel
theorem dX1_between_2 : decode cX1_between 2 = .ok (.iload_n 3, 1) := by decide +kernel
theorem dX1_between_3 : decode cX1_between 3 = .ok (.aload_n 0, 1) := by decide +kernel
theorem dX1_between_4 : decode cX1_between 4 = .ok (.getfield 18, 3) := by decide +kernel
theorem dX1_between_7 : decode cX1_between 7 = .ok (.if_icmp .ge 53, 3) := by decide +kernel
theorem dX1_between_10 : decode cX1_between 10 = .ok (.aload_n 0, 1) := by decide +kernel
theorem dX1_between_11 : decode cX1_between 11 = .ok (.getfield 9, 3) := by decide +kernel
theorem dX1_between_14 : decode cX1_between 14 = .ok (.iload_n 3, 1) := by decide +kernel
theorem dX1_between_15 : decode cX1_between 15 = .ok (.iaload, 1) := by decide +kernel
theorem dX1_between_16 : decode cX1_between 16 = .ok (.iload_n 1, 1) := by decide +kernel
theorem dX1_between_17 : decode cX1_between 17 = .ok (.if_icmp .ne 15, 3) := by decide +kernel
theorem dX1_between_20 : decode cX1_between 20 = .ok (.aload_n 0, 1) := by decide +kernel
theorem dX1_between_21 : decode cX1_between 21 = .ok (.getfield 15, 3) := by decide +kernel
theorem dX1_between_24 : decode cX1_between 24 = .ok (.iload_n 3, 1) := by decide +kernel
theorem dX1_between_25 : decode cX1_between 25 = .ok (.iaload, 1) := by decide +kernel
theorem dX1_between_26 : decode cX1_between 26 = .ok (.iload_n 2, 1) := by decide +kernel
theorem dX1_between_27 : decode cX1_between 27 = .ok (.if_icmp .ne 5, 3) := by decide +kernel
theorem dX1_between_30 : decode cX1_between 30 = .ok (.iconst 1, 1) := by decide +kernel
theorem dX1_between_31 : decode cX1_between 31 = .ok (.ireturn, 1) := by decide +kernel
theorem dX1_between_32 : decode cX1_between 32 = .ok (.aload_n 0, 1) := by decide +kernel
theorem dX1_between_33 : decode cX1_between 33 = .ok (.getfield 9, 3) := by decide +kernel
theorem dX1_between_36 : decode cX1_between 36 = .ok (.iload_n 3, 1) := by decide +kernel
theorem dX1_between_37 : decode cX1_between 37 = .ok (.iaload, 1) := by decide +kernel
theorem dX1_between_38 : decode cX1_between 38 = .ok (.iload_n 2, 1) := by decide +kernel
theorem dX1_between_39 : decode cX1_between 39 = .ok (.if_icmp .ne 15, 3) := by decide +kernel
theorem dX1_between_42 : decode cX1_between 42 = .ok (.aload_n 0, 1) := by decide +kernel
theorem dX1_between_43 : decode cX1_between 43 = .ok (.getfield 15, 3) := by decide +kernel
theorem dX1_between_46 : decode cX1_between 46 = .ok (.iload_n 3, 1) := by decide +kernel
theorem dX1_between_47 : decode cX1_between 47 = .ok (.iaload, 1) := by decide +kernel
theorem dX1_between_48 : decode cX1_between 48 = .ok (.iload_n 1, 1) := by decide +kernel
theorem dX1_between_49 : decode cX1_between 49 = .ok (.if_icmp .ne 5, 3) := by decide +kernel
theorem dX1_between_52 : decode cX1_between 52 = .ok (.iconst 1, 1) := by decide +kernel
theorem dX1_between_53 : decode cX1_between 53 = .ok (.ireturn, 1) := by decide +kernel
theorem dX1_between_54 : decode cX1_between 54 = .ok (.iinc 3 1, 3) := by decide +kernel
theorem dX1_between_57 : decode cX1_between 57 = .ok (.goto (-55), 3) := by decide +kernel
theorem dX1_between_60 : decode cX1_between 60 = .ok (.iconst 0, 1) := by decide +kernel
theorem dX1_between_61 : decode cX1_between 61 = .ok (.ireturn, 1) := by decide +kernel
theorem dX1_of_0 : decode cX1_of 0 = .ok (.iconst 0, 1) := by decide +kernel
theorem dX1_of_1 : decode cX1_of 1 = .ok (.istore_n 2, 1) := by decide +kernel
theorem dX1_of_2 : decode cX1_of 2 = .ok (.iconst 0, 1) := by decide +kernel
theorem dX1_of_3 : decode cX1_of 3 = .ok (.istore_n 3, 1) := by decide +kernel
theorem dX1_of_4 : decode cX1_of 4 = .ok (.iload_n 3, 1) := by decide +kernel
theorem dX1_of_5 : decode cX1_of 5 = .ok (.aload_n 0, 1) := by decide +kernel
theorem dX1_of_6 : decode cX1_of 6 = .ok (.getfield 18, 3) := by decide +kernel
theorem dX1_of_9 : decode cX1_of 9 = .ok (.if_icmp .ge 32, 3) := by decide +kernel
theorem dX1_of_12 : decode cX1_of 12 = .ok (.aload_n 0, 1) := by decide +kernel
theorem dX1_of_13 : decode cX1_of 13 = .ok (.getfield 9, 3) := by decide +kernel
theorem dX1_of_16 : decode cX1_of 16 = .ok (.iload_n 3, 1) := by decide +kernel
theorem dX1_of_17 : decode cX1_of 17 = .ok (.iaload, 1) := by decide +kernel
theorem dX1_of_18 : decode cX1_of 18 = .ok (.iload_n 1, 1) := by decide +kernel
theorem dX1_of_19 : decode cX1_of 19 = .ok (.if_icmp .eq 13, 3) := by decide +kernel
theorem dX1_of_22 : decode cX1_of 22 = .ok (.aload_n 0, 1) := by decide +kernel
theorem dX1_of_23 : decode cX1_of 23 = .ok (.getfield 15, 3) := by decide +kernel
theorem dX1_of_26 : decode cX1_of 26 = .ok (.iload_n 3, 1) := by decide +kernel
theorem dX1_of_27 : decode cX1_of 27 = .ok (.iaload, 1) := by decide +kernel
theorem dX1_of_28 : decode cX1_of 28 = .ok (.iload_n 1, 1) := by decide +kernel
theorem dX1_of_29 : decode cX1_of 29 = .ok (.if_icmp .ne 6, 3) := by decide +kernel
theorem dX1_of_32 : decode cX1_of 32 = .ok (.iinc 2 1, 3) := by decide +kernel
theorem dX1_of_35 : decode cX1_of 35 = .ok (.iinc 3 1, 3) := by decide +kernel
theorem dX1_of_38 : decode cX1_of 38 = .ok (.goto (-34), 3) := by decide +kernel
theorem dX1_of_41 : decode cX1_of 41 = .ok (.iload_n 2, 1) := by decide +kernel
theorem dX1_of_42 : decode cX1_of 42 = .ok (.ireturn, 1) := by decide +kernel
theorem dX1_insert_0 : decode cX1_insert 0 = .ok (.aload_n 0, 1) := by decide +kernel
theorem dX1_insert_1 : decode cX1_insert 1 = .ok (.getfield 18, 3) := by decide +kernel
theorem dX1_insert_4 : decode cX1_insert 4 = .ok (.bipush 6, 2) := by decide +kernel
theorem dX1_insert_6 : decode cX1_insert 6 = .ok (.if_icmp .ge 15, 3) := by decide +kernel
theorem dX1_insert_9 : decode cX1_insert 9 = .ok (.iload_n 1, 1) := by decide +kernel
theorem dX1_insert_10 : decode cX1_insert 10 = .ok (.ifCond .lt 11, 3) := by decide +kernel
theorem dX1_insert_13 : decode cX1_insert 13 = .ok (.iload_n 1, 1) := by decide +kernel
theorem dX1_insert_14 : decode cX1_insert 14 = .ok (.aload_n 0, 1) := by decide +kernel
theorem dX1_insert_15 : decode cX1_insert 15 = .ok (.getfield 18, 3) := by decide +kernel
theorem dX1_insert_18 : decode cX1_insert 18 = .ok (.if_icmp .le 4, 3) := by decide +kernel
theorem dX1_insert_21 : decode cX1_insert 21 = .ok (.return_, 1) := by decide +kernel
theorem dX1_insert_22 : decode cX1_insert 22 = .ok (.aload_n 0, 1) := by decide +kernel
theorem dX1_insert_23 : decode cX1_insert 23 = .ok (.getfield 18, 3) := by decide +kernel
theorem dX1_insert_26 : decode cX1_insert 26 = .ok (.istore 4, 2) := by decide +kernel
theorem dX1_insert_28 : decode cX1_insert 28 = .ok (.iload 4, 2) := by decide +kernel
theorem dX1_insert_30 : decode cX1_insert 30 = .ok (.iload_n 1, 1) := by decide +kernel
theorem dX1_insert_31 : decode cX1_insert 31 = .ok (.if_icmp .le 41, 3) := by decide +kernel
theorem dX1_insert_34 : decode cX1_insert 34 = .ok (.aload_n 0, 1) := by decide +kernel
theorem dX1_insert_35 : decode cX1_insert 35 = .ok (.getfield 9, 3) := by decide +kernel
theorem dX1_insert_38 : decode cX1_insert 38 = .ok (.iload 4, 2) := by decide +kernel
theorem dX1_insert_40 : decode cX1_insert 40 = .ok (.aload_n 0, 1) := by decide +kernel
theorem dX1_insert_41 : decode cX1_insert 41 = .ok (.getfield 9, 3) := by decide +kernel
theorem dX1_insert_44 : decode cX1_insert 44 = .ok (.iload 4, 2) := by decide +kernel
theorem dX1_insert_46 : decode cX1_insert 46 = .ok (.iconst 1, 1) := by decide +kernel
theorem dX1_insert_47 : decode cX1_insert 47 = .ok (.isub, 1) := by decide +kernel
theorem dX1_insert_48 : decode cX1_insert 48 = .ok (.iaload, 1) := by decide +kernel
theorem dX1_insert_49 : decode cX1_insert 49 = .ok (.iastore, 1) := by decide +kernel
theorem dX1_insert_50 : decode cX1_insert 50 = .ok (.aload_n 0, 1) := by decide +kernel
theorem dX1_insert_51 : decode cX1_insert 51 = .ok (.getfield 15, 3) := by decide +kernel
theorem dX1_insert_54 : decode cX1_insert 54 = .ok (.iload 4, 2) := by decide +kernel
theorem dX1_insert_56 : decode cX1_insert 56 = .ok (.aload_n 0, 1) := by decide +kernel
theorem dX1_insert_57 : decode cX1_insert 57 = .ok (.getfield 15, 3) := by decide +kernel
theorem dX1_insert_60 : decode cX1_insert 60 = .ok (.iload 4, 2) := by decide +kernel
theorem dX1_insert_62 : decode cX1_insert 62 = .ok (.iconst 1, 1) := by decide +kernel
theorem dX1_insert_63 : decode cX1_insert 63 = .ok (.isub, 1) := by decide +kernel
theorem dX1_insert_64 : decode cX1_insert 64 = .ok (.iaload, 1) := by decide +kernel
theorem dX1_insert_65 : decode cX1_insert 65 = .ok (.iastore, 1) := by decide +kernel
theorem dX1_insert_66 : decode cX1_insert 66 = .ok (.iinc 4 (-1), 3) := by decide +kernel
theorem dX1_insert_69 : decode cX1_insert 69 = .ok (.goto (-41), 3) := by decide +kernel
theorem dX1_insert_72 : decode cX1_insert 72 = .ok (.aload_n 0, 1) := by decide +kernel
theorem dX1_insert_73 : decode cX1_insert 73 = .ok (.getfield 9, 3) := by decide +kernel
theorem dX1_insert_76 : decode cX1_insert 76 = .ok (.iload_n 1, 1) := by decide +kernel
theorem dX1_insert_77 : decode cX1_insert 77 = .ok (.iload_n 2, 1) := by decide +kernel
theorem dX1_insert_78 : decode cX1_insert 78 = .ok (.iastore, 1) := by decide +kernel
theorem dX1_insert_79 : decode cX1_insert 79 = .ok (.aload_n 0, 1) := by decide +kernel
theorem dX1_insert_80 : decode cX1_insert 80 = .ok (.getfield 15, 3) := by decide +kernel
theorem dX1_insert_83 : decode cX1_insert 83 = .ok (.iload_n 1, 1) := by decide +kernel
theorem dX1_insert_84 : decode cX1_insert 84 = .ok (.iload_n 3, 1) := by decide +kernel
theorem dX1_insert_85 : decode cX1_insert 85 = .ok (.iastore, 1) := by decide +kernel
theorem dX1_insert_86 : decode cX1_insert 86 = .ok (.aload_n 0, 1) := by decide +kernel
theorem dX1_insert_87 : decode cX1_insert 87 = .ok (.dup, 1) := by decide +kernel
theorem dX1_insert_88 : decode cX1_insert 88 = .ok (.getfield 18, 3) := by decide +kernel
theorem dX1_insert_91 : decode cX1_insert 91 = .ok (.iconst 1, 1) := by decide +kernel
theorem dX1_insert_92 : decode cX1_insert 92 = .ok (.iadd, 1) := by decide +kernel
theorem dX1_insert_93 : decode cX1_insert 93 = .ok (.putfield 18, 3) := by decide +kernel
theorem dX1_insert_96 : decode cX1_insert 96 = .ok (.return_, 1) := by decide +kernel
theorem dX1_remove_0 : decode cX1_remove 0 = .ok (.aload_n 0, 1) := by decide +kernel
theorem dX1_remove_1 : decode cX1_remove 1 = .ok (.iload_n 1, 1) := by decide +kernel
theorem dX1_remove_2 : decode cX1_remove 2 = .ok (.invokevirtual 22, 3) := by decide +kernel
theorem dX1_remove_5 : decode cX1_remove 5 = .ok (.ifCond .ne 4, 3) := by decide +kernel
theorem dX1_remove_8 : decode cX1_remove 8 = .ok (.return_, 1) := by decide +kernel
theorem dX1_remove_9 : decode cX1_remove 9 = .ok (.aload_n 0, 1) := by decide +kernel
theorem dX1_remove_10 : decode cX1_remove 10 = .ok (.dup, 1) := by decide +kernel
theorem dX1_remove_11 : decode cX1_remove 11 = .ok (.getfield 18, 3) := by decide +kernel
theorem dX1_remove_14 : decode cX1_remove 14 = .ok (.iconst 1, 1) := by decide +kernel
theorem dX1_remove_15 : decode cX1_remove 15 = .ok (.isub, 1) := by decide +kernel
theorem dX1_remove_16 : decode cX1_remove 16 = .ok (.putfield 18, 3) := by decide +kernel
theorem dX1_remove_19 : decode cX1_remove 19 = .ok (.iload_n 1, 1) := by decide +kernel
theorem dX1_remove_20 : decode cX1_remove 20 = .ok (.istore_n 2, 1) := by decide +kernel
theorem dX1_remove_21 : decode cX1_remove 21 = .ok (.iload_n 2, 1) := by decide +kernel
theorem dX1_remove_22 : decode cX1_remove 22 = .ok (.aload_n 0, 1) := by decide +kernel
theorem dX1_remove_23 : decode cX1_remove 23 = .ok (.getfield 18, 3) := by decide +kernel
theorem dX1_remove_26 : decode cX1_remove 26 = .ok (.if_icmp .ge 37, 3) := by decide +kernel
theorem dX1_remove_29 : decode cX1_remove 29 = .ok (.aload_n 0, 1) := by decide +kernel
theorem dX1_remove_30 : decode cX1_remove 30 = .ok (.getfield 9, 3) := by decide +kernel
theorem dX1_remove_33 : decode cX1_remove 33 = .ok (.iload_n 2, 1) := by decide +kernel
theorem dX1_remove_34 : decode cX1_remove 34 = .ok (.aload_n 0, 1) := by decide +kernel
theorem dX1_remove_35 : decode cX1_remove 35 = .ok (.getfield 9, 3) := by decide +kernel
theorem dX1_remove_38 : decode cX1_remove 38 = .ok (.iload_n 2, 1) := by decide +kernel
theorem dX1_remove_39 : decode cX1_remove 39 = .ok (.iconst 1, 1) := by decide +kernel
theorem dX1_remove_40 : decode cX1_remove 40 = .ok (.iadd, 1) := by decide +kernel
theorem dX1_remove_41 : decode cX1_remove 41 = .ok (.iaload, 1) := by decide +kernel
theorem dX1_remove_42 : decode cX1_remove 42 = .ok (.iastore, 1) := by decide +kernel
theorem dX1_remove_43 : decode cX1_remove 43 = .ok (.aload_n 0, 1) := by decide +kernel
theorem dX1_remove_44 : decode cX1_remove 44 = .ok (.getfield 15, 3) := by decide +kernel
theorem dX1_remove_47 : decode cX1_remove 47 = .ok (.iload_n 2, 1) := by decide +kernel
theorem dX1_remove_48 : decode cX1_remove 48 = .ok (.aload_n 0, 1) := by decide +kernel
theorem dX1_remove_49 : decode cX1_remove 49 = .ok (.getfield 15, 3) := by decide +kernel
theorem dX1_remove_52 : decode cX1_remove 52 = .ok (.iload_n 2, 1) := by decide +kernel
theorem dX1_remove_53 : decode cX1_remove 53 = .ok (.iconst 1, 1) := by decide +kernel
theorem dX1_remove_54 : decode cX1_remove 54 = .ok (.iadd, 1) := by decide +kernel
theorem dX1_remove_55 : decode cX1_remove 55 = .ok (.iaload, 1) := by decide +kernel
theorem dX1_remove_56 : decode cX1_remove 56 = .ok (.iastore, 1) := by decide +kernel
theorem dX1_remove_57 : decode cX1_remove 57 = .ok (.iinc 2 1, 3) := by decide +kernel
theorem dX1_remove_60 : decode cX1_remove 60 = .ok (.goto (-39), 3) := by decide +kernel
theorem dX1_remove_63 : decode cX1_remove 63 = .ok (.return_, 1) := by decide +kernel
theorem dX1_copy_0 : decode cX1_copy 0 = .ok (.aload_n 0, 1) := by decide +kernel
theorem dX1_copy_1 : decode cX1_copy 1 = .ok (.aload_n 1, 1) := by decide +kernel
theorem dX1_copy_2 : decode cX1_copy 2 = .ok (.getfield 18, 3) := by decide +kernel
theorem dX1_copy_5 : decode cX1_copy 5 = .ok (.putfield 18, 3) := by decide +kernel
theorem dX1_copy_8 : decode cX1_copy 8 = .ok (.aload_n 1, 1) := by decide +kernel
theorem dX1_copy_9 : decode cX1_copy 9 = .ok (.getfield 9, 3) := by decide +kernel
theorem dX1_copy_12 : decode cX1_copy 12 = .ok (.iconst 0, 1) := by decide +kernel
theorem dX1_copy_13 : decode cX1_copy 13 = .ok (.aload_n 0, 1) := by decide +kernel
theorem dX1_copy_14 : decode cX1_copy 14 = .ok (.getfield 9, 3) := by decide +kernel
theorem dX1_copy_17 : decode cX1_copy 17 = .ok (.iconst 0, 1) := by decide +kernel
theorem dX1_copy_18 : decode cX1_copy 18 = .ok (.aload_n 0, 1) := by decide +kernel
theorem dX1_copy_19 : decode cX1_copy 19 = .ok (.getfield 18, 3) := by decide +kernel
theorem dX1_copy_22 : decode cX1_copy 22 = .ok (.invokestatic 26, 3) := by decide +kernel
theorem dX1_copy_25 : decode cX1_copy 25 = .ok (.aload_n 1, 1) := by decide +kernel
theorem dX1_copy_26 : decode cX1_copy 26 = .ok (.getfield 15, 3) := by decide +kernel
theorem dX1_copy_29 : decode cX1_copy 29 = .ok (.iconst 0, 1) := by decide +kernel
theorem dX1_copy_30 : decode cX1_copy 30 = .ok (.aload_n 0, 1) := by decide +kernel
theorem dX1_copy_31 : decode cX1_copy 31 = .ok (.getfield 15, 3) := by decide +kernel
theorem dX1_copy_34 : decode cX1_copy 34 = .ok (.iconst 0, 1) := by decide +kernel
theorem dX1_copy_35 : decode cX1_copy 35 = .ok (.aload_n 0, 1) := by decide +kernel
theorem dX1_copy_36 : decode cX1_copy 36 = .ok (.getfield 18, 3) := by decide +kernel
theorem dX1_copy_39 : decode cX1_copy 39 = .ok (.invokestatic 26, 3) := by decide +kernel
theorem dX1_copy_42 : decode cX1_copy 42 = .ok (.return_, 1) := by decide +kernel
theorem dX2_init_0 : decode cX2_init 0 = .ok (.aload_n 0, 1) := by decide +kernel
theorem dX2_init_1 : decode cX2_init 1 = .ok (.invokespecial 3, 3) := by decide +kernel
theorem dX2_init_4 : decode cX2_init 4 = .ok (.aload_n 0, 1) := by decide +kernel
theorem dX2_init_5 : decode cX2_init 5 = .ok (.bipush 9, 2) := by decide +kernel
theorem dX2_init_7 : decode cX2_init 7 = .ok (.newarray .int, 2) := by decide +kernel
theorem dX2_init_9 : decode cX2_init 9 = .ok (.putfield 11, 3) := by decide +kernel
theorem dX2_init_12 : decode cX2_init 12 = .ok (.aload_n 0, 1) := by decide +kernel
theorem dX2_init_13 : decode cX2_init 13 = .ok (.bipush 9, 2) := by decide +kernel
theorem dX2_init_15 : decode cX2_init 15 = .ok (.newarray .int, 2) := by decide +kernel
theorem dX2_init_17 : decode cX2_init 17 = .ok (.putfield 15, 3) := by decide +kernel
theorem dX2_init_20 : decode cX2_init 20 = .ok (.aload_n 0, 1) := by decide +kernel
theorem dX2_init_21 : decode cX2_init 21 = .ok (.iconst 0, 1) := by decide +kernel
theorem dX2_init_22 : decode cX2_init 22 = .ok (.putfield 18, 3) := by decide +kernel
theorem dX2_init_25 : decode cX2_init 25 = .ok (.aload_n 0, 1) := by decide +kernel
theorem dX2_init_26 : decode cX2_init 26 = .ok (.iconst 0, 1) := by decide +kernel
theorem dX2_init_27 : decode cX2_init 27 = .ok (.putfield 22, 3) := by decide +kernel
theorem dX2_init_30 : decode cX2_init 30 = .ok (.aload_n 0, 1) := by decide +kernel
theorem dX2_init_31 : decode cX2_init 31 = .ok (.bipush 81, 2) := by decide +kernel
theorem dX2_init_33 : decode cX2_init 33 = .ok (.newarray .int, 2) := by decide +kernel
theorem dX2_init_35 : decode cX2_init 35 = .ok (.putfield 25, 3) := by decide +kernel
theorem dX2_init_38 : decode cX2_init 38 = .ok (.aload_n 0, 1) := by decide +kernel
theorem dX2_init_39 : decode cX2_init 39 = .ok (.bipush 81, 2) := by decide +kernel
theorem dX2_init_41 : decode cX2_init 41 = .ok (.newarray .int, 2) := by decide +kernel
theorem dX2_init_43 : decode cX2_init 43 = .ok (.putfield 28, 3) := by decide +kernel
theorem dX2_init_46 : decode cX2_init 46 = .ok (.return_, 1) := by decide +kernel
theorem dX2_gather_0 : decode cX2_gather 0 = .ok (.aload_n 0, 1) := by decide +kernel
theorem dX2_gather_1 : decode cX2_gather 1 = .ok (.aload_n 1, 1) := by decide +kernel
theorem dX2_gather_2 : decode cX2_gather 2 = .ok (.aload_n 2, 1) := by decide +kernel
theorem dX2_gather_3 : decode cX2_gather 3 = .ok (.iload_n 3, 1) := by decide +kernel
theorem dX2_gather_4 : decode cX2_gather 4 = .ok (.aload_n 0, 1) := by decide +kernel
theorem dX2_gather_5 : decode cX2_gather 5 = .ok (.getfield 11, 3) := by decide +kernel
theorem dX2_gather_8 : decode cX2_gather 8 = .ok (.invokestatic 31, 3) := by decide +kernel
theorem dX2_gather_11 : decode cX2_gather 11 = .ok (.putfield 18, 3) := by decide +kernel
theorem dX2_gather_14 : decode cX2_gather 14 = .ok (.aload_n 0, 1) := by decide +kernel
theorem dX2_gather_15 : decode cX2_gather 15 = .ok (.aload_n 1, 1) := by decide +kernel
theorem dX2_gather_16 : decode cX2_gather 16 = .ok (.aload_n 2, 1) := by decide +kernel
theorem dX2_gather_17 : decode cX2_gather 17 = .ok (.iload 4, 2) := by decide +kernel
theorem dX2_gather_19 : decode cX2_gather 19 = .ok (.aload_n 0, 1) := by decide +kernel
theorem dX2_gather_20 : decode cX2_gather 20 = .ok (.getfield 15, 3) := by decide +kernel
theorem dX2_gather_23 : decode cX2_gather 23 = .ok (.invokestatic 31, 3) := by decide +kernel
theorem dX2_gather_26 : decode cX2_gather 26 = .ok (.putfield 22, 3) := by decide +kernel
theorem dX2_gather_29 : decode cX2_gather 29 = .ok (.return_, 1) := by decide +kernel
theorem dX2_gatherOf_0 : decode cX2_gatherOf 0 = .ok (.aload_n 3, 1) := by decide +kernel
theorem dX2_gatherOf_1 : decode cX2_gatherOf 1 = .ok (.iconst 0, 1) := by decide +kernel
theorem dX2_gatherOf_2 : decode cX2_gatherOf 2 = .ok (.iconst (-1), 1) := by decide +kernel
theorem dX2_gatherOf_3 : decode cX2_gatherOf 3 = .ok (.iastore, 1) := by decide +kernel
theorem dX2_gatherOf_4 : decode cX2_gatherOf 4 = .ok (.iconst 1, 1) := by decide +kernel
theorem dX2_gatherOf_5 : decode cX2_gatherOf 5 = .ok (.istore 4, 2) := by decide +kernel
theorem dX2_gatherOf_7 : decode cX2_gatherOf 7 = .ok (.iconst 0, 1) := by decide +kernel
theorem dX2_gatherOf_8 : decode cX2_gatherOf 8 = .ok (.istore 5, 2) := by decide +kernel
theorem dX2_gatherOf_10 : decode cX2_gatherOf 10 = .ok (.iload 5, 2) := by decide +kernel
theorem dX2_gatherOf_12 : decode cX2_gatherOf 12 = .ok (.aload_n 0, 1) := by decide +kernel
theorem dX2_gatherOf_13 : decode cX2_gatherOf 13 = .ok (.getfield 35, 3) := by decide +kernel
theorem dX2_gatherOf_16 : decode cX2_gatherOf 16 = .ok (.if_icmp .ge 53, 3) := by decide +kernel
theorem dX2_gatherOf_19 : decode cX2_gatherOf 19 = .ok (.iload 4, 2) := by decide +kernel
theorem dX2_gatherOf_21 : decode cX2_gatherOf 21 = .ok (.bipush 9, 2) := by decide +kernel
theorem dX2_gatherOf_23 : decode cX2_gatherOf 23 = .ok (.if_icmp .ge 46, 3) := by decide +kernel
theorem dX2_gatherOf_26 : decode cX2_gatherOf 26 = .ok (.aload_n 1, 1) := by decide +kernel
theorem dX2_gatherOf_27 : decode cX2_gatherOf 27 = .ok (.getfield 40, 3) := by decide +kernel
theorem dX2_gatherOf_30 : decode cX2_gatherOf 30 = .ok (.iload 5, 2) := by decide +kernel
theorem dX2_gatherOf_32 : decode cX2_gatherOf 32 = .ok (.iaload, 1) := by decide +kernel
theorem dX2_gatherOf_33 : decode cX2_gatherOf 33 = .ok (.iload_n 2, 1) := by decide +kernel
theorem dX2_gatherOf_34 : decode cX2_gatherOf 34 = .ok (.if_icmp .ne 29, 3) := by decide +kernel
theorem dX2_gatherOf_37 : decode cX2_gatherOf 37 = .ok (.aload_n 1, 1) := by decide +kernel
theorem dX2_gatherOf_38 : decode cX2_gatherOf 38 = .ok (.getfield 45, 3) := by decide +kernel
theorem dX2_gatherOf_41 : decode cX2_gatherOf 41 = .ok (.aload_n 1, 1) := by decide +kernel
theorem dX2_gatherOf_42 : decode cX2_gatherOf 42 = .ok (.getfield 48, 3) := by decide +kernel
theorem dX2_gatherOf_45 : decode cX2_gatherOf 45 = .ok (.ior, 1) := by decide +kernel
theorem dX2_gatherOf_46 : decode cX2_gatherOf 46 = .ok (.iload 5, 2) := by decide +kernel
theorem dX2_gatherOf_48 : decode cX2_gatherOf 48 = .ok (.invokestatic 51, 3) := by decide +kernel
theorem dX2_gatherOf_51 : decode cX2_gatherOf 51 = .ok (.ifCond .ne 12, 3) := by decide +kernel
theorem dX2_gatherOf_54 : decode cX2_gatherOf 54 = .ok (.aload_n 3, 1) := by decide +kernel
theorem dX2_gatherOf_55 : decode cX2_gatherOf 55 = .ok (.iload 4, 2) := by decide +kernel
theorem dX2_gatherOf_57 : decode cX2_gatherOf 57 = .ok (.iload 5, 2) := by decide +kernel
theorem dX2_gatherOf_59 : decode cX2_gatherOf 59 = .ok (.iastore, 1) := by decide +kernel
theorem dX2_gatherOf_60 : decode cX2_gatherOf 60 = .ok (.iinc 4 1, 3) := by decide +kernel
theorem dX2_gatherOf_63 : decode cX2_gatherOf 63 = .ok (.iinc 5 1, 3) := by decide +kernel
theorem dX2_gatherOf_66 : decode cX2_gatherOf 66 = .ok (.goto (-56), 3) := by decide +kernel
theorem dX2_gatherOf_69 : decode cX2_gatherOf 69 = .ok (.iload 4, 2) := by decide +kernel
theorem dX2_gatherOf_71 : decode cX2_gatherOf 71 = .ok (.ireturn, 1) := by decide +kernel
theorem dX2_tryAll_0 : decode cX2_tryAll 0 = .ok (.aload_n 3, 1) := by decide +kernel
theorem dX2_tryAll_1 : decode cX2_tryAll 1 = .ok (.aload_n 2, 1) := by decide +kernel
theorem dX2_tryAll_2 : decode cX2_tryAll 2 = .ok (.invokevirtual 55, 3) := by decide +kernel
theorem dX2_tryAll_5 : decode cX2_tryAll 5 = .ok (.aload_n 2, 1) := by decide +kernel
theorem dX2_tryAll_6 : decode cX2_tryAll 6 = .ok (.getfield 59, 3) := by decide +kernel
theorem dX2_tryAll_9 : decode cX2_tryAll 9 = .ok (.bipush 7, 2) := by decide +kernel
theorem dX2_tryAll_11 : decode cX2_tryAll 11 = .ok (.iadd, 1) := by decide +kernel
theorem dX2_tryAll_12 : decode cX2_tryAll 12 = .ok (.bipush 12, 2) := by decide +kernel
theorem dX2_tryAll_14 : decode cX2_tryAll 14 = .ok (.irem, 1) := by decide +kernel
theorem dX2_tryAll_15 : decode cX2_tryAll 15 = .ok (.istore 4, 2) := by decide +kernel
theorem dX2_tryAll_17 : decode cX2_tryAll 17 = .ok (.iconst 0, 1) := by decide +kernel
theorem dX2_tryAll_18 : decode cX2_tryAll 18 = .ok (.istore 5, 2) := by decide +kernel
theorem dX2_tryAll_20 : decode cX2_tryAll 20 = .ok (.iload 5, 2) := by decide +kernel
theorem dX2_tryAll_22 : decode cX2_tryAll 22 = .ok (.aload_n 0, 1) := by decide +kernel
theorem dX2_tryAll_23 : decode cX2_tryAll 23 = .ok (.getfield 18, 3) := by decide +kernel
theorem dX2_tryAll_26 : decode cX2_tryAll 26 = .ok (.if_icmp .ge 126, 3) := by decide +kernel
theorem dX2_tryAll_29 : decode cX2_tryAll 29 = .ok (.iconst 0, 1) := by decide +kernel
theorem dX2_tryAll_30 : decode cX2_tryAll 30 = .ok (.istore 6, 2) := by decide +kernel
theorem dX2_tryAll_32 : decode cX2_tryAll 32 = .ok (.iload 6, 2) := by decide +kernel
theorem dX2_tryAll_34 : decode cX2_tryAll 34 = .ok (.aload_n 0, 1) := by decide +kernel
theorem dX2_tryAll_35 : decode cX2_tryAll 35 = .ok (.getfield 22, 3) := by decide +kernel
theorem dX2_tryAll_38 : decode cX2_tryAll 38 = .ok (.if_icmp .ge 108, 3) := by decide +kernel
theorem dX2_tryAll_41 : decode cX2_tryAll 41 = .ok (.aload_n 3, 1) := by decide +kernel
theorem dX2_tryAll_42 : decode cX2_tryAll 42 = .ok (.aload_n 2, 1) := by decide +kernel
theorem dX2_tryAll_43 : decode cX2_tryAll 43 = .ok (.invokevirtual 62, 3) := by decide +kernel
theorem dX2_tryAll_46 : decode cX2_tryAll 46 = .ok (.aload_n 3, 1) := by decide +kernel
theorem dX2_tryAll_47 : decode cX2_tryAll 47 = .ok (.dup, 1) := by decide +kernel
theorem dX2_tryAll_48 : decode cX2_tryAll 48 = .ok (.getfield 45, 3) := by decide +kernel
theorem dX2_tryAll_51 : decode cX2_tryAll 51 = .ok (.aload_n 0, 1) := by decide +kernel
theorem dX2_tryAll_52 : decode cX2_tryAll 52 = .ok (.getfield 11, 3) := by decide +kernel
theorem dX2_tryAll_55 : decode cX2_tryAll 55 = .ok (.iload 5, 2) := by decide +kernel
theorem dX2_tryAll_57 : decode cX2_tryAll 57 = .ok (.iaload, 1) := by decide +kernel
theorem dX2_tryAll_58 : decode cX2_tryAll 58 = .ok (.invokestatic 65, 3) := by decide +kernel
theorem dX2_tryAll_61 : decode cX2_tryAll 61 = .ok (.aload_n 0, 1) := by decide +kernel
theorem dX2_tryAll_62 : decode cX2_tryAll 62 = .ok (.getfield 15, 3) := by decide +kernel
theorem dX2_tryAll_65 : decode cX2_tryAll 65 = .ok (.iload 6, 2) := by decide +kernel
theorem dX2_tryAll_67 : decode cX2_tryAll 67 = .ok (.iaload, 1) := by decide +kernel
theorem dX2_tryAll_68 : decode cX2_tryAll 68 = .ok (.invokestatic 65, 3) := by decide +kernel
theorem dX2_tryAll_71 : decode cX2_tryAll 71 = .ok (.ior, 1) := by decide +kernel
theorem dX2_tryAll_72 : decode cX2_tryAll 72 = .ok (.ior, 1) := by decide +kernel
theorem dX2_tryAll_73 : decode cX2_tryAll 73 = .ok (.putfield 45, 3) := by decide +kernel
theorem dX2_tryAll_76 : decode cX2_tryAll 76 = .ok (.aload_n 3, 1) := by decide +kernel
theorem dX2_tryAll_77 : decode cX2_tryAll 77 = .ok (.aload_n 1, 1) := by decide +kernel
theorem dX2_tryAll_78 : decode cX2_tryAll 78 = .ok (.invokevirtual 69, 3) := by decide +kernel
theorem dX2_tryAll_81 : decode cX2_tryAll 81 = .ok (.aload_n 0, 1) := by decide +kernel
theorem dX2_tryAll_82 : decode cX2_tryAll 82 = .ok (.getfield 25, 3) := by decide +kernel
theorem dX2_tryAll_85 : decode cX2_tryAll 85 = .ok (.bipush 9, 2) := by decide +kernel
theorem dX2_tryAll_87 : decode cX2_tryAll 87 = .ok (.iload 5, 2) := by decide +kernel
theorem dX2_tryAll_89 : decode cX2_tryAll 89 = .ok (.imul, 1) := by decide +kernel
theorem dX2_tryAll_90 : decode cX2_tryAll 90 = .ok (.iload 6, 2) := by decide +kernel
theorem dX2_tryAll_92 : decode cX2_tryAll 92 = .ok (.iadd, 1) := by decide +kernel
theorem dX2_tryAll_93 : decode cX2_tryAll 93 = .ok (.aload_n 3, 1) := by decide +kernel
theorem dX2_tryAll_94 : decode cX2_tryAll 94 = .ok (.aload_n 2, 1) := by decide +kernel
theorem dX2_tryAll_95 : decode cX2_tryAll 95 = .ok (.getfield 59, 3) := by decide +kernel
theorem dX2_tryAll_98 : decode cX2_tryAll 98 = .ok (.aload_n 2, 1) := by decide +kernel
theorem dX2_tryAll_99 : decode cX2_tryAll 99 = .ok (.getfield 73, 3) := by decide +kernel
theorem dX2_tryAll_102 : decode cX2_tryAll 102 = .ok (.invokevirtual 76, 3) := by decide +kernel
theorem dX2_tryAll_105 : decode cX2_tryAll 105 = .ok (.aload_n 3, 1) := by decide +kernel
theorem dX2_tryAll_106 : decode cX2_tryAll 106 = .ok (.iload 4, 2) := by decide +kernel
theorem dX2_tryAll_108 : decode cX2_tryAll 108 = .ok (.aload_n 2, 1) := by decide +kernel
theorem dX2_tryAll_109 : decode cX2_tryAll 109 = .ok (.getfield 73, 3) := by decide +kernel
theorem dX2_tryAll_112 : decode cX2_tryAll 112 = .ok (.invokevirtual 76, 3) := by decide +kernel
theorem dX2_tryAll_115 : decode cX2_tryAll 115 = .ok (.iadd, 1) := by decide +kernel
theorem dX2_tryAll_116 : decode cX2_tryAll 116 = .ok (.iastore, 1) := by decide +kernel
theorem dX2_tryAll_117 : decode cX2_tryAll 117 = .ok (.aload_n 0, 1) := by decide +kernel
theorem dX2_tryAll_118 : decode cX2_tryAll 118 = .ok (.getfield 28, 3) := by decide +kernel
theorem dX2_tryAll_121 : decode cX2_tryAll 121 = .ok (.bipush 9, 2) := by decide +kernel
theorem dX2_tryAll_123 : decode cX2_tryAll 123 = .ok (.iload 5, 2) := by decide +kernel
theorem dX2_tryAll_125 : decode cX2_tryAll 125 = .ok (.imul, 1) := by decide +kernel
theorem dX2_tryAll_126 : decode cX2_tryAll 126 = .ok (.iload 6, 2) := by decide +kernel
theorem dX2_tryAll_128 : decode cX2_tryAll 128 = .ok (.iadd, 1) := by decide +kernel
theorem dX2_tryAll_129 : decode cX2_tryAll 129 = .ok (.aload_n 3, 1) := by decide +kernel
theorem dX2_tryAll_130 : decode cX2_tryAll 130 = .ok (.aload_n 2, 1) := by decide +kernel
theorem dX2_tryAll_131 : decode cX2_tryAll 131 = .ok (.getfield 73, 3) := by decide +kernel
theorem dX2_tryAll_134 : decode cX2_tryAll 134 = .ok (.bipush 6, 2) := by decide +kernel
theorem dX2_tryAll_136 : decode cX2_tryAll 136 = .ok (.invokevirtual 80, 3) := by decide +kernel
theorem dX2_tryAll_139 : decode cX2_tryAll 139 = .ok (.iastore, 1) := by decide +kernel
theorem dX2_tryAll_140 : decode cX2_tryAll 140 = .ok (.iinc 6 1, 3) := by decide +kernel
theorem dX2_tryAll_143 : decode cX2_tryAll 143 = .ok (.goto (-111), 3) := by decide +kernel
theorem dX2_tryAll_146 : decode cX2_tryAll 146 = .ok (.iinc 5 1, 3) := by decide +kernel
theorem dX2_tryAll_149 : decode cX2_tryAll 149 = .ok (.goto (-129), 3) := by decide +kernel
theorem dX2_tryAll_152 : decode cX2_tryAll 152 = .ok (.return_, 1) := by decide +kernel
theorem dX2_bit_0 : decode cX2_bit 0 = .ok (.iload_n 0, 1) := by decide +kernel
theorem dX2_bit_1 : decode cX2_bit 1 = .ok (.ifCond .lt 9, 3) := by decide +kernel
theorem dX2_bit_4 : decode cX2_bit 4 = .ok (.iconst 1, 1) := by decide +kernel
theorem dX2_bit_5 : decode cX2_bit 5 = .ok (.iload_n 0, 1) := by decide +kernel
theorem dX2_bit_6 : decode cX2_bit 6 = .ok (.ishl, 1) := by decide +kernel
theorem dX2_bit_7 : decode cX2_bit 7 = .ok (.goto 4, 3) := by decide +kernel
theorem dX2_bit_10 : decode cX2_bit 10 = .ok (.iconst 0, 1) := by decide +kernel
theorem dX2_bit_11 : decode cX2_bit 11 = .ok (.ireturn, 1) := by decide +kernel
theorem dX2_isResting_0 : decode cX2_isResting 0 = .ok (.aload_n 0, 1) := by decide +kernel
theorem dX2_isResting_1 : decode cX2_isResting 1 = .ok (.getfield 25, 3) := by decide +kernel
theorem dX2_isResting_4 : decode cX2_isResting 4 = .ok (.bipush 9, 2) := by decide +kernel
theorem dX2_isResting_6 : decode cX2_isResting 6 = .ok (.iload_n 1, 1) := by decide +kernel
theorem dX2_isResting_7 : decode cX2_isResting 7 = .ok (.imul, 1) := by decide +kernel
theorem dX2_isResting_8 : decode cX2_isResting 8 = .ok (.iload_n 2, 1) := by decide +kernel
theorem dX2_isResting_9 : decode cX2_isResting 9 = .ok (.iadd, 1) := by decide +kernel
theorem dX2_isResting_10 : decode cX2_isResting 10 = .ok (.iaload, 1) := by decide +kernel
theorem dX2_isResting_11 : decode cX2_isResting 11 = .ok (.istore_n 3, 1) := by decide +kernel
theorem dX2_isResting_12 : decode cX2_isResting 12 = .ok (.iconst 0, 1) := by decide +kernel
theorem dX2_isResting_13 : decode cX2_isResting 13 = .ok (.istore 4, 2) := by decide +kernel
theorem dX2_isResting_15 : decode cX2_isResting 15 = .ok (.iload 4, 2) := by decide +kernel
theorem dX2_isResting_17 : decode cX2_isResting 17 = .ok (.aload_n 0, 1) := by decide +kernel
theorem dX2_isResting_18 : decode cX2_isResting 18 = .ok (.getfield 18, 3) := by decide +kernel
theorem dX2_isResting_21 : decode cX2_isResting 21 = .ok (.if_icmp .ge 27, 3) := by decide +kernel
theorem dX2_isResting_24 : decode cX2_isResting 24 = .ok (.aload_n 0, 1) := by decide +kernel
theorem dX2_isResting_25 : decode cX2_isResting 25 = .ok (.getfield 25, 3) := by decide +kernel
theorem dX2_isResting_28 : decode cX2_isResting 28 = .ok (.bipush 9, 2) := by decide +kernel
theorem dX2_isResting_30 : decode cX2_isResting 30 = .ok (.iload 4, 2) := by decide +kernel
theorem dX2_isResting_32 : decode cX2_isResting 32 = .ok (.imul, 1) := by decide +kernel
theorem dX2_isResting_33 : decode cX2_isResting 33 = .ok (.iload_n 2, 1) := by decide +kernel
theorem dX2_isResting_34 : decode cX2_isResting 34 = .ok (.iadd, 1) := by decide +kernel
theorem dX2_isResting_35 : decode cX2_isResting 35 = .ok (.iaload, 1) := by decide +kernel
theorem dX2_isResting_36 : decode cX2_isResting 36 = .ok (.iload_n 3, 1) := by decide +kernel
theorem dX2_isResting_37 : decode cX2_isResting 37 = .ok (.if_icmp .le 5, 3) := by decide +kernel
theorem dX2_isResting_40 : decode cX2_isResting 40 = .ok (.iconst 0, 1) := by decide +kernel
theorem dX2_isResting_41 : decode cX2_isResting 41 = .ok (.ireturn, 1) := by decide +kernel
theorem dX2_isResting_42 : decode cX2_isResting 42 = .ok (.iinc 4 1, 3) := by decide +kernel
theorem dX2_isResting_45 : decode cX2_isResting 45 = .ok (.goto (-30), 3) := by decide +kernel
theorem dX2_isResting_48 : decode cX2_isResting 48 = .ok (.aload_n 0, 1) := by decide +kernel
theorem dX2_isResting_49 : decode cX2_isResting 49 = .ok (.getfield 28, 3) := by decide +kernel
theorem dX2_isResting_52 : decode cX2_isResting 52 = .ok (.bipush 9, 2) := by decide +kernel
theorem dX2_isResting_54 : decode cX2_isResting 54 = .ok (.iload_n 1, 1) := by decide +kernel
theorem dX2_isResting_55 : decode cX2_isResting 55 = .ok (.imul, 1) := by decide +kernel
theorem dX2_isResting_56 : decode cX2_isResting 56 = .ok (.iload_n 2, 1) := by decide +kernel
theorem dX2_isResting_57 : decode cX2_isResting 57 = .ok (.iadd, 1) := by decide +kernel
theorem dX2_isResting_58 : decode cX2_isResting 58 = .ok (.iaload, 1) := by decide +kernel
theorem dX2_isResting_59 : decode cX2_isResting 59 = .ok (.istore 4, 2) := by decide +kernel
theorem dX2_isResting_61 : decode cX2_isResting 61 = .ok (.iconst 0, 1) := by decide +kernel
theorem dX2_isResting_62 : decode cX2_isResting 62 = .ok (.istore 5, 2) := by decide +kernel
theorem dX2_isResting_64 : decode cX2_isResting 64 = .ok (.iload 5, 2) := by decide +kernel
theorem dX2_isResting_66 : decode cX2_isResting 66 = .ok (.aload_n 0, 1) := by decide +kernel
theorem dX2_isResting_67 : decode cX2_isResting 67 = .ok (.getfield 22, 3) := by decide +kernel
theorem dX2_isResting_70 : decode cX2_isResting 70 = .ok (.if_icmp .ge 28, 3) := by decide +kernel
theorem dX2_isResting_73 : decode cX2_isResting 73 = .ok (.aload_n 0, 1) := by decide +kernel
theorem dX2_isResting_74 : decode cX2_isResting 74 = .ok (.getfield 28, 3) := by decide +kernel
theorem dX2_isResting_77 : decode cX2_isResting 77 = .ok (.bipush 9, 2) := by decide +kernel
theorem dX2_isResting_79 : decode cX2_isResting 79 = .ok (.iload_n 1, 1) := by decide +kernel
theorem dX2_isResting_80 : decode cX2_isResting 80 = .ok (.imul, 1) := by decide +kernel
theorem dX2_isResting_81 : decode cX2_isResting 81 = .ok (.iload 5, 2) := by decide +kernel
theorem dX2_isResting_83 : decode cX2_isResting 83 = .ok (.iadd, 1) := by decide +kernel
theorem dX2_isResting_84 : decode cX2_isResting 84 = .ok (.iaload, 1) := by decide +kernel
theorem dX2_isResting_85 : decode cX2_isResting 85 = .ok (.iload 4, 2) := by decide +kernel
theorem dX2_isResting_87 : decode cX2_isResting 87 = .ok (.if_icmp .le 5, 3) := by decide +kernel
theorem dX2_isResting_90 : decode cX2_isResting 90 = .ok (.iconst 0, 1) := by decide +kernel
theorem dX2_isResting_91 : decode cX2_isResting 91 = .ok (.ireturn, 1) := by decide +kernel
theorem dX2_isResting_92 : decode cX2_isResting 92 = .ok (.iinc 5 1, 3) := by decide +kernel
theorem dX2_isResting_95 : decode cX2_isResting 95 = .ok (.goto (-31), 3) := by decide +kernel
theorem dX2_isResting_98 : decode cX2_isResting 98 = .ok (.iconst 1, 1) := by decide +kernel
theorem dX2_isResting_99 : decode cX2_isResting 99 = .ok (.ireturn, 1) := by decide +kernel
theorem dX2_resting_0 : decode cX2_resting 0 = .ok (.iconst 0, 1) := by decide +kernel
theorem dX2_resting_1 : decode cX2_resting 1 = .ok (.istore_n 1, 1) := by decide +kernel
theorem dX2_resting_2 : decode cX2_resting 2 = .ok (.iconst 0, 1) := by decide +kernel
theorem dX2_resting_3 : decode cX2_resting 3 = .ok (.istore_n 2, 1) := by decide +kernel
theorem dX2_resting_4 : decode cX2_resting 4 = .ok (.iload_n 2, 1) := by decide +kernel
theorem dX2_resting_5 : decode cX2_resting 5 = .ok (.aload_n 0, 1) := by decide +kernel
theorem dX2_resting_6 : decode cX2_resting 6 = .ok (.getfield 18, 3) := by decide +kernel
theorem dX2_resting_9 : decode cX2_resting 9 = .ok (.if_icmp .ge 37, 3) := by decide +kernel
theorem dX2_resting_12 : decode cX2_resting 12 = .ok (.iconst 0, 1) := by decide +kernel
theorem dX2_resting_13 : decode cX2_resting 13 = .ok (.istore_n 3, 1) := by decide +kernel
theorem dX2_resting_14 : decode cX2_resting 14 = .ok (.iload_n 3, 1) := by decide +kernel
theorem dX2_resting_15 : decode cX2_resting 15 = .ok (.aload_n 0, 1) := by decide +kernel
theorem dX2_resting_16 : decode cX2_resting 16 = .ok (.getfield 22, 3) := by decide +kernel
theorem dX2_resting_19 : decode cX2_resting 19 = .ok (.if_icmp .ge 21, 3) := by decide +kernel
theorem dX2_resting_22 : decode cX2_resting 22 = .ok (.aload_n 0, 1) := by decide +kernel
theorem dX2_resting_23 : decode cX2_resting 23 = .ok (.iload_n 2, 1) := by decide +kernel
theorem dX2_resting_24 : decode cX2_resting 24 = .ok (.iload_n 3, 1) := by decide +kernel
theorem dX2_resting_25 : decode cX2_resting 25 = .ok (.invokevirtual 83, 3) := by decide +kernel
theorem dX2_resting_28 : decode cX2_resting 28 = .ok (.ifCond .eq 6, 3) := by decide +kernel
theorem dX2_resting_31 : decode cX2_resting 31 = .ok (.iinc 1 1, 3) := by decide +kernel
theorem dX2_resting_34 : decode cX2_resting 34 = .ok (.iinc 3 1, 3) := by decide +kernel
theorem dX2_resting_37 : decode cX2_resting 37 = .ok (.goto (-23), 3) := by decide +kernel
theorem dX2_resting_40 : decode cX2_resting 40 = .ok (.iinc 2 1, 3) := by decide +kernel
theorem dX2_resting_43 : decode cX2_resting 43 = .ok (.goto (-39), 3) := by decide +kernel
theorem dX2_resting_46 : decode cX2_resting 46 = .ok (.iload_n 1, 1) := by decide +kernel
theorem dX2_resting_47 : decode cX2_resting 47 = .ok (.ireturn, 1) := by decide +kernel
theorem dX2_firstResting_0 : decode cX2_firstResting 0 = .ok (.iconst 0, 1) := by decide +kernel
theorem dX2_firstResting_1 : decode cX2_firstResting 1 = .ok (.istore_n 1, 1) := by decide +kernel
theorem dX2_firstResting_2 : decode cX2_firstResting 2 = .ok (.iload_n 1, 1) := by decide +kernel
theorem dX2_firstResting_3 : decode cX2_firstResting 3 = .ok (.aload_n 0, 1) := by decide +kernel
theorem dX2_firstResting_4 : decode cX2_firstResting 4 = .ok (.getfield 18, 3) := by decide +kernel
theorem dX2_firstResting_7 : decode cX2_firstResting 7 = .ok (.if_icmp .ge 55, 3) := by decide +kernel
theorem dX2_firstResting_10 : decode cX2_firstResting 10 = .ok (.iconst 0, 1) := by decide +kernel
theorem dX2_firstResting_11 : decode cX2_firstResting 11 = .ok (.istore_n 2, 1) := by decide +kernel
theorem dX2_firstResting_12 : decode cX2_firstResting 12 = .ok (.iload_n 2, 1) := by decide +kernel
theorem dX2_firstResting_13 : decode cX2_firstResting 13 = .ok (.aload_n 0, 1) := by decide +kernel
theorem dX2_firstResting_14 : decode cX2_firstResting 14 = .ok (.getfield 22, 3) := by decide +kernel
theorem dX2_firstResting_17 : decode cX2_firstResting 17 = .ok (.if_icmp .ge 39, 3) := by decide +kernel
theorem dX2_firstResting_20 : decode cX2_firstResting 20 = .ok (.aload_n 0, 1) := by decide +kernel
theorem dX2_firstResting_21 : decode cX2_firstResting 21 = .ok (.iload_n 1, 1) := by decide +kernel
theorem dX2_firstResting_22 : decode cX2_firstResting 22 = .ok (.iload_n 2, 1) := by decide +kernel
theorem dX2_firstResting_23 : decode cX2_firstResting 23 = .ok (.invokevirtual 83, 3) := by decide +kernel
theorem dX2_firstResting_26 : decode cX2_firstResting 26 = .ok (.ifCond .eq 24, 3) := by decide +kernel
theorem dX2_firstResting_29 : decode cX2_firstResting 29 = .ok (.bipush 10, 2) := by decide +kernel
theorem dX2_firstResting_31 : decode cX2_firstResting 31 = .ok (.aload_n 0, 1) := by decide +kernel
theorem dX2_firstResting_32 : decode cX2_firstResting 32 = .ok (.getfield 11, 3) := by decide +kernel
theorem dX2_firstResting_35 : decode cX2_firstResting 35 = .ok (.iload_n 1, 1) := by decide +kernel
theorem dX2_firstResting_36 : decode cX2_firstResting 36 = .ok (.iaload, 1) := by decide +kernel
theorem dX2_firstResting_37 : decode cX2_firstResting 37 = .ok (.iconst 1, 1) := by decide +kernel
theorem dX2_firstResting_38 : decode cX2_firstResting 38 = .ok (.iadd, 1) := by decide +kernel
theorem dX2_firstResting_39 : decode cX2_firstResting 39 = .ok (.imul, 1) := by decide +kernel
theorem dX2_firstResting_40 : decode cX2_firstResting 40 = .ok (.aload_n 0, 1) := by decide +kernel
theorem dX2_firstResting_41 : decode cX2_firstResting 41 = .ok (.getfield 15, 3) := by decide +kernel
theorem dX2_firstResting_44 : decode cX2_firstResting 44 = .ok (.iload_n 2, 1) := by decide +kernel
theorem dX2_firstResting_45 : decode cX2_firstResting 45 = .ok (.iaload, 1) := by decide +kernel
theorem dX2_firstResting_46 : decode cX2_firstResting 46 = .ok (.iadd, 1) := by decide +kernel
theorem dX2_firstResting_47 : decode cX2_firstResting 47 = .ok (.iconst 1, 1) := by decide +kernel
theorem dX2_firstResting_48 : decode cX2_firstResting 48 = .ok (.iadd, 1) := by decide +kernel
theorem dX2_firstResting_49 : decode cX2_firstResting 49 = .ok (.ireturn, 1) := by decide +kernel
theorem dX2_firstResting_50 : decode cX2_firstResting 50 = .ok (.iinc 2 1, 3) := by decide +kernel
theorem dX2_firstResting_53 : decode cX2_firstResting 53 = .ok (.goto (-41), 3) := by decide +kernel
theorem dX2_firstResting_56 : decode cX2_firstResting 56 = .ok (.iinc 1 1, 3) := by decide +kernel
theorem dX2_firstResting_59 : decode cX2_firstResting 59 = .ok (.goto (-57), 3) := by decide +kernel
theorem dX2_firstResting_62 : decode cX2_firstResting 62 = .ok (.iconst (-1), 1) := by decide +kernel
theorem dX2_firstResting_63 : decode cX2_firstResting 63 = .ok (.ireturn, 1) := by decide +kernel
theorem dX3_init_0 : decode cX3_init 0 = .ok (.aload_n 0, 1) := by decide +kernel
theorem dX3_init_1 : decode cX3_init 1 = .ok (.invokespecial 3, 3) := by decide +kernel
theorem dX3_init_4 : decode cX3_init 4 = .ok (.aload_n 0, 1) := by decide +kernel
theorem dX3_init_5 : decode cX3_init 5 = .ok (.bipush 8, 2) := by decide +kernel
theorem dX3_init_7 : decode cX3_init 7 = .ok (.newarray .int, 2) := by decide +kernel
theorem dX3_init_9 : decode cX3_init 9 = .ok (.putfield 9, 3) := by decide +kernel
theorem dX3_init_12 : decode cX3_init 12 = .ok (.aload_n 0, 1) := by decide +kernel
theorem dX3_init_13 : decode cX3_init 13 = .ok (.bipush 8, 2) := by decide +kernel
theorem dX3_init_15 : decode cX3_init 15 = .ok (.newarray .int, 2) := by decide +kernel
theorem dX3_init_17 : decode cX3_init 17 = .ok (.putfield 15, 3) := by decide +kernel
theorem dX3_init_20 : decode cX3_init 20 = .ok (.aload_n 0, 1) := by decide +kernel
theorem dX3_init_21 : decode cX3_init 21 = .ok (.iconst 0, 1) := by decide +kernel
theorem dX3_init_22 : decode cX3_init 22 = .ok (.putfield 18, 3) := by decide +kernel
theorem dX3_init_25 : decode cX3_init 25 = .ok (.return_, 1) := by decide +kernel
theorem dX3_add_0 : decode cX3_add 0 = .ok (.aload_n 0, 1) := by decide +kernel
theorem dX3_add_1 : decode cX3_add 1 = .ok (.getfield 18, 3) := by decide +kernel
theorem dX3_add_4 : decode cX3_add 4 = .ok (.bipush 8, 2) := by decide +kernel
theorem dX3_add_6 : decode cX3_add 6 = .ok (.if_icmp .ge 33, 3) := by decide +kernel
theorem dX3_add_9 : decode cX3_add 9 = .ok (.aload_n 0, 1) := by decide +kernel
theorem dX3_add_10 : decode cX3_add 10 = .ok (.getfield 9, 3) := by decide +kernel
theorem dX3_add_13 : decode cX3_add 13 = .ok (.aload_n 0, 1) := by decide +kernel
theorem dX3_add_14 : decode cX3_add 14 = .ok (.getfield 18, 3) := by decide +kernel
theorem dX3_add_17 : decode cX3_add 17 = .ok (.iload_n 1, 1) := by decide +kernel
theorem dX3_add_18 : decode cX3_add 18 = .ok (.iastore, 1) := by decide +kernel
theorem dX3_add_19 : decode cX3_add 19 = .ok (.aload_n 0, 1) := by decide +kernel
theorem dX3_add_20 : decode cX3_add 20 = .ok (.getfield 15, 3) := by decide +kernel
theorem dX3_add_23 : decode cX3_add 23 = .ok (.aload_n 0, 1) := by decide +kernel
theorem dX3_add_24 : decode cX3_add 24 = .ok (.getfield 18, 3) := by decide +kernel
theorem dX3_add_27 : decode cX3_add 27 = .ok (.iload_n 2, 1) := by decide +kernel
theorem dX3_add_28 : decode cX3_add 28 = .ok (.iastore, 1) := by decide +kernel
theorem dX3_add_29 : decode cX3_add 29 = .ok (.aload_n 0, 1) := by decide +kernel
theorem dX3_add_30 : decode cX3_add 30 = .ok (.dup, 1) := by decide +kernel
theorem dX3_add_31 : decode cX3_add 31 = .ok (.getfield 18, 3) := by decide +kernel
theorem dX3_add_34 : decode cX3_add 34 = .ok (.iconst 1, 1) := by decide +kernel
theorem dX3_add_35 : decode cX3_add 35 = .ok (.iadd, 1) := by decide +kernel
theorem dX3_add_36 : decode cX3_add 36 = .ok (.putfield 18, 3) := by decide +kernel
theorem dX3_add_39 : decode cX3_add 39 = .ok (.return_, 1) := by decide +kernel
theorem dX3_furthest_0 : decode cX3_furthest 0 = .ok (.iconst (-1), 1) := by decide +kernel
theorem dX3_furthest_1 : decode cX3_furthest 1 = .ok (.istore_n 1, 1) := by decide +kernel
theorem dX3_furthest_2 : decode cX3_furthest 2 = .ok (.iconst 0, 1) := by decide +kernel
theorem dX3_furthest_3 : decode cX3_furthest 3 = .ok (.istore_n 2, 1) := by decide +kernel
theorem dX3_furthest_4 : decode cX3_furthest 4 = .ok (.iload_n 2, 1) := by decide +kernel
theorem dX3_furthest_5 : decode cX3_furthest 5 = .ok (.aload_n 0, 1) := by decide +kernel
theorem dX3_furthest_6 : decode cX3_furthest 6 = .ok (.getfield 18, 3) := by decide +kernel
theorem dX3_furthest_9 : decode cX3_furthest 9 = .ok (.if_icmp .ge 20, 3) := by decide +kernel
theorem dX3_furthest_12 : decode cX3_furthest 12 = .ok (.iload_n 1, 1) := by decide +kernel
theorem dX3_furthest_13 : decode cX3_furthest 13 = .ok (.aload_n 0, 1) := by decide +kernel
theorem dX3_furthest_14 : decode cX3_furthest 14 = .ok (.getfield 9, 3) := by decide +kernel
theorem dX3_furthest_17 : decode cX3_furthest 17 = .ok (.iload_n 2, 1) := by decide +kernel
theorem dX3_furthest_18 : decode cX3_furthest 18 = .ok (.iaload, 1) := by decide +kernel
theorem dX3_furthest_19 : decode cX3_furthest 19 = .ok (.invokestatic 22, 3) := by decide +kernel
theorem dX3_furthest_22 : decode cX3_furthest 22 = .ok (.istore_n 1, 1) := by decide +kernel
theorem dX3_furthest_23 : decode cX3_furthest 23 = .ok (.iinc 2 1, 3) := by decide +kernel
theorem dX3_furthest_26 : decode cX3_furthest 26 = .ok (.goto (-22), 3) := by decide +kernel
theorem dX3_furthest_29 : decode cX3_furthest 29 = .ok (.iload_n 1, 1) := by decide +kernel
theorem dX3_furthest_30 : decode cX3_furthest 30 = .ok (.ireturn, 1) := by decide +kernel
theorem dX3_allIn_0 : decode cX3_allIn 0 = .ok (.iconst 0, 1) := by decide +kernel
theorem dX3_allIn_1 : decode cX3_allIn 1 = .ok (.istore_n 2, 1) := by decide +kernel
theorem dX3_allIn_2 : decode cX3_allIn 2 = .ok (.iload_n 2, 1) := by decide +kernel
theorem dX3_allIn_3 : decode cX3_allIn 3 = .ok (.aload_n 0, 1) := by decide +kernel
theorem dX3_allIn_4 : decode cX3_allIn 4 = .ok (.getfield 18, 3) := by decide +kernel
theorem dX3_allIn_7 : decode cX3_allIn 7 = .ok (.if_icmp .ge 44, 3) := by decide +kernel
theorem dX3_allIn_10 : decode cX3_allIn 10 = .ok (.aload_n 0, 1) := by decide +kernel
theorem dX3_allIn_11 : decode cX3_allIn 11 = .ok (.getfield 9, 3) := by decide +kernel
theorem dX3_allIn_14 : decode cX3_allIn 14 = .ok (.iload_n 2, 1) := by decide +kernel
theorem dX3_allIn_15 : decode cX3_allIn 15 = .ok (.iaload, 1) := by decide +kernel
theorem dX3_allIn_16 : decode cX3_allIn 16 = .ok (.aload_n 1, 1) := by decide +kernel
theorem dX3_allIn_17 : decode cX3_allIn 17 = .ok (.getfield 28, 3) := by decide +kernel
theorem dX3_allIn_20 : decode cX3_allIn 20 = .ok (.if_icmp .ge 23, 3) := by decide +kernel
theorem dX3_allIn_23 : decode cX3_allIn 23 = .ok (.aload_n 1, 1) := by decide +kernel
theorem dX3_allIn_24 : decode cX3_allIn 24 = .ok (.getfield 33, 3) := by decide +kernel
theorem dX3_allIn_27 : decode cX3_allIn 27 = .ok (.aload_n 0, 1) := by decide +kernel
theorem dX3_allIn_28 : decode cX3_allIn 28 = .ok (.getfield 9, 3) := by decide +kernel
theorem dX3_allIn_31 : decode cX3_allIn 31 = .ok (.iload_n 2, 1) := by decide +kernel
theorem dX3_allIn_32 : decode cX3_allIn 32 = .ok (.iaload, 1) := by decide +kernel
theorem dX3_allIn_33 : decode cX3_allIn 33 = .ok (.iaload, 1) := by decide +kernel
theorem dX3_allIn_34 : decode cX3_allIn 34 = .ok (.aload_n 0, 1) := by decide +kernel
theorem dX3_allIn_35 : decode cX3_allIn 35 = .ok (.getfield 15, 3) := by decide +kernel
theorem dX3_allIn_38 : decode cX3_allIn 38 = .ok (.iload_n 2, 1) := by decide +kernel
theorem dX3_allIn_39 : decode cX3_allIn 39 = .ok (.iaload, 1) := by decide +kernel
theorem dX3_allIn_40 : decode cX3_allIn 40 = .ok (.if_icmp .eq 5, 3) := by decide +kernel
theorem dX3_allIn_43 : decode cX3_allIn 43 = .ok (.iconst 0, 1) := by decide +kernel
theorem dX3_allIn_44 : decode cX3_allIn 44 = .ok (.ireturn, 1) := by decide +kernel
theorem dX3_allIn_45 : decode cX3_allIn 45 = .ok (.iinc 2 1, 3) := by decide +kernel
theorem dX3_allIn_48 : decode cX3_allIn 48 = .ok (.goto (-46), 3) := by decide +kernel
theorem dX3_allIn_51 : decode cX3_allIn 51 = .ok (.iconst 1, 1) := by decide +kernel
theorem dX3_allIn_52 : decode cX3_allIn 52 = .ok (.ireturn, 1) := by decide +kernel
theorem dX3_copy_0 : decode cX3_copy 0 = .ok (.aload_n 0, 1) := by decide +kernel
theorem dX3_copy_1 : decode cX3_copy 1 = .ok (.aload_n 1, 1) := by decide +kernel
theorem dX3_copy_2 : decode cX3_copy 2 = .ok (.getfield 18, 3) := by decide +kernel
theorem dX3_copy_5 : decode cX3_copy 5 = .ok (.putfield 18, 3) := by decide +kernel
theorem dX3_copy_8 : decode cX3_copy 8 = .ok (.aload_n 1, 1) := by decide +kernel
theorem dX3_copy_9 : decode cX3_copy 9 = .ok (.getfield 9, 3) := by decide +kernel
theorem dX3_copy_12 : decode cX3_copy 12 = .ok (.iconst 0, 1) := by decide +kernel
theorem dX3_copy_13 : decode cX3_copy 13 = .ok (.aload_n 0, 1) := by decide +kernel
theorem dX3_copy_14 : decode cX3_copy 14 = .ok (.getfield 9, 3) := by decide +kernel
theorem dX3_copy_17 : decode cX3_copy 17 = .ok (.iconst 0, 1) := by decide +kernel
theorem dX3_copy_18 : decode cX3_copy 18 = .ok (.aload_n 0, 1) := by decide +kernel
theorem dX3_copy_19 : decode cX3_copy 19 = .ok (.getfield 18, 3) := by decide +kernel
theorem dX3_copy_22 : decode cX3_copy 22 = .ok (.invokestatic 34, 3) := by decide +kernel
theorem dX3_copy_25 : decode cX3_copy 25 = .ok (.aload_n 1, 1) := by decide +kernel
theorem dX3_copy_26 : decode cX3_copy 26 = .ok (.getfield 15, 3) := by decide +kernel
theorem dX3_copy_29 : decode cX3_copy 29 = .ok (.iconst 0, 1) := by decide +kernel
theorem dX3_copy_30 : decode cX3_copy 30 = .ok (.aload_n 0, 1) := by decide +kernel
theorem dX3_copy_31 : decode cX3_copy 31 = .ok (.getfield 15, 3) := by decide +kernel
theorem dX3_copy_34 : decode cX3_copy 34 = .ok (.iconst 0, 1) := by decide +kernel
theorem dX3_copy_35 : decode cX3_copy 35 = .ok (.aload_n 0, 1) := by decide +kernel
theorem dX3_copy_36 : decode cX3_copy 36 = .ok (.getfield 18, 3) := by decide +kernel
theorem dX3_copy_39 : decode cX3_copy 39 = .ok (.invokestatic 34, 3) := by decide +kernel
theorem dX3_copy_42 : decode cX3_copy 42 = .ok (.return_, 1) := by decide +kernel
theorem dX4_init_0 : decode cX4_init 0 = .ok (.aload_n 0, 1) := by decide +kernel
theorem dX4_init_1 : decode cX4_init 1 = .ok (.invokespecial 3, 3) := by decide +kernel
theorem dX4_init_4 : decode cX4_init 4 = .ok (.aload_n 0, 1) := by decide +kernel
theorem dX4_init_5 : decode cX4_init 5 = .ok (.iconst 0, 1) := by decide +kernel
theorem dX4_init_6 : decode cX4_init 6 = .ok (.putfield 9, 3) := by decide +kernel
theorem dX4_init_9 : decode cX4_init 9 = .ok (.aload_n 0, 1) := by decide +kernel
theorem dX4_init_10 : decode cX4_init 10 = .ok (.new 15, 3) := by decide +kernel
theorem dX4_init_13 : decode cX4_init 13 = .ok (.dup, 1) := by decide +kernel
theorem dX4_init_14 : decode cX4_init 14 = .ok (.invokespecial 17, 3) := by decide +kernel
theorem dX4_init_17 : decode cX4_init 17 = .ok (.putfield 18, 3) := by decide +kernel
theorem dX4_init_20 : decode cX4_init 20 = .ok (.aload_n 0, 1) := by decide +kernel
theorem dX4_init_21 : decode cX4_init 21 = .ok (.new 22, 3) := by decide +kernel
theorem dX4_init_24 : decode cX4_init 24 = .ok (.dup, 1) := by decide +kernel
theorem dX4_init_25 : decode cX4_init 25 = .ok (.invokespecial 24, 3) := by decide +kernel
theorem dX4_init_28 : decode cX4_init 28 = .ok (.putfield 25, 3) := by decide +kernel
theorem dX4_init_31 : decode cX4_init 31 = .ok (.aload_n 0, 1) := by decide +kernel
theorem dX4_init_32 : decode cX4_init 32 = .ok (.new 29, 3) := by decide +kernel
theorem dX4_init_35 : decode cX4_init 35 = .ok (.dup, 1) := by decide +kernel
theorem dX4_init_36 : decode cX4_init 36 = .ok (.invokespecial 31, 3) := by decide +kernel
theorem dX4_init_39 : decode cX4_init 39 = .ok (.putfield 32, 3) := by decide +kernel
theorem dX4_init_42 : decode cX4_init 42 = .ok (.aload_n 0, 1) := by decide +kernel
theorem dX4_init_43 : decode cX4_init 43 = .ok (.iconst 3, 1) := by decide +kernel
theorem dX4_init_44 : decode cX4_init 44 = .ok (.newarray .int, 2) := by decide +kernel
theorem dX4_init_46 : decode cX4_init 46 = .ok (.putfield 36, 3) := by decide +kernel
theorem dX4_init_49 : decode cX4_init 49 = .ok (.return_, 1) := by decide +kernel
theorem dX5_init_0 : decode cX5_init 0 = .ok (.aload_n 0, 1) := by decide +kernel
theorem dX5_init_1 : decode cX5_init 1 = .ok (.invokespecial 3, 3) := by decide +kernel
theorem dX5_init_4 : decode cX5_init 4 = .ok (.aload_n 0, 1) := by decide +kernel
theorem dX5_init_5 : decode cX5_init 5 = .ok (.sipush 400, 3) := by decide +kernel
theorem dX5_init_8 : decode cX5_init 8 = .ok (.newarray .int, 2) := by decide +kernel
theorem dX5_init_10 : decode cX5_init 10 = .ok (.putfield 9, 3) := by decide +kernel
theorem dX5_init_13 : decode cX5_init 13 = .ok (.aload_n 0, 1) := by decide +kernel
theorem dX5_init_14 : decode cX5_init 14 = .ok (.sipush 400, 3) := by decide +kernel
theorem dX5_init_17 : decode cX5_init 17 = .ok (.newarray .int, 2) := by decide +kernel
theorem dX5_init_19 : decode cX5_init 19 = .ok (.putfield 15, 3) := by decide +kernel
theorem dX5_init_22 : decode cX5_init 22 = .ok (.aload_n 0, 1) := by decide +kernel
theorem dX5_init_23 : decode cX5_init 23 = .ok (.sipush 400, 3) := by decide +kernel
theorem dX5_init_26 : decode cX5_init 26 = .ok (.newarray .int, 2) := by decide +kernel
theorem dX5_init_28 : decode cX5_init 28 = .ok (.putfield 18, 3) := by decide +kernel
theorem dX5_init_31 : decode cX5_init 31 = .ok (.aload_n 0, 1) := by decide +kernel
theorem dX5_init_32 : decode cX5_init 32 = .ok (.iconst 0, 1) := by decide +kernel
theorem dX5_init_33 : decode cX5_init 33 = .ok (.putfield 21, 3) := by decide +kernel
theorem dX5_init_36 : decode cX5_init 36 = .ok (.aload_n 0, 1) := by decide +kernel
theorem dX5_init_37 : decode cX5_init 37 = .ok (.iconst 0, 1) := by decide +kernel
theorem dX5_init_38 : decode cX5_init 38 = .ok (.putfield 25, 3) := by decide +kernel
theorem dX5_init_41 : decode cX5_init 41 = .ok (.aload_n 0, 1) := by decide +kernel
theorem dX5_init_42 : decode cX5_init 42 = .ok (.iconst 0, 1) := by decide +kernel
theorem dX5_init_43 : decode cX5_init 43 = .ok (.putfield 28, 3) := by decide +kernel
theorem dX5_init_46 : decode cX5_init 46 = .ok (.aload_n 0, 1) := by decide +kernel
theorem dX5_init_47 : decode cX5_init 47 = .ok (.iconst 0, 1) := by decide +kernel
theorem dX5_init_48 : decode cX5_init 48 = .ok (.putfield 31, 3) := by decide +kernel
theorem dX5_init_51 : decode cX5_init 51 = .ok (.aload_n 0, 1) := by decide +kernel
theorem dX5_init_52 : decode cX5_init 52 = .ok (.iconst 0, 1) := by decide +kernel
theorem dX5_init_53 : decode cX5_init 53 = .ok (.putfield 34, 3) := by decide +kernel
theorem dX5_init_56 : decode cX5_init 56 = .ok (.aload_n 0, 1) := by decide +kernel
theorem dX5_init_57 : decode cX5_init 57 = .ok (.iconst 0, 1) := by decide +kernel
theorem dX5_init_58 : decode cX5_init 58 = .ok (.putfield 37, 3) := by decide +kernel
theorem dX5_init_61 : decode cX5_init 61 = .ok (.aload_n 0, 1) := by decide +kernel
theorem dX5_init_62 : decode cX5_init 62 = .ok (.iconst 0, 1) := by decide +kernel
theorem dX5_init_63 : decode cX5_init 63 = .ok (.putfield 40, 3) := by decide +kernel
theorem dX5_init_66 : decode cX5_init 66 = .ok (.aload_n 0, 1) := by decide +kernel
theorem dX5_init_67 : decode cX5_init 67 = .ok (.iconst (-1), 1) := by decide +kernel
theorem dX5_init_68 : decode cX5_init 68 = .ok (.putfield 43, 3) := by decide +kernel
theorem dX5_init_71 : decode cX5_init 71 = .ok (.aload_n 0, 1) := by decide +kernel
theorem dX5_init_72 : decode cX5_init 72 = .ok (.bipush 8, 2) := by decide +kernel
theorem dX5_init_74 : decode cX5_init 74 = .ok (.newarray .int, 2) := by decide +kernel
theorem dX5_init_76 : decode cX5_init 76 = .ok (.putfield 46, 3) := by decide +kernel
theorem dX5_init_79 : decode cX5_init 79 = .ok (.aload_n 0, 1) := by decide +kernel
theorem dX5_init_80 : decode cX5_init 80 = .ok (.bipush 8, 2) := by decide +kernel
theorem dX5_init_82 : decode cX5_init 82 = .ok (.newarray .int, 2) := by decide +kernel
theorem dX5_init_84 : decode cX5_init 84 = .ok (.putfield 49, 3) := by decide +kernel
theorem dX5_init_87 : decode cX5_init 87 = .ok (.aload_n 0, 1) := by decide +kernel
theorem dX5_init_88 : decode cX5_init 88 = .ok (.bipush 8, 2) := by decide +kernel
theorem dX5_init_90 : decode cX5_init 90 = .ok (.newarray .int, 2) := by decide +kernel
theorem dX5_init_92 : decode cX5_init 92 = .ok (.putfield 52, 3) := by decide +kernel
theorem dX5_init_95 : decode cX5_init 95 = .ok (.aload_n 0, 1) := by decide +kernel
theorem dX5_init_96 : decode cX5_init 96 = .ok (.new 55, 3) := by decide +kernel
theorem dX5_init_99 : decode cX5_init 99 = .ok (.dup, 1) := by decide +kernel
theorem dX5_init_100 : decode cX5_init 100 = .ok (.invokespecial 57, 3) := by decide +kernel
theorem dX5_init_103 : decode cX5_init 103 = .ok (.putfield 58, 3) := by decide +kernel
theorem dX5_init_106 : decode cX5_init 106 = .ok (.return_, 1) := by decide +kernel
theorem dX5_begin_0 : decode cX5_begin 0 = .ok (.aload_n 0, 1) := by decide +kernel
theorem dX5_begin_1 : decode cX5_begin 1 = .ok (.iconst 0, 1) := by decide +kernel
theorem dX5_begin_2 : decode cX5_begin 2 = .ok (.putfield 21, 3) := by decide +kernel
theorem dX5_begin_5 : decode cX5_begin 5 = .ok (.aload_n 0, 1) := by decide +kernel
theorem dX5_begin_6 : decode cX5_begin 6 = .ok (.iconst 0, 1) := by decide +kernel
theorem dX5_begin_7 : decode cX5_begin 7 = .ok (.putfield 25, 3) := by decide +kernel
theorem dX5_begin_10 : decode cX5_begin 10 = .ok (.aload_n 0, 1) := by decide +kernel
theorem dX5_begin_11 : decode cX5_begin 11 = .ok (.aload_n 1, 1) := by decide +kernel
theorem dX5_begin_12 : decode cX5_begin 12 = .ok (.getfield 62, 3) := by decide +kernel
theorem dX5_begin_15 : decode cX5_begin 15 = .ok (.putfield 28, 3) := by decide +kernel
theorem dX5_begin_18 : decode cX5_begin 18 = .ok (.aload_n 0, 1) := by decide +kernel
theorem dX5_begin_19 : decode cX5_begin 19 = .ok (.iconst 0, 1) := by decide +kernel
theorem dX5_begin_20 : decode cX5_begin 20 = .ok (.putfield 31, 3) := by decide +kernel
theorem dX5_begin_23 : decode cX5_begin 23 = .ok (.aload_n 0, 1) := by decide +kernel
theorem dX5_begin_24 : decode cX5_begin 24 = .ok (.iconst 0, 1) := by decide +kernel
theorem dX5_begin_25 : decode cX5_begin 25 = .ok (.putfield 34, 3) := by decide +kernel
theorem dX5_begin_28 : decode cX5_begin 28 = .ok (.aload_n 0, 1) := by decide +kernel
theorem dX5_begin_29 : decode cX5_begin 29 = .ok (.iconst 0, 1) := by decide +kernel
theorem dX5_begin_30 : decode cX5_begin 30 = .ok (.putfield 37, 3) := by decide +kernel
theorem dX5_begin_33 : decode cX5_begin 33 = .ok (.aload_n 0, 1) := by decide +kernel
theorem dX5_begin_34 : decode cX5_begin 34 = .ok (.iconst 0, 1) := by decide +kernel
theorem dX5_begin_35 : decode cX5_begin 35 = .ok (.putfield 40, 3) := by decide +kernel
theorem dX5_begin_38 : decode cX5_begin 38 = .ok (.aload_n 0, 1) := by decide +kernel
theorem dX5_begin_39 : decode cX5_begin 39 = .ok (.iconst (-1), 1) := by decide +kernel
theorem dX5_begin_40 : decode cX5_begin 40 = .ok (.putfield 43, 3) := by decide +kernel
theorem dX5_begin_43 : decode cX5_begin 43 = .ok (.iconst 0, 1) := by decide +kernel
theorem dX5_begin_44 : decode cX5_begin 44 = .ok (.istore_n 2, 1) := by decide +kernel
theorem dX5_begin_45 : decode cX5_begin 45 = .ok (.iload_n 2, 1) := by decide +kernel
theorem dX5_begin_46 : decode cX5_begin 46 = .ok (.bipush 8, 2) := by decide +kernel
theorem dX5_begin_48 : decode cX5_begin 48 = .ok (.if_icmp .ge 70, 3) := by decide +kernel
theorem dX5_begin_51 : decode cX5_begin 51 = .ok (.aload_n 0, 1) := by decide +kernel
theorem dX5_begin_52 : decode cX5_begin 52 = .ok (.getfield 46, 3) := by decide +kernel
theorem dX5_begin_55 : decode cX5_begin 55 = .ok (.iload_n 2, 1) := by decide +kernel
theorem dX5_begin_56 : decode cX5_begin 56 = .ok (.aload_n 1, 1) := by decide +kernel
theorem dX5_begin_57 : decode cX5_begin 57 = .ok (.getfield 65, 3) := by decide +kernel
theorem dX5_begin_60 : decode cX5_begin 60 = .ok (.iload_n 2, 1) := by decide +kernel
theorem dX5_begin_61 : decode cX5_begin 61 = .ok (.iaload, 1) := by decide +kernel
theorem dX5_begin_62 : decode cX5_begin 62 = .ok (.iastore, 1) := by decide +kernel
theorem dX5_begin_63 : decode cX5_begin 63 = .ok (.aload_n 0, 1) := by decide +kernel
theorem dX5_begin_64 : decode cX5_begin 64 = .ok (.getfield 49, 3) := by decide +kernel
theorem dX5_begin_67 : decode cX5_begin 67 = .ok (.iload_n 2, 1) := by decide +kernel
theorem dX5_begin_68 : decode cX5_begin 68 = .ok (.aload_n 1, 1) := by decide +kernel
theorem dX5_begin_69 : decode cX5_begin 69 = .ok (.getfield 66, 3) := by decide +kernel
theorem dX5_begin_72 : decode cX5_begin 72 = .ok (.iload_n 2, 1) := by decide +kernel
theorem dX5_begin_73 : decode cX5_begin 73 = .ok (.iaload, 1) := by decide +kernel
theorem dX5_begin_74 : decode cX5_begin 74 = .ok (.iastore, 1) := by decide +kernel
theorem dX5_begin_75 : decode cX5_begin 75 = .ok (.aload_n 0, 1) := by decide +kernel
theorem dX5_begin_76 : decode cX5_begin 76 = .ok (.getfield 52, 3) := by decide +kernel
theorem dX5_begin_79 : decode cX5_begin 79 = .ok (.iload_n 2, 1) := by decide +kernel
theorem dX5_begin_80 : decode cX5_begin 80 = .ok (.iconst 0, 1) := by decide +kernel
theorem dX5_begin_81 : decode cX5_begin 81 = .ok (.iastore, 1) := by decide +kernel
theorem dX5_begin_82 : decode cX5_begin 82 = .ok (.iload_n 2, 1) := by decide +kernel
theorem dX5_begin_83 : decode cX5_begin 83 = .ok (.aload_n 1, 1) := by decide +kernel
theorem dX5_begin_84 : decode cX5_begin 84 = .ok (.getfield 67, 3) := by decide +kernel
theorem dX5_begin_87 : decode cX5_begin 87 = .ok (.if_icmp .ge 25, 3) := by decide +kernel
theorem dX5_begin_90 : decode cX5_begin 90 = .ok (.aload_n 1, 1) := by decide +kernel
theorem dX5_begin_91 : decode cX5_begin 91 = .ok (.getfield 70, 3) := by decide +kernel
theorem dX5_begin_94 : decode cX5_begin 94 = .ok (.iload_n 2, 1) := by decide +kernel
theorem dX5_begin_95 : decode cX5_begin 95 = .ok (.iaload, 1) := by decide +kernel
theorem dX5_begin_96 : decode cX5_begin 96 = .ok (.iconst 3, 1) := by decide +kernel
theorem dX5_begin_97 : decode cX5_begin 97 = .ok (.if_icmp .ne 15, 3) := by decide +kernel
theorem dX5_begin_100 : decode cX5_begin 100 = .ok (.aload_n 0, 1) := by decide +kernel
theorem dX5_begin_101 : decode cX5_begin 101 = .ok (.dup, 1) := by decide +kernel
theorem dX5_begin_102 : decode cX5_begin 102 = .ok (.getfield 40, 3) := by decide +kernel
theorem dX5_begin_105 : decode cX5_begin 105 = .ok (.iconst 1, 1) := by decide +kernel
theorem dX5_begin_106 : decode cX5_begin 106 = .ok (.iload_n 2, 1) := by decide +kernel
theorem dX5_begin_107 : decode cX5_begin 107 = .ok (.ishl, 1) := by decide +kernel
theorem dX5_begin_108 : decode cX5_begin 108 = .ok (.ior, 1) := by decide +kernel
theorem dX5_begin_109 : decode cX5_begin 109 = .ok (.putfield 40, 3) := by decide +kernel
theorem dX5_begin_112 : decode cX5_begin 112 = .ok (.iinc 2 1, 3) := by decide +kernel
theorem dX5_begin_115 : decode cX5_begin 115 = .ok (.goto (-70), 3) := by decide +kernel
theorem dX5_begin_118 : decode cX5_begin 118 = .ok (.aload_n 0, 1) := by decide +kernel
theorem dX5_begin_119 : decode cX5_begin 119 = .ok (.getfield 58, 3) := by decide +kernel
theorem dX5_begin_122 : decode cX5_begin 122 = .ok (.aload_n 1, 1) := by decide +kernel
theorem dX5_begin_123 : decode cX5_begin 123 = .ok (.getfield 73, 3) := by decide +kernel
theorem dX5_begin_126 : decode cX5_begin 126 = .ok (.invokevirtual 74, 3) := by decide +kernel
theorem dX5_begin_129 : decode cX5_begin 129 = .ok (.return_, 1) := by decide +kernel
theorem dX5_copyTune_0 : decode cX5_copyTune 0 = .ok (.aload_n 1, 1) := by decide +kernel
theorem dX5_copyTune_1 : decode cX5_copyTune 1 = .ok (.getfield 9, 3) := by decide +kernel
theorem dX5_copyTune_4 : decode cX5_copyTune 4 = .ok (.iconst 0, 1) := by decide +kernel
theorem dX5_copyTune_5 : decode cX5_copyTune 5 = .ok (.aload_n 0, 1) := by decide +kernel
theorem dX5_copyTune_6 : decode cX5_copyTune 6 = .ok (.getfield 9, 3) := by decide +kernel
theorem dX5_copyTune_9 : decode cX5_copyTune 9 = .ok (.iconst 0, 1) := by decide +kernel
theorem dX5_copyTune_10 : decode cX5_copyTune 10 = .ok (.aload_n 1, 1) := by decide +kernel
theorem dX5_copyTune_11 : decode cX5_copyTune 11 = .ok (.getfield 21, 3) := by decide +kernel
theorem dX5_copyTune_14 : decode cX5_copyTune 14 = .ok (.invokestatic 78, 3) := by decide +kernel
theorem dX5_copyTune_17 : decode cX5_copyTune 17 = .ok (.aload_n 1, 1) := by decide +kernel
theorem dX5_copyTune_18 : decode cX5_copyTune 18 = .ok (.getfield 15, 3) := by decide +kernel
theorem dX5_copyTune_21 : decode cX5_copyTune 21 = .ok (.iconst 0, 1) := by decide +kernel
theorem dX5_copyTune_22 : decode cX5_copyTune 22 = .ok (.aload_n 0, 1) := by decide +kernel
theorem dX5_copyTune_23 : decode cX5_copyTune 23 = .ok (.getfield 15, 3) := by decide +kernel
theorem dX5_copyTune_26 : decode cX5_copyTune 26 = .ok (.iconst 0, 1) := by decide +kernel
theorem dX5_copyTune_27 : decode cX5_copyTune 27 = .ok (.aload_n 1, 1) := by decide +kernel
theorem dX5_copyTune_28 : decode cX5_copyTune 28 = .ok (.getfield 21, 3) := by decide +kernel
theorem dX5_copyTune_31 : decode cX5_copyTune 31 = .ok (.invokestatic 78, 3) := by decide +kernel
theorem dX5_copyTune_34 : decode cX5_copyTune 34 = .ok (.aload_n 1, 1) := by decide +kernel
theorem dX5_copyTune_35 : decode cX5_copyTune 35 = .ok (.getfield 18, 3) := by decide +kernel
theorem dX5_copyTune_38 : decode cX5_copyTune 38 = .ok (.iconst 0, 1) := by decide +kernel
theorem dX5_copyTune_39 : decode cX5_copyTune 39 = .ok (.aload_n 0, 1) := by decide +kernel
theorem dX5_copyTune_40 : decode cX5_copyTune 40 = .ok (.getfield 18, 3) := by decide +kernel
theorem dX5_copyTune_43 : decode cX5_copyTune 43 = .ok (.iconst 0, 1) := by decide +kernel
theorem dX5_copyTune_44 : decode cX5_copyTune 44 = .ok (.aload_n 1, 1) := by decide +kernel
theorem dX5_copyTune_45 : decode cX5_copyTune 45 = .ok (.getfield 21, 3) := by decide +kernel
theorem dX5_copyTune_48 : decode cX5_copyTune 48 = .ok (.invokestatic 78, 3) := by decide +kernel
theorem dX5_copyTune_51 : decode cX5_copyTune 51 = .ok (.return_, 1) := by decide +kernel
theorem dX5_copyRest_0 : decode cX5_copyRest 0 = .ok (.aload_n 0, 1) := by decide +kernel
theorem dX5_copyRest_1 : decode cX5_copyRest 1 = .ok (.aload_n 1, 1) := by decide +kernel
theorem dX5_copyRest_2 : decode cX5_copyRest 2 = .ok (.getfield 21, 3) := by decide +kernel
theorem dX5_copyRest_5 : decode cX5_copyRest 5 = .ok (.putfield 21, 3) := by decide +kernel
theorem dX5_copyRest_8 : decode cX5_copyRest 8 = .ok (.aload_n 0, 1) := by decide +kernel
theorem dX5_copyRest_9 : decode cX5_copyRest 9 = .ok (.aload_n 1, 1) := by decide +kernel
theorem dX5_copyRest_10 : decode cX5_copyRest 10 = .ok (.getfield 25, 3) := by decide +kernel
theorem dX5_copyRest_13 : decode cX5_copyRest 13 = .ok (.putfield 25, 3) := by decide +kernel
theorem dX5_copyRest_16 : decode cX5_copyRest 16 = .ok (.aload_n 0, 1) := by decide +kernel
theorem dX5_copyRest_17 : decode cX5_copyRest 17 = .ok (.aload_n 1, 1) := by decide +kernel
theorem dX5_copyRest_18 : decode cX5_copyRest 18 = .ok (.getfield 28, 3) := by decide +kernel
theorem dX5_copyRest_21 : decode cX5_copyRest 21 = .ok (.putfield 28, 3) := by decide +kernel
theorem dX5_copyRest_24 : decode cX5_copyRest 24 = .ok (.aload_n 0, 1) := by decide +kernel
theorem dX5_copyRest_25 : decode cX5_copyRest 25 = .ok (.aload_n 1, 1) := by decide +kernel
theorem dX5_copyRest_26 : decode cX5_copyRest 26 = .ok (.getfield 31, 3) := by decide +kernel
theorem dX5_copyRest_29 : decode cX5_copyRest 29 = .ok (.putfield 31, 3) := by decide +kernel
theorem dX5_copyRest_32 : decode cX5_copyRest 32 = .ok (.aload_n 0, 1) := by decide +kernel
theorem dX5_copyRest_33 : decode cX5_copyRest 33 = .ok (.aload_n 1, 1) := by decide +kernel
theorem dX5_copyRest_34 : decode cX5_copyRest 34 = .ok (.getfield 34, 3) := by decide +kernel
theorem dX5_copyRest_37 : decode cX5_copyRest 37 = .ok (.putfield 34, 3) := by decide +kernel
theorem dX5_copyRest_40 : decode cX5_copyRest 40 = .ok (.aload_n 0, 1) := by decide +kernel
theorem dX5_copyRest_41 : decode cX5_copyRest 41 = .ok (.aload_n 1, 1) := by decide +kernel
theorem dX5_copyRest_42 : decode cX5_copyRest 42 = .ok (.getfield 37, 3) := by decide +kernel
theorem dX5_copyRest_45 : decode cX5_copyRest 45 = .ok (.putfield 37, 3) := by decide +kernel
theorem dX5_copyRest_48 : decode cX5_copyRest 48 = .ok (.aload_n 0, 1) := by decide +kernel
theorem dX5_copyRest_49 : decode cX5_copyRest 49 = .ok (.aload_n 1, 1) := by decide +kernel
theorem dX5_copyRest_50 : decode cX5_copyRest 50 = .ok (.getfield 40, 3) := by decide +kernel
theorem dX5_copyRest_53 : decode cX5_copyRest 53 = .ok (.putfield 40, 3) := by decide +kernel
theorem dX5_copyRest_56 : decode cX5_copyRest 56 = .ok (.aload_n 0, 1) := by decide +kernel
theorem dX5_copyRest_57 : decode cX5_copyRest 57 = .ok (.aload_n 1, 1) := by decide +kernel
theorem dX5_copyRest_58 : decode cX5_copyRest 58 = .ok (.getfield 43, 3) := by decide +kernel
theorem dX5_copyRest_61 : decode cX5_copyRest 61 = .ok (.putfield 43, 3) := by decide +kernel
theorem dX5_copyRest_64 : decode cX5_copyRest 64 = .ok (.aload_n 1, 1) := by decide +kernel
theorem dX5_copyRest_65 : decode cX5_copyRest 65 = .ok (.getfield 46, 3) := by decide +kernel
theorem dX5_copyRest_68 : decode cX5_copyRest 68 = .ok (.iconst 0, 1) := by decide +kernel
theorem dX5_copyRest_69 : decode cX5_copyRest 69 = .ok (.aload_n 0, 1) := by decide +kernel
theorem dX5_copyRest_70 : decode cX5_copyRest 70 = .ok (.getfield 46, 3) := by decide +kernel
theorem dX5_copyRest_73 : decode cX5_copyRest 73 = .ok (.iconst 0, 1) := by decide +kernel
theorem dX5_copyRest_74 : decode cX5_copyRest 74 = .ok (.bipush 8, 2) := by decide +kernel
theorem dX5_copyRest_76 : decode cX5_copyRest 76 = .ok (.invokestatic 78, 3) := by decide +kernel
theorem dX5_copyRest_79 : decode cX5_copyRest 79 = .ok (.aload_n 1, 1) := by decide +kernel
theorem dX5_copyRest_80 : decode cX5_copyRest 80 = .ok (.getfield 49, 3) := by decide +kernel
theorem dX5_copyRest_83 : decode cX5_copyRest 83 = .ok (.iconst 0, 1) := by decide +kernel
theorem dX5_copyRest_84 : decode cX5_copyRest 84 = .ok (.aload_n 0, 1) := by decide +kernel
theorem dX5_copyRest_85 : decode cX5_copyRest 85 = .ok (.getfield 49, 3) := by decide +kernel
theorem dX5_copyRest_88 : decode cX5_copyRest 88 = .ok (.iconst 0, 1) := by decide +kernel
theorem dX5_copyRest_89 : decode cX5_copyRest 89 = .ok (.bipush 8, 2) := by decide +kernel
theorem dX5_copyRest_91 : decode cX5_copyRest 91 = .ok (.invokestatic 78, 3) := by decide +kernel
theorem dX5_copyRest_94 : decode cX5_copyRest 94 = .ok (.aload_n 1, 1) := by decide +kernel
theorem dX5_copyRest_95 : decode cX5_copyRest 95 = .ok (.getfield 52, 3) := by decide +kernel
theorem dX5_copyRest_98 : decode cX5_copyRest 98 = .ok (.iconst 0, 1) := by decide +kernel
theorem dX5_copyRest_99 : decode cX5_copyRest 99 = .ok (.aload_n 0, 1) := by decide +kernel
theorem dX5_copyRest_100 : decode cX5_copyRest 100 = .ok (.getfield 52, 3) := by decide +kernel
theorem dX5_copyRest_103 : decode cX5_copyRest 103 = .ok (.iconst 0, 1) := by decide +kernel
theorem dX5_copyRest_104 : decode cX5_copyRest 104 = .ok (.bipush 8, 2) := by decide +kernel
theorem dX5_copyRest_106 : decode cX5_copyRest 106 = .ok (.invokestatic 78, 3) := by decide +kernel
theorem dX5_copyRest_109 : decode cX5_copyRest 109 = .ok (.aload_n 0, 1) := by decide +kernel
theorem dX5_copyRest_110 : decode cX5_copyRest 110 = .ok (.getfield 58, 3) := by decide +kernel
theorem dX5_copyRest_113 : decode cX5_copyRest 113 = .ok (.aload_n 1, 1) := by decide +kernel
theorem dX5_copyRest_114 : decode cX5_copyRest 114 = .ok (.getfield 58, 3) := by decide +kernel
theorem dX5_copyRest_117 : decode cX5_copyRest 117 = .ok (.invokevirtual 74, 3) := by decide +kernel
theorem dX5_copyRest_120 : decode cX5_copyRest 120 = .ok (.return_, 1) := by decide +kernel
theorem dX5_passYear_0 : decode cX5_passYear 0 = .ok (.iconst 0, 1) := by decide +kernel
theorem dX5_passYear_1 : decode cX5_passYear 1 = .ok (.istore_n 2, 1) := by decide +kernel
theorem dX5_passYear_2 : decode cX5_passYear 2 = .ok (.iload_n 2, 1) := by decide +kernel
theorem dX5_passYear_3 : decode cX5_passYear 3 = .ok (.aload_n 1, 1) := by decide +kernel
theorem dX5_passYear_4 : decode cX5_passYear 4 = .ok (.getfield 67, 3) := by decide +kernel
theorem dX5_passYear_7 : decode cX5_passYear 7 = .ok (.if_icmp .ge 48, 3) := by decide +kernel
theorem dX5_passYear_10 : decode cX5_passYear 10 = .ok (.aload_n 0, 1) := by decide +kernel
theorem dX5_passYear_11 : decode cX5_passYear 11 = .ok (.getfield 21, 3) := by decide +kernel
theorem dX5_passYear_14 : decode cX5_passYear 14 = .ok (.sipush 400, 3) := by decide +kernel
theorem dX5_passYear_17 : decode cX5_passYear 17 = .ok (.if_icmp .ge 38, 3) := by decide +kernel
theorem dX5_passYear_20 : decode cX5_passYear 20 = .ok (.aload_n 1, 1) := by decide +kernel
theorem dX5_passYear_21 : decode cX5_passYear 21 = .ok (.getfield 84, 3) := by decide +kernel
theorem dX5_passYear_24 : decode cX5_passYear 24 = .ok (.iload_n 2, 1) := by decide +kernel
theorem dX5_passYear_25 : decode cX5_passYear 25 = .ok (.iaload, 1) := by decide +kernel
theorem dX5_passYear_26 : decode cX5_passYear 26 = .ok (.istore_n 3, 1) := by decide +kernel
theorem dX5_passYear_27 : decode cX5_passYear 27 = .ok (.aload_n 0, 1) := by decide +kernel
theorem dX5_passYear_28 : decode cX5_passYear 28 = .ok (.getfield 34, 3) := by decide +kernel
theorem dX5_passYear_31 : decode cX5_passYear 31 = .ok (.iload_n 3, 1) := by decide +kernel
theorem dX5_passYear_32 : decode cX5_passYear 32 = .ok (.invokestatic 87, 3) := by decide +kernel
theorem dX5_passYear_35 : decode cX5_passYear 35 = .ok (.ifCond .ne 14, 3) := by decide +kernel
theorem dX5_passYear_38 : decode cX5_passYear 38 = .ok (.aload_n 0, 1) := by decide +kernel
theorem dX5_passYear_39 : decode cX5_passYear 39 = .ok (.iload_n 3, 1) := by decide +kernel
theorem dX5_passYear_40 : decode cX5_passYear 40 = .ok (.aload_n 0, 1) := by decide +kernel
theorem dX5_passYear_41 : decode cX5_passYear 41 = .ok (.aload_n 1, 1) := by decide +kernel
theorem dX5_passYear_42 : decode cX5_passYear 42 = .ok (.iload_n 3, 1) := by decide +kernel
theorem dX5_passYear_43 : decode cX5_passYear 43 = .ok (.invokevirtual 91, 3) := by decide +kernel
theorem dX5_passYear_46 : decode cX5_passYear 46 = .ok (.invokevirtual 95, 3) := by decide +kernel
theorem dX5_passYear_49 : decode cX5_passYear 49 = .ok (.iinc 2 1, 3) := by decide +kernel
theorem dX5_passYear_52 : decode cX5_passYear 52 = .ok (.goto (-50), 3) := by decide +kernel
theorem dX5_passYear_55 : decode cX5_passYear 55 = .ok (.aload_n 0, 1) := by decide +kernel
theorem dX5_passYear_56 : decode cX5_passYear 56 = .ok (.dup, 1) := by decide +kernel
theorem dX5_passYear_57 : decode cX5_passYear 57 = .ok (.getfield 25, 3) := by decide +kernel
theorem dX5_passYear_60 : decode cX5_passYear 60 = .ok (.iconst 1, 1) := by decide +kernel
theorem dX5_passYear_61 : decode cX5_passYear 61 = .ok (.iadd, 1) := by decide +kernel
theorem dX5_passYear_62 : decode cX5_passYear 62 = .ok (.putfield 25, 3) := by decide +kernel
theorem dX5_passYear_65 : decode cX5_passYear 65 = .ok (.return_, 1) := by decide +kernel
theorem dX5_passYearsTo_0 : decode cX5_passYearsTo 0 = .ok (.iconst 0, 1) := by decide +kernel
theorem dX5_passYearsTo_1 : decode cX5_passYearsTo 1 = .ok (.istore_n 3, 1) := by decide +kernel
theorem dX5_passYearsTo_2 : decode cX5_passYearsTo 2 = .ok (.iload_n 3, 1) := by decide +kernel
theorem dX5_passYearsTo_3 : decode cX5_passYearsTo 3 = .ok (.bipush 20, 2) := by decide +kernel
theorem dX5_passYearsTo_5 : decode cX5_passYearsTo 5 = .ok (.if_icmp .ge 22, 3) := by decide +kernel
theorem dX5_passYearsTo_8 : decode cX5_passYearsTo 8 = .ok (.aload_n 0, 1) := by decide +kernel
theorem dX5_passYearsTo_9 : decode cX5_passYearsTo 9 = .ok (.getfield 21, 3) := by decide +kernel
theorem dX5_passYearsTo_12 : decode cX5_passYearsTo 12 = .ok (.iload_n 2, 1) := by decide +kernel
theorem dX5_passYearsTo_13 : decode cX5_passYearsTo 13 = .ok (.if_icmp .gt 14, 3) := by decide +kernel
theorem dX5_passYearsTo_16 : decode cX5_passYearsTo 16 = .ok (.aload_n 0, 1) := by decide +kernel
theorem dX5_passYearsTo_17 : decode cX5_passYearsTo 17 = .ok (.aload_n 1, 1) := by decide +kernel
theorem dX5_passYearsTo_18 : decode cX5_passYearsTo 18 = .ok (.invokevirtual 99, 3) := by decide +kernel
theorem dX5_passYearsTo_21 : decode cX5_passYearsTo 21 = .ok (.iinc 3 1, 3) := by decide +kernel
theorem dX5_passYearsTo_24 : decode cX5_passYearsTo 24 = .ok (.goto (-22), 3) := by decide +kernel
theorem dX5_passYearsTo_27 : decode cX5_passYearsTo 27 = .ok (.return_, 1) := by decide +kernel
theorem dX5_add_0 : decode cX5_add 0 = .ok (.aload_n 0, 1) := by decide +kernel
theorem dX5_add_1 : decode cX5_add 1 = .ok (.getfield 21, 3) := by decide +kernel
theorem dX5_add_4 : decode cX5_add 4 = .ok (.sipush 400, 3) := by decide +kernel
theorem dX5_add_7 : decode cX5_add 7 = .ok (.if_icmp .ge 74, 3) := by decide +kernel
theorem dX5_add_10 : decode cX5_add 10 = .ok (.aload_n 0, 1) := by decide +kernel
theorem dX5_add_11 : decode cX5_add 11 = .ok (.getfield 9, 3) := by decide +kernel
theorem dX5_add_14 : decode cX5_add 14 = .ok (.aload_n 0, 1) := by decide +kernel
theorem dX5_add_15 : decode cX5_add 15 = .ok (.getfield 21, 3) := by decide +kernel
theorem dX5_add_18 : decode cX5_add 18 = .ok (.iload_n 2, 1) := by decide +kernel
theorem dX5_add_19 : decode cX5_add 19 = .ok (.iastore, 1) := by decide +kernel
theorem dX5_add_20 : decode cX5_add 20 = .ok (.aload_n 0, 1) := by decide +kernel
theorem dX5_add_21 : decode cX5_add 21 = .ok (.getfield 15, 3) := by decide +kernel
theorem dX5_add_24 : decode cX5_add 24 = .ok (.aload_n 0, 1) := by decide +kernel
theorem dX5_add_25 : decode cX5_add 25 = .ok (.getfield 21, 3) := by decide +kernel
theorem dX5_add_28 : decode cX5_add 28 = .ok (.iload_n 1, 1) := by decide +kernel
theorem dX5_add_29 : decode cX5_add 29 = .ok (.iastore, 1) := by decide +kernel
theorem dX5_add_30 : decode cX5_add 30 = .ok (.aload_n 0, 1) := by decide +kernel
theorem dX5_add_31 : decode cX5_add 31 = .ok (.getfield 18, 3) := by decide +kernel
theorem dX5_add_34 : decode cX5_add 34 = .ok (.aload_n 0, 1) := by decide +kernel
theorem dX5_add_35 : decode cX5_add 35 = .ok (.getfield 21, 3) := by decide +kernel
theorem dX5_add_38 : decode cX5_add 38 = .ok (.aload_n 0, 1) := by decide +kernel
theorem dX5_add_39 : decode cX5_add 39 = .ok (.getfield 25, 3) := by decide +kernel
theorem dX5_add_42 : decode cX5_add 42 = .ok (.iastore, 1) := by decide +kernel
theorem dX5_add_43 : decode cX5_add 43 = .ok (.aload_n 0, 1) := by decide +kernel
theorem dX5_add_44 : decode cX5_add 44 = .ok (.dup, 1) := by decide +kernel
theorem dX5_add_45 : decode cX5_add 45 = .ok (.getfield 21, 3) := by decide +kernel
theorem dX5_add_48 : decode cX5_add 48 = .ok (.iconst 1, 1) := by decide +kernel
theorem dX5_add_49 : decode cX5_add 49 = .ok (.iadd, 1) := by decide +kernel
theorem dX5_add_50 : decode cX5_add 50 = .ok (.putfield 21, 3) := by decide +kernel
theorem dX5_add_53 : decode cX5_add 53 = .ok (.aload_n 0, 1) := by decide +kernel
theorem dX5_add_54 : decode cX5_add 54 = .ok (.getfield 52, 3) := by decide +kernel
theorem dX5_add_57 : decode cX5_add 57 = .ok (.iload_n 1, 1) := by decide +kernel
theorem dX5_add_58 : decode cX5_add 58 = .ok (.dup2, 1) := by decide +kernel
theorem dX5_add_59 : decode cX5_add 59 = .ok (.iaload, 1) := by decide +kernel
theorem dX5_add_60 : decode cX5_add 60 = .ok (.iconst 1, 1) := by decide +kernel
theorem dX5_add_61 : decode cX5_add 61 = .ok (.iadd, 1) := by decide +kernel
theorem dX5_add_62 : decode cX5_add 62 = .ok (.iastore, 1) := by decide +kernel
theorem dX5_add_63 : decode cX5_add 63 = .ok (.aload_n 0, 1) := by decide +kernel
theorem dX5_add_64 : decode cX5_add 64 = .ok (.iload_n 2, 1) := by decide +kernel
theorem dX5_add_65 : decode cX5_add 65 = .ok (.bipush 12, 2) := by decide +kernel
theorem dX5_add_67 : decode cX5_add 67 = .ok (.if_icmp .ne 10, 3) := by decide +kernel
theorem dX5_add_70 : decode cX5_add 70 = .ok (.aload_n 0, 1) := by decide +kernel
theorem dX5_add_71 : decode cX5_add 71 = .ok (.getfield 43, 3) := by decide +kernel
theorem dX5_add_74 : decode cX5_add 74 = .ok (.goto 4, 3) := by decide +kernel
theorem dX5_add_77 : decode cX5_add 77 = .ok (.iload_n 2, 1) := by decide +kernel
theorem dX5_add_78 : decode cX5_add 78 = .ok (.putfield 43, 3) := by decide +kernel
theorem dX5_add_81 : decode cX5_add 81 = .ok (.return_, 1) := by decide +kernel
theorem dX5_nextSign_0 : decode cX5_nextSign 0 = .ok (.aload_n 0, 1) := by decide +kernel
theorem dX5_nextSign_1 : decode cX5_nextSign 1 = .ok (.getfield 31, 3) := by decide +kernel
theorem dX5_nextSign_4 : decode cX5_nextSign 4 = .ok (.iload_n 2, 1) := by decide +kernel
theorem dX5_nextSign_5 : decode cX5_nextSign 5 = .ok (.invokestatic 87, 3) := by decide +kernel
theorem dX5_nextSign_8 : decode cX5_nextSign 8 = .ok (.ifCond .eq 6, 3) := by decide +kernel
theorem dX5_nextSign_11 : decode cX5_nextSign 11 = .ok (.bipush 12, 2) := by decide +kernel
theorem dX5_nextSign_13 : decode cX5_nextSign 13 = .ok (.ireturn, 1) := by decide +kernel
theorem dX5_nextSign_14 : decode cX5_nextSign 14 = .ok (.aload_n 0, 1) := by decide +kernel
theorem dX5_nextSign_15 : decode cX5_nextSign 15 = .ok (.getfield 21, 3) := by decide +kernel
theorem dX5_nextSign_18 : decode cX5_nextSign 18 = .ok (.ifCond .le 51, 3) := by decide +kernel
theorem dX5_nextSign_21 : decode cX5_nextSign 21 = .ok (.aload_n 0, 1) := by decide +kernel
theorem dX5_nextSign_22 : decode cX5_nextSign 22 = .ok (.getfield 9, 3) := by decide +kernel
theorem dX5_nextSign_25 : decode cX5_nextSign 25 = .ok (.aload_n 0, 1) := by decide +kernel
theorem dX5_nextSign_26 : decode cX5_nextSign 26 = .ok (.getfield 21, 3) := by decide +kernel
theorem dX5_nextSign_29 : decode cX5_nextSign 29 = .ok (.iconst 1, 1) := by decide +kernel
theorem dX5_nextSign_30 : decode cX5_nextSign 30 = .ok (.isub, 1) := by decide +kernel
theorem dX5_nextSign_31 : decode cX5_nextSign 31 = .ok (.iaload, 1) := by decide +kernel
theorem dX5_nextSign_32 : decode cX5_nextSign 32 = .ok (.istore_n 3, 1) := by decide +kernel
theorem dX5_nextSign_33 : decode cX5_nextSign 33 = .ok (.iload_n 3, 1) := by decide +kernel
theorem dX5_nextSign_34 : decode cX5_nextSign 34 = .ok (.bipush 12, 2) := by decide +kernel
theorem dX5_nextSign_36 : decode cX5_nextSign 36 = .ok (.if_icmp .eq 33, 3) := by decide +kernel
theorem dX5_nextSign_39 : decode cX5_nextSign 39 = .ok (.aload_n 0, 1) := by decide +kernel
theorem dX5_nextSign_40 : decode cX5_nextSign 40 = .ok (.getfield 58, 3) := by decide +kernel
theorem dX5_nextSign_43 : decode cX5_nextSign 43 = .ok (.iload_n 2, 1) := by decide +kernel
theorem dX5_nextSign_44 : decode cX5_nextSign 44 = .ok (.aload_n 0, 1) := by decide +kernel
theorem dX5_nextSign_45 : decode cX5_nextSign 45 = .ok (.getfield 15, 3) := by decide +kernel
theorem dX5_nextSign_48 : decode cX5_nextSign 48 = .ok (.aload_n 0, 1) := by decide +kernel
theorem dX5_nextSign_49 : decode cX5_nextSign 49 = .ok (.getfield 21, 3) := by decide +kernel
theorem dX5_nextSign_52 : decode cX5_nextSign 52 = .ok (.iconst 1, 1) := by decide +kernel
theorem dX5_nextSign_53 : decode cX5_nextSign 53 = .ok (.isub, 1) := by decide +kernel
theorem dX5_nextSign_54 : decode cX5_nextSign 54 = .ok (.iaload, 1) := by decide +kernel
theorem dX5_nextSign_55 : decode cX5_nextSign 55 = .ok (.invokevirtual 103, 3) := by decide +kernel
theorem dX5_nextSign_58 : decode cX5_nextSign 58 = .ok (.ifCond .eq 11, 3) := by decide +kernel
theorem dX5_nextSign_61 : decode cX5_nextSign 61 = .ok (.iload_n 3, 1) := by decide +kernel
theorem dX5_nextSign_62 : decode cX5_nextSign 62 = .ok (.bipush 6, 2) := by decide +kernel
theorem dX5_nextSign_64 : decode cX5_nextSign 64 = .ok (.iadd, 1) := by decide +kernel
theorem dX5_nextSign_65 : decode cX5_nextSign 65 = .ok (.bipush 12, 2) := by decide +kernel
theorem dX5_nextSign_67 : decode cX5_nextSign 67 = .ok (.irem, 1) := by decide +kernel
theorem dX5_nextSign_68 : decode cX5_nextSign 68 = .ok (.ireturn, 1) := by decide +kernel
theorem dX5_nextSign_69 : decode cX5_nextSign 69 = .ok (.aload_n 0, 1) := by decide +kernel
theorem dX5_nextSign_70 : decode cX5_nextSign 70 = .ok (.getfield 49, 3) := by decide +kernel
theorem dX5_nextSign_73 : decode cX5_nextSign 73 = .ok (.iload_n 2, 1) := by decide +kernel
theorem dX5_nextSign_74 : decode cX5_nextSign 74 = .ok (.iaload, 1) := by decide +kernel
theorem dX5_nextSign_75 : decode cX5_nextSign 75 = .ok (.istore_n 3, 1) := by decide +kernel
theorem dX5_nextSign_76 : decode cX5_nextSign 76 = .ok (.aload_n 1, 1) := by decide +kernel
theorem dX5_nextSign_77 : decode cX5_nextSign 77 = .ok (.getfield 70, 3) := by decide +kernel
theorem dX5_nextSign_80 : decode cX5_nextSign 80 = .ok (.iload_n 2, 1) := by decide +kernel
theorem dX5_nextSign_81 : decode cX5_nextSign 81 = .ok (.iaload, 1) := by decide +kernel
theorem dX5_nextSign_82 : decode cX5_nextSign 82 = .ok (.iconst 2, 1) := by decide +kernel
theorem dX5_nextSign_83 : decode cX5_nextSign 83 = .ok (.if_icmp .eq 33, 3) := by decide +kernel
theorem dX5_nextSign_86 : decode cX5_nextSign 86 = .ok (.aload_n 1, 1) := by decide +kernel
theorem dX5_nextSign_87 : decode cX5_nextSign 87 = .ok (.getfield 106, 3) := by decide +kernel
theorem dX5_nextSign_90 : decode cX5_nextSign 90 = .ok (.getfield 110, 3) := by decide +kernel
theorem dX5_nextSign_93 : decode cX5_nextSign 93 = .ok (.ifCond .ne 12, 3) := by decide +kernel
theorem dX5_nextSign_96 : decode cX5_nextSign 96 = .ok (.iload_n 3, 1) := by decide +kernel
theorem dX5_nextSign_97 : decode cX5_nextSign 97 = .ok (.aload_n 0, 1) := by decide +kernel
theorem dX5_nextSign_98 : decode cX5_nextSign 98 = .ok (.getfield 28, 3) := by decide +kernel
theorem dX5_nextSign_101 : decode cX5_nextSign 101 = .ok (.iadd, 1) := by decide +kernel
theorem dX5_nextSign_102 : decode cX5_nextSign 102 = .ok (.goto 13, 3) := by decide +kernel
theorem dX5_nextSign_105 : decode cX5_nextSign 105 = .ok (.aload_n 1, 1) := by decide +kernel
theorem dX5_nextSign_106 : decode cX5_nextSign 106 = .ok (.getfield 106, 3) := by decide +kernel
theorem dX5_nextSign_109 : decode cX5_nextSign 109 = .ok (.aload_n 1, 1) := by decide +kernel
theorem dX5_nextSign_110 : decode cX5_nextSign 110 = .ok (.aload_n 0, 1) := by decide +kernel
theorem dX5_nextSign_111 : decode cX5_nextSign 111 = .ok (.iload_n 2, 1) := by decide +kernel
theorem dX5_nextSign_112 : decode cX5_nextSign 112 = .ok (.invokevirtual 115, 3) := by decide +kernel
theorem dX5_nextSign_115 : decode cX5_nextSign 115 = .ok (.istore_n 3, 1) := by decide +kernel
theorem dX5_nextSign_116 : decode cX5_nextSign 116 = .ok (.iload_n 3, 1) := by decide +kernel
theorem dX5_nextSign_117 : decode cX5_nextSign 117 = .ok (.bipush 12, 2) := by decide +kernel
theorem dX5_nextSign_119 : decode cX5_nextSign 119 = .ok (.invokestatic 119, 3) := by decide +kernel
theorem dX5_nextSign_122 : decode cX5_nextSign 122 = .ok (.istore_n 3, 1) := by decide +kernel
theorem dX5_nextSign_123 : decode cX5_nextSign 123 = .ok (.aload_n 1, 1) := by decide +kernel
theorem dX5_nextSign_124 : decode cX5_nextSign 124 = .ok (.getfield 70, 3) := by decide +kernel
theorem dX5_nextSign_127 : decode cX5_nextSign 127 = .ok (.iload_n 2, 1) := by decide +kernel
theorem dX5_nextSign_128 : decode cX5_nextSign 128 = .ok (.iaload, 1) := by decide +kernel
theorem dX5_nextSign_129 : decode cX5_nextSign 129 = .ok (.iconst 1, 1) := by decide +kernel
theorem dX5_nextSign_130 : decode cX5_nextSign 130 = .ok (.if_icmp .ne 6, 3) := by decide +kernel
theorem dX5_nextSign_133 : decode cX5_nextSign 133 = .ok (.iinc 3 7, 3) := by decide +kernel
theorem dX5_nextSign_136 : decode cX5_nextSign 136 = .ok (.aload_n 0, 1) := by decide +kernel
theorem dX5_nextSign_137 : decode cX5_nextSign 137 = .ok (.getfield 40, 3) := by decide +kernel
theorem dX5_nextSign_140 : decode cX5_nextSign 140 = .ok (.iload_n 2, 1) := by decide +kernel
theorem dX5_nextSign_141 : decode cX5_nextSign 141 = .ok (.invokestatic 87, 3) := by decide +kernel
theorem dX5_nextSign_144 : decode cX5_nextSign 144 = .ok (.ifCond .eq 6, 3) := by decide +kernel
theorem dX5_nextSign_147 : decode cX5_nextSign 147 = .ok (.iinc 3 11, 3) := by decide +kernel
theorem dX5_nextSign_150 : decode cX5_nextSign 150 = .ok (.iload_n 3, 1) := by decide +kernel
theorem dX5_nextSign_151 : decode cX5_nextSign 151 = .ok (.bipush 12, 2) := by decide +kernel
theorem dX5_nextSign_153 : decode cX5_nextSign 153 = .ok (.irem, 1) := by decide +kernel
theorem dX5_nextSign_154 : decode cX5_nextSign 154 = .ok (.ireturn, 1) := by decide +kernel
theorem dX5_valueOf_0 : decode cX5_valueOf 0 = .ok (.iload_n 1, 1) := by decide +kernel
theorem dX5_valueOf_1 : decode cX5_valueOf 1 = .ok (.tableswitch 101 110 116 #[43, 48, 53, 60, 80, 87, 94], 43) := by decide +kernel
theorem dX5_valueOf_44 : decode cX5_valueOf 44 = .ok (.aload_n 0, 1) := by decide +kernel
theorem dX5_valueOf_45 : decode cX5_valueOf 45 = .ok (.getfield 28, 3) := by decide +kernel
theorem dX5_valueOf_48 : decode cX5_valueOf 48 = .ok (.ireturn, 1) := by decide +kernel
theorem dX5_valueOf_49 : decode cX5_valueOf 49 = .ok (.aload_n 0, 1) := by decide +kernel
theorem dX5_valueOf_50 : decode cX5_valueOf 50 = .ok (.getfield 25, 3) := by decide +kernel
theorem dX5_valueOf_53 : decode cX5_valueOf 53 = .ok (.ireturn, 1) := by decide +kernel
theorem dX5_valueOf_54 : decode cX5_valueOf 54 = .ok (.aload_n 0, 1) := by decide +kernel
theorem dX5_valueOf_55 : decode cX5_valueOf 55 = .ok (.getfield 49, 3) := by decide +kernel
theorem dX5_valueOf_58 : decode cX5_valueOf 58 = .ok (.iload_n 3, 1) := by decide +kernel
theorem dX5_valueOf_59 : decode cX5_valueOf 59 = .ok (.iaload, 1) := by decide +kernel
theorem dX5_valueOf_60 : decode cX5_valueOf 60 = .ok (.ireturn, 1) := by decide +kernel
theorem dX5_valueOf_61 : decode cX5_valueOf 61 = .ok (.aload_n 0, 1) := by decide +kernel
theorem dX5_valueOf_62 : decode cX5_valueOf 62 = .ok (.getfield 43, 3) := by decide +kernel
theorem dX5_valueOf_65 : decode cX5_valueOf 65 = .ok (.iconst (-1), 1) := by decide +kernel
theorem dX5_valueOf_66 : decode cX5_valueOf 66 = .ok (.if_icmp .ne 10, 3) := by decide +kernel
theorem dX5_valueOf_69 : decode cX5_valueOf 69 = .ok (.aload_n 0, 1) := by decide +kernel
theorem dX5_valueOf_70 : decode cX5_valueOf 70 = .ok (.getfield 28, 3) := by decide +kernel
theorem dX5_valueOf_73 : decode cX5_valueOf 73 = .ok (.goto 7, 3) := by decide +kernel
theorem dX5_valueOf_76 : decode cX5_valueOf 76 = .ok (.aload_n 0, 1) := by decide +kernel
theorem dX5_valueOf_77 : decode cX5_valueOf 77 = .ok (.getfield 43, 3) := by decide +kernel
theorem dX5_valueOf_80 : decode cX5_valueOf 80 = .ok (.ireturn, 1) := by decide +kernel
theorem dX5_valueOf_81 : decode cX5_valueOf 81 = .ok (.aload_n 0, 1) := by decide +kernel
theorem dX5_valueOf_82 : decode cX5_valueOf 82 = .ok (.getfield 46, 3) := by decide +kernel
theorem dX5_valueOf_85 : decode cX5_valueOf 85 = .ok (.iload_n 3, 1) := by decide +kernel
theorem dX5_valueOf_86 : decode cX5_valueOf 86 = .ok (.iaload, 1) := by decide +kernel
theorem dX5_valueOf_87 : decode cX5_valueOf 87 = .ok (.ireturn, 1) := by decide +kernel
theorem dX5_valueOf_88 : decode cX5_valueOf 88 = .ok (.aload_n 2, 1) := by decide +kernel
theorem dX5_valueOf_89 : decode cX5_valueOf 89 = .ok (.getfield 70, 3) := by decide +kernel
theorem dX5_valueOf_92 : decode cX5_valueOf 92 = .ok (.iload_n 3, 1) := by decide +kernel
theorem dX5_valueOf_93 : decode cX5_valueOf 93 = .ok (.iaload, 1) := by decide +kernel
theorem dX5_valueOf_94 : decode cX5_valueOf 94 = .ok (.ireturn, 1) := by decide +kernel
theorem dX5_valueOf_95 : decode cX5_valueOf 95 = .ok (.aload_n 0, 1) := by decide +kernel
theorem dX5_valueOf_96 : decode cX5_valueOf 96 = .ok (.getfield 52, 3) := by decide +kernel
theorem dX5_valueOf_99 : decode cX5_valueOf 99 = .ok (.iload_n 3, 1) := by decide +kernel
theorem dX5_valueOf_100 : decode cX5_valueOf 100 = .ok (.iaload, 1) := by decide +kernel
theorem dX5_valueOf_101 : decode cX5_valueOf 101 = .ok (.ireturn, 1) := by decide +kernel
theorem dX5_valueOf_102 : decode cX5_valueOf 102 = .ok (.iconst 0, 1) := by decide +kernel
theorem dX5_valueOf_103 : decode cX5_valueOf 103 = .ok (.ireturn, 1) := by decide +kernel
theorem dX5_mayMarry_0 : decode cX5_mayMarry 0 = .ok (.aload_n 0, 1) := by decide +kernel
theorem dX5_mayMarry_1 : decode cX5_mayMarry 1 = .ok (.getfield 31, 3) := by decide +kernel
theorem dX5_mayMarry_4 : decode cX5_mayMarry 4 = .ok (.aload_n 0, 1) := by decide +kernel
theorem dX5_mayMarry_5 : decode cX5_mayMarry 5 = .ok (.getfield 34, 3) := by decide +kernel
theorem dX5_mayMarry_8 : decode cX5_mayMarry 8 = .ok (.ior, 1) := by decide +kernel
theorem dX5_mayMarry_9 : decode cX5_mayMarry 9 = .ok (.aload_n 0, 1) := by decide +kernel
theorem dX5_mayMarry_10 : decode cX5_mayMarry 10 = .ok (.getfield 37, 3) := by decide +kernel
theorem dX5_mayMarry_13 : decode cX5_mayMarry 13 = .ok (.ior, 1) := by decide +kernel
theorem dX5_mayMarry_14 : decode cX5_mayMarry 14 = .ok (.istore_n 3, 1) := by decide +kernel
theorem dX5_mayMarry_15 : decode cX5_mayMarry 15 = .ok (.iload_n 3, 1) := by decide +kernel
theorem dX5_mayMarry_16 : decode cX5_mayMarry 16 = .ok (.iload_n 1, 1) := by decide +kernel
theorem dX5_mayMarry_17 : decode cX5_mayMarry 17 = .ok (.invokestatic 87, 3) := by decide +kernel
theorem dX5_mayMarry_20 : decode cX5_mayMarry 20 = .ok (.ifCond .ne 30, 3) := by decide +kernel
theorem dX5_mayMarry_23 : decode cX5_mayMarry 23 = .ok (.iload_n 3, 1) := by decide +kernel
theorem dX5_mayMarry_24 : decode cX5_mayMarry 24 = .ok (.iload_n 2, 1) := by decide +kernel
theorem dX5_mayMarry_25 : decode cX5_mayMarry 25 = .ok (.invokestatic 87, 3) := by decide +kernel
theorem dX5_mayMarry_28 : decode cX5_mayMarry 28 = .ok (.ifCond .ne 22, 3) := by decide +kernel
theorem dX5_mayMarry_31 : decode cX5_mayMarry 31 = .ok (.aload_n 0, 1) := by decide +kernel
theorem dX5_mayMarry_32 : decode cX5_mayMarry 32 = .ok (.getfield 46, 3) := by decide +kernel
theorem dX5_mayMarry_35 : decode cX5_mayMarry 35 = .ok (.iload_n 1, 1) := by decide +kernel
theorem dX5_mayMarry_36 : decode cX5_mayMarry 36 = .ok (.iaload, 1) := by decide +kernel
theorem dX5_mayMarry_37 : decode cX5_mayMarry 37 = .ok (.aload_n 0, 1) := by decide +kernel
theorem dX5_mayMarry_38 : decode cX5_mayMarry 38 = .ok (.getfield 46, 3) := by decide +kernel
theorem dX5_mayMarry_41 : decode cX5_mayMarry 41 = .ok (.iload_n 2, 1) := by decide +kernel
theorem dX5_mayMarry_42 : decode cX5_mayMarry 42 = .ok (.iaload, 1) := by decide +kernel
theorem dX5_mayMarry_43 : decode cX5_mayMarry 43 = .ok (.if_icmp .eq 7, 3) := by decide +kernel
theorem dX5_mayMarry_46 : decode cX5_mayMarry 46 = .ok (.iconst 1, 1) := by decide +kernel
theorem dX5_mayMarry_47 : decode cX5_mayMarry 47 = .ok (.goto 4, 3) := by decide +kernel
theorem dX5_mayMarry_50 : decode cX5_mayMarry 50 = .ok (.iconst 0, 1) := by decide +kernel
theorem dX5_mayMarry_51 : decode cX5_mayMarry 51 = .ok (.ireturn, 1) := by decide +kernel
theorem dX5_wed_0 : decode cX5_wed 0 = .ok (.aload_n 0, 1) := by decide +kernel
theorem dX5_wed_1 : decode cX5_wed 1 = .ok (.aload_n 0, 1) := by decide +kernel
theorem dX5_wed_2 : decode cX5_wed 2 = .ok (.getfield 28, 3) := by decide +kernel
theorem dX5_wed_5 : decode cX5_wed 5 = .ok (.bipush 7, 2) := by decide +kernel
theorem dX5_wed_7 : decode cX5_wed 7 = .ok (.iadd, 1) := by decide +kernel
theorem dX5_wed_8 : decode cX5_wed 8 = .ok (.bipush 12, 2) := by decide +kernel
theorem dX5_wed_10 : decode cX5_wed 10 = .ok (.irem, 1) := by decide +kernel
theorem dX5_wed_11 : decode cX5_wed 11 = .ok (.putfield 28, 3) := by decide +kernel
theorem dX5_wed_14 : decode cX5_wed 14 = .ok (.aload_n 0, 1) := by decide +kernel
theorem dX5_wed_15 : decode cX5_wed 15 = .ok (.getfield 46, 3) := by decide +kernel
theorem dX5_wed_18 : decode cX5_wed 18 = .ok (.iload_n 2, 1) := by decide +kernel
theorem dX5_wed_19 : decode cX5_wed 19 = .ok (.aload_n 0, 1) := by decide +kernel
theorem dX5_wed_20 : decode cX5_wed 20 = .ok (.getfield 46, 3) := by decide +kernel
theorem dX5_wed_23 : decode cX5_wed 23 = .ok (.iload_n 1, 1) := by decide +kernel
theorem dX5_wed_24 : decode cX5_wed 24 = .ok (.iaload, 1) := by decide +kernel
theorem dX5_wed_25 : decode cX5_wed 25 = .ok (.iastore, 1) := by decide +kernel
theorem dX5_wed_26 : decode cX5_wed 26 = .ok (.aload_n 0, 1) := by decide +kernel
theorem dX5_wed_27 : decode cX5_wed 27 = .ok (.dup, 1) := by decide +kernel
theorem dX5_wed_28 : decode cX5_wed 28 = .ok (.getfield 37, 3) := by decide +kernel
theorem dX5_wed_31 : decode cX5_wed 31 = .ok (.iconst 1, 1) := by decide +kernel
theorem dX5_wed_32 : decode cX5_wed 32 = .ok (.iload_n 1, 1) := by decide +kernel
theorem dX5_wed_33 : decode cX5_wed 33 = .ok (.ishl, 1) := by decide +kernel
theorem dX5_wed_34 : decode cX5_wed 34 = .ok (.iconst 1, 1) := by decide +kernel
theorem dX5_wed_35 : decode cX5_wed 35 = .ok (.iload_n 2, 1) := by decide +kernel
theorem dX5_wed_36 : decode cX5_wed 36 = .ok (.ishl, 1) := by decide +kernel
theorem dX5_wed_37 : decode cX5_wed 37 = .ok (.ior, 1) := by decide +kernel
theorem dX5_wed_38 : decode cX5_wed 38 = .ok (.ior, 1) := by decide +kernel
theorem dX5_wed_39 : decode cX5_wed 39 = .ok (.putfield 37, 3) := by decide +kernel
theorem dX5_wed_42 : decode cX5_wed 42 = .ok (.return_, 1) := by decide +kernel
theorem dX5_part_0 : decode cX5_part 0 = .ok (.aload_n 0, 1) := by decide +kernel
theorem dX5_part_1 : decode cX5_part 1 = .ok (.aload_n 0, 1) := by decide +kernel
theorem dX5_part_2 : decode cX5_part 2 = .ok (.getfield 28, 3) := by decide +kernel
theorem dX5_part_5 : decode cX5_part 5 = .ok (.bipush 12, 2) := by decide +kernel
theorem dX5_part_7 : decode cX5_part 7 = .ok (.iadd, 1) := by decide +kernel
theorem dX5_part_8 : decode cX5_part 8 = .ok (.bipush 7, 2) := by decide +kernel
theorem dX5_part_10 : decode cX5_part 10 = .ok (.isub, 1) := by decide +kernel
theorem dX5_part_11 : decode cX5_part 11 = .ok (.bipush 12, 2) := by decide +kernel
theorem dX5_part_13 : decode cX5_part 13 = .ok (.irem, 1) := by decide +kernel
theorem dX5_part_14 : decode cX5_part 14 = .ok (.putfield 28, 3) := by decide +kernel
theorem dX5_part_17 : decode cX5_part 17 = .ok (.aload_n 0, 1) := by decide +kernel
theorem dX5_part_18 : decode cX5_part 18 = .ok (.getfield 46, 3) := by decide +kernel
theorem dX5_part_21 : decode cX5_part 21 = .ok (.iload_n 2, 1) := by decide +kernel
theorem dX5_part_22 : decode cX5_part 22 = .ok (.iload_n 3, 1) := by decide +kernel
theorem dX5_part_23 : decode cX5_part 23 = .ok (.iastore, 1) := by decide +kernel
theorem dX5_part_24 : decode cX5_part 24 = .ok (.aload_n 0, 1) := by decide +kernel
theorem dX5_part_25 : decode cX5_part 25 = .ok (.dup, 1) := by decide +kernel
theorem dX5_part_26 : decode cX5_part 26 = .ok (.getfield 37, 3) := by decide +kernel
theorem dX5_part_29 : decode cX5_part 29 = .ok (.iconst 1, 1) := by decide +kernel
theorem dX5_part_30 : decode cX5_part 30 = .ok (.iload_n 1, 1) := by decide +kernel
theorem dX5_part_31 : decode cX5_part 31 = .ok (.ishl, 1) := by decide +kernel
theorem dX5_part_32 : decode cX5_part 32 = .ok (.iconst 1, 1) := by decide +kernel
theorem dX5_part_33 : decode cX5_part 33 = .ok (.iload_n 2, 1) := by decide +kernel
theorem dX5_part_34 : decode cX5_part 34 = .ok (.ishl, 1) := by decide +kernel
theorem dX5_part_35 : decode cX5_part 35 = .ok (.ior, 1) := by decide +kernel
theorem dX5_part_36 : decode cX5_part 36 = .ok (.iconst (-1), 1) := by decide +kernel
theorem dX5_part_37 : decode cX5_part 37 = .ok (.ixor, 1) := by decide +kernel
theorem dX5_part_38 : decode cX5_part 38 = .ok (.iand, 1) := by decide +kernel
theorem dX5_part_39 : decode cX5_part 39 = .ok (.putfield 37, 3) := by decide +kernel
theorem dX5_part_42 : decode cX5_part 42 = .ok (.return_, 1) := by decide +kernel
theorem dX5_befall_0 : decode cX5_befall 0 = .ok (.aload_n 0, 1) := by decide +kernel
theorem dX5_befall_1 : decode cX5_befall 1 = .ok (.getfield 34, 3) := by decide +kernel
theorem dX5_befall_4 : decode cX5_befall 4 = .ok (.iload_n 1, 1) := by decide +kernel
theorem dX5_befall_5 : decode cX5_befall 5 = .ok (.invokestatic 87, 3) := by decide +kernel
theorem dX5_befall_8 : decode cX5_befall 8 = .ok (.ifCond .eq 4, 3) := by decide +kernel
theorem dX5_befall_11 : decode cX5_befall 11 = .ok (.return_, 1) := by decide +kernel
theorem dX5_befall_12 : decode cX5_befall 12 = .ok (.iload_n 2, 1) := by decide +kernel
theorem dX5_befall_13 : decode cX5_befall 13 = .ok (.tableswitch 77 0 2 #[27, 42, 57], 27) := by decide +kernel
theorem dX5_befall_40 : decode cX5_befall 40 = .ok (.aload_n 0, 1) := by decide +kernel
theorem dX5_befall_41 : decode cX5_befall 41 = .ok (.dup, 1) := by decide +kernel
theorem dX5_befall_42 : decode cX5_befall 42 = .ok (.getfield 31, 3) := by decide +kernel
theorem dX5_befall_45 : decode cX5_befall 45 = .ok (.iconst 1, 1) := by decide +kernel
theorem dX5_befall_46 : decode cX5_befall 46 = .ok (.iload_n 1, 1) := by decide +kernel
theorem dX5_befall_47 : decode cX5_befall 47 = .ok (.ishl, 1) := by decide +kernel
theorem dX5_befall_48 : decode cX5_befall 48 = .ok (.ixor, 1) := by decide +kernel
theorem dX5_befall_49 : decode cX5_befall 49 = .ok (.putfield 31, 3) := by decide +kernel
theorem dX5_befall_52 : decode cX5_befall 52 = .ok (.goto 38, 3) := by decide +kernel
theorem dX5_befall_55 : decode cX5_befall 55 = .ok (.aload_n 0, 1) := by decide +kernel
theorem dX5_befall_56 : decode cX5_befall 56 = .ok (.dup, 1) := by decide +kernel
theorem dX5_befall_57 : decode cX5_befall 57 = .ok (.getfield 34, 3) := by decide +kernel
theorem dX5_befall_60 : decode cX5_befall 60 = .ok (.iconst 1, 1) := by decide +kernel
theorem dX5_befall_61 : decode cX5_befall 61 = .ok (.iload_n 1, 1) := by decide +kernel
theorem dX5_befall_62 : decode cX5_befall 62 = .ok (.ishl, 1) := by decide +kernel
theorem dX5_befall_63 : decode cX5_befall 63 = .ok (.ior, 1) := by decide +kernel
theorem dX5_befall_64 : decode cX5_befall 64 = .ok (.putfield 34, 3) := by decide +kernel
theorem dX5_befall_67 : decode cX5_befall 67 = .ok (.goto 23, 3) := by decide +kernel
theorem dX5_befall_70 : decode cX5_befall 70 = .ok (.aload_n 0, 1) := by decide +kernel
theorem dX5_befall_71 : decode cX5_befall 71 = .ok (.getfield 49, 3) := by decide +kernel
theorem dX5_befall_74 : decode cX5_befall 74 = .ok (.iload_n 1, 1) := by decide +kernel
theorem dX5_befall_75 : decode cX5_befall 75 = .ok (.aload_n 0, 1) := by decide +kernel
theorem dX5_befall_76 : decode cX5_befall 76 = .ok (.getfield 49, 3) := by decide +kernel
theorem dX5_befall_79 : decode cX5_befall 79 = .ok (.iload_n 1, 1) := by decide +kernel
theorem dX5_befall_80 : decode cX5_befall 80 = .ok (.iaload, 1) := by decide +kernel
theorem dX5_befall_81 : decode cX5_befall 81 = .ok (.iconst 1, 1) := by decide +kernel
theorem dX5_befall_82 : decode cX5_befall 82 = .ok (.iadd, 1) := by decide +kernel
theorem dX5_befall_83 : decode cX5_befall 83 = .ok (.bipush 12, 2) := by decide +kernel
theorem dX5_befall_85 : decode cX5_befall 85 = .ok (.irem, 1) := by decide +kernel
theorem dX5_befall_86 : decode cX5_befall 86 = .ok (.iastore, 1) := by decide +kernel
theorem dX5_befall_87 : decode cX5_befall 87 = .ok (.goto 3, 3) := by decide +kernel
theorem dX5_befall_90 : decode cX5_befall 90 = .ok (.return_, 1) := by decide +kernel
theorem dX5_takeBack_0 : decode cX5_takeBack 0 = .ok (.aload_n 1, 1) := by decide +kernel
theorem dX5_takeBack_1 : decode cX5_takeBack 1 = .ok (.iload_n 2, 1) := by decide +kernel
theorem dX5_takeBack_2 : decode cX5_takeBack 2 = .ok (.invokevirtual 125, 3) := by decide +kernel
theorem dX5_takeBack_5 : decode cX5_takeBack 5 = .ok (.istore_n 3, 1) := by decide +kernel
theorem dX5_takeBack_6 : decode cX5_takeBack 6 = .ok (.aload_n 1, 1) := by decide +kernel
theorem dX5_takeBack_7 : decode cX5_takeBack 7 = .ok (.iload_n 2, 1) := by decide +kernel
theorem dX5_takeBack_8 : decode cX5_takeBack 8 = .ok (.invokevirtual 131, 3) := by decide +kernel
theorem dX5_takeBack_11 : decode cX5_takeBack 11 = .ok (.istore 4, 2) := by decide +kernel
theorem dX5_takeBack_13 : decode cX5_takeBack 13 = .ok (.aload_n 1, 1) := by decide +kernel
theorem dX5_takeBack_14 : decode cX5_takeBack 14 = .ok (.iload_n 2, 1) := by decide +kernel
theorem dX5_takeBack_15 : decode cX5_takeBack 15 = .ok (.invokevirtual 134, 3) := by decide +kernel
theorem dX5_takeBack_18 : decode cX5_takeBack 18 = .ok (.tableswitch 130 0 5 #[38, 48, 63, 78, 93, 112], 38) := by decide +kernel
theorem dX5_takeBack_56 : decode cX5_takeBack 56 = .ok (.aload_n 0, 1) := by decide +kernel
theorem dX5_takeBack_57 : decode cX5_takeBack 57 = .ok (.iload_n 3, 1) := by decide +kernel
theorem dX5_takeBack_58 : decode cX5_takeBack 58 = .ok (.iload 4, 2) := by decide +kernel
theorem dX5_takeBack_60 : decode cX5_takeBack 60 = .ok (.invokevirtual 136, 3) := by decide +kernel
theorem dX5_takeBack_63 : decode cX5_takeBack 63 = .ok (.goto 85, 3) := by decide +kernel
theorem dX5_takeBack_66 : decode cX5_takeBack 66 = .ok (.aload_n 0, 1) := by decide +kernel
theorem dX5_takeBack_67 : decode cX5_takeBack 67 = .ok (.dup, 1) := by decide +kernel
theorem dX5_takeBack_68 : decode cX5_takeBack 68 = .ok (.getfield 31, 3) := by decide +kernel
theorem dX5_takeBack_71 : decode cX5_takeBack 71 = .ok (.iconst 1, 1) := by decide +kernel
theorem dX5_takeBack_72 : decode cX5_takeBack 72 = .ok (.iload_n 3, 1) := by decide +kernel
theorem dX5_takeBack_73 : decode cX5_takeBack 73 = .ok (.ishl, 1) := by decide +kernel
theorem dX5_takeBack_74 : decode cX5_takeBack 74 = .ok (.ixor, 1) := by decide +kernel
theorem dX5_takeBack_75 : decode cX5_takeBack 75 = .ok (.putfield 31, 3) := by decide +kernel
theorem dX5_takeBack_78 : decode cX5_takeBack 78 = .ok (.goto 70, 3) := by decide +kernel
theorem dX5_takeBack_81 : decode cX5_takeBack 81 = .ok (.aload_n 0, 1) := by decide +kernel
theorem dX5_takeBack_82 : decode cX5_takeBack 82 = .ok (.dup, 1) := by decide +kernel
theorem dX5_takeBack_83 : decode cX5_takeBack 83 = .ok (.getfield 34, 3) := by decide +kernel
theorem dX5_takeBack_86 : decode cX5_takeBack 86 = .ok (.iconst 1, 1) := by decide +kernel
theorem dX5_takeBack_87 : decode cX5_takeBack 87 = .ok (.iload_n 3, 1) := by decide +kernel
theorem dX5_takeBack_88 : decode cX5_takeBack 88 = .ok (.ishl, 1) := by decide +kernel
theorem dX5_takeBack_89 : decode cX5_takeBack 89 = .ok (.ixor, 1) := by decide +kernel
theorem dX5_takeBack_90 : decode cX5_takeBack 90 = .ok (.putfield 34, 3) := by decide +kernel
theorem dX5_takeBack_93 : decode cX5_takeBack 93 = .ok (.goto 55, 3) := by decide +kernel
theorem dX5_takeBack_96 : decode cX5_takeBack 96 = .ok (.aload_n 0, 1) := by decide +kernel
theorem dX5_takeBack_97 : decode cX5_takeBack 97 = .ok (.iload_n 3, 1) := by decide +kernel
theorem dX5_takeBack_98 : decode cX5_takeBack 98 = .ok (.iload 4, 2) := by decide +kernel
theorem dX5_takeBack_100 : decode cX5_takeBack 100 = .ok (.aload_n 1, 1) := by decide +kernel
theorem dX5_takeBack_101 : decode cX5_takeBack 101 = .ok (.iload_n 2, 1) := by decide +kernel
theorem dX5_takeBack_102 : decode cX5_takeBack 102 = .ok (.invokevirtual 139, 3) := by decide +kernel
theorem dX5_takeBack_105 : decode cX5_takeBack 105 = .ok (.invokevirtual 142, 3) := by decide +kernel
theorem dX5_takeBack_108 : decode cX5_takeBack 108 = .ok (.goto 40, 3) := by decide +kernel
theorem dX5_takeBack_111 : decode cX5_takeBack 111 = .ok (.aload_n 0, 1) := by decide +kernel
theorem dX5_takeBack_112 : decode cX5_takeBack 112 = .ok (.getfield 58, 3) := by decide +kernel
theorem dX5_takeBack_115 : decode cX5_takeBack 115 = .ok (.aload_n 0, 1) := by decide +kernel
theorem dX5_takeBack_116 : decode cX5_takeBack 116 = .ok (.getfield 58, 3) := by decide +kernel
theorem dX5_takeBack_119 : decode cX5_takeBack 119 = .ok (.getfield 146, 3) := by decide +kernel
theorem dX5_takeBack_122 : decode cX5_takeBack 122 = .ok (.iconst 1, 1) := by decide +kernel
theorem dX5_takeBack_123 : decode cX5_takeBack 123 = .ok (.isub, 1) := by decide +kernel
theorem dX5_takeBack_124 : decode cX5_takeBack 124 = .ok (.invokevirtual 147, 3) := by decide +kernel
theorem dX5_takeBack_127 : decode cX5_takeBack 127 = .ok (.goto 21, 3) := by decide +kernel
theorem dX5_takeBack_130 : decode cX5_takeBack 130 = .ok (.aload_n 0, 1) := by decide +kernel
theorem dX5_takeBack_131 : decode cX5_takeBack 131 = .ok (.getfield 58, 3) := by decide +kernel
theorem dX5_takeBack_134 : decode cX5_takeBack 134 = .ok (.iload_n 3, 1) := by decide +kernel
theorem dX5_takeBack_135 : decode cX5_takeBack 135 = .ok (.iload 4, 2) := by decide +kernel
theorem dX5_takeBack_137 : decode cX5_takeBack 137 = .ok (.aload_n 1, 1) := by decide +kernel
theorem dX5_takeBack_138 : decode cX5_takeBack 138 = .ok (.iload_n 2, 1) := by decide +kernel
theorem dX5_takeBack_139 : decode cX5_takeBack 139 = .ok (.invokevirtual 139, 3) := by decide +kernel
theorem dX5_takeBack_142 : decode cX5_takeBack 142 = .ok (.invokevirtual 151, 3) := by decide +kernel
theorem dX5_takeBack_145 : decode cX5_takeBack 145 = .ok (.goto 3, 3) := by decide +kernel
theorem dX5_takeBack_148 : decode cX5_takeBack 148 = .ok (.return_, 1) := by decide +kernel
theorem dX5_cut_0 : decode cX5_cut 0 = .ok (.aload_n 0, 1) := by decide +kernel
theorem dX5_cut_1 : decode cX5_cut 1 = .ok (.getfield 21, 3) := by decide +kernel
theorem dX5_cut_4 : decode cX5_cut 4 = .ok (.iconst 1, 1) := by decide +kernel
theorem dX5_cut_5 : decode cX5_cut 5 = .ok (.isub, 1) := by decide +kernel
theorem dX5_cut_6 : decode cX5_cut 6 = .ok (.istore_n 3, 1) := by decide +kernel
theorem dX5_cut_7 : decode cX5_cut 7 = .ok (.iload_n 3, 1) := by decide +kernel
theorem dX5_cut_8 : decode cX5_cut 8 = .ok (.iload_n 1, 1) := by decide +kernel
theorem dX5_cut_9 : decode cX5_cut 9 = .ok (.if_icmp .lt 24, 3) := by decide +kernel
theorem dX5_cut_12 : decode cX5_cut 12 = .ok (.aload_n 0, 1) := by decide +kernel
theorem dX5_cut_13 : decode cX5_cut 13 = .ok (.getfield 52, 3) := by decide +kernel
theorem dX5_cut_16 : decode cX5_cut 16 = .ok (.aload_n 0, 1) := by decide +kernel
theorem dX5_cut_17 : decode cX5_cut 17 = .ok (.getfield 15, 3) := by decide +kernel
theorem dX5_cut_20 : decode cX5_cut 20 = .ok (.iload_n 3, 1) := by decide +kernel
theorem dX5_cut_21 : decode cX5_cut 21 = .ok (.iaload, 1) := by decide +kernel
theorem dX5_cut_22 : decode cX5_cut 22 = .ok (.dup2, 1) := by decide +kernel
theorem dX5_cut_23 : decode cX5_cut 23 = .ok (.iaload, 1) := by decide +kernel
theorem dX5_cut_24 : decode cX5_cut 24 = .ok (.iconst 1, 1) := by decide +kernel
theorem dX5_cut_25 : decode cX5_cut 25 = .ok (.isub, 1) := by decide +kernel
theorem dX5_cut_26 : decode cX5_cut 26 = .ok (.iastore, 1) := by decide +kernel
theorem dX5_cut_27 : decode cX5_cut 27 = .ok (.iinc 3 (-1), 3) := by decide +kernel
theorem dX5_cut_30 : decode cX5_cut 30 = .ok (.goto (-23), 3) := by decide +kernel
theorem dX5_cut_33 : decode cX5_cut 33 = .ok (.aload_n 0, 1) := by decide +kernel
theorem dX5_cut_34 : decode cX5_cut 34 = .ok (.iload_n 1, 1) := by decide +kernel
theorem dX5_cut_35 : decode cX5_cut 35 = .ok (.putfield 21, 3) := by decide +kernel
theorem dX5_cut_38 : decode cX5_cut 38 = .ok (.aload_n 0, 1) := by decide +kernel
theorem dX5_cut_39 : decode cX5_cut 39 = .ok (.iload_n 2, 1) := by decide +kernel
theorem dX5_cut_40 : decode cX5_cut 40 = .ok (.putfield 25, 3) := by decide +kernel
theorem dX5_cut_43 : decode cX5_cut 43 = .ok (.aload_n 0, 1) := by decide +kernel
theorem dX5_cut_44 : decode cX5_cut 44 = .ok (.iconst (-1), 1) := by decide +kernel
theorem dX5_cut_45 : decode cX5_cut 45 = .ok (.putfield 43, 3) := by decide +kernel
theorem dX5_cut_48 : decode cX5_cut 48 = .ok (.aload_n 0, 1) := by decide +kernel
theorem dX5_cut_49 : decode cX5_cut 49 = .ok (.getfield 21, 3) := by decide +kernel
theorem dX5_cut_52 : decode cX5_cut 52 = .ok (.iconst 1, 1) := by decide +kernel
theorem dX5_cut_53 : decode cX5_cut 53 = .ok (.isub, 1) := by decide +kernel
theorem dX5_cut_54 : decode cX5_cut 54 = .ok (.istore_n 3, 1) := by decide +kernel
theorem dX5_cut_55 : decode cX5_cut 55 = .ok (.iload_n 3, 1) := by decide +kernel
theorem dX5_cut_56 : decode cX5_cut 56 = .ok (.ifCond .lt 42, 3) := by decide +kernel
theorem dX5_cut_59 : decode cX5_cut 59 = .ok (.aload_n 0, 1) := by decide +kernel
theorem dX5_cut_60 : decode cX5_cut 60 = .ok (.getfield 43, 3) := by decide +kernel
theorem dX5_cut_63 : decode cX5_cut 63 = .ok (.iconst (-1), 1) := by decide +kernel
theorem dX5_cut_64 : decode cX5_cut 64 = .ok (.if_icmp .ne 34, 3) := by decide +kernel
theorem dX5_cut_67 : decode cX5_cut 67 = .ok (.aload_n 0, 1) := by decide +kernel
theorem dX5_cut_68 : decode cX5_cut 68 = .ok (.aload_n 0, 1) := by decide +kernel
theorem dX5_cut_69 : decode cX5_cut 69 = .ok (.getfield 9, 3) := by decide +kernel
theorem dX5_cut_72 : decode cX5_cut 72 = .ok (.iload_n 3, 1) := by decide +kernel
theorem dX5_cut_73 : decode cX5_cut 73 = .ok (.iaload, 1) := by decide +kernel
theorem dX5_cut_74 : decode cX5_cut 74 = .ok (.bipush 12, 2) := by decide +kernel
theorem dX5_cut_76 : decode cX5_cut 76 = .ok (.if_icmp .ne 7, 3) := by decide +kernel
theorem dX5_cut_79 : decode cX5_cut 79 = .ok (.iconst (-1), 1) := by decide +kernel
theorem dX5_cut_80 : decode cX5_cut 80 = .ok (.goto 9, 3) := by decide +kernel
theorem dX5_cut_83 : decode cX5_cut 83 = .ok (.aload_n 0, 1) := by decide +kernel
theorem dX5_cut_84 : decode cX5_cut 84 = .ok (.getfield 9, 3) := by decide +kernel
theorem dX5_cut_87 : decode cX5_cut 87 = .ok (.iload_n 3, 1) := by decide +kernel
theorem dX5_cut_88 : decode cX5_cut 88 = .ok (.iaload, 1) := by decide +kernel
theorem dX5_cut_89 : decode cX5_cut 89 = .ok (.putfield 43, 3) := by decide +kernel
theorem dX5_cut_92 : decode cX5_cut 92 = .ok (.iinc 3 (-1), 3) := by decide +kernel
theorem dX5_cut_95 : decode cX5_cut 95 = .ok (.goto (-40), 3) := by decide +kernel
theorem dX5_cut_98 : decode cX5_cut 98 = .ok (.return_, 1) := by decide +kernel
theorem dX5_rests_0 : decode cX5_rests 0 = .ok (.aload_n 0, 1) := by decide +kernel
theorem dX5_rests_1 : decode cX5_rests 1 = .ok (.bipush 12, 2) := by decide +kernel
theorem dX5_rests_3 : decode cX5_rests 3 = .ok (.iconst 0, 1) := by decide +kernel
theorem dX5_rests_4 : decode cX5_rests 4 = .ok (.invokevirtual 154, 3) := by decide +kernel
theorem dX5_rests_7 : decode cX5_rests 7 = .ok (.ireturn, 1) := by decide +kernel
theorem dX5_times_0 : decode cX5_times 0 = .ok (.iconst 0, 1) := by decide +kernel
theorem dX5_times_1 : decode cX5_times 1 = .ok (.istore_n 3, 1) := by decide +kernel
theorem dX5_times_2 : decode cX5_times 2 = .ok (.iload_n 2, 1) := by decide +kernel
theorem dX5_times_3 : decode cX5_times 3 = .ok (.istore 4, 2) := by decide +kernel
theorem dX5_times_5 : decode cX5_times 5 = .ok (.iload 4, 2) := by decide +kernel
theorem dX5_times_7 : decode cX5_times 7 = .ok (.aload_n 0, 1) := by decide +kernel
theorem dX5_times_8 : decode cX5_times 8 = .ok (.getfield 21, 3) := by decide +kernel
theorem dX5_times_11 : decode cX5_times 11 = .ok (.if_icmp .ge 23, 3) := by decide +kernel
theorem dX5_times_14 : decode cX5_times 14 = .ok (.aload_n 0, 1) := by decide +kernel
theorem dX5_times_15 : decode cX5_times 15 = .ok (.getfield 9, 3) := by decide +kernel
theorem dX5_times_18 : decode cX5_times 18 = .ok (.iload 4, 2) := by decide +kernel
theorem dX5_times_20 : decode cX5_times 20 = .ok (.iaload, 1) := by decide +kernel
theorem dX5_times_21 : decode cX5_times 21 = .ok (.iload_n 1, 1) := by decide +kernel
theorem dX5_times_22 : decode cX5_times 22 = .ok (.if_icmp .ne 6, 3) := by decide +kernel
theorem dX5_times_25 : decode cX5_times 25 = .ok (.iinc 3 1, 3) := by decide +kernel
theorem dX5_times_28 : decode cX5_times 28 = .ok (.iinc 4 1, 3) := by decide +kernel
theorem dX5_times_31 : decode cX5_times 31 = .ok (.goto (-26), 3) := by decide +kernel
theorem dX5_times_34 : decode cX5_times 34 = .ok (.iload_n 3, 1) := by decide +kernel
theorem dX5_times_35 : decode cX5_times 35 = .ok (.ireturn, 1) := by decide +kernel
theorem dX5_risesFrom_0 : decode cX5_risesFrom 0 = .ok (.iconst 0, 1) := by decide +kernel
theorem dX5_risesFrom_1 : decode cX5_risesFrom 1 = .ok (.istore_n 3, 1) := by decide +kernel
theorem dX5_risesFrom_2 : decode cX5_risesFrom 2 = .ok (.iconst 1, 1) := by decide +kernel
theorem dX5_risesFrom_3 : decode cX5_risesFrom 3 = .ok (.iload_n 1, 1) := by decide +kernel
theorem dX5_risesFrom_4 : decode cX5_risesFrom 4 = .ok (.invokestatic 157, 3) := by decide +kernel
theorem dX5_risesFrom_7 : decode cX5_risesFrom 7 = .ok (.istore 4, 2) := by decide +kernel
theorem dX5_risesFrom_9 : decode cX5_risesFrom 9 = .ok (.iload 4, 2) := by decide +kernel
theorem dX5_risesFrom_11 : decode cX5_risesFrom 11 = .ok (.aload_n 0, 1) := by decide +kernel
theorem dX5_risesFrom_12 : decode cX5_risesFrom 12 = .ok (.getfield 21, 3) := by decide +kernel
theorem dX5_risesFrom_15 : decode cX5_risesFrom 15 = .ok (.if_icmp .ge 59, 3) := by decide +kernel
theorem dX5_risesFrom_18 : decode cX5_risesFrom 18 = .ok (.aload_n 0, 1) := by decide +kernel
theorem dX5_risesFrom_19 : decode cX5_risesFrom 19 = .ok (.getfield 9, 3) := by decide +kernel
theorem dX5_risesFrom_22 : decode cX5_risesFrom 22 = .ok (.iload 4, 2) := by decide +kernel
theorem dX5_risesFrom_24 : decode cX5_risesFrom 24 = .ok (.iconst 1, 1) := by decide +kernel
theorem dX5_risesFrom_25 : decode cX5_risesFrom 25 = .ok (.isub, 1) := by decide +kernel
theorem dX5_risesFrom_26 : decode cX5_risesFrom 26 = .ok (.iaload, 1) := by decide +kernel
theorem dX5_risesFrom_27 : decode cX5_risesFrom 27 = .ok (.istore 5, 2) := by decide +kernel
theorem dX5_risesFrom_29 : decode cX5_risesFrom 29 = .ok (.iload 5, 2) := by decide +kernel
theorem dX5_risesFrom_31 : decode cX5_risesFrom 31 = .ok (.bipush 12, 2) := by decide +kernel
theorem dX5_risesFrom_33 : decode cX5_risesFrom 33 = .ok (.if_icmp .eq 35, 3) := by decide +kernel
theorem dX5_risesFrom_36 : decode cX5_risesFrom 36 = .ok (.aload_n 0, 1) := by decide +kernel
theorem dX5_risesFrom_37 : decode cX5_risesFrom 37 = .ok (.getfield 9, 3) := by decide +kernel
theorem dX5_risesFrom_40 : decode cX5_risesFrom 40 = .ok (.iload 4, 2) := by decide +kernel
theorem dX5_risesFrom_42 : decode cX5_risesFrom 42 = .ok (.iaload, 1) := by decide +kernel
theorem dX5_risesFrom_43 : decode cX5_risesFrom 43 = .ok (.bipush 12, 2) := by decide +kernel
theorem dX5_risesFrom_45 : decode cX5_risesFrom 45 = .ok (.if_icmp .eq 23, 3) := by decide +kernel
theorem dX5_risesFrom_48 : decode cX5_risesFrom 48 = .ok (.iload 5, 2) := by decide +kernel
theorem dX5_risesFrom_50 : decode cX5_risesFrom 50 = .ok (.iload_n 2, 1) := by decide +kernel
theorem dX5_risesFrom_51 : decode cX5_risesFrom 51 = .ok (.iadd, 1) := by decide +kernel
theorem dX5_risesFrom_52 : decode cX5_risesFrom 52 = .ok (.bipush 12, 2) := by decide +kernel
theorem dX5_risesFrom_54 : decode cX5_risesFrom 54 = .ok (.irem, 1) := by decide +kernel
theorem dX5_risesFrom_55 : decode cX5_risesFrom 55 = .ok (.aload_n 0, 1) := by decide +kernel
theorem dX5_risesFrom_56 : decode cX5_risesFrom 56 = .ok (.getfield 9, 3) := by decide +kernel
theorem dX5_risesFrom_59 : decode cX5_risesFrom 59 = .ok (.iload 4, 2) := by decide +kernel
theorem dX5_risesFrom_61 : decode cX5_risesFrom 61 = .ok (.iaload, 1) := by decide +kernel
theorem dX5_risesFrom_62 : decode cX5_risesFrom 62 = .ok (.if_icmp .ne 6, 3) := by decide +kernel
theorem dX5_risesFrom_65 : decode cX5_risesFrom 65 = .ok (.iinc 3 1, 3) := by decide +kernel
theorem dX5_risesFrom_68 : decode cX5_risesFrom 68 = .ok (.iinc 4 1, 3) := by decide +kernel
theorem dX5_risesFrom_71 : decode cX5_risesFrom 71 = .ok (.goto (-62), 3) := by decide +kernel
theorem dX5_risesFrom_74 : decode cX5_risesFrom 74 = .ok (.iload_n 3, 1) := by decide +kernel
theorem dX5_risesFrom_75 : decode cX5_risesFrom 75 = .ok (.ireturn, 1) := by decide +kernel
theorem dX5_hasAt_0 : decode cX5_hasAt 0 = .ok (.iload_n 1, 1) := by decide +kernel
theorem dX5_hasAt_1 : decode cX5_hasAt 1 = .ok (.ifCond .lt 19, 3) := by decide +kernel
theorem dX5_hasAt_4 : decode cX5_hasAt 4 = .ok (.iload_n 3, 1) := by decide +kernel
theorem dX5_hasAt_5 : decode cX5_hasAt 5 = .ok (.aload_n 2, 1) := by decide +kernel
theorem dX5_hasAt_6 : decode cX5_hasAt 6 = .ok (.arraylength, 1) := by decide +kernel
theorem dX5_hasAt_7 : decode cX5_hasAt 7 = .ok (.if_icmp .gt 13, 3) := by decide +kernel
theorem dX5_hasAt_10 : decode cX5_hasAt 10 = .ok (.iload_n 1, 1) := by decide +kernel
theorem dX5_hasAt_11 : decode cX5_hasAt 11 = .ok (.iload_n 3, 1) := by decide +kernel
theorem dX5_hasAt_12 : decode cX5_hasAt 12 = .ok (.iadd, 1) := by decide +kernel
theorem dX5_hasAt_13 : decode cX5_hasAt 13 = .ok (.aload_n 0, 1) := by decide +kernel
theorem dX5_hasAt_14 : decode cX5_hasAt 14 = .ok (.getfield 21, 3) := by decide +kernel
theorem dX5_hasAt_17 : decode cX5_hasAt 17 = .ok (.if_icmp .le 5, 3) := by decide +kernel
theorem dX5_hasAt_20 : decode cX5_hasAt 20 = .ok (.iconst 0, 1) := by decide +kernel
theorem dX5_hasAt_21 : decode cX5_hasAt 21 = .ok (.ireturn, 1) := by decide +kernel
theorem dX5_hasAt_22 : decode cX5_hasAt 22 = .ok (.iconst 0, 1) := by decide +kernel
theorem dX5_hasAt_23 : decode cX5_hasAt 23 = .ok (.istore 4, 2) := by decide +kernel
theorem dX5_hasAt_25 : decode cX5_hasAt 25 = .ok (.iload 4, 2) := by decide +kernel
theorem dX5_hasAt_27 : decode cX5_hasAt 27 = .ok (.iload_n 3, 1) := by decide +kernel
theorem dX5_hasAt_28 : decode cX5_hasAt 28 = .ok (.if_icmp .ge 27, 3) := by decide +kernel
theorem dX5_hasAt_31 : decode cX5_hasAt 31 = .ok (.aload_n 0, 1) := by decide +kernel
theorem dX5_hasAt_32 : decode cX5_hasAt 32 = .ok (.getfield 9, 3) := by decide +kernel
theorem dX5_hasAt_35 : decode cX5_hasAt 35 = .ok (.iload_n 1, 1) := by decide +kernel
theorem dX5_hasAt_36 : decode cX5_hasAt 36 = .ok (.iload 4, 2) := by decide +kernel
theorem dX5_hasAt_38 : decode cX5_hasAt 38 = .ok (.iadd, 1) := by decide +kernel
theorem dX5_hasAt_39 : decode cX5_hasAt 39 = .ok (.iaload, 1) := by decide +kernel
theorem dX5_hasAt_40 : decode cX5_hasAt 40 = .ok (.aload_n 2, 1) := by decide +kernel
theorem dX5_hasAt_41 : decode cX5_hasAt 41 = .ok (.iload 4, 2) := by decide +kernel
theorem dX5_hasAt_43 : decode cX5_hasAt 43 = .ok (.iaload, 1) := by decide +kernel
theorem dX5_hasAt_44 : decode cX5_hasAt 44 = .ok (.if_icmp .eq 5, 3) := by decide +kernel
theorem dX5_hasAt_47 : decode cX5_hasAt 47 = .ok (.iconst 0, 1) := by decide +kernel
theorem dX5_hasAt_48 : decode cX5_hasAt 48 = .ok (.ireturn, 1) := by decide +kernel
theorem dX5_hasAt_49 : decode cX5_hasAt 49 = .ok (.iinc 4 1, 3) := by decide +kernel
theorem dX5_hasAt_52 : decode cX5_hasAt 52 = .ok (.goto (-27), 3) := by decide +kernel
theorem dX5_hasAt_55 : decode cX5_hasAt 55 = .ok (.iconst 1, 1) := by decide +kernel
theorem dX5_hasAt_56 : decode cX5_hasAt 56 = .ok (.ireturn, 1) := by decide +kernel
theorem dX5_firstFrom_0 : decode cX5_firstFrom 0 = .ok (.iload_n 1, 1) := by decide +kernel
theorem dX5_firstFrom_1 : decode cX5_firstFrom 1 = .ok (.istore 4, 2) := by decide +kernel
theorem dX5_firstFrom_3 : decode cX5_firstFrom 3 = .ok (.iload 4, 2) := by decide +kernel
theorem dX5_firstFrom_5 : decode cX5_firstFrom 5 = .ok (.aload_n 0, 1) := by decide +kernel
theorem dX5_firstFrom_6 : decode cX5_firstFrom 6 = .ok (.getfield 21, 3) := by decide +kernel
theorem dX5_firstFrom_9 : decode cX5_firstFrom 9 = .ok (.if_icmp .ge 23, 3) := by decide +kernel
theorem dX5_firstFrom_12 : decode cX5_firstFrom 12 = .ok (.aload_n 0, 1) := by decide +kernel
theorem dX5_firstFrom_13 : decode cX5_firstFrom 13 = .ok (.iload 4, 2) := by decide +kernel
theorem dX5_firstFrom_15 : decode cX5_firstFrom 15 = .ok (.aload_n 2, 1) := by decide +kernel
theorem dX5_firstFrom_16 : decode cX5_firstFrom 16 = .ok (.iload_n 3, 1) := by decide +kernel
theorem dX5_firstFrom_17 : decode cX5_firstFrom 17 = .ok (.invokevirtual 160, 3) := by decide +kernel
theorem dX5_firstFrom_20 : decode cX5_firstFrom 20 = .ok (.ifCond .eq 6, 3) := by decide +kernel
theorem dX5_firstFrom_23 : decode cX5_firstFrom 23 = .ok (.iload 4, 2) := by decide +kernel
theorem dX5_firstFrom_25 : decode cX5_firstFrom 25 = .ok (.ireturn, 1) := by decide +kernel
theorem dX5_firstFrom_26 : decode cX5_firstFrom 26 = .ok (.iinc 4 1, 3) := by decide +kernel
theorem dX5_firstFrom_29 : decode cX5_firstFrom 29 = .ok (.goto (-26), 3) := by decide +kernel
theorem dX5_firstFrom_32 : decode cX5_firstFrom 32 = .ok (.iconst (-1), 1) := by decide +kernel
theorem dX5_firstFrom_33 : decode cX5_firstFrom 33 = .ok (.ireturn, 1) := by decide +kernel
theorem dX5_mirrored_0 : decode cX5_mirrored 0 = .ok (.iload_n 1, 1) := by decide +kernel
theorem dX5_mirrored_1 : decode cX5_mirrored 1 = .ok (.istore_n 3, 1) := by decide +kernel
theorem dX5_mirrored_2 : decode cX5_mirrored 2 = .ok (.iload_n 2, 1) := by decide +kernel
theorem dX5_mirrored_3 : decode cX5_mirrored 3 = .ok (.istore 4, 2) := by decide +kernel
theorem dX5_mirrored_5 : decode cX5_mirrored 5 = .ok (.iload_n 3, 1) := by decide +kernel
theorem dX5_mirrored_6 : decode cX5_mirrored 6 = .ok (.ifCond .lt 37, 3) := by decide +kernel
theorem dX5_mirrored_9 : decode cX5_mirrored 9 = .ok (.iload 4, 2) := by decide +kernel
theorem dX5_mirrored_11 : decode cX5_mirrored 11 = .ok (.aload_n 0, 1) := by decide +kernel
theorem dX5_mirrored_12 : decode cX5_mirrored 12 = .ok (.getfield 21, 3) := by decide +kernel
theorem dX5_mirrored_15 : decode cX5_mirrored 15 = .ok (.if_icmp .ge 28, 3) := by decide +kernel
theorem dX5_mirrored_18 : decode cX5_mirrored 18 = .ok (.aload_n 0, 1) := by decide +kernel
theorem dX5_mirrored_19 : decode cX5_mirrored 19 = .ok (.getfield 9, 3) := by decide +kernel
theorem dX5_mirrored_22 : decode cX5_mirrored 22 = .ok (.iload_n 3, 1) := by decide +kernel
theorem dX5_mirrored_23 : decode cX5_mirrored 23 = .ok (.iaload, 1) := by decide +kernel
theorem dX5_mirrored_24 : decode cX5_mirrored 24 = .ok (.aload_n 0, 1) := by decide +kernel
theorem dX5_mirrored_25 : decode cX5_mirrored 25 = .ok (.getfield 9, 3) := by decide +kernel
theorem dX5_mirrored_28 : decode cX5_mirrored 28 = .ok (.iload 4, 2) := by decide +kernel
theorem dX5_mirrored_30 : decode cX5_mirrored 30 = .ok (.iaload, 1) := by decide +kernel
theorem dX5_mirrored_31 : decode cX5_mirrored 31 = .ok (.if_icmp .ne 12, 3) := by decide +kernel
theorem dX5_mirrored_34 : decode cX5_mirrored 34 = .ok (.iinc 3 (-1), 3) := by decide +kernel
theorem dX5_mirrored_37 : decode cX5_mirrored 37 = .ok (.iinc 4 1, 3) := by decide +kernel
theorem dX5_mirrored_40 : decode cX5_mirrored 40 = .ok (.goto (-35), 3) := by decide +kernel
theorem dX5_mirrored_43 : decode cX5_mirrored 43 = .ok (.iload 4, 2) := by decide +kernel
theorem dX5_mirrored_45 : decode cX5_mirrored 45 = .ok (.iload_n 3, 1) := by decide +kernel
theorem dX5_mirrored_46 : decode cX5_mirrored 46 = .ok (.isub, 1) := by decide +kernel
theorem dX5_mirrored_47 : decode cX5_mirrored 47 = .ok (.iconst 1, 1) := by decide +kernel
theorem dX5_mirrored_48 : decode cX5_mirrored 48 = .ok (.isub, 1) := by decide +kernel
theorem dX5_mirrored_49 : decode cX5_mirrored 49 = .ok (.ireturn, 1) := by decide +kernel
theorem dX6_init_0 : decode cX6_init 0 = .ok (.aload_n 0, 1) := by decide +kernel
theorem dX6_init_1 : decode cX6_init 1 = .ok (.invokespecial 3, 3) := by decide +kernel
theorem dX6_init_4 : decode cX6_init 4 = .ok (.aload_n 0, 1) := by decide +kernel
theorem dX6_init_5 : decode cX6_init 5 = .ok (.bipush 25, 2) := by decide +kernel
theorem dX6_init_7 : decode cX6_init 7 = .ok (.newarray .int, 2) := by decide +kernel
theorem dX6_init_9 : decode cX6_init 9 = .ok (.putfield 9, 3) := by decide +kernel
theorem dX6_init_12 : decode cX6_init 12 = .ok (.aload_n 0, 1) := by decide +kernel
theorem dX6_init_13 : decode cX6_init 13 = .ok (.bipush 25, 2) := by decide +kernel
theorem dX6_init_15 : decode cX6_init 15 = .ok (.newarray .int, 2) := by decide +kernel
theorem dX6_init_17 : decode cX6_init 17 = .ok (.putfield 15, 3) := by decide +kernel
theorem dX6_init_20 : decode cX6_init 20 = .ok (.return_, 1) := by decide +kernel
theorem dX6_whole_0 : decode cX6_whole 0 = .ok (.aload_n 0, 1) := by decide +kernel
theorem dX6_whole_1 : decode cX6_whole 1 = .ok (.invokevirtual 18, 3) := by decide +kernel
theorem dX6_whole_4 : decode cX6_whole 4 = .ok (.aload_n 0, 1) := by decide +kernel
theorem dX6_whole_5 : decode cX6_whole 5 = .ok (.iconst 0, 1) := by decide +kernel
theorem dX6_whole_6 : decode cX6_whole 6 = .ok (.aload_n 1, 1) := by decide +kernel
theorem dX6_whole_7 : decode cX6_whole 7 = .ok (.aload_n 2, 1) := by decide +kernel
theorem dX6_whole_8 : decode cX6_whole 8 = .ok (.invokevirtual 21, 3) := by decide +kernel
theorem dX6_whole_11 : decode cX6_whole 11 = .ok (.aload_n 0, 1) := by decide +kernel
theorem dX6_whole_12 : decode cX6_whole 12 = .ok (.getfield 9, 3) := by decide +kernel
theorem dX6_whole_15 : decode cX6_whole 15 = .ok (.aload_n 1, 1) := by decide +kernel
theorem dX6_whole_16 : decode cX6_whole 16 = .ok (.getfield 25, 3) := by decide +kernel
theorem dX6_whole_19 : decode cX6_whole 19 = .ok (.iaload, 1) := by decide +kernel
theorem dX6_whole_20 : decode cX6_whole 20 = .ok (.ireturn, 1) := by decide +kernel
theorem dX6_keep_0 : decode cX6_keep 0 = .ok (.aload_n 0, 1) := by decide +kernel
theorem dX6_keep_1 : decode cX6_keep 1 = .ok (.aload_n 1, 1) := by decide +kernel
theorem dX6_keep_2 : decode cX6_keep 2 = .ok (.aload_n 2, 1) := by decide +kernel
theorem dX6_keep_3 : decode cX6_keep 3 = .ok (.invokevirtual 31, 3) := by decide +kernel
theorem dX6_keep_6 : decode cX6_keep 6 = .ok (.pop, 1) := by decide +kernel
theorem dX6_keep_7 : decode cX6_keep 7 = .ok (.aload_n 0, 1) := by decide +kernel
theorem dX6_keep_8 : decode cX6_keep 8 = .ok (.getfield 9, 3) := by decide +kernel
theorem dX6_keep_11 : decode cX6_keep 11 = .ok (.iconst 0, 1) := by decide +kernel
theorem dX6_keep_12 : decode cX6_keep 12 = .ok (.aload_n 0, 1) := by decide +kernel
theorem dX6_keep_13 : decode cX6_keep 13 = .ok (.getfield 15, 3) := by decide +kernel
theorem dX6_keep_16 : decode cX6_keep 16 = .ok (.iconst 0, 1) := by decide +kernel
theorem dX6_keep_17 : decode cX6_keep 17 = .ok (.bipush 25, 2) := by decide +kernel
theorem dX6_keep_19 : decode cX6_keep 19 = .ok (.invokestatic 35, 3) := by decide +kernel
theorem dX6_keep_22 : decode cX6_keep 22 = .ok (.return_, 1) := by decide +kernel
theorem dX6_further_0 : decode cX6_further 0 = .ok (.aload_n 0, 1) := by decide +kernel
theorem dX6_further_1 : decode cX6_further 1 = .ok (.getfield 15, 3) := by decide +kernel
theorem dX6_further_4 : decode cX6_further 4 = .ok (.iconst 0, 1) := by decide +kernel
theorem dX6_further_5 : decode cX6_further 5 = .ok (.aload_n 0, 1) := by decide +kernel
theorem dX6_further_6 : decode cX6_further 6 = .ok (.getfield 9, 3) := by decide +kernel
theorem dX6_further_9 : decode cX6_further 9 = .ok (.iconst 0, 1) := by decide +kernel
theorem dX6_further_10 : decode cX6_further 10 = .ok (.bipush 25, 2) := by decide +kernel
theorem dX6_further_12 : decode cX6_further 12 = .ok (.invokestatic 35, 3) := by decide +kernel
theorem dX6_further_15 : decode cX6_further 15 = .ok (.aload_n 0, 1) := by decide +kernel
theorem dX6_further_16 : decode cX6_further 16 = .ok (.iload_n 3, 1) := by decide +kernel
theorem dX6_further_17 : decode cX6_further 17 = .ok (.aload_n 1, 1) := by decide +kernel
theorem dX6_further_18 : decode cX6_further 18 = .ok (.aload_n 2, 1) := by decide +kernel
theorem dX6_further_19 : decode cX6_further 19 = .ok (.invokevirtual 21, 3) := by decide +kernel
theorem dX6_further_22 : decode cX6_further 22 = .ok (.aload_n 0, 1) := by decide +kernel
theorem dX6_further_23 : decode cX6_further 23 = .ok (.getfield 9, 3) := by decide +kernel
theorem dX6_further_26 : decode cX6_further 26 = .ok (.aload_n 1, 1) := by decide +kernel
theorem dX6_further_27 : decode cX6_further 27 = .ok (.getfield 25, 3) := by decide +kernel
theorem dX6_further_30 : decode cX6_further 30 = .ok (.iaload, 1) := by decide +kernel
theorem dX6_further_31 : decode cX6_further 31 = .ok (.ireturn, 1) := by decide +kernel
theorem dX6_clear_0 : decode cX6_clear 0 = .ok (.iconst 0, 1) := by decide +kernel
theorem dX6_clear_1 : decode cX6_clear 1 = .ok (.istore_n 1, 1) := by decide +kernel
theorem dX6_clear_2 : decode cX6_clear 2 = .ok (.iload_n 1, 1) := by decide +kernel
theorem dX6_clear_3 : decode cX6_clear 3 = .ok (.bipush 24, 2) := by decide +kernel
theorem dX6_clear_5 : decode cX6_clear 5 = .ok (.if_icmp .gt 16, 3) := by decide +kernel
theorem dX6_clear_8 : decode cX6_clear 8 = .ok (.aload_n 0, 1) := by decide +kernel
theorem dX6_clear_9 : decode cX6_clear 9 = .ok (.getfield 9, 3) := by decide +kernel
theorem dX6_clear_12 : decode cX6_clear 12 = .ok (.iload_n 1, 1) := by decide +kernel
theorem dX6_clear_13 : decode cX6_clear 13 = .ok (.iconst 0, 1) := by decide +kernel
theorem dX6_clear_14 : decode cX6_clear 14 = .ok (.iastore, 1) := by decide +kernel
theorem dX6_clear_15 : decode cX6_clear 15 = .ok (.iinc 1 1, 3) := by decide +kernel
theorem dX6_clear_18 : decode cX6_clear 18 = .ok (.goto (-16), 3) := by decide +kernel
theorem dX6_clear_21 : decode cX6_clear 21 = .ok (.return_, 1) := by decide +kernel
theorem dX6_takeFrom_0 : decode cX6_takeFrom 0 = .ok (.iload_n 1, 1) := by decide +kernel
theorem dX6_takeFrom_1 : decode cX6_takeFrom 1 = .ok (.istore 4, 2) := by decide +kernel
theorem dX6_takeFrom_3 : decode cX6_takeFrom 3 = .ok (.iload 4, 2) := by decide +kernel
theorem dX6_takeFrom_5 : decode cX6_takeFrom 5 = .ok (.aload_n 3, 1) := by decide +kernel
theorem dX6_takeFrom_6 : decode cX6_takeFrom 6 = .ok (.getfield 41, 3) := by decide +kernel
theorem dX6_takeFrom_9 : decode cX6_takeFrom 9 = .ok (.if_icmp .ge 102, 3) := by decide +kernel
theorem dX6_takeFrom_12 : decode cX6_takeFrom 12 = .ok (.iconst 0, 1) := by decide +kernel
theorem dX6_takeFrom_13 : decode cX6_takeFrom 13 = .ok (.istore 5, 2) := by decide +kernel
theorem dX6_takeFrom_15 : decode cX6_takeFrom 15 = .ok (.iconst 1, 1) := by decide +kernel
theorem dX6_takeFrom_16 : decode cX6_takeFrom 16 = .ok (.istore 6, 2) := by decide +kernel
theorem dX6_takeFrom_18 : decode cX6_takeFrom 18 = .ok (.iload 6, 2) := by decide +kernel
theorem dX6_takeFrom_20 : decode cX6_takeFrom 20 = .ok (.aload_n 2, 1) := by decide +kernel
theorem dX6_takeFrom_21 : decode cX6_takeFrom 21 = .ok (.getfield 25, 3) := by decide +kernel
theorem dX6_takeFrom_24 : decode cX6_takeFrom 24 = .ok (.if_icmp .gt 81, 3) := by decide +kernel
theorem dX6_takeFrom_27 : decode cX6_takeFrom 27 = .ok (.aload_n 0, 1) := by decide +kernel
theorem dX6_takeFrom_28 : decode cX6_takeFrom 28 = .ok (.getfield 9, 3) := by decide +kernel
theorem dX6_takeFrom_31 : decode cX6_takeFrom 31 = .ok (.iload 6, 2) := by decide +kernel
theorem dX6_takeFrom_33 : decode cX6_takeFrom 33 = .ok (.iaload, 1) := by decide +kernel
theorem dX6_takeFrom_34 : decode cX6_takeFrom 34 = .ok (.istore 7, 2) := by decide +kernel
theorem dX6_takeFrom_36 : decode cX6_takeFrom 36 = .ok (.aload_n 2, 1) := by decide +kernel
theorem dX6_takeFrom_37 : decode cX6_takeFrom 37 = .ok (.getfield 46, 3) := by decide +kernel
theorem dX6_takeFrom_40 : decode cX6_takeFrom 40 = .ok (.iload 6, 2) := by decide +kernel
theorem dX6_takeFrom_42 : decode cX6_takeFrom 42 = .ok (.iconst 1, 1) := by decide +kernel
theorem dX6_takeFrom_43 : decode cX6_takeFrom 43 = .ok (.isub, 1) := by decide +kernel
theorem dX6_takeFrom_44 : decode cX6_takeFrom 44 = .ok (.iaload, 1) := by decide +kernel
theorem dX6_takeFrom_45 : decode cX6_takeFrom 45 = .ok (.aload_n 3, 1) := by decide +kernel
theorem dX6_takeFrom_46 : decode cX6_takeFrom 46 = .ok (.getfield 49, 3) := by decide +kernel
theorem dX6_takeFrom_49 : decode cX6_takeFrom 49 = .ok (.iload 4, 2) := by decide +kernel
theorem dX6_takeFrom_51 : decode cX6_takeFrom 51 = .ok (.iaload, 1) := by decide +kernel
theorem dX6_takeFrom_52 : decode cX6_takeFrom 52 = .ok (.if_icmp .ne 7, 3) := by decide +kernel
theorem dX6_takeFrom_55 : decode cX6_takeFrom 55 = .ok (.iconst 1, 1) := by decide +kernel
theorem dX6_takeFrom_56 : decode cX6_takeFrom 56 = .ok (.goto 4, 3) := by decide +kernel
theorem dX6_takeFrom_59 : decode cX6_takeFrom 59 = .ok (.iconst 0, 1) := by decide +kernel
theorem dX6_takeFrom_60 : decode cX6_takeFrom 60 = .ok (.istore 8, 2) := by decide +kernel
theorem dX6_takeFrom_62 : decode cX6_takeFrom 62 = .ok (.aload_n 0, 1) := by decide +kernel
theorem dX6_takeFrom_63 : decode cX6_takeFrom 63 = .ok (.getfield 9, 3) := by decide +kernel
theorem dX6_takeFrom_66 : decode cX6_takeFrom 66 = .ok (.iload 6, 2) := by decide +kernel
theorem dX6_takeFrom_68 : decode cX6_takeFrom 68 = .ok (.iload 8, 2) := by decide +kernel
theorem dX6_takeFrom_70 : decode cX6_takeFrom 70 = .ok (.ifCond .eq 10, 3) := by decide +kernel
theorem dX6_takeFrom_73 : decode cX6_takeFrom 73 = .ok (.iload 5, 2) := by decide +kernel
theorem dX6_takeFrom_75 : decode cX6_takeFrom 75 = .ok (.iconst 1, 1) := by decide +kernel
theorem dX6_takeFrom_76 : decode cX6_takeFrom 76 = .ok (.iadd, 1) := by decide +kernel
theorem dX6_takeFrom_77 : decode cX6_takeFrom 77 = .ok (.goto 17, 3) := by decide +kernel
theorem dX6_takeFrom_80 : decode cX6_takeFrom 80 = .ok (.iload 7, 2) := by decide +kernel
theorem dX6_takeFrom_82 : decode cX6_takeFrom 82 = .ok (.aload_n 0, 1) := by decide +kernel
theorem dX6_takeFrom_83 : decode cX6_takeFrom 83 = .ok (.getfield 9, 3) := by decide +kernel
theorem dX6_takeFrom_86 : decode cX6_takeFrom 86 = .ok (.iload 6, 2) := by decide +kernel
theorem dX6_takeFrom_88 : decode cX6_takeFrom 88 = .ok (.iconst 1, 1) := by decide +kernel
theorem dX6_takeFrom_89 : decode cX6_takeFrom 89 = .ok (.isub, 1) := by decide +kernel
theorem dX6_takeFrom_90 : decode cX6_takeFrom 90 = .ok (.iaload, 1) := by decide +kernel
theorem dX6_takeFrom_91 : decode cX6_takeFrom 91 = .ok (.invokestatic 52, 3) := by decide +kernel
theorem dX6_takeFrom_94 : decode cX6_takeFrom 94 = .ok (.iastore, 1) := by decide +kernel
theorem dX6_takeFrom_95 : decode cX6_takeFrom 95 = .ok (.iload 7, 2) := by decide +kernel
theorem dX6_takeFrom_97 : decode cX6_takeFrom 97 = .ok (.istore 5, 2) := by decide +kernel
theorem dX6_takeFrom_99 : decode cX6_takeFrom 99 = .ok (.iinc 6 1, 3) := by decide +kernel
theorem dX6_takeFrom_102 : decode cX6_takeFrom 102 = .ok (.goto (-84), 3) := by decide +kernel
theorem dX6_takeFrom_105 : decode cX6_takeFrom 105 = .ok (.iinc 4 1, 3) := by decide +kernel
theorem dX6_takeFrom_108 : decode cX6_takeFrom 108 = .ok (.goto (-105), 3) := by decide +kernel
theorem dX6_takeFrom_111 : decode cX6_takeFrom 111 = .ok (.return_, 1) := by decide +kernel
theorem dX6_apart_0 : decode cX6_apart 0 = .ok (.iconst 0, 1) := by decide +kernel
theorem dX6_apart_1 : decode cX6_apart 1 = .ok (.istore_n 3, 1) := by decide +kernel
theorem dX6_apart_2 : decode cX6_apart 2 = .ok (.iload_n 3, 1) := by decide +kernel
theorem dX6_apart_3 : decode cX6_apart 3 = .ok (.bipush 24, 2) := by decide +kernel
theorem dX6_apart_5 : decode cX6_apart 5 = .ok (.if_icmp .gt 16, 3) := by decide +kernel
theorem dX6_apart_8 : decode cX6_apart 8 = .ok (.aload_n 0, 1) := by decide +kernel
theorem dX6_apart_9 : decode cX6_apart 9 = .ok (.getfield 9, 3) := by decide +kernel
theorem dX6_apart_12 : decode cX6_apart 12 = .ok (.iload_n 3, 1) := by decide +kernel
theorem dX6_apart_13 : decode cX6_apart 13 = .ok (.iload_n 3, 1) := by decide +kernel
theorem dX6_apart_14 : decode cX6_apart 14 = .ok (.iastore, 1) := by decide +kernel
theorem dX6_apart_15 : decode cX6_apart 15 = .ok (.iinc 3 1, 3) := by decide +kernel
theorem dX6_apart_18 : decode cX6_apart 18 = .ok (.goto (-16), 3) := by decide +kernel
theorem dX6_apart_21 : decode cX6_apart 21 = .ok (.iconst 0, 1) := by decide +kernel
theorem dX6_apart_22 : decode cX6_apart 22 = .ok (.aload_n 2, 1) := by decide +kernel
theorem dX6_apart_23 : decode cX6_apart 23 = .ok (.getfield 41, 3) := by decide +kernel
theorem dX6_apart_26 : decode cX6_apart 26 = .ok (.aload_n 1, 1) := by decide +kernel
theorem dX6_apart_27 : decode cX6_apart 27 = .ok (.getfield 25, 3) := by decide +kernel
theorem dX6_apart_30 : decode cX6_apart 30 = .ok (.isub, 1) := by decide +kernel
theorem dX6_apart_31 : decode cX6_apart 31 = .ok (.invokestatic 52, 3) := by decide +kernel
theorem dX6_apart_34 : decode cX6_apart 34 = .ok (.istore_n 3, 1) := by decide +kernel
theorem dX6_apart_35 : decode cX6_apart 35 = .ok (.iload_n 3, 1) := by decide +kernel
theorem dX6_apart_36 : decode cX6_apart 36 = .ok (.aload_n 2, 1) := by decide +kernel
theorem dX6_apart_37 : decode cX6_apart 37 = .ok (.getfield 41, 3) := by decide +kernel
theorem dX6_apart_40 : decode cX6_apart 40 = .ok (.if_icmp .ge 115, 3) := by decide +kernel
theorem dX6_apart_43 : decode cX6_apart 43 = .ok (.aload_n 0, 1) := by decide +kernel
theorem dX6_apart_44 : decode cX6_apart 44 = .ok (.getfield 9, 3) := by decide +kernel
theorem dX6_apart_47 : decode cX6_apart 47 = .ok (.iconst 0, 1) := by decide +kernel
theorem dX6_apart_48 : decode cX6_apart 48 = .ok (.iaload, 1) := by decide +kernel
theorem dX6_apart_49 : decode cX6_apart 49 = .ok (.istore 4, 2) := by decide +kernel
theorem dX6_apart_51 : decode cX6_apart 51 = .ok (.aload_n 0, 1) := by decide +kernel
theorem dX6_apart_52 : decode cX6_apart 52 = .ok (.getfield 9, 3) := by decide +kernel
theorem dX6_apart_55 : decode cX6_apart 55 = .ok (.iconst 0, 1) := by decide +kernel
theorem dX6_apart_56 : decode cX6_apart 56 = .ok (.dup2, 1) := by decide +kernel
theorem dX6_apart_57 : decode cX6_apart 57 = .ok (.iaload, 1) := by decide +kernel
theorem dX6_apart_58 : decode cX6_apart 58 = .ok (.iconst 1, 1) := by decide +kernel
theorem dX6_apart_59 : decode cX6_apart 59 = .ok (.iadd, 1) := by decide +kernel
theorem dX6_apart_60 : decode cX6_apart 60 = .ok (.iastore, 1) := by decide +kernel
theorem dX6_apart_61 : decode cX6_apart 61 = .ok (.iconst 1, 1) := by decide +kernel
theorem dX6_apart_62 : decode cX6_apart 62 = .ok (.istore 5, 2) := by decide +kernel
theorem dX6_apart_64 : decode cX6_apart 64 = .ok (.iload 5, 2) := by decide +kernel
theorem dX6_apart_66 : decode cX6_apart 66 = .ok (.aload_n 1, 1) := by decide +kernel
theorem dX6_apart_67 : decode cX6_apart 67 = .ok (.getfield 25, 3) := by decide +kernel
theorem dX6_apart_70 : decode cX6_apart 70 = .ok (.if_icmp .gt 79, 3) := by decide +kernel
theorem dX6_apart_73 : decode cX6_apart 73 = .ok (.aload_n 0, 1) := by decide +kernel
theorem dX6_apart_74 : decode cX6_apart 74 = .ok (.getfield 9, 3) := by decide +kernel
theorem dX6_apart_77 : decode cX6_apart 77 = .ok (.iload 5, 2) := by decide +kernel
theorem dX6_apart_79 : decode cX6_apart 79 = .ok (.iaload, 1) := by decide +kernel
theorem dX6_apart_80 : decode cX6_apart 80 = .ok (.istore 6, 2) := by decide +kernel
theorem dX6_apart_82 : decode cX6_apart 82 = .ok (.aload_n 1, 1) := by decide +kernel
theorem dX6_apart_83 : decode cX6_apart 83 = .ok (.getfield 46, 3) := by decide +kernel
theorem dX6_apart_86 : decode cX6_apart 86 = .ok (.iload 5, 2) := by decide +kernel
theorem dX6_apart_88 : decode cX6_apart 88 = .ok (.iconst 1, 1) := by decide +kernel
theorem dX6_apart_89 : decode cX6_apart 89 = .ok (.isub, 1) := by decide +kernel
theorem dX6_apart_90 : decode cX6_apart 90 = .ok (.iaload, 1) := by decide +kernel
theorem dX6_apart_91 : decode cX6_apart 91 = .ok (.aload_n 2, 1) := by decide +kernel
theorem dX6_apart_92 : decode cX6_apart 92 = .ok (.getfield 49, 3) := by decide +kernel
theorem dX6_apart_95 : decode cX6_apart 95 = .ok (.iload_n 3, 1) := by decide +kernel
theorem dX6_apart_96 : decode cX6_apart 96 = .ok (.iaload, 1) := by decide +kernel
theorem dX6_apart_97 : decode cX6_apart 97 = .ok (.if_icmp .ne 8, 3) := by decide +kernel
theorem dX6_apart_100 : decode cX6_apart 100 = .ok (.iload 4, 2) := by decide +kernel
theorem dX6_apart_102 : decode cX6_apart 102 = .ok (.goto 7, 3) := by decide +kernel
theorem dX6_apart_105 : decode cX6_apart 105 = .ok (.iload 4, 2) := by decide +kernel
theorem dX6_apart_107 : decode cX6_apart 107 = .ok (.iconst 1, 1) := by decide +kernel
theorem dX6_apart_108 : decode cX6_apart 108 = .ok (.iadd, 1) := by decide +kernel
theorem dX6_apart_109 : decode cX6_apart 109 = .ok (.istore 7, 2) := by decide +kernel
theorem dX6_apart_111 : decode cX6_apart 111 = .ok (.aload_n 0, 1) := by decide +kernel
theorem dX6_apart_112 : decode cX6_apart 112 = .ok (.getfield 9, 3) := by decide +kernel
theorem dX6_apart_115 : decode cX6_apart 115 = .ok (.iload 5, 2) := by decide +kernel
theorem dX6_apart_117 : decode cX6_apart 117 = .ok (.iload 7, 2) := by decide +kernel
theorem dX6_apart_119 : decode cX6_apart 119 = .ok (.iload 6, 2) := by decide +kernel
theorem dX6_apart_121 : decode cX6_apart 121 = .ok (.aload_n 0, 1) := by decide +kernel
theorem dX6_apart_122 : decode cX6_apart 122 = .ok (.getfield 9, 3) := by decide +kernel
theorem dX6_apart_125 : decode cX6_apart 125 = .ok (.iload 5, 2) := by decide +kernel
theorem dX6_apart_127 : decode cX6_apart 127 = .ok (.iconst 1, 1) := by decide +kernel
theorem dX6_apart_128 : decode cX6_apart 128 = .ok (.isub, 1) := by decide +kernel
theorem dX6_apart_129 : decode cX6_apart 129 = .ok (.iaload, 1) := by decide +kernel
theorem dX6_apart_130 : decode cX6_apart 130 = .ok (.invokestatic 58, 3) := by decide +kernel
theorem dX6_apart_133 : decode cX6_apart 133 = .ok (.iconst 1, 1) := by decide +kernel
theorem dX6_apart_134 : decode cX6_apart 134 = .ok (.iadd, 1) := by decide +kernel
theorem dX6_apart_135 : decode cX6_apart 135 = .ok (.invokestatic 58, 3) := by decide +kernel
theorem dX6_apart_138 : decode cX6_apart 138 = .ok (.iastore, 1) := by decide +kernel
theorem dX6_apart_139 : decode cX6_apart 139 = .ok (.iload 6, 2) := by decide +kernel
theorem dX6_apart_141 : decode cX6_apart 141 = .ok (.istore 4, 2) := by decide +kernel
theorem dX6_apart_143 : decode cX6_apart 143 = .ok (.iinc 5 1, 3) := by decide +kernel
theorem dX6_apart_146 : decode cX6_apart 146 = .ok (.goto (-82), 3) := by decide +kernel
theorem dX6_apart_149 : decode cX6_apart 149 = .ok (.iinc 3 1, 3) := by decide +kernel
theorem dX6_apart_152 : decode cX6_apart 152 = .ok (.goto (-117), 3) := by decide +kernel
theorem dX6_apart_155 : decode cX6_apart 155 = .ok (.aload_n 0, 1) := by decide +kernel
theorem dX6_apart_156 : decode cX6_apart 156 = .ok (.getfield 9, 3) := by decide +kernel
theorem dX6_apart_159 : decode cX6_apart 159 = .ok (.aload_n 1, 1) := by decide +kernel
theorem dX6_apart_160 : decode cX6_apart 160 = .ok (.getfield 25, 3) := by decide +kernel
theorem dX6_apart_163 : decode cX6_apart 163 = .ok (.iaload, 1) := by decide +kernel
theorem dX6_apart_164 : decode cX6_apart 164 = .ok (.ireturn, 1) := by decide +kernel
theorem dX7_init_0 : decode cX7_init 0 = .ok (.aload_n 0, 1) := by decide +kernel
theorem dX7_init_1 : decode cX7_init 1 = .ok (.invokespecial 3, 3) := by decide +kernel
theorem dX7_init_4 : decode cX7_init 4 = .ok (.aload_n 0, 1) := by decide +kernel
theorem dX7_init_5 : decode cX7_init 5 = .ok (.new 9, 3) := by decide +kernel
theorem dX7_init_8 : decode cX7_init 8 = .ok (.dup, 1) := by decide +kernel
theorem dX7_init_9 : decode cX7_init 9 = .ok (.invokespecial 11, 3) := by decide +kernel
theorem dX7_init_12 : decode cX7_init 12 = .ok (.putfield 12, 3) := by decide +kernel
theorem dX7_init_15 : decode cX7_init 15 = .ok (.aload_n 0, 1) := by decide +kernel
theorem dX7_init_16 : decode cX7_init 16 = .ok (.new 18, 3) := by decide +kernel
theorem dX7_init_19 : decode cX7_init 19 = .ok (.dup, 1) := by decide +kernel
theorem dX7_init_20 : decode cX7_init 20 = .ok (.invokespecial 20, 3) := by decide +kernel
theorem dX7_init_23 : decode cX7_init 23 = .ok (.putfield 21, 3) := by decide +kernel
theorem dX7_init_26 : decode cX7_init 26 = .ok (.aload_n 0, 1) := by decide +kernel
theorem dX7_init_27 : decode cX7_init 27 = .ok (.iconst 0, 1) := by decide +kernel
theorem dX7_init_28 : decode cX7_init 28 = .ok (.putfield 25, 3) := by decide +kernel
theorem dX7_init_31 : decode cX7_init 31 = .ok (.aload_n 0, 1) := by decide +kernel
theorem dX7_init_32 : decode cX7_init 32 = .ok (.iconst (-1), 1) := by decide +kernel
theorem dX7_init_33 : decode cX7_init 33 = .ok (.putfield 29, 3) := by decide +kernel
theorem dX7_init_36 : decode cX7_init 36 = .ok (.aload_n 0, 1) := by decide +kernel
theorem dX7_init_37 : decode cX7_init 37 = .ok (.iconst 0, 1) := by decide +kernel
theorem dX7_init_38 : decode cX7_init 38 = .ok (.putfield 32, 3) := by decide +kernel
theorem dX7_init_41 : decode cX7_init 41 = .ok (.aload_n 0, 1) := by decide +kernel
theorem dX7_init_42 : decode cX7_init 42 = .ok (.iconst 0, 1) := by decide +kernel
theorem dX7_init_43 : decode cX7_init 43 = .ok (.putfield 36, 3) := by decide +kernel
theorem dX7_init_46 : decode cX7_init 46 = .ok (.aload_n 0, 1) := by decide +kernel
theorem dX7_init_47 : decode cX7_init 47 = .ok (.iconst 0, 1) := by decide +kernel
theorem dX7_init_48 : decode cX7_init 48 = .ok (.putfield 39, 3) := by decide +kernel
theorem dX7_init_51 : decode cX7_init 51 = .ok (.aload_n 0, 1) := by decide +kernel
theorem dX7_init_52 : decode cX7_init 52 = .ok (.bipush 84, 2) := by decide +kernel
theorem dX7_init_54 : decode cX7_init 54 = .ok (.newarray .int, 2) := by decide +kernel
theorem dX7_init_56 : decode cX7_init 56 = .ok (.putfield 42, 3) := by decide +kernel
theorem dX7_init_59 : decode cX7_init 59 = .ok (.aload_n 0, 1) := by decide +kernel
theorem dX7_init_60 : decode cX7_init 60 = .ok (.iconst 0, 1) := by decide +kernel
theorem dX7_init_61 : decode cX7_init 61 = .ok (.putfield 46, 3) := by decide +kernel
theorem dX7_init_64 : decode cX7_init 64 = .ok (.aload_n 0, 1) := by decide +kernel
theorem dX7_init_65 : decode cX7_init 65 = .ok (.iconst 0, 1) := by decide +kernel
theorem dX7_init_66 : decode cX7_init 66 = .ok (.putfield 49, 3) := by decide +kernel
theorem dX7_init_69 : decode cX7_init 69 = .ok (.return_, 1) := by decide +kernel
theorem dX7_read_0 : decode cX7_read 0 = .ok (.aload_n 0, 1) := by decide +kernel
theorem dX7_read_1 : decode cX7_read 1 = .ok (.getfield 12, 3) := by decide +kernel
theorem dX7_read_4 : decode cX7_read 4 = .ok (.invokevirtual 52, 3) := by decide +kernel
theorem dX7_read_7 : decode cX7_read 7 = .ok (.aload_n 0, 1) := by decide +kernel
theorem dX7_read_8 : decode cX7_read 8 = .ok (.iconst 0, 1) := by decide +kernel
theorem dX7_read_9 : decode cX7_read 9 = .ok (.putfield 25, 3) := by decide +kernel
theorem dX7_read_12 : decode cX7_read 12 = .ok (.aload_n 0, 1) := by decide +kernel
theorem dX7_read_13 : decode cX7_read 13 = .ok (.iconst (-1), 1) := by decide +kernel
theorem dX7_read_14 : decode cX7_read 14 = .ok (.putfield 29, 3) := by decide +kernel
theorem dX7_read_17 : decode cX7_read 17 = .ok (.aload_n 0, 1) := by decide +kernel
theorem dX7_read_18 : decode cX7_read 18 = .ok (.iconst 0, 1) := by decide +kernel
theorem dX7_read_19 : decode cX7_read 19 = .ok (.putfield 32, 3) := by decide +kernel
theorem dX7_read_22 : decode cX7_read 22 = .ok (.aload_n 0, 1) := by decide +kernel
theorem dX7_read_23 : decode cX7_read 23 = .ok (.iconst 0, 1) := by decide +kernel
theorem dX7_read_24 : decode cX7_read 24 = .ok (.putfield 36, 3) := by decide +kernel
theorem dX7_read_27 : decode cX7_read 27 = .ok (.aload_n 0, 1) := by decide +kernel
theorem dX7_read_28 : decode cX7_read 28 = .ok (.iconst 0, 1) := by decide +kernel
theorem dX7_read_29 : decode cX7_read 29 = .ok (.putfield 39, 3) := by decide +kernel
theorem dX7_read_32 : decode cX7_read 32 = .ok (.aload_n 0, 1) := by decide +kernel
theorem dX7_read_33 : decode cX7_read 33 = .ok (.getfield 21, 3) := by decide +kernel
theorem dX7_read_36 : decode cX7_read 36 = .ok (.iload_n 1, 1) := by decide +kernel
theorem dX7_read_37 : decode cX7_read 37 = .ok (.invokevirtual 55, 3) := by decide +kernel
theorem dX7_read_40 : decode cX7_read 40 = .ok (.iconst 0, 1) := by decide +kernel
theorem dX7_read_41 : decode cX7_read 41 = .ok (.istore_n 2, 1) := by decide +kernel
theorem dX7_read_42 : decode cX7_read 42 = .ok (.iload_n 2, 1) := by decide +kernel
theorem dX7_read_43 : decode cX7_read 43 = .ok (.sipush 600, 3) := by decide +kernel
theorem dX7_read_46 : decode cX7_read 46 = .ok (.if_icmp .ge 31, 3) := by decide +kernel
theorem dX7_read_49 : decode cX7_read 49 = .ok (.aload_n 0, 1) := by decide +kernel
theorem dX7_read_50 : decode cX7_read 50 = .ok (.getfield 25, 3) := by decide +kernel
theorem dX7_read_53 : decode cX7_read 53 = .ok (.ifCond .ne 24, 3) := by decide +kernel
theorem dX7_read_56 : decode cX7_read 56 = .ok (.aload_n 0, 1) := by decide +kernel
theorem dX7_read_57 : decode cX7_read 57 = .ok (.getfield 21, 3) := by decide +kernel
theorem dX7_read_60 : decode cX7_read 60 = .ok (.getfield 59, 3) := by decide +kernel
theorem dX7_read_63 : decode cX7_read 63 = .ok (.ifCond .eq 14, 3) := by decide +kernel
theorem dX7_read_66 : decode cX7_read 66 = .ok (.aload_n 0, 1) := by decide +kernel
theorem dX7_read_67 : decode cX7_read 67 = .ok (.invokevirtual 62, 3) := by decide +kernel
theorem dX7_read_70 : decode cX7_read 70 = .ok (.pop, 1) := by decide +kernel
theorem dX7_read_71 : decode cX7_read 71 = .ok (.iinc 2 1, 3) := by decide +kernel
theorem dX7_read_74 : decode cX7_read 74 = .ok (.goto (-32), 3) := by decide +kernel
theorem dX7_read_77 : decode cX7_read 77 = .ok (.aload_n 0, 1) := by decide +kernel
theorem dX7_read_78 : decode cX7_read 78 = .ok (.getfield 12, 3) := by decide +kernel
theorem dX7_read_81 : decode cX7_read 81 = .ok (.invokevirtual 66, 3) := by decide +kernel
theorem dX7_read_84 : decode cX7_read 84 = .ok (.aload_n 0, 1) := by decide +kernel
theorem dX7_read_85 : decode cX7_read 85 = .ok (.getfield 25, 3) := by decide +kernel
theorem dX7_read_88 : decode cX7_read 88 = .ok (.ireturn, 1) := by decide +kernel
theorem dX7_refuse_0 : decode cX7_refuse 0 = .ok (.aload_n 0, 1) := by decide +kernel
theorem dX7_refuse_1 : decode cX7_refuse 1 = .ok (.iload_n 1, 1) := by decide +kernel
theorem dX7_refuse_2 : decode cX7_refuse 2 = .ok (.putfield 25, 3) := by decide +kernel
theorem dX7_refuse_5 : decode cX7_refuse 5 = .ok (.aload_n 0, 1) := by decide +kernel
theorem dX7_refuse_6 : decode cX7_refuse 6 = .ok (.aload_n 0, 1) := by decide +kernel
theorem dX7_refuse_7 : decode cX7_refuse 7 = .ok (.getfield 21, 3) := by decide +kernel
theorem dX7_refuse_10 : decode cX7_refuse 10 = .ok (.getfield 69, 3) := by decide +kernel
theorem dX7_refuse_13 : decode cX7_refuse 13 = .ok (.putfield 29, 3) := by decide +kernel
theorem dX7_refuse_16 : decode cX7_refuse 16 = .ok (.iconst 0, 1) := by decide +kernel
theorem dX7_refuse_17 : decode cX7_refuse 17 = .ok (.ireturn, 1) := by decide +kernel
theorem dX7_readLine_0 : decode cX7_readLine 0 = .ok (.aload_n 0, 1) := by decide +kernel
theorem dX7_readLine_1 : decode cX7_readLine 1 = .ok (.getfield 21, 3) := by decide +kernel
theorem dX7_readLine_4 : decode cX7_readLine 4 = .ok (.getfield 59, 3) := by decide +kernel
theorem dX7_readLine_7 : decode cX7_readLine 7 = .ok (.istore_n 1, 1) := by decide +kernel
theorem dX7_readLine_8 : decode cX7_readLine 8 = .ok (.iload_n 1, 1) := by decide +kernel
theorem dX7_readLine_9 : decode cX7_readLine 9 = .ok (.bipush 100, 2) := by decide +kernel
theorem dX7_readLine_11 : decode cX7_readLine 11 = .ok (.if_icmp .lt 33, 3) := by decide +kernel
theorem dX7_readLine_14 : decode cX7_readLine 14 = .ok (.iload_n 1, 1) := by decide +kernel
theorem dX7_readLine_15 : decode cX7_readLine 15 = .ok (.bipush 103, 2) := by decide +kernel
theorem dX7_readLine_17 : decode cX7_readLine 17 = .ok (.if_icmp .gt 27, 3) := by decide +kernel
theorem dX7_readLine_20 : decode cX7_readLine 20 = .ok (.aload_n 0, 1) := by decide +kernel
theorem dX7_readLine_21 : decode cX7_readLine 21 = .ok (.iload_n 1, 1) := by decide +kernel
theorem dX7_readLine_22 : decode cX7_readLine 22 = .ok (.bipush 100, 2) := by decide +kernel
theorem dX7_readLine_24 : decode cX7_readLine 24 = .ok (.isub, 1) := by decide +kernel
theorem dX7_readLine_25 : decode cX7_readLine 25 = .ok (.invokevirtual 72, 3) := by decide +kernel
theorem dX7_readLine_28 : decode cX7_readLine 28 = .ok (.ifCond .eq 14, 3) := by decide +kernel
theorem dX7_readLine_31 : decode cX7_readLine 31 = .ok (.aload_n 0, 1) := by decide +kernel
theorem dX7_readLine_32 : decode cX7_readLine 32 = .ok (.invokevirtual 76, 3) := by decide +kernel
theorem dX7_readLine_35 : decode cX7_readLine 35 = .ok (.ifCond .eq 7, 3) := by decide +kernel
theorem dX7_readLine_38 : decode cX7_readLine 38 = .ok (.iconst 1, 1) := by decide +kernel
theorem dX7_readLine_39 : decode cX7_readLine 39 = .ok (.goto 4, 3) := by decide +kernel
theorem dX7_readLine_42 : decode cX7_readLine 42 = .ok (.iconst 0, 1) := by decide +kernel
theorem dX7_readLine_43 : decode cX7_readLine 43 = .ok (.ireturn, 1) := by decide +kernel
theorem dX7_readLine_44 : decode cX7_readLine 44 = .ok (.iload_n 1, 1) := by decide +kernel
theorem dX7_readLine_45 : decode cX7_readLine 45 = .ok (.tableswitch 123 104 110 #[63, 83, 103, 123, 123, 123, 43], 43) := by decide +kernel
theorem dX7_readLine_88 : decode cX7_readLine 88 = .ok (.aload_n 0, 1) := by decide +kernel
theorem dX7_readLine_89 : decode cX7_readLine 89 = .ok (.invokevirtual 79, 3) := by decide +kernel
theorem dX7_readLine_92 : decode cX7_readLine 92 = .ok (.ifCond .eq 14, 3) := by decide +kernel
theorem dX7_readLine_95 : decode cX7_readLine 95 = .ok (.aload_n 0, 1) := by decide +kernel
theorem dX7_readLine_96 : decode cX7_readLine 96 = .ok (.invokevirtual 76, 3) := by decide +kernel
theorem dX7_readLine_99 : decode cX7_readLine 99 = .ok (.ifCond .eq 7, 3) := by decide +kernel
theorem dX7_readLine_102 : decode cX7_readLine 102 = .ok (.iconst 1, 1) := by decide +kernel
theorem dX7_readLine_103 : decode cX7_readLine 103 = .ok (.goto 4, 3) := by decide +kernel
theorem dX7_readLine_106 : decode cX7_readLine 106 = .ok (.iconst 0, 1) := by decide +kernel
theorem dX7_readLine_107 : decode cX7_readLine 107 = .ok (.ireturn, 1) := by decide +kernel
theorem dX7_readLine_108 : decode cX7_readLine 108 = .ok (.aload_n 0, 1) := by decide +kernel
theorem dX7_readLine_109 : decode cX7_readLine 109 = .ok (.invokevirtual 82, 3) := by decide +kernel
theorem dX7_readLine_112 : decode cX7_readLine 112 = .ok (.ifCond .eq 14, 3) := by decide +kernel
theorem dX7_readLine_115 : decode cX7_readLine 115 = .ok (.aload_n 0, 1) := by decide +kernel
theorem dX7_readLine_116 : decode cX7_readLine 116 = .ok (.invokevirtual 76, 3) := by decide +kernel
theorem dX7_readLine_119 : decode cX7_readLine 119 = .ok (.ifCond .eq 7, 3) := by decide +kernel
theorem dX7_readLine_122 : decode cX7_readLine 122 = .ok (.iconst 1, 1) := by decide +kernel
theorem dX7_readLine_123 : decode cX7_readLine 123 = .ok (.goto 4, 3) := by decide +kernel
theorem dX7_readLine_126 : decode cX7_readLine 126 = .ok (.iconst 0, 1) := by decide +kernel
theorem dX7_readLine_127 : decode cX7_readLine 127 = .ok (.ireturn, 1) := by decide +kernel
theorem dX7_readLine_128 : decode cX7_readLine 128 = .ok (.aload_n 0, 1) := by decide +kernel
theorem dX7_readLine_129 : decode cX7_readLine 129 = .ok (.invokevirtual 85, 3) := by decide +kernel
theorem dX7_readLine_132 : decode cX7_readLine 132 = .ok (.ifCond .eq 14, 3) := by decide +kernel
theorem dX7_readLine_135 : decode cX7_readLine 135 = .ok (.aload_n 0, 1) := by decide +kernel
theorem dX7_readLine_136 : decode cX7_readLine 136 = .ok (.invokevirtual 76, 3) := by decide +kernel
theorem dX7_readLine_139 : decode cX7_readLine 139 = .ok (.ifCond .eq 7, 3) := by decide +kernel
theorem dX7_readLine_142 : decode cX7_readLine 142 = .ok (.iconst 1, 1) := by decide +kernel
theorem dX7_readLine_143 : decode cX7_readLine 143 = .ok (.goto 4, 3) := by decide +kernel
theorem dX7_readLine_146 : decode cX7_readLine 146 = .ok (.iconst 0, 1) := by decide +kernel
theorem dX7_readLine_147 : decode cX7_readLine 147 = .ok (.ireturn, 1) := by decide +kernel
theorem dX7_readLine_148 : decode cX7_readLine 148 = .ok (.aload_n 0, 1) := by decide +kernel
theorem dX7_readLine_149 : decode cX7_readLine 149 = .ok (.invokevirtual 88, 3) := by decide +kernel
theorem dX7_readLine_152 : decode cX7_readLine 152 = .ok (.ifCond .eq 14, 3) := by decide +kernel
theorem dX7_readLine_155 : decode cX7_readLine 155 = .ok (.aload_n 0, 1) := by decide +kernel
theorem dX7_readLine_156 : decode cX7_readLine 156 = .ok (.invokevirtual 76, 3) := by decide +kernel
theorem dX7_readLine_159 : decode cX7_readLine 159 = .ok (.ifCond .eq 7, 3) := by decide +kernel
theorem dX7_readLine_162 : decode cX7_readLine 162 = .ok (.iconst 1, 1) := by decide +kernel
theorem dX7_readLine_163 : decode cX7_readLine 163 = .ok (.goto 4, 3) := by decide +kernel
theorem dX7_readLine_166 : decode cX7_readLine 166 = .ok (.iconst 0, 1) := by decide +kernel
theorem dX7_readLine_167 : decode cX7_readLine 167 = .ok (.ireturn, 1) := by decide +kernel
theorem dX7_readLine_168 : decode cX7_readLine 168 = .ok (.aload_n 0, 1) := by decide +kernel
theorem dX7_readLine_169 : decode cX7_readLine 169 = .ok (.iconst 1, 1) := by decide +kernel
theorem dX7_readLine_170 : decode cX7_readLine 170 = .ok (.invokevirtual 91, 3) := by decide +kernel
theorem dX7_readLine_173 : decode cX7_readLine 173 = .ok (.ireturn, 1) := by decide +kernel
theorem dX7_readEnd_0 : decode cX7_readEnd 0 = .ok (.aload_n 0, 1) := by decide +kernel
theorem dX7_readEnd_1 : decode cX7_readEnd 1 = .ok (.getfield 21, 3) := by decide +kernel
theorem dX7_readEnd_4 : decode cX7_readEnd 4 = .ok (.getfield 59, 3) := by decide +kernel
theorem dX7_readEnd_7 : decode cX7_readEnd 7 = .ok (.bipush 59, 2) := by decide +kernel
theorem dX7_readEnd_9 : decode cX7_readEnd 9 = .ok (.if_icmp .eq 9, 3) := by decide +kernel
theorem dX7_readEnd_12 : decode cX7_readEnd 12 = .ok (.aload_n 0, 1) := by decide +kernel
theorem dX7_readEnd_13 : decode cX7_readEnd 13 = .ok (.iconst 1, 1) := by decide +kernel
theorem dX7_readEnd_14 : decode cX7_readEnd 14 = .ok (.invokevirtual 91, 3) := by decide +kernel
theorem dX7_readEnd_17 : decode cX7_readEnd 17 = .ok (.ireturn, 1) := by decide +kernel
theorem dX7_readEnd_18 : decode cX7_readEnd 18 = .ok (.aload_n 0, 1) := by decide +kernel
theorem dX7_readEnd_19 : decode cX7_readEnd 19 = .ok (.getfield 21, 3) := by decide +kernel
theorem dX7_readEnd_22 : decode cX7_readEnd 22 = .ok (.invokevirtual 94, 3) := by decide +kernel
theorem dX7_readEnd_25 : decode cX7_readEnd 25 = .ok (.iconst 1, 1) := by decide +kernel
theorem dX7_readEnd_26 : decode cX7_readEnd 26 = .ok (.ireturn, 1) := by decide +kernel
theorem dX7_isNumber_0 : decode cX7_isNumber 0 = .ok (.aload_n 0, 1) := by decide +kernel
theorem dX7_isNumber_1 : decode cX7_isNumber 1 = .ok (.getfield 21, 3) := by decide +kernel
theorem dX7_isNumber_4 : decode cX7_isNumber 4 = .ok (.getfield 59, 3) := by decide +kernel
theorem dX7_isNumber_7 : decode cX7_isNumber 7 = .ok (.iconst 2, 1) := by decide +kernel
theorem dX7_isNumber_8 : decode cX7_isNumber 8 = .ok (.if_icmp .eq 9, 3) := by decide +kernel
theorem dX7_isNumber_11 : decode cX7_isNumber 11 = .ok (.aload_n 0, 1) := by decide +kernel
theorem dX7_isNumber_12 : decode cX7_isNumber 12 = .ok (.iconst 1, 1) := by decide +kernel
theorem dX7_isNumber_13 : decode cX7_isNumber 13 = .ok (.invokevirtual 91, 3) := by decide +kernel
theorem dX7_isNumber_16 : decode cX7_isNumber 16 = .ok (.ireturn, 1) := by decide +kernel
theorem dX7_isNumber_17 : decode cX7_isNumber 17 = .ok (.aload_n 0, 1) := by decide +kernel
theorem dX7_isNumber_18 : decode cX7_isNumber 18 = .ok (.getfield 21, 3) := by decide +kernel
theorem dX7_isNumber_21 : decode cX7_isNumber 21 = .ok (.getfield 97, 3) := by decide +kernel
theorem dX7_isNumber_24 : decode cX7_isNumber 24 = .ok (.iconst 4, 1) := by decide +kernel
theorem dX7_isNumber_25 : decode cX7_isNumber 25 = .ok (.if_icmp .gt 25, 3) := by decide +kernel
theorem dX7_isNumber_28 : decode cX7_isNumber 28 = .ok (.aload_n 0, 1) := by decide +kernel
theorem dX7_isNumber_29 : decode cX7_isNumber 29 = .ok (.getfield 21, 3) := by decide +kernel
theorem dX7_isNumber_32 : decode cX7_isNumber 32 = .ok (.getfield 100, 3) := by decide +kernel
theorem dX7_isNumber_35 : decode cX7_isNumber 35 = .ok (.iload_n 1, 1) := by decide +kernel
theorem dX7_isNumber_36 : decode cX7_isNumber 36 = .ok (.if_icmp .lt 14, 3) := by decide +kernel
theorem dX7_isNumber_39 : decode cX7_isNumber 39 = .ok (.aload_n 0, 1) := by decide +kernel
theorem dX7_isNumber_40 : decode cX7_isNumber 40 = .ok (.getfield 21, 3) := by decide +kernel
theorem dX7_isNumber_43 : decode cX7_isNumber 43 = .ok (.getfield 100, 3) := by decide +kernel
theorem dX7_isNumber_46 : decode cX7_isNumber 46 = .ok (.iload_n 2, 1) := by decide +kernel
theorem dX7_isNumber_47 : decode cX7_isNumber 47 = .ok (.if_icmp .le 9, 3) := by decide +kernel
theorem dX7_isNumber_50 : decode cX7_isNumber 50 = .ok (.aload_n 0, 1) := by decide +kernel
theorem dX7_isNumber_51 : decode cX7_isNumber 51 = .ok (.iconst 2, 1) := by decide +kernel
theorem dX7_isNumber_52 : decode cX7_isNumber 52 = .ok (.invokevirtual 91, 3) := by decide +kernel
theorem dX7_isNumber_55 : decode cX7_isNumber 55 = .ok (.ireturn, 1) := by decide +kernel
theorem dX7_isNumber_56 : decode cX7_isNumber 56 = .ok (.iconst 1, 1) := by decide +kernel
theorem dX7_isNumber_57 : decode cX7_isNumber 57 = .ok (.ireturn, 1) := by decide +kernel
theorem dX7_readPerson_0 : decode cX7_readPerson 0 = .ok (.aload_n 0, 1) := by decide +kernel
theorem dX7_readPerson_1 : decode cX7_readPerson 1 = .ok (.getfield 12, 3) := by decide +kernel
theorem dX7_readPerson_4 : decode cX7_readPerson 4 = .ok (.getfield 103, 3) := by decide +kernel
theorem dX7_readPerson_7 : decode cX7_readPerson 7 = .ok (.bipush 8, 2) := by decide +kernel
theorem dX7_readPerson_9 : decode cX7_readPerson 9 = .ok (.if_icmp .lt 9, 3) := by decide +kernel
theorem dX7_readPerson_12 : decode cX7_readPerson 12 = .ok (.aload_n 0, 1) := by decide +kernel
theorem dX7_readPerson_13 : decode cX7_readPerson 13 = .ok (.iconst 2, 1) := by decide +kernel
theorem dX7_readPerson_14 : decode cX7_readPerson 14 = .ok (.invokevirtual 91, 3) := by decide +kernel
theorem dX7_readPerson_17 : decode cX7_readPerson 17 = .ok (.ireturn, 1) := by decide +kernel
theorem dX7_readPerson_18 : decode cX7_readPerson 18 = .ok (.aload_n 0, 1) := by decide +kernel
theorem dX7_readPerson_19 : decode cX7_readPerson 19 = .ok (.getfield 21, 3) := by decide +kernel
theorem dX7_readPerson_22 : decode cX7_readPerson 22 = .ok (.invokevirtual 94, 3) := by decide +kernel
theorem dX7_readPerson_25 : decode cX7_readPerson 25 = .ok (.aload_n 0, 1) := by decide +kernel
theorem dX7_readPerson_26 : decode cX7_readPerson 26 = .ok (.iconst 0, 1) := by decide +kernel
theorem dX7_readPerson_27 : decode cX7_readPerson 27 = .ok (.iconst 3, 1) := by decide +kernel
theorem dX7_readPerson_28 : decode cX7_readPerson 28 = .ok (.invokevirtual 106, 3) := by decide +kernel
theorem dX7_readPerson_31 : decode cX7_readPerson 31 = .ok (.ifCond .ne 5, 3) := by decide +kernel
theorem dX7_readPerson_34 : decode cX7_readPerson 34 = .ok (.iconst 0, 1) := by decide +kernel
theorem dX7_readPerson_35 : decode cX7_readPerson 35 = .ok (.ireturn, 1) := by decide +kernel
theorem dX7_readPerson_36 : decode cX7_readPerson 36 = .ok (.aload_n 0, 1) := by decide +kernel
theorem dX7_readPerson_37 : decode cX7_readPerson 37 = .ok (.getfield 21, 3) := by decide +kernel
theorem dX7_readPerson_40 : decode cX7_readPerson 40 = .ok (.getfield 100, 3) := by decide +kernel
theorem dX7_readPerson_43 : decode cX7_readPerson 43 = .ok (.istore_n 2, 1) := by decide +kernel
theorem dX7_readPerson_44 : decode cX7_readPerson 44 = .ok (.aload_n 0, 1) := by decide +kernel
theorem dX7_readPerson_45 : decode cX7_readPerson 45 = .ok (.getfield 21, 3) := by decide +kernel
theorem dX7_readPerson_48 : decode cX7_readPerson 48 = .ok (.invokevirtual 94, 3) := by decide +kernel
theorem dX7_readPerson_51 : decode cX7_readPerson 51 = .ok (.aload_n 0, 1) := by decide +kernel
theorem dX7_readPerson_52 : decode cX7_readPerson 52 = .ok (.iconst 1, 1) := by decide +kernel
theorem dX7_readPerson_53 : decode cX7_readPerson 53 = .ok (.sipush 365, 3) := by decide +kernel
theorem dX7_readPerson_56 : decode cX7_readPerson 56 = .ok (.invokevirtual 106, 3) := by decide +kernel
theorem dX7_readPerson_59 : decode cX7_readPerson 59 = .ok (.ifCond .ne 5, 3) := by decide +kernel
theorem dX7_readPerson_62 : decode cX7_readPerson 62 = .ok (.iconst 0, 1) := by decide +kernel
theorem dX7_readPerson_63 : decode cX7_readPerson 63 = .ok (.ireturn, 1) := by decide +kernel
theorem dX7_readPerson_64 : decode cX7_readPerson 64 = .ok (.aload_n 0, 1) := by decide +kernel
theorem dX7_readPerson_65 : decode cX7_readPerson 65 = .ok (.getfield 21, 3) := by decide +kernel
theorem dX7_readPerson_68 : decode cX7_readPerson 68 = .ok (.getfield 100, 3) := by decide +kernel
theorem dX7_readPerson_71 : decode cX7_readPerson 71 = .ok (.istore_n 3, 1) := by decide +kernel
theorem dX7_readPerson_72 : decode cX7_readPerson 72 = .ok (.aload_n 0, 1) := by decide +kernel
theorem dX7_readPerson_73 : decode cX7_readPerson 73 = .ok (.getfield 12, 3) := by decide +kernel
theorem dX7_readPerson_76 : decode cX7_readPerson 76 = .ok (.iload_n 3, 1) := by decide +kernel
theorem dX7_readPerson_77 : decode cX7_readPerson 77 = .ok (.invokevirtual 110, 3) := by decide +kernel
theorem dX7_readPerson_80 : decode cX7_readPerson 80 = .ok (.ifCond .eq 9, 3) := by decide +kernel
theorem dX7_readPerson_83 : decode cX7_readPerson 83 = .ok (.aload_n 0, 1) := by decide +kernel
theorem dX7_readPerson_84 : decode cX7_readPerson 84 = .ok (.iconst 4, 1) := by decide +kernel
theorem dX7_readPerson_85 : decode cX7_readPerson 85 = .ok (.invokevirtual 91, 3) := by decide +kernel
theorem dX7_readPerson_88 : decode cX7_readPerson 88 = .ok (.ireturn, 1) := by decide +kernel
theorem dX7_readPerson_89 : decode cX7_readPerson 89 = .ok (.aload_n 0, 1) := by decide +kernel
theorem dX7_readPerson_90 : decode cX7_readPerson 90 = .ok (.getfield 21, 3) := by decide +kernel
theorem dX7_readPerson_93 : decode cX7_readPerson 93 = .ok (.invokevirtual 94, 3) := by decide +kernel
theorem dX7_readPerson_96 : decode cX7_readPerson 96 = .ok (.aload_n 0, 1) := by decide +kernel
theorem dX7_readPerson_97 : decode cX7_readPerson 97 = .ok (.iconst 0, 1) := by decide +kernel
theorem dX7_readPerson_98 : decode cX7_readPerson 98 = .ok (.bipush 11, 2) := by decide +kernel
theorem dX7_readPerson_100 : decode cX7_readPerson 100 = .ok (.invokevirtual 106, 3) := by decide +kernel
theorem dX7_readPerson_103 : decode cX7_readPerson 103 = .ok (.ifCond .ne 5, 3) := by decide +kernel
theorem dX7_readPerson_106 : decode cX7_readPerson 106 = .ok (.iconst 0, 1) := by decide +kernel
theorem dX7_readPerson_107 : decode cX7_readPerson 107 = .ok (.ireturn, 1) := by decide +kernel
theorem dX7_readPerson_108 : decode cX7_readPerson 108 = .ok (.aload_n 0, 1) := by decide +kernel
theorem dX7_readPerson_109 : decode cX7_readPerson 109 = .ok (.getfield 12, 3) := by decide +kernel
theorem dX7_readPerson_112 : decode cX7_readPerson 112 = .ok (.iload_n 1, 1) := by decide +kernel
theorem dX7_readPerson_113 : decode cX7_readPerson 113 = .ok (.iload_n 2, 1) := by decide +kernel
theorem dX7_readPerson_114 : decode cX7_readPerson 114 = .ok (.iload_n 3, 1) := by decide +kernel
theorem dX7_readPerson_115 : decode cX7_readPerson 115 = .ok (.aload_n 0, 1) := by decide +kernel
theorem dX7_readPerson_116 : decode cX7_readPerson 116 = .ok (.getfield 21, 3) := by decide +kernel
theorem dX7_readPerson_119 : decode cX7_readPerson 119 = .ok (.getfield 100, 3) := by decide +kernel
theorem dX7_readPerson_122 : decode cX7_readPerson 122 = .ok (.invokevirtual 113, 3) := by decide +kernel
theorem dX7_readPerson_125 : decode cX7_readPerson 125 = .ok (.aload_n 0, 1) := by decide +kernel
theorem dX7_readPerson_126 : decode cX7_readPerson 126 = .ok (.getfield 21, 3) := by decide +kernel
theorem dX7_readPerson_129 : decode cX7_readPerson 129 = .ok (.invokevirtual 94, 3) := by decide +kernel
theorem dX7_readPerson_132 : decode cX7_readPerson 132 = .ok (.iconst 1, 1) := by decide +kernel
theorem dX7_readPerson_133 : decode cX7_readPerson 133 = .ok (.ireturn, 1) := by decide +kernel
theorem dX7_readKey_0 : decode cX7_readKey 0 = .ok (.aload_n 0, 1) := by decide +kernel
theorem dX7_readKey_1 : decode cX7_readKey 1 = .ok (.getfield 32, 3) := by decide +kernel
theorem dX7_readKey_4 : decode cX7_readKey 4 = .ok (.ifCond .eq 9, 3) := by decide +kernel
theorem dX7_readKey_7 : decode cX7_readKey 7 = .ok (.aload_n 0, 1) := by decide +kernel
theorem dX7_readKey_8 : decode cX7_readKey 8 = .ok (.iconst 5, 1) := by decide +kernel
theorem dX7_readKey_9 : decode cX7_readKey 9 = .ok (.invokevirtual 91, 3) := by decide +kernel
theorem dX7_readKey_12 : decode cX7_readKey 12 = .ok (.ireturn, 1) := by decide +kernel
theorem dX7_readKey_13 : decode cX7_readKey 13 = .ok (.aload_n 0, 1) := by decide +kernel
theorem dX7_readKey_14 : decode cX7_readKey 14 = .ok (.iconst 1, 1) := by decide +kernel
theorem dX7_readKey_15 : decode cX7_readKey 15 = .ok (.putfield 32, 3) := by decide +kernel
theorem dX7_readKey_18 : decode cX7_readKey 18 = .ok (.aload_n 0, 1) := by decide +kernel
theorem dX7_readKey_19 : decode cX7_readKey 19 = .ok (.getfield 21, 3) := by decide +kernel
theorem dX7_readKey_22 : decode cX7_readKey 22 = .ok (.invokevirtual 94, 3) := by decide +kernel
theorem dX7_readKey_25 : decode cX7_readKey 25 = .ok (.aload_n 0, 1) := by decide +kernel
theorem dX7_readKey_26 : decode cX7_readKey 26 = .ok (.iconst 0, 1) := by decide +kernel
theorem dX7_readKey_27 : decode cX7_readKey 27 = .ok (.bipush 11, 2) := by decide +kernel
theorem dX7_readKey_29 : decode cX7_readKey 29 = .ok (.invokevirtual 106, 3) := by decide +kernel
theorem dX7_readKey_32 : decode cX7_readKey 32 = .ok (.ifCond .ne 5, 3) := by decide +kernel
theorem dX7_readKey_35 : decode cX7_readKey 35 = .ok (.iconst 0, 1) := by decide +kernel
theorem dX7_readKey_36 : decode cX7_readKey 36 = .ok (.ireturn, 1) := by decide +kernel
theorem dX7_readKey_37 : decode cX7_readKey 37 = .ok (.aload_n 0, 1) := by decide +kernel
theorem dX7_readKey_38 : decode cX7_readKey 38 = .ok (.getfield 12, 3) := by decide +kernel
theorem dX7_readKey_41 : decode cX7_readKey 41 = .ok (.aload_n 0, 1) := by decide +kernel
theorem dX7_readKey_42 : decode cX7_readKey 42 = .ok (.getfield 21, 3) := by decide +kernel
theorem dX7_readKey_45 : decode cX7_readKey 45 = .ok (.getfield 100, 3) := by decide +kernel
theorem dX7_readKey_48 : decode cX7_readKey 48 = .ok (.putfield 117, 3) := by decide +kernel
theorem dX7_readKey_51 : decode cX7_readKey 51 = .ok (.aload_n 0, 1) := by decide +kernel
theorem dX7_readKey_52 : decode cX7_readKey 52 = .ok (.getfield 21, 3) := by decide +kernel
theorem dX7_readKey_55 : decode cX7_readKey 55 = .ok (.invokevirtual 94, 3) := by decide +kernel
theorem dX7_readKey_58 : decode cX7_readKey 58 = .ok (.iconst 1, 1) := by decide +kernel
theorem dX7_readKey_59 : decode cX7_readKey 59 = .ok (.ireturn, 1) := by decide +kernel
theorem dX7_isToldPerson_0 : decode cX7_isToldPerson 0 = .ok (.aload_n 0, 1) := by decide +kernel
theorem dX7_isToldPerson_1 : decode cX7_isToldPerson 1 = .ok (.iconst 0, 1) := by decide +kernel
theorem dX7_isToldPerson_2 : decode cX7_isToldPerson 2 = .ok (.sipush 9999, 3) := by decide +kernel
theorem dX7_isToldPerson_5 : decode cX7_isToldPerson 5 = .ok (.invokevirtual 106, 3) := by decide +kernel
theorem dX7_isToldPerson_8 : decode cX7_isToldPerson 8 = .ok (.ifCond .ne 5, 3) := by decide +kernel
theorem dX7_isToldPerson_11 : decode cX7_isToldPerson 11 = .ok (.iconst 0, 1) := by decide +kernel
theorem dX7_isToldPerson_12 : decode cX7_isToldPerson 12 = .ok (.ireturn, 1) := by decide +kernel
theorem dX7_isToldPerson_13 : decode cX7_isToldPerson 13 = .ok (.aload_n 0, 1) := by decide +kernel
theorem dX7_isToldPerson_14 : decode cX7_isToldPerson 14 = .ok (.getfield 21, 3) := by decide +kernel
theorem dX7_isToldPerson_17 : decode cX7_isToldPerson 17 = .ok (.getfield 100, 3) := by decide +kernel
theorem dX7_isToldPerson_20 : decode cX7_isToldPerson 20 = .ok (.aload_n 0, 1) := by decide +kernel
theorem dX7_isToldPerson_21 : decode cX7_isToldPerson 21 = .ok (.getfield 12, 3) := by decide +kernel
theorem dX7_isToldPerson_24 : decode cX7_isToldPerson 24 = .ok (.getfield 103, 3) := by decide +kernel
theorem dX7_isToldPerson_27 : decode cX7_isToldPerson 27 = .ok (.if_icmp .lt 11, 3) := by decide +kernel
theorem dX7_isToldPerson_30 : decode cX7_isToldPerson 30 = .ok (.aload_n 0, 1) := by decide +kernel
theorem dX7_isToldPerson_31 : decode cX7_isToldPerson 31 = .ok (.iconst 3, 1) := by decide +kernel
theorem dX7_isToldPerson_32 : decode cX7_isToldPerson 32 = .ok (.invokevirtual 91, 3) := by decide +kernel
theorem dX7_isToldPerson_35 : decode cX7_isToldPerson 35 = .ok (.ifCond .eq 7, 3) := by decide +kernel
theorem dX7_isToldPerson_38 : decode cX7_isToldPerson 38 = .ok (.iconst 1, 1) := by decide +kernel
theorem dX7_isToldPerson_39 : decode cX7_isToldPerson 39 = .ok (.goto 4, 3) := by decide +kernel
theorem dX7_isToldPerson_42 : decode cX7_isToldPerson 42 = .ok (.iconst 0, 1) := by decide +kernel
theorem dX7_isToldPerson_43 : decode cX7_isToldPerson 43 = .ok (.ireturn, 1) := by decide +kernel
theorem dX7_readFeud_0 : decode cX7_readFeud 0 = .ok (.aload_n 0, 1) := by decide +kernel
theorem dX7_readFeud_1 : decode cX7_readFeud 1 = .ok (.getfield 12, 3) := by decide +kernel
theorem dX7_readFeud_4 : decode cX7_readFeud 4 = .ok (.getfield 120, 3) := by decide +kernel
theorem dX7_readFeud_7 : decode cX7_readFeud 7 = .ok (.getfield 124, 3) := by decide +kernel
theorem dX7_readFeud_10 : decode cX7_readFeud 10 = .ok (.bipush 6, 2) := by decide +kernel
theorem dX7_readFeud_12 : decode cX7_readFeud 12 = .ok (.if_icmp .lt 9, 3) := by decide +kernel
theorem dX7_readFeud_15 : decode cX7_readFeud 15 = .ok (.aload_n 0, 1) := by decide +kernel
theorem dX7_readFeud_16 : decode cX7_readFeud 16 = .ok (.iconst 2, 1) := by decide +kernel
theorem dX7_readFeud_17 : decode cX7_readFeud 17 = .ok (.invokevirtual 91, 3) := by decide +kernel
theorem dX7_readFeud_20 : decode cX7_readFeud 20 = .ok (.ireturn, 1) := by decide +kernel
theorem dX7_readFeud_21 : decode cX7_readFeud 21 = .ok (.aload_n 0, 1) := by decide +kernel
theorem dX7_readFeud_22 : decode cX7_readFeud 22 = .ok (.getfield 21, 3) := by decide +kernel
theorem dX7_readFeud_25 : decode cX7_readFeud 25 = .ok (.invokevirtual 94, 3) := by decide +kernel
theorem dX7_readFeud_28 : decode cX7_readFeud 28 = .ok (.aload_n 0, 1) := by decide +kernel
theorem dX7_readFeud_29 : decode cX7_readFeud 29 = .ok (.invokevirtual 129, 3) := by decide +kernel
theorem dX7_readFeud_32 : decode cX7_readFeud 32 = .ok (.ifCond .ne 5, 3) := by decide +kernel
theorem dX7_readFeud_35 : decode cX7_readFeud 35 = .ok (.iconst 0, 1) := by decide +kernel
theorem dX7_readFeud_36 : decode cX7_readFeud 36 = .ok (.ireturn, 1) := by decide +kernel
theorem dX7_readFeud_37 : decode cX7_readFeud 37 = .ok (.aload_n 0, 1) := by decide +kernel
theorem dX7_readFeud_38 : decode cX7_readFeud 38 = .ok (.getfield 21, 3) := by decide +kernel
theorem dX7_readFeud_41 : decode cX7_readFeud 41 = .ok (.getfield 100, 3) := by decide +kernel
theorem dX7_readFeud_44 : decode cX7_readFeud 44 = .ok (.istore_n 1, 1) := by decide +kernel
theorem dX7_readFeud_45 : decode cX7_readFeud 45 = .ok (.aload_n 0, 1) := by decide +kernel
theorem dX7_readFeud_46 : decode cX7_readFeud 46 = .ok (.getfield 21, 3) := by decide +kernel
theorem dX7_readFeud_49 : decode cX7_readFeud 49 = .ok (.invokevirtual 94, 3) := by decide +kernel
theorem dX7_readFeud_52 : decode cX7_readFeud 52 = .ok (.aload_n 0, 1) := by decide +kernel
theorem dX7_readFeud_53 : decode cX7_readFeud 53 = .ok (.invokevirtual 129, 3) := by decide +kernel
theorem dX7_readFeud_56 : decode cX7_readFeud 56 = .ok (.ifCond .ne 5, 3) := by decide +kernel
theorem dX7_readFeud_59 : decode cX7_readFeud 59 = .ok (.iconst 0, 1) := by decide +kernel
theorem dX7_readFeud_60 : decode cX7_readFeud 60 = .ok (.ireturn, 1) := by decide +kernel
theorem dX7_readFeud_61 : decode cX7_readFeud 61 = .ok (.aload_n 0, 1) := by decide +kernel
theorem dX7_readFeud_62 : decode cX7_readFeud 62 = .ok (.getfield 21, 3) := by decide +kernel
theorem dX7_readFeud_65 : decode cX7_readFeud 65 = .ok (.getfield 100, 3) := by decide +kernel
theorem dX7_readFeud_68 : decode cX7_readFeud 68 = .ok (.istore_n 2, 1) := by decide +kernel
theorem dX7_readFeud_69 : decode cX7_readFeud 69 = .ok (.iload_n 1, 1) := by decide +kernel
theorem dX7_readFeud_70 : decode cX7_readFeud 70 = .ok (.iload_n 2, 1) := by decide +kernel
theorem dX7_readFeud_71 : decode cX7_readFeud 71 = .ok (.if_icmp .eq 18, 3) := by decide +kernel
theorem dX7_readFeud_74 : decode cX7_readFeud 74 = .ok (.aload_n 0, 1) := by decide +kernel
theorem dX7_readFeud_75 : decode cX7_readFeud 75 = .ok (.getfield 12, 3) := by decide +kernel
theorem dX7_readFeud_78 : decode cX7_readFeud 78 = .ok (.getfield 120, 3) := by decide +kernel
theorem dX7_readFeud_81 : decode cX7_readFeud 81 = .ok (.iload_n 1, 1) := by decide +kernel
theorem dX7_readFeud_82 : decode cX7_readFeud 82 = .ok (.iload_n 2, 1) := by decide +kernel
theorem dX7_readFeud_83 : decode cX7_readFeud 83 = .ok (.invokevirtual 132, 3) := by decide +kernel
theorem dX7_readFeud_86 : decode cX7_readFeud 86 = .ok (.ifCond .eq 9, 3) := by decide +kernel
theorem dX7_readFeud_89 : decode cX7_readFeud 89 = .ok (.aload_n 0, 1) := by decide +kernel
theorem dX7_readFeud_90 : decode cX7_readFeud 90 = .ok (.iconst 4, 1) := by decide +kernel
theorem dX7_readFeud_91 : decode cX7_readFeud 91 = .ok (.invokevirtual 91, 3) := by decide +kernel
theorem dX7_readFeud_94 : decode cX7_readFeud 94 = .ok (.ireturn, 1) := by decide +kernel
theorem dX7_readFeud_95 : decode cX7_readFeud 95 = .ok (.aload_n 0, 1) := by decide +kernel
theorem dX7_readFeud_96 : decode cX7_readFeud 96 = .ok (.getfield 12, 3) := by decide +kernel
theorem dX7_readFeud_99 : decode cX7_readFeud 99 = .ok (.getfield 120, 3) := by decide +kernel
theorem dX7_readFeud_102 : decode cX7_readFeud 102 = .ok (.aload_n 0, 1) := by decide +kernel
theorem dX7_readFeud_103 : decode cX7_readFeud 103 = .ok (.getfield 12, 3) := by decide +kernel
theorem dX7_readFeud_106 : decode cX7_readFeud 106 = .ok (.getfield 120, 3) := by decide +kernel
theorem dX7_readFeud_109 : decode cX7_readFeud 109 = .ok (.getfield 124, 3) := by decide +kernel
theorem dX7_readFeud_112 : decode cX7_readFeud 112 = .ok (.iload_n 1, 1) := by decide +kernel
theorem dX7_readFeud_113 : decode cX7_readFeud 113 = .ok (.iload_n 2, 1) := by decide +kernel
theorem dX7_readFeud_114 : decode cX7_readFeud 114 = .ok (.invokevirtual 135, 3) := by decide +kernel
theorem dX7_readFeud_117 : decode cX7_readFeud 117 = .ok (.aload_n 0, 1) := by decide +kernel
theorem dX7_readFeud_118 : decode cX7_readFeud 118 = .ok (.getfield 21, 3) := by decide +kernel
theorem dX7_readFeud_121 : decode cX7_readFeud 121 = .ok (.invokevirtual 94, 3) := by decide +kernel
theorem dX7_readFeud_124 : decode cX7_readFeud 124 = .ok (.iconst 1, 1) := by decide +kernel
theorem dX7_readFeud_125 : decode cX7_readFeud 125 = .ok (.ireturn, 1) := by decide +kernel
theorem dX7_readOther_0 : decode cX7_readOther 0 = .ok (.aload_n 0, 1) := by decide +kernel
theorem dX7_readOther_1 : decode cX7_readOther 1 = .ok (.getfield 36, 3) := by decide +kernel
theorem dX7_readOther_4 : decode cX7_readOther 4 = .ok (.ifCond .eq 9, 3) := by decide +kernel
theorem dX7_readOther_7 : decode cX7_readOther 7 = .ok (.aload_n 0, 1) := by decide +kernel
theorem dX7_readOther_8 : decode cX7_readOther 8 = .ok (.iconst 5, 1) := by decide +kernel
theorem dX7_readOther_9 : decode cX7_readOther 9 = .ok (.invokevirtual 91, 3) := by decide +kernel
theorem dX7_readOther_12 : decode cX7_readOther 12 = .ok (.ireturn, 1) := by decide +kernel
theorem dX7_readOther_13 : decode cX7_readOther 13 = .ok (.aload_n 0, 1) := by decide +kernel
theorem dX7_readOther_14 : decode cX7_readOther 14 = .ok (.iconst 1, 1) := by decide +kernel
theorem dX7_readOther_15 : decode cX7_readOther 15 = .ok (.putfield 36, 3) := by decide +kernel
theorem dX7_readOther_18 : decode cX7_readOther 18 = .ok (.aload_n 0, 1) := by decide +kernel
theorem dX7_readOther_19 : decode cX7_readOther 19 = .ok (.getfield 21, 3) := by decide +kernel
theorem dX7_readOther_22 : decode cX7_readOther 22 = .ok (.invokevirtual 94, 3) := by decide +kernel
theorem dX7_readOther_25 : decode cX7_readOther 25 = .ok (.iconst 0, 1) := by decide +kernel
theorem dX7_readOther_26 : decode cX7_readOther 26 = .ok (.istore_n 1, 1) := by decide +kernel
theorem dX7_readOther_27 : decode cX7_readOther 27 = .ok (.iload_n 1, 1) := by decide +kernel
theorem dX7_readOther_28 : decode cX7_readOther 28 = .ok (.bipush 24, 2) := by decide +kernel
theorem dX7_readOther_30 : decode cX7_readOther 30 = .ok (.if_icmp .gt 81, 3) := by decide +kernel
theorem dX7_readOther_33 : decode cX7_readOther 33 = .ok (.iload_n 1, 1) := by decide +kernel
theorem dX7_readOther_34 : decode cX7_readOther 34 = .ok (.ifCond .eq 14, 3) := by decide +kernel
theorem dX7_readOther_37 : decode cX7_readOther 37 = .ok (.aload_n 0, 1) := by decide +kernel
theorem dX7_readOther_38 : decode cX7_readOther 38 = .ok (.getfield 21, 3) := by decide +kernel
theorem dX7_readOther_41 : decode cX7_readOther 41 = .ok (.getfield 59, 3) := by decide +kernel
theorem dX7_readOther_44 : decode cX7_readOther 44 = .ok (.iconst 2, 1) := by decide +kernel
theorem dX7_readOther_45 : decode cX7_readOther 45 = .ok (.if_icmp .ne 66, 3) := by decide +kernel
theorem dX7_readOther_48 : decode cX7_readOther 48 = .ok (.aload_n 0, 1) := by decide +kernel
theorem dX7_readOther_49 : decode cX7_readOther 49 = .ok (.iconst 0, 1) := by decide +kernel
theorem dX7_readOther_50 : decode cX7_readOther 50 = .ok (.bipush 12, 2) := by decide +kernel
theorem dX7_readOther_52 : decode cX7_readOther 52 = .ok (.invokevirtual 106, 3) := by decide +kernel
theorem dX7_readOther_55 : decode cX7_readOther 55 = .ok (.ifCond .ne 5, 3) := by decide +kernel
theorem dX7_readOther_58 : decode cX7_readOther 58 = .ok (.iconst 0, 1) := by decide +kernel
theorem dX7_readOther_59 : decode cX7_readOther 59 = .ok (.ireturn, 1) := by decide +kernel
theorem dX7_readOther_60 : decode cX7_readOther 60 = .ok (.iload_n 1, 1) := by decide +kernel
theorem dX7_readOther_61 : decode cX7_readOther 61 = .ok (.bipush 24, 2) := by decide +kernel
theorem dX7_readOther_63 : decode cX7_readOther 63 = .ok (.if_icmp .ne 9, 3) := by decide +kernel
theorem dX7_readOther_66 : decode cX7_readOther 66 = .ok (.aload_n 0, 1) := by decide +kernel
theorem dX7_readOther_67 : decode cX7_readOther 67 = .ok (.iconst 2, 1) := by decide +kernel
theorem dX7_readOther_68 : decode cX7_readOther 68 = .ok (.invokevirtual 91, 3) := by decide +kernel
theorem dX7_readOther_71 : decode cX7_readOther 71 = .ok (.ireturn, 1) := by decide +kernel
theorem dX7_readOther_72 : decode cX7_readOther 72 = .ok (.aload_n 0, 1) := by decide +kernel
theorem dX7_readOther_73 : decode cX7_readOther 73 = .ok (.getfield 12, 3) := by decide +kernel
theorem dX7_readOther_76 : decode cX7_readOther 76 = .ok (.getfield 139, 3) := by decide +kernel
theorem dX7_readOther_79 : decode cX7_readOther 79 = .ok (.iload_n 1, 1) := by decide +kernel
theorem dX7_readOther_80 : decode cX7_readOther 80 = .ok (.aload_n 0, 1) := by decide +kernel
theorem dX7_readOther_81 : decode cX7_readOther 81 = .ok (.getfield 21, 3) := by decide +kernel
theorem dX7_readOther_84 : decode cX7_readOther 84 = .ok (.getfield 100, 3) := by decide +kernel
theorem dX7_readOther_87 : decode cX7_readOther 87 = .ok (.iastore, 1) := by decide +kernel
theorem dX7_readOther_88 : decode cX7_readOther 88 = .ok (.aload_n 0, 1) := by decide +kernel
theorem dX7_readOther_89 : decode cX7_readOther 89 = .ok (.getfield 12, 3) := by decide +kernel
theorem dX7_readOther_92 : decode cX7_readOther 92 = .ok (.iload_n 1, 1) := by decide +kernel
theorem dX7_readOther_93 : decode cX7_readOther 93 = .ok (.iconst 1, 1) := by decide +kernel
theorem dX7_readOther_94 : decode cX7_readOther 94 = .ok (.iadd, 1) := by decide +kernel
theorem dX7_readOther_95 : decode cX7_readOther 95 = .ok (.putfield 142, 3) := by decide +kernel
theorem dX7_readOther_98 : decode cX7_readOther 98 = .ok (.aload_n 0, 1) := by decide +kernel
theorem dX7_readOther_99 : decode cX7_readOther 99 = .ok (.getfield 21, 3) := by decide +kernel
theorem dX7_readOther_102 : decode cX7_readOther 102 = .ok (.invokevirtual 94, 3) := by decide +kernel
theorem dX7_readOther_105 : decode cX7_readOther 105 = .ok (.iinc 1 1, 3) := by decide +kernel
theorem dX7_readOther_108 : decode cX7_readOther 108 = .ok (.goto (-81), 3) := by decide +kernel
theorem dX7_readOther_111 : decode cX7_readOther 111 = .ok (.iconst 1, 1) := by decide +kernel
theorem dX7_readOther_112 : decode cX7_readOther 112 = .ok (.ireturn, 1) := by decide +kernel
theorem dX7_readSings_0 : decode cX7_readSings 0 = .ok (.aload_n 0, 1) := by decide +kernel
theorem dX7_readSings_1 : decode cX7_readSings 1 = .ok (.getfield 39, 3) := by decide +kernel
theorem dX7_readSings_4 : decode cX7_readSings 4 = .ok (.ifCond .eq 9, 3) := by decide +kernel
theorem dX7_readSings_7 : decode cX7_readSings 7 = .ok (.aload_n 0, 1) := by decide +kernel
theorem dX7_readSings_8 : decode cX7_readSings 8 = .ok (.iconst 5, 1) := by decide +kernel
theorem dX7_readSings_9 : decode cX7_readSings 9 = .ok (.invokevirtual 91, 3) := by decide +kernel
theorem dX7_readSings_12 : decode cX7_readSings 12 = .ok (.ireturn, 1) := by decide +kernel
theorem dX7_readSings_13 : decode cX7_readSings 13 = .ok (.aload_n 0, 1) := by decide +kernel
theorem dX7_readSings_14 : decode cX7_readSings 14 = .ok (.iconst 1, 1) := by decide +kernel
theorem dX7_readSings_15 : decode cX7_readSings 15 = .ok (.putfield 39, 3) := by decide +kernel
theorem dX7_readSings_18 : decode cX7_readSings 18 = .ok (.aload_n 0, 1) := by decide +kernel
theorem dX7_readSings_19 : decode cX7_readSings 19 = .ok (.iconst 0, 1) := by decide +kernel
theorem dX7_readSings_20 : decode cX7_readSings 20 = .ok (.putfield 46, 3) := by decide +kernel
theorem dX7_readSings_23 : decode cX7_readSings 23 = .ok (.aload_n 0, 1) := by decide +kernel
theorem dX7_readSings_24 : decode cX7_readSings 24 = .ok (.iconst 0, 1) := by decide +kernel
theorem dX7_readSings_25 : decode cX7_readSings 25 = .ok (.putfield 49, 3) := by decide +kernel
theorem dX7_readSings_28 : decode cX7_readSings 28 = .ok (.iconst 1, 1) := by decide +kernel
theorem dX7_readSings_29 : decode cX7_readSings 29 = .ok (.istore_n 1, 1) := by decide +kernel
theorem dX7_readSings_30 : decode cX7_readSings 30 = .ok (.aload_n 0, 1) := by decide +kernel
theorem dX7_readSings_31 : decode cX7_readSings 31 = .ok (.getfield 21, 3) := by decide +kernel
theorem dX7_readSings_34 : decode cX7_readSings 34 = .ok (.invokevirtual 94, 3) := by decide +kernel
theorem dX7_readSings_37 : decode cX7_readSings 37 = .ok (.iconst 0, 1) := by decide +kernel
theorem dX7_readSings_38 : decode cX7_readSings 38 = .ok (.istore_n 2, 1) := by decide +kernel
theorem dX7_readSings_39 : decode cX7_readSings 39 = .ok (.iload_n 2, 1) := by decide +kernel
theorem dX7_readSings_40 : decode cX7_readSings 40 = .ok (.sipush 600, 3) := by decide +kernel
theorem dX7_readSings_43 : decode cX7_readSings 43 = .ok (.if_icmp .ge 93, 3) := by decide +kernel
theorem dX7_readSings_46 : decode cX7_readSings 46 = .ok (.iload_n 1, 1) := by decide +kernel
theorem dX7_readSings_47 : decode cX7_readSings 47 = .ok (.ifCond .ne 10, 3) := by decide +kernel
theorem dX7_readSings_50 : decode cX7_readSings 50 = .ok (.aload_n 0, 1) := by decide +kernel
theorem dX7_readSings_51 : decode cX7_readSings 51 = .ok (.invokevirtual 145, 3) := by decide +kernel
theorem dX7_readSings_54 : decode cX7_readSings 54 = .ok (.ifCond .ne 82, 3) := by decide +kernel
theorem dX7_readSings_57 : decode cX7_readSings 57 = .ok (.aload_n 0, 1) := by decide +kernel
theorem dX7_readSings_58 : decode cX7_readSings 58 = .ok (.getfield 21, 3) := by decide +kernel
theorem dX7_readSings_61 : decode cX7_readSings 61 = .ok (.getfield 59, 3) := by decide +kernel
theorem dX7_readSings_64 : decode cX7_readSings 64 = .ok (.istore_n 3, 1) := by decide +kernel
theorem dX7_readSings_65 : decode cX7_readSings 65 = .ok (.iload_n 1, 1) := by decide +kernel
theorem dX7_readSings_66 : decode cX7_readSings 66 = .ok (.ifCond .eq 13, 3) := by decide +kernel
theorem dX7_readSings_69 : decode cX7_readSings 69 = .ok (.aload_n 0, 1) := by decide +kernel
theorem dX7_readSings_70 : decode cX7_readSings 70 = .ok (.invokevirtual 148, 3) := by decide +kernel
theorem dX7_readSings_73 : decode cX7_readSings 73 = .ok (.ifCond .eq 13, 3) := by decide +kernel
theorem dX7_readSings_76 : decode cX7_readSings 76 = .ok (.goto 12, 3) := by decide +kernel
theorem dX7_readSings_79 : decode cX7_readSings 79 = .ok (.aload_n 0, 1) := by decide +kernel
theorem dX7_readSings_80 : decode cX7_readSings 80 = .ok (.invokevirtual 151, 3) := by decide +kernel
theorem dX7_readSings_83 : decode cX7_readSings 83 = .ok (.ifCond .ne 5, 3) := by decide +kernel
theorem dX7_readSings_86 : decode cX7_readSings 86 = .ok (.iconst 0, 1) := by decide +kernel
theorem dX7_readSings_87 : decode cX7_readSings 87 = .ok (.ireturn, 1) := by decide +kernel
theorem dX7_readSings_88 : decode cX7_readSings 88 = .ok (.iload_n 3, 1) := by decide +kernel
theorem dX7_readSings_89 : decode cX7_readSings 89 = .ok (.iconst 2, 1) := by decide +kernel
theorem dX7_readSings_90 : decode cX7_readSings 90 = .ok (.if_icmp .eq 15, 3) := by decide +kernel
theorem dX7_readSings_93 : decode cX7_readSings 93 = .ok (.iload_n 3, 1) := by decide +kernel
theorem dX7_readSings_94 : decode cX7_readSings 94 = .ok (.bipush 110, 2) := by decide +kernel
theorem dX7_readSings_96 : decode cX7_readSings 96 = .ok (.if_icmp .ge 9, 3) := by decide +kernel
theorem dX7_readSings_99 : decode cX7_readSings 99 = .ok (.iload_n 3, 1) := by decide +kernel
theorem dX7_readSings_100 : decode cX7_readSings 100 = .ok (.bipush 41, 2) := by decide +kernel
theorem dX7_readSings_102 : decode cX7_readSings 102 = .ok (.if_icmp .ne 7, 3) := by decide +kernel
theorem dX7_readSings_105 : decode cX7_readSings 105 = .ok (.iconst 1, 1) := by decide +kernel
theorem dX7_readSings_106 : decode cX7_readSings 106 = .ok (.goto 4, 3) := by decide +kernel
theorem dX7_readSings_109 : decode cX7_readSings 109 = .ok (.iconst 0, 1) := by decide +kernel
theorem dX7_readSings_110 : decode cX7_readSings 110 = .ok (.istore 4, 2) := by decide +kernel
theorem dX7_readSings_112 : decode cX7_readSings 112 = .ok (.iload 4, 2) := by decide +kernel
theorem dX7_readSings_114 : decode cX7_readSings 114 = .ok (.ifCond .ne 7, 3) := by decide +kernel
theorem dX7_readSings_117 : decode cX7_readSings 117 = .ok (.iconst 1, 1) := by decide +kernel
theorem dX7_readSings_118 : decode cX7_readSings 118 = .ok (.goto 4, 3) := by decide +kernel
theorem dX7_readSings_121 : decode cX7_readSings 121 = .ok (.iconst 0, 1) := by decide +kernel
theorem dX7_readSings_122 : decode cX7_readSings 122 = .ok (.istore_n 1, 1) := by decide +kernel
theorem dX7_readSings_123 : decode cX7_readSings 123 = .ok (.aload_n 0, 1) := by decide +kernel
theorem dX7_readSings_124 : decode cX7_readSings 124 = .ok (.getfield 21, 3) := by decide +kernel
theorem dX7_readSings_127 : decode cX7_readSings 127 = .ok (.invokevirtual 94, 3) := by decide +kernel
theorem dX7_readSings_130 : decode cX7_readSings 130 = .ok (.iinc 2 1, 3) := by decide +kernel
theorem dX7_readSings_133 : decode cX7_readSings 133 = .ok (.goto (-94), 3) := by decide +kernel
theorem dX7_readSings_136 : decode cX7_readSings 136 = .ok (.aload_n 0, 1) := by decide +kernel
theorem dX7_readSings_137 : decode cX7_readSings 137 = .ok (.iconst 0, 1) := by decide +kernel
theorem dX7_readSings_138 : decode cX7_readSings 138 = .ok (.invokevirtual 154, 3) := by decide +kernel
theorem dX7_readSings_141 : decode cX7_readSings 141 = .ok (.iconst 1, 1) := by decide +kernel
theorem dX7_readSings_142 : decode cX7_readSings 142 = .ok (.ireturn, 1) := by decide +kernel
theorem dX7_isRuleEnd_0 : decode cX7_isRuleEnd 0 = .ok (.aload_n 0, 1) := by decide +kernel
theorem dX7_isRuleEnd_1 : decode cX7_isRuleEnd 1 = .ok (.getfield 49, 3) := by decide +kernel
theorem dX7_isRuleEnd_4 : decode cX7_isRuleEnd 4 = .ok (.ifCond .ne 19, 3) := by decide +kernel
theorem dX7_isRuleEnd_7 : decode cX7_isRuleEnd 7 = .ok (.aload_n 0, 1) := by decide +kernel
theorem dX7_isRuleEnd_8 : decode cX7_isRuleEnd 8 = .ok (.getfield 21, 3) := by decide +kernel
theorem dX7_isRuleEnd_11 : decode cX7_isRuleEnd 11 = .ok (.getfield 59, 3) := by decide +kernel
theorem dX7_isRuleEnd_14 : decode cX7_isRuleEnd 14 = .ok (.bipush 59, 2) := by decide +kernel
theorem dX7_isRuleEnd_16 : decode cX7_isRuleEnd 16 = .ok (.if_icmp .ne 7, 3) := by decide +kernel
theorem dX7_isRuleEnd_19 : decode cX7_isRuleEnd 19 = .ok (.iconst 1, 1) := by decide +kernel
theorem dX7_isRuleEnd_20 : decode cX7_isRuleEnd 20 = .ok (.goto 4, 3) := by decide +kernel
theorem dX7_isRuleEnd_23 : decode cX7_isRuleEnd 23 = .ok (.iconst 0, 1) := by decide +kernel
theorem dX7_isRuleEnd_24 : decode cX7_isRuleEnd 24 = .ok (.ireturn, 1) := by decide +kernel
theorem dX7_lastOpen_0 : decode cX7_lastOpen 0 = .ok (.aload_n 0, 1) := by decide +kernel
theorem dX7_lastOpen_1 : decode cX7_lastOpen 1 = .ok (.getfield 46, 3) := by decide +kernel
theorem dX7_lastOpen_4 : decode cX7_lastOpen 4 = .ok (.ifCond .le 17, 3) := by decide +kernel
theorem dX7_lastOpen_7 : decode cX7_lastOpen 7 = .ok (.aload_n 0, 1) := by decide +kernel
theorem dX7_lastOpen_8 : decode cX7_lastOpen 8 = .ok (.getfield 42, 3) := by decide +kernel
theorem dX7_lastOpen_11 : decode cX7_lastOpen 11 = .ok (.aload_n 0, 1) := by decide +kernel
theorem dX7_lastOpen_12 : decode cX7_lastOpen 12 = .ok (.getfield 46, 3) := by decide +kernel
theorem dX7_lastOpen_15 : decode cX7_lastOpen 15 = .ok (.iconst 1, 1) := by decide +kernel
theorem dX7_lastOpen_16 : decode cX7_lastOpen 16 = .ok (.isub, 1) := by decide +kernel
theorem dX7_lastOpen_17 : decode cX7_lastOpen 17 = .ok (.iaload, 1) := by decide +kernel
theorem dX7_lastOpen_18 : decode cX7_lastOpen 18 = .ok (.goto 5, 3) := by decide +kernel
theorem dX7_lastOpen_21 : decode cX7_lastOpen 21 = .ok (.bipush 40, 2) := by decide +kernel
theorem dX7_lastOpen_23 : decode cX7_lastOpen 23 = .ok (.ireturn, 1) := by decide +kernel
theorem dX7_pushOpen_0 : decode cX7_pushOpen 0 = .ok (.aload_n 0, 1) := by decide +kernel
theorem dX7_pushOpen_1 : decode cX7_pushOpen 1 = .ok (.getfield 46, 3) := by decide +kernel
theorem dX7_pushOpen_4 : decode cX7_pushOpen 4 = .ok (.aload_n 0, 1) := by decide +kernel
theorem dX7_pushOpen_5 : decode cX7_pushOpen 5 = .ok (.getfield 42, 3) := by decide +kernel
theorem dX7_pushOpen_8 : decode cX7_pushOpen 8 = .ok (.arraylength, 1) := by decide +kernel
theorem dX7_pushOpen_9 : decode cX7_pushOpen 9 = .ok (.if_icmp .ge 23, 3) := by decide +kernel
theorem dX7_pushOpen_12 : decode cX7_pushOpen 12 = .ok (.aload_n 0, 1) := by decide +kernel
theorem dX7_pushOpen_13 : decode cX7_pushOpen 13 = .ok (.getfield 42, 3) := by decide +kernel
theorem dX7_pushOpen_16 : decode cX7_pushOpen 16 = .ok (.aload_n 0, 1) := by decide +kernel
theorem dX7_pushOpen_17 : decode cX7_pushOpen 17 = .ok (.getfield 46, 3) := by decide +kernel
theorem dX7_pushOpen_20 : decode cX7_pushOpen 20 = .ok (.iload_n 1, 1) := by decide +kernel
theorem dX7_pushOpen_21 : decode cX7_pushOpen 21 = .ok (.iastore, 1) := by decide +kernel
theorem dX7_pushOpen_22 : decode cX7_pushOpen 22 = .ok (.aload_n 0, 1) := by decide +kernel
theorem dX7_pushOpen_23 : decode cX7_pushOpen 23 = .ok (.dup, 1) := by decide +kernel
theorem dX7_pushOpen_24 : decode cX7_pushOpen 24 = .ok (.getfield 46, 3) := by decide +kernel
theorem dX7_pushOpen_27 : decode cX7_pushOpen 27 = .ok (.iconst 1, 1) := by decide +kernel
theorem dX7_pushOpen_28 : decode cX7_pushOpen 28 = .ok (.iadd, 1) := by decide +kernel
theorem dX7_pushOpen_29 : decode cX7_pushOpen 29 = .ok (.putfield 46, 3) := by decide +kernel
theorem dX7_pushOpen_32 : decode cX7_pushOpen 32 = .ok (.return_, 1) := by decide +kernel
theorem dX7_takePart_0 : decode cX7_takePart 0 = .ok (.aload_n 0, 1) := by decide +kernel
theorem dX7_takePart_1 : decode cX7_takePart 1 = .ok (.getfield 21, 3) := by decide +kernel
theorem dX7_takePart_4 : decode cX7_takePart 4 = .ok (.getfield 59, 3) := by decide +kernel
theorem dX7_takePart_7 : decode cX7_takePart 7 = .ok (.istore_n 1, 1) := by decide +kernel
theorem dX7_takePart_8 : decode cX7_takePart 8 = .ok (.iload_n 1, 1) := by decide +kernel
theorem dX7_takePart_9 : decode cX7_takePart 9 = .ok (.iconst 2, 1) := by decide +kernel
theorem dX7_takePart_10 : decode cX7_takePart 10 = .ok (.if_icmp .eq 25, 3) := by decide +kernel
theorem dX7_takePart_13 : decode cX7_takePart 13 = .ok (.iload_n 1, 1) := by decide +kernel
theorem dX7_takePart_14 : decode cX7_takePart 14 = .ok (.bipush 40, 2) := by decide +kernel
theorem dX7_takePart_16 : decode cX7_takePart 16 = .ok (.if_icmp .eq 19, 3) := by decide +kernel
theorem dX7_takePart_19 : decode cX7_takePart 19 = .ok (.aload_n 0, 1) := by decide +kernel
theorem dX7_takePart_20 : decode cX7_takePart 20 = .ok (.getfield 21, 3) := by decide +kernel
theorem dX7_takePart_23 : decode cX7_takePart 23 = .ok (.invokevirtual 157, 3) := by decide +kernel
theorem dX7_takePart_26 : decode cX7_takePart 26 = .ok (.ifCond .ne 9, 3) := by decide +kernel
theorem dX7_takePart_29 : decode cX7_takePart 29 = .ok (.aload_n 0, 1) := by decide +kernel
theorem dX7_takePart_30 : decode cX7_takePart 30 = .ok (.iconst 1, 1) := by decide +kernel
theorem dX7_takePart_31 : decode cX7_takePart 31 = .ok (.invokevirtual 91, 3) := by decide +kernel
theorem dX7_takePart_34 : decode cX7_takePart 34 = .ok (.ireturn, 1) := by decide +kernel
theorem dX7_takePart_35 : decode cX7_takePart 35 = .ok (.aload_n 0, 1) := by decide +kernel
theorem dX7_takePart_36 : decode cX7_takePart 36 = .ok (.invokevirtual 160, 3) := by decide +kernel
theorem dX7_takePart_39 : decode cX7_takePart 39 = .ok (.bipush 40, 2) := by decide +kernel
theorem dX7_takePart_41 : decode cX7_takePart 41 = .ok (.if_icmp .ne 17, 3) := by decide +kernel
theorem dX7_takePart_44 : decode cX7_takePart 44 = .ok (.aload_n 0, 1) := by decide +kernel
theorem dX7_takePart_45 : decode cX7_takePart 45 = .ok (.getfield 49, 3) := by decide +kernel
theorem dX7_takePart_48 : decode cX7_takePart 48 = .ok (.iconst 5, 1) := by decide +kernel
theorem dX7_takePart_49 : decode cX7_takePart 49 = .ok (.if_icmp .le 9, 3) := by decide +kernel
theorem dX7_takePart_52 : decode cX7_takePart 52 = .ok (.aload_n 0, 1) := by decide +kernel
theorem dX7_takePart_53 : decode cX7_takePart 53 = .ok (.iconst 2, 1) := by decide +kernel
theorem dX7_takePart_54 : decode cX7_takePart 54 = .ok (.invokevirtual 91, 3) := by decide +kernel
theorem dX7_takePart_57 : decode cX7_takePart 57 = .ok (.ireturn, 1) := by decide +kernel
theorem dX7_takePart_58 : decode cX7_takePart 58 = .ok (.iload_n 1, 1) := by decide +kernel
theorem dX7_takePart_59 : decode cX7_takePart 59 = .ok (.iconst 2, 1) := by decide +kernel
theorem dX7_takePart_60 : decode cX7_takePart 60 = .ok (.if_icmp .ne 40, 3) := by decide +kernel
theorem dX7_takePart_63 : decode cX7_takePart 63 = .ok (.aload_n 0, 1) := by decide +kernel
theorem dX7_takePart_64 : decode cX7_takePart 64 = .ok (.iconst 0, 1) := by decide +kernel
theorem dX7_takePart_65 : decode cX7_takePart 65 = .ok (.sipush 9999, 3) := by decide +kernel
theorem dX7_takePart_68 : decode cX7_takePart 68 = .ok (.invokevirtual 106, 3) := by decide +kernel
theorem dX7_takePart_71 : decode cX7_takePart 71 = .ok (.ifCond .eq 27, 3) := by decide +kernel
theorem dX7_takePart_74 : decode cX7_takePart 74 = .ok (.aload_n 0, 1) := by decide +kernel
theorem dX7_takePart_75 : decode cX7_takePart 75 = .ok (.getfield 12, 3) := by decide +kernel
theorem dX7_takePart_78 : decode cX7_takePart 78 = .ok (.getfield 164, 3) := by decide +kernel
theorem dX7_takePart_81 : decode cX7_takePart 81 = .ok (.aload_n 0, 1) := by decide +kernel
theorem dX7_takePart_82 : decode cX7_takePart 82 = .ok (.getfield 21, 3) := by decide +kernel
theorem dX7_takePart_85 : decode cX7_takePart 85 = .ok (.getfield 100, 3) := by decide +kernel
theorem dX7_takePart_88 : decode cX7_takePart 88 = .ok (.invokevirtual 168, 3) := by decide +kernel
theorem dX7_takePart_91 : decode cX7_takePart 91 = .ok (.ifCond .eq 7, 3) := by decide +kernel
theorem dX7_takePart_94 : decode cX7_takePart 94 = .ok (.iconst 1, 1) := by decide +kernel
theorem dX7_takePart_95 : decode cX7_takePart 95 = .ok (.goto 4, 3) := by decide +kernel
theorem dX7_takePart_98 : decode cX7_takePart 98 = .ok (.iconst 0, 1) := by decide +kernel
theorem dX7_takePart_99 : decode cX7_takePart 99 = .ok (.ireturn, 1) := by decide +kernel
theorem dX7_takePart_100 : decode cX7_takePart 100 = .ok (.iload_n 1, 1) := by decide +kernel
theorem dX7_takePart_101 : decode cX7_takePart 101 = .ok (.bipush 40, 2) := by decide +kernel
theorem dX7_takePart_103 : decode cX7_takePart 103 = .ok (.if_icmp .ne 21, 3) := by decide +kernel
theorem dX7_takePart_106 : decode cX7_takePart 106 = .ok (.aload_n 0, 1) := by decide +kernel
theorem dX7_takePart_107 : decode cX7_takePart 107 = .ok (.dup, 1) := by decide +kernel
theorem dX7_takePart_108 : decode cX7_takePart 108 = .ok (.getfield 49, 3) := by decide +kernel
theorem dX7_takePart_111 : decode cX7_takePart 111 = .ok (.iconst 1, 1) := by decide +kernel
theorem dX7_takePart_112 : decode cX7_takePart 112 = .ok (.iadd, 1) := by decide +kernel
theorem dX7_takePart_113 : decode cX7_takePart 113 = .ok (.putfield 49, 3) := by decide +kernel
theorem dX7_takePart_116 : decode cX7_takePart 116 = .ok (.aload_n 0, 1) := by decide +kernel
theorem dX7_takePart_117 : decode cX7_takePart 117 = .ok (.bipush 40, 2) := by decide +kernel
theorem dX7_takePart_119 : decode cX7_takePart 119 = .ok (.invokevirtual 173, 3) := by decide +kernel
theorem dX7_takePart_122 : decode cX7_takePart 122 = .ok (.iconst 1, 1) := by decide +kernel
theorem dX7_takePart_123 : decode cX7_takePart 123 = .ok (.ireturn, 1) := by decide +kernel
theorem dX7_takePart_124 : decode cX7_takePart 124 = .ok (.iload_n 1, 1) := by decide +kernel
theorem dX7_takePart_125 : decode cX7_takePart 125 = .ok (.bipush 109, 2) := by decide +kernel
theorem dX7_takePart_127 : decode cX7_takePart 127 = .ok (.if_icmp .ne 15, 3) := by decide +kernel
theorem dX7_takePart_130 : decode cX7_takePart 130 = .ok (.aload_n 0, 1) := by decide +kernel
theorem dX7_takePart_131 : decode cX7_takePart 131 = .ok (.invokevirtual 176, 3) := by decide +kernel
theorem dX7_takePart_134 : decode cX7_takePart 134 = .ok (.ifCond .eq 8, 3) := by decide +kernel
theorem dX7_takePart_137 : decode cX7_takePart 137 = .ok (.aload_n 0, 1) := by decide +kernel
theorem dX7_takePart_138 : decode cX7_takePart 138 = .ok (.invokevirtual 179, 3) := by decide +kernel
theorem dX7_takePart_141 : decode cX7_takePart 141 = .ok (.ireturn, 1) := by decide +kernel
theorem dX7_takePart_142 : decode cX7_takePart 142 = .ok (.iload_n 1, 1) := by decide +kernel
theorem dX7_takePart_143 : decode cX7_takePart 143 = .ok (.bipush 110, 2) := by decide +kernel
theorem dX7_takePart_145 : decode cX7_takePart 145 = .ok (.if_icmp .lt 18, 3) := by decide +kernel
theorem dX7_takePart_148 : decode cX7_takePart 148 = .ok (.aload_n 0, 1) := by decide +kernel
theorem dX7_takePart_149 : decode cX7_takePart 149 = .ok (.getfield 12, 3) := by decide +kernel
theorem dX7_takePart_152 : decode cX7_takePart 152 = .ok (.getfield 164, 3) := by decide +kernel
theorem dX7_takePart_155 : decode cX7_takePart 155 = .ok (.iload_n 1, 1) := by decide +kernel
theorem dX7_takePart_156 : decode cX7_takePart 156 = .ok (.ineg, 1) := by decide +kernel
theorem dX7_takePart_157 : decode cX7_takePart 157 = .ok (.invokevirtual 168, 3) := by decide +kernel
theorem dX7_takePart_160 : decode cX7_takePart 160 = .ok (.goto 8, 3) := by decide +kernel
theorem dX7_takePart_163 : decode cX7_takePart 163 = .ok (.aload_n 0, 1) := by decide +kernel
theorem dX7_takePart_164 : decode cX7_takePart 164 = .ok (.iconst 3, 1) := by decide +kernel
theorem dX7_takePart_165 : decode cX7_takePart 165 = .ok (.invokevirtual 91, 3) := by decide +kernel
theorem dX7_takePart_168 : decode cX7_takePart 168 = .ok (.ireturn, 1) := by decide +kernel
theorem dX7_mayBeNot_0 : decode cX7_mayBeNot 0 = .ok (.aload_n 0, 1) := by decide +kernel
theorem dX7_mayBeNot_1 : decode cX7_mayBeNot 1 = .ok (.invokevirtual 160, 3) := by decide +kernel
theorem dX7_mayBeNot_4 : decode cX7_mayBeNot 4 = .ok (.istore_n 1, 1) := by decide +kernel
theorem dX7_mayBeNot_5 : decode cX7_mayBeNot 5 = .ok (.iload_n 1, 1) := by decide +kernel
theorem dX7_mayBeNot_6 : decode cX7_mayBeNot 6 = .ok (.bipush 40, 2) := by decide +kernel
theorem dX7_mayBeNot_8 : decode cX7_mayBeNot 8 = .ok (.if_icmp .eq 21, 3) := by decide +kernel
theorem dX7_mayBeNot_11 : decode cX7_mayBeNot 11 = .ok (.iload_n 1, 1) := by decide +kernel
theorem dX7_mayBeNot_12 : decode cX7_mayBeNot 12 = .ok (.bipush 107, 2) := by decide +kernel
theorem dX7_mayBeNot_14 : decode cX7_mayBeNot 14 = .ok (.if_icmp .eq 15, 3) := by decide +kernel
theorem dX7_mayBeNot_17 : decode cX7_mayBeNot 17 = .ok (.iload_n 1, 1) := by decide +kernel
theorem dX7_mayBeNot_18 : decode cX7_mayBeNot 18 = .ok (.bipush 108, 2) := by decide +kernel
theorem dX7_mayBeNot_20 : decode cX7_mayBeNot 20 = .ok (.if_icmp .eq 9, 3) := by decide +kernel
theorem dX7_mayBeNot_23 : decode cX7_mayBeNot 23 = .ok (.iload_n 1, 1) := by decide +kernel
theorem dX7_mayBeNot_24 : decode cX7_mayBeNot 24 = .ok (.bipush 109, 2) := by decide +kernel
theorem dX7_mayBeNot_26 : decode cX7_mayBeNot 26 = .ok (.if_icmp .ne 7, 3) := by decide +kernel
theorem dX7_mayBeNot_29 : decode cX7_mayBeNot 29 = .ok (.iconst 1, 1) := by decide +kernel
theorem dX7_mayBeNot_30 : decode cX7_mayBeNot 30 = .ok (.goto 4, 3) := by decide +kernel
theorem dX7_mayBeNot_33 : decode cX7_mayBeNot 33 = .ok (.iconst 0, 1) := by decide +kernel
theorem dX7_mayBeNot_34 : decode cX7_mayBeNot 34 = .ok (.ireturn, 1) := by decide +kernel
theorem dX7_takeNot_0 : decode cX7_takeNot 0 = .ok (.iconst 0, 1) := by decide +kernel
theorem dX7_takeNot_1 : decode cX7_takeNot 1 = .ok (.istore_n 1, 1) := by decide +kernel
theorem dX7_takeNot_2 : decode cX7_takeNot 2 = .ok (.aload_n 0, 1) := by decide +kernel
theorem dX7_takeNot_3 : decode cX7_takeNot 3 = .ok (.getfield 46, 3) := by decide +kernel
theorem dX7_takeNot_6 : decode cX7_takeNot 6 = .ok (.iconst 1, 1) := by decide +kernel
theorem dX7_takeNot_7 : decode cX7_takeNot 7 = .ok (.isub, 1) := by decide +kernel
theorem dX7_takeNot_8 : decode cX7_takeNot 8 = .ok (.istore_n 2, 1) := by decide +kernel
theorem dX7_takeNot_9 : decode cX7_takeNot 9 = .ok (.iload_n 2, 1) := by decide +kernel
theorem dX7_takeNot_10 : decode cX7_takeNot 10 = .ok (.ifCond .lt 23, 3) := by decide +kernel
theorem dX7_takeNot_13 : decode cX7_takeNot 13 = .ok (.aload_n 0, 1) := by decide +kernel
theorem dX7_takeNot_14 : decode cX7_takeNot 14 = .ok (.getfield 42, 3) := by decide +kernel
theorem dX7_takeNot_17 : decode cX7_takeNot 17 = .ok (.iload_n 2, 1) := by decide +kernel
theorem dX7_takeNot_18 : decode cX7_takeNot 18 = .ok (.iaload, 1) := by decide +kernel
theorem dX7_takeNot_19 : decode cX7_takeNot 19 = .ok (.bipush 109, 2) := by decide +kernel
theorem dX7_takeNot_21 : decode cX7_takeNot 21 = .ok (.if_icmp .ne 12, 3) := by decide +kernel
theorem dX7_takeNot_24 : decode cX7_takeNot 24 = .ok (.iinc 1 1, 3) := by decide +kernel
theorem dX7_takeNot_27 : decode cX7_takeNot 27 = .ok (.iinc 2 (-1), 3) := by decide +kernel
theorem dX7_takeNot_30 : decode cX7_takeNot 30 = .ok (.goto (-21), 3) := by decide +kernel
theorem dX7_takeNot_33 : decode cX7_takeNot 33 = .ok (.iload_n 1, 1) := by decide +kernel
theorem dX7_takeNot_34 : decode cX7_takeNot 34 = .ok (.bipush 6, 2) := by decide +kernel
theorem dX7_takeNot_36 : decode cX7_takeNot 36 = .ok (.if_icmp .lt 9, 3) := by decide +kernel
theorem dX7_takeNot_39 : decode cX7_takeNot 39 = .ok (.aload_n 0, 1) := by decide +kernel
theorem dX7_takeNot_40 : decode cX7_takeNot 40 = .ok (.iconst 2, 1) := by decide +kernel
theorem dX7_takeNot_41 : decode cX7_takeNot 41 = .ok (.invokevirtual 91, 3) := by decide +kernel
theorem dX7_takeNot_44 : decode cX7_takeNot 44 = .ok (.ireturn, 1) := by decide +kernel
theorem dX7_takeNot_45 : decode cX7_takeNot 45 = .ok (.aload_n 0, 1) := by decide +kernel
theorem dX7_takeNot_46 : decode cX7_takeNot 46 = .ok (.bipush 109, 2) := by decide +kernel
theorem dX7_takeNot_48 : decode cX7_takeNot 48 = .ok (.invokevirtual 173, 3) := by decide +kernel
theorem dX7_takeNot_51 : decode cX7_takeNot 51 = .ok (.iconst 1, 1) := by decide +kernel
theorem dX7_takeNot_52 : decode cX7_takeNot 52 = .ok (.ireturn, 1) := by decide +kernel
theorem dX7_takeOperator_0 : decode cX7_takeOperator 0 = .ok (.aload_n 0, 1) := by decide +kernel
theorem dX7_takeOperator_1 : decode cX7_takeOperator 1 = .ok (.getfield 21, 3) := by decide +kernel
theorem dX7_takeOperator_4 : decode cX7_takeOperator 4 = .ok (.getfield 59, 3) := by decide +kernel
theorem dX7_takeOperator_7 : decode cX7_takeOperator 7 = .ok (.istore_n 1, 1) := by decide +kernel
theorem dX7_takeOperator_8 : decode cX7_takeOperator 8 = .ok (.iload_n 1, 1) := by decide +kernel
theorem dX7_takeOperator_9 : decode cX7_takeOperator 9 = .ok (.bipush 41, 2) := by decide +kernel
theorem dX7_takeOperator_11 : decode cX7_takeOperator 11 = .ok (.if_icmp .ne 41, 3) := by decide +kernel
theorem dX7_takeOperator_14 : decode cX7_takeOperator 14 = .ok (.aload_n 0, 1) := by decide +kernel
theorem dX7_takeOperator_15 : decode cX7_takeOperator 15 = .ok (.getfield 49, 3) := by decide +kernel
theorem dX7_takeOperator_18 : decode cX7_takeOperator 18 = .ok (.ifCond .le 34, 3) := by decide +kernel
theorem dX7_takeOperator_21 : decode cX7_takeOperator 21 = .ok (.aload_n 0, 1) := by decide +kernel
theorem dX7_takeOperator_22 : decode cX7_takeOperator 22 = .ok (.iconst 0, 1) := by decide +kernel
theorem dX7_takeOperator_23 : decode cX7_takeOperator 23 = .ok (.invokevirtual 154, 3) := by decide +kernel
theorem dX7_takeOperator_26 : decode cX7_takeOperator 26 = .ok (.aload_n 0, 1) := by decide +kernel
theorem dX7_takeOperator_27 : decode cX7_takeOperator 27 = .ok (.dup, 1) := by decide +kernel
theorem dX7_takeOperator_28 : decode cX7_takeOperator 28 = .ok (.getfield 49, 3) := by decide +kernel
theorem dX7_takeOperator_31 : decode cX7_takeOperator 31 = .ok (.iconst 1, 1) := by decide +kernel
theorem dX7_takeOperator_32 : decode cX7_takeOperator 32 = .ok (.isub, 1) := by decide +kernel
theorem dX7_takeOperator_33 : decode cX7_takeOperator 33 = .ok (.putfield 49, 3) := by decide +kernel
theorem dX7_takeOperator_36 : decode cX7_takeOperator 36 = .ok (.aload_n 0, 1) := by decide +kernel
theorem dX7_takeOperator_37 : decode cX7_takeOperator 37 = .ok (.iconst 0, 1) := by decide +kernel
theorem dX7_takeOperator_38 : decode cX7_takeOperator 38 = .ok (.aload_n 0, 1) := by decide +kernel
theorem dX7_takeOperator_39 : decode cX7_takeOperator 39 = .ok (.getfield 46, 3) := by decide +kernel
theorem dX7_takeOperator_42 : decode cX7_takeOperator 42 = .ok (.iconst 1, 1) := by decide +kernel
theorem dX7_takeOperator_43 : decode cX7_takeOperator 43 = .ok (.isub, 1) := by decide +kernel
theorem dX7_takeOperator_44 : decode cX7_takeOperator 44 = .ok (.invokestatic 182, 3) := by decide +kernel
theorem dX7_takeOperator_47 : decode cX7_takeOperator 47 = .ok (.putfield 46, 3) := by decide +kernel
theorem dX7_takeOperator_50 : decode cX7_takeOperator 50 = .ok (.iconst 1, 1) := by decide +kernel
theorem dX7_takeOperator_51 : decode cX7_takeOperator 51 = .ok (.ireturn, 1) := by decide +kernel
theorem dX7_takeOperator_52 : decode cX7_takeOperator 52 = .ok (.iload_n 1, 1) := by decide +kernel
theorem dX7_takeOperator_53 : decode cX7_takeOperator 53 = .ok (.invokestatic 188, 3) := by decide +kernel
theorem dX7_takeOperator_56 : decode cX7_takeOperator 56 = .ok (.istore_n 2, 1) := by decide +kernel
theorem dX7_takeOperator_57 : decode cX7_takeOperator 57 = .ok (.iload_n 2, 1) := by decide +kernel
theorem dX7_takeOperator_58 : decode cX7_takeOperator 58 = .ok (.ifCond .eq 9, 3) := by decide +kernel
theorem dX7_takeOperator_61 : decode cX7_takeOperator 61 = .ok (.iload_n 1, 1) := by decide +kernel
theorem dX7_takeOperator_62 : decode cX7_takeOperator 62 = .ok (.bipush 109, 2) := by decide +kernel
theorem dX7_takeOperator_64 : decode cX7_takeOperator 64 = .ok (.if_icmp .ne 9, 3) := by decide +kernel
theorem dX7_takeOperator_67 : decode cX7_takeOperator 67 = .ok (.aload_n 0, 1) := by decide +kernel
theorem dX7_takeOperator_68 : decode cX7_takeOperator 68 = .ok (.iconst 1, 1) := by decide +kernel
theorem dX7_takeOperator_69 : decode cX7_takeOperator 69 = .ok (.invokevirtual 91, 3) := by decide +kernel
theorem dX7_takeOperator_72 : decode cX7_takeOperator 72 = .ok (.ireturn, 1) := by decide +kernel
theorem dX7_takeOperator_73 : decode cX7_takeOperator 73 = .ok (.iload_n 1, 1) := by decide +kernel
theorem dX7_takeOperator_74 : decode cX7_takeOperator 74 = .ok (.bipush 60, 2) := by decide +kernel
theorem dX7_takeOperator_76 : decode cX7_takeOperator 76 = .ok (.if_icmp .eq 9, 3) := by decide +kernel
theorem dX7_takeOperator_79 : decode cX7_takeOperator 79 = .ok (.iload_n 1, 1) := by decide +kernel
theorem dX7_takeOperator_80 : decode cX7_takeOperator 80 = .ok (.bipush 61, 2) := by decide +kernel
theorem dX7_takeOperator_82 : decode cX7_takeOperator 82 = .ok (.if_icmp .ne 7, 3) := by decide +kernel
theorem dX7_takeOperator_85 : decode cX7_takeOperator 85 = .ok (.iconst 1, 1) := by decide +kernel
theorem dX7_takeOperator_86 : decode cX7_takeOperator 86 = .ok (.goto 4, 3) := by decide +kernel
theorem dX7_takeOperator_89 : decode cX7_takeOperator 89 = .ok (.iconst 0, 1) := by decide +kernel
theorem dX7_takeOperator_90 : decode cX7_takeOperator 90 = .ok (.istore_n 3, 1) := by decide +kernel
theorem dX7_takeOperator_91 : decode cX7_takeOperator 91 = .ok (.aload_n 0, 1) := by decide +kernel
theorem dX7_takeOperator_92 : decode cX7_takeOperator 92 = .ok (.iload_n 3, 1) := by decide +kernel
theorem dX7_takeOperator_93 : decode cX7_takeOperator 93 = .ok (.ifCond .eq 9, 3) := by decide +kernel
theorem dX7_takeOperator_96 : decode cX7_takeOperator 96 = .ok (.iload_n 2, 1) := by decide +kernel
theorem dX7_takeOperator_97 : decode cX7_takeOperator 97 = .ok (.iconst 1, 1) := by decide +kernel
theorem dX7_takeOperator_98 : decode cX7_takeOperator 98 = .ok (.iadd, 1) := by decide +kernel
theorem dX7_takeOperator_99 : decode cX7_takeOperator 99 = .ok (.goto 4, 3) := by decide +kernel
theorem dX7_takeOperator_102 : decode cX7_takeOperator 102 = .ok (.iload_n 2, 1) := by decide +kernel
theorem dX7_takeOperator_103 : decode cX7_takeOperator 103 = .ok (.invokevirtual 154, 3) := by decide +kernel
theorem dX7_takeOperator_106 : decode cX7_takeOperator 106 = .ok (.iload_n 3, 1) := by decide +kernel
theorem dX7_takeOperator_107 : decode cX7_takeOperator 107 = .ok (.ifCond .eq 27, 3) := by decide +kernel
theorem dX7_takeOperator_110 : decode cX7_takeOperator 110 = .ok (.aload_n 0, 1) := by decide +kernel
theorem dX7_takeOperator_111 : decode cX7_takeOperator 111 = .ok (.invokevirtual 160, 3) := by decide +kernel
theorem dX7_takeOperator_114 : decode cX7_takeOperator 114 = .ok (.bipush 60, 2) := by decide +kernel
theorem dX7_takeOperator_116 : decode cX7_takeOperator 116 = .ok (.if_icmp .eq 12, 3) := by decide +kernel
theorem dX7_takeOperator_119 : decode cX7_takeOperator 119 = .ok (.aload_n 0, 1) := by decide +kernel
theorem dX7_takeOperator_120 : decode cX7_takeOperator 120 = .ok (.invokevirtual 160, 3) := by decide +kernel
theorem dX7_takeOperator_123 : decode cX7_takeOperator 123 = .ok (.bipush 61, 2) := by decide +kernel
theorem dX7_takeOperator_125 : decode cX7_takeOperator 125 = .ok (.if_icmp .ne 9, 3) := by decide +kernel
theorem dX7_takeOperator_128 : decode cX7_takeOperator 128 = .ok (.aload_n 0, 1) := by decide +kernel
theorem dX7_takeOperator_129 : decode cX7_takeOperator 129 = .ok (.iconst 1, 1) := by decide +kernel
theorem dX7_takeOperator_130 : decode cX7_takeOperator 130 = .ok (.invokevirtual 91, 3) := by decide +kernel
theorem dX7_takeOperator_133 : decode cX7_takeOperator 133 = .ok (.ireturn, 1) := by decide +kernel
theorem dX7_takeOperator_134 : decode cX7_takeOperator 134 = .ok (.aload_n 0, 1) := by decide +kernel
theorem dX7_takeOperator_135 : decode cX7_takeOperator 135 = .ok (.iload_n 1, 1) := by decide +kernel
theorem dX7_takeOperator_136 : decode cX7_takeOperator 136 = .ok (.invokevirtual 173, 3) := by decide +kernel
theorem dX7_takeOperator_139 : decode cX7_takeOperator 139 = .ok (.iconst 1, 1) := by decide +kernel
theorem dX7_takeOperator_140 : decode cX7_takeOperator 140 = .ok (.ireturn, 1) := by decide +kernel
theorem dX7_closeDownTo_0 : decode cX7_closeDownTo 0 = .ok (.aload_n 0, 1) := by decide +kernel
theorem dX7_closeDownTo_1 : decode cX7_closeDownTo 1 = .ok (.getfield 46, 3) := by decide +kernel
theorem dX7_closeDownTo_4 : decode cX7_closeDownTo 4 = .ok (.ifCond .le 71, 3) := by decide +kernel
theorem dX7_closeDownTo_7 : decode cX7_closeDownTo 7 = .ok (.aload_n 0, 1) := by decide +kernel
theorem dX7_closeDownTo_8 : decode cX7_closeDownTo 8 = .ok (.getfield 42, 3) := by decide +kernel
theorem dX7_closeDownTo_11 : decode cX7_closeDownTo 11 = .ok (.aload_n 0, 1) := by decide +kernel
theorem dX7_closeDownTo_12 : decode cX7_closeDownTo 12 = .ok (.getfield 46, 3) := by decide +kernel
theorem dX7_closeDownTo_15 : decode cX7_closeDownTo 15 = .ok (.iconst 1, 1) := by decide +kernel
theorem dX7_closeDownTo_16 : decode cX7_closeDownTo 16 = .ok (.isub, 1) := by decide +kernel
theorem dX7_closeDownTo_17 : decode cX7_closeDownTo 17 = .ok (.iaload, 1) := by decide +kernel
theorem dX7_closeDownTo_18 : decode cX7_closeDownTo 18 = .ok (.bipush 40, 2) := by decide +kernel
theorem dX7_closeDownTo_20 : decode cX7_closeDownTo 20 = .ok (.if_icmp .eq 55, 3) := by decide +kernel
theorem dX7_closeDownTo_23 : decode cX7_closeDownTo 23 = .ok (.aload_n 0, 1) := by decide +kernel
theorem dX7_closeDownTo_24 : decode cX7_closeDownTo 24 = .ok (.getfield 42, 3) := by decide +kernel
theorem dX7_closeDownTo_27 : decode cX7_closeDownTo 27 = .ok (.aload_n 0, 1) := by decide +kernel
theorem dX7_closeDownTo_28 : decode cX7_closeDownTo 28 = .ok (.getfield 46, 3) := by decide +kernel
theorem dX7_closeDownTo_31 : decode cX7_closeDownTo 31 = .ok (.iconst 1, 1) := by decide +kernel
theorem dX7_closeDownTo_32 : decode cX7_closeDownTo 32 = .ok (.isub, 1) := by decide +kernel
theorem dX7_closeDownTo_33 : decode cX7_closeDownTo 33 = .ok (.iaload, 1) := by decide +kernel
theorem dX7_closeDownTo_34 : decode cX7_closeDownTo 34 = .ok (.invokestatic 188, 3) := by decide +kernel
theorem dX7_closeDownTo_37 : decode cX7_closeDownTo 37 = .ok (.iload_n 1, 1) := by decide +kernel
theorem dX7_closeDownTo_38 : decode cX7_closeDownTo 38 = .ok (.if_icmp .lt 37, 3) := by decide +kernel
theorem dX7_closeDownTo_41 : decode cX7_closeDownTo 41 = .ok (.aload_n 0, 1) := by decide +kernel
theorem dX7_closeDownTo_42 : decode cX7_closeDownTo 42 = .ok (.dup, 1) := by decide +kernel
theorem dX7_closeDownTo_43 : decode cX7_closeDownTo 43 = .ok (.getfield 46, 3) := by decide +kernel
theorem dX7_closeDownTo_46 : decode cX7_closeDownTo 46 = .ok (.iconst 1, 1) := by decide +kernel
theorem dX7_closeDownTo_47 : decode cX7_closeDownTo 47 = .ok (.isub, 1) := by decide +kernel
theorem dX7_closeDownTo_48 : decode cX7_closeDownTo 48 = .ok (.putfield 46, 3) := by decide +kernel
theorem dX7_closeDownTo_51 : decode cX7_closeDownTo 51 = .ok (.aload_n 0, 1) := by decide +kernel
theorem dX7_closeDownTo_52 : decode cX7_closeDownTo 52 = .ok (.getfield 12, 3) := by decide +kernel
theorem dX7_closeDownTo_55 : decode cX7_closeDownTo 55 = .ok (.getfield 164, 3) := by decide +kernel
theorem dX7_closeDownTo_58 : decode cX7_closeDownTo 58 = .ok (.aload_n 0, 1) := by decide +kernel
theorem dX7_closeDownTo_59 : decode cX7_closeDownTo 59 = .ok (.getfield 42, 3) := by decide +kernel
theorem dX7_closeDownTo_62 : decode cX7_closeDownTo 62 = .ok (.aload_n 0, 1) := by decide +kernel
theorem dX7_closeDownTo_63 : decode cX7_closeDownTo 63 = .ok (.getfield 46, 3) := by decide +kernel
theorem dX7_closeDownTo_66 : decode cX7_closeDownTo 66 = .ok (.iaload, 1) := by decide +kernel
theorem dX7_closeDownTo_67 : decode cX7_closeDownTo 67 = .ok (.ineg, 1) := by decide +kernel
theorem dX7_closeDownTo_68 : decode cX7_closeDownTo 68 = .ok (.invokevirtual 168, 3) := by decide +kernel
theorem dX7_closeDownTo_71 : decode cX7_closeDownTo 71 = .ok (.pop, 1) := by decide +kernel
theorem dX7_closeDownTo_72 : decode cX7_closeDownTo 72 = .ok (.goto (-72), 3) := by decide +kernel
theorem dX7_closeDownTo_75 : decode cX7_closeDownTo 75 = .ok (.return_, 1) := by decide +kernel
theorem dX7_binding_0 : decode cX7_binding 0 = .ok (.iload_n 0, 1) := by decide +kernel
theorem dX7_binding_1 : decode cX7_binding 1 = .ok (.lookupswitch 96 #[(42, 93), (43, 91), (45, 91), (47, 93), (60, 89), (61, 89), (107, 83), (108, 85), (109, 87)], 83) := by decide +kernel
theorem dX7_binding_84 : decode cX7_binding 84 = .ok (.iconst 1, 1) := by decide +kernel
theorem dX7_binding_85 : decode cX7_binding 85 = .ok (.ireturn, 1) := by decide +kernel
theorem dX7_binding_86 : decode cX7_binding 86 = .ok (.iconst 2, 1) := by decide +kernel
theorem dX7_binding_87 : decode cX7_binding 87 = .ok (.ireturn, 1) := by decide +kernel
theorem dX7_binding_88 : decode cX7_binding 88 = .ok (.iconst 3, 1) := by decide +kernel
theorem dX7_binding_89 : decode cX7_binding 89 = .ok (.ireturn, 1) := by decide +kernel
theorem dX7_binding_90 : decode cX7_binding 90 = .ok (.iconst 4, 1) := by decide +kernel
theorem dX7_binding_91 : decode cX7_binding 91 = .ok (.ireturn, 1) := by decide +kernel
theorem dX7_binding_92 : decode cX7_binding 92 = .ok (.iconst 5, 1) := by decide +kernel
theorem dX7_binding_93 : decode cX7_binding 93 = .ok (.ireturn, 1) := by decide +kernel
theorem dX7_binding_94 : decode cX7_binding 94 = .ok (.bipush 6, 2) := by decide +kernel
theorem dX7_binding_96 : decode cX7_binding 96 = .ok (.ireturn, 1) := by decide +kernel
theorem dX7_binding_97 : decode cX7_binding 97 = .ok (.iconst 0, 1) := by decide +kernel
theorem dX7_binding_98 : decode cX7_binding 98 = .ok (.ireturn, 1) := by decide +kernel
theorem dX8_init_0 : decode cX8_init 0 = .ok (.aload_n 0, 1) := by decide +kernel
theorem dX8_init_1 : decode cX8_init 1 = .ok (.invokespecial 3, 3) := by decide +kernel
theorem dX8_init_4 : decode cX8_init 4 = .ok (.aload_n 0, 1) := by decide +kernel
theorem dX8_init_5 : decode cX8_init 5 = .ok (.sipush 600, 3) := by decide +kernel
theorem dX8_init_8 : decode cX8_init 8 = .ok (.newarray .int, 2) := by decide +kernel
theorem dX8_init_10 : decode cX8_init 10 = .ok (.putfield 9, 3) := by decide +kernel
theorem dX8_init_13 : decode cX8_init 13 = .ok (.aload_n 0, 1) := by decide +kernel
theorem dX8_init_14 : decode cX8_init 14 = .ok (.iconst 0, 1) := by decide +kernel
theorem dX8_init_15 : decode cX8_init 15 = .ok (.putfield 15, 3) := by decide +kernel
theorem dX8_init_18 : decode cX8_init 18 = .ok (.aload_n 0, 1) := by decide +kernel
theorem dX8_init_19 : decode cX8_init 19 = .ok (.bipush 64, 2) := by decide +kernel
theorem dX8_init_21 : decode cX8_init 21 = .ok (.newarray .int, 2) := by decide +kernel
theorem dX8_init_23 : decode cX8_init 23 = .ok (.putfield 19, 3) := by decide +kernel
theorem dX8_init_26 : decode cX8_init 26 = .ok (.return_, 1) := by decide +kernel
theorem dX8_put_0 : decode cX8_put 0 = .ok (.aload_n 0, 1) := by decide +kernel
theorem dX8_put_1 : decode cX8_put 1 = .ok (.getfield 15, 3) := by decide +kernel
theorem dX8_put_4 : decode cX8_put 4 = .ok (.aload_n 0, 1) := by decide +kernel
theorem dX8_put_5 : decode cX8_put 5 = .ok (.getfield 9, 3) := by decide +kernel
theorem dX8_put_8 : decode cX8_put 8 = .ok (.arraylength, 1) := by decide +kernel
theorem dX8_put_9 : decode cX8_put 9 = .ok (.if_icmp .ge 23, 3) := by decide +kernel
theorem dX8_put_12 : decode cX8_put 12 = .ok (.aload_n 0, 1) := by decide +kernel
theorem dX8_put_13 : decode cX8_put 13 = .ok (.getfield 9, 3) := by decide +kernel
theorem dX8_put_16 : decode cX8_put 16 = .ok (.aload_n 0, 1) := by decide +kernel
theorem dX8_put_17 : decode cX8_put 17 = .ok (.getfield 15, 3) := by decide +kernel
theorem dX8_put_20 : decode cX8_put 20 = .ok (.iload_n 1, 1) := by decide +kernel
theorem dX8_put_21 : decode cX8_put 21 = .ok (.iastore, 1) := by decide +kernel
theorem dX8_put_22 : decode cX8_put 22 = .ok (.aload_n 0, 1) := by decide +kernel
theorem dX8_put_23 : decode cX8_put 23 = .ok (.dup, 1) := by decide +kernel
theorem dX8_put_24 : decode cX8_put 24 = .ok (.getfield 15, 3) := by decide +kernel
theorem dX8_put_27 : decode cX8_put 27 = .ok (.iconst 1, 1) := by decide +kernel
theorem dX8_put_28 : decode cX8_put 28 = .ok (.iadd, 1) := by decide +kernel
theorem dX8_put_29 : decode cX8_put 29 = .ok (.putfield 15, 3) := by decide +kernel
theorem dX8_put_32 : decode cX8_put 32 = .ok (.iconst 1, 1) := by decide +kernel
theorem dX8_put_33 : decode cX8_put 33 = .ok (.ireturn, 1) := by decide +kernel
theorem dX8_worth_0 : decode cX8_worth 0 = .ok (.iconst 0, 1) := by decide +kernel
theorem dX8_worth_1 : decode cX8_worth 1 = .ok (.istore 4, 2) := by decide +kernel
theorem dX8_worth_3 : decode cX8_worth 3 = .ok (.iconst 0, 1) := by decide +kernel
theorem dX8_worth_4 : decode cX8_worth 4 = .ok (.istore 5, 2) := by decide +kernel
theorem dX8_worth_6 : decode cX8_worth 6 = .ok (.iload 5, 2) := by decide +kernel
theorem dX8_worth_8 : decode cX8_worth 8 = .ok (.aload_n 0, 1) := by decide +kernel
theorem dX8_worth_9 : decode cX8_worth 9 = .ok (.getfield 15, 3) := by decide +kernel
theorem dX8_worth_12 : decode cX8_worth 12 = .ok (.if_icmp .ge 154, 3) := by decide +kernel
theorem dX8_worth_15 : decode cX8_worth 15 = .ok (.aload_n 0, 1) := by decide +kernel
theorem dX8_worth_16 : decode cX8_worth 16 = .ok (.getfield 9, 3) := by decide +kernel
theorem dX8_worth_19 : decode cX8_worth 19 = .ok (.iload 5, 2) := by decide +kernel
theorem dX8_worth_21 : decode cX8_worth 21 = .ok (.iaload, 1) := by decide +kernel
theorem dX8_worth_22 : decode cX8_worth 22 = .ok (.istore 6, 2) := by decide +kernel
theorem dX8_worth_24 : decode cX8_worth 24 = .ok (.iload 6, 2) := by decide +kernel
theorem dX8_worth_26 : decode cX8_worth 26 = .ok (.ifCond .ge 11, 3) := by decide +kernel
theorem dX8_worth_29 : decode cX8_worth 29 = .ok (.iload 6, 2) := by decide +kernel
theorem dX8_worth_31 : decode cX8_worth 31 = .ok (.ineg, 1) := by decide +kernel
theorem dX8_worth_32 : decode cX8_worth 32 = .ok (.bipush 110, 2) := by decide +kernel
theorem dX8_worth_34 : decode cX8_worth 34 = .ok (.if_icmp .lt 45, 3) := by decide +kernel
theorem dX8_worth_37 : decode cX8_worth 37 = .ok (.iload 4, 2) := by decide +kernel
theorem dX8_worth_39 : decode cX8_worth 39 = .ok (.aload_n 0, 1) := by decide +kernel
theorem dX8_worth_40 : decode cX8_worth 40 = .ok (.getfield 19, 3) := by decide +kernel
theorem dX8_worth_43 : decode cX8_worth 43 = .ok (.arraylength, 1) := by decide +kernel
theorem dX8_worth_44 : decode cX8_worth 44 = .ok (.if_icmp .ge 116, 3) := by decide +kernel
theorem dX8_worth_47 : decode cX8_worth 47 = .ok (.aload_n 0, 1) := by decide +kernel
theorem dX8_worth_48 : decode cX8_worth 48 = .ok (.getfield 19, 3) := by decide +kernel
theorem dX8_worth_51 : decode cX8_worth 51 = .ok (.iload 4, 2) := by decide +kernel
theorem dX8_worth_53 : decode cX8_worth 53 = .ok (.iload 6, 2) := by decide +kernel
theorem dX8_worth_55 : decode cX8_worth 55 = .ok (.ifCond .lt 8, 3) := by decide +kernel
theorem dX8_worth_58 : decode cX8_worth 58 = .ok (.iload 6, 2) := by decide +kernel
theorem dX8_worth_60 : decode cX8_worth 60 = .ok (.goto 12, 3) := by decide +kernel
theorem dX8_worth_63 : decode cX8_worth 63 = .ok (.aload_n 2, 1) := by decide +kernel
theorem dX8_worth_64 : decode cX8_worth 64 = .ok (.iload 6, 2) := by decide +kernel
theorem dX8_worth_66 : decode cX8_worth 66 = .ok (.ineg, 1) := by decide +kernel
theorem dX8_worth_67 : decode cX8_worth 67 = .ok (.aload_n 1, 1) := by decide +kernel
theorem dX8_worth_68 : decode cX8_worth 68 = .ok (.iload_n 3, 1) := by decide +kernel
theorem dX8_worth_69 : decode cX8_worth 69 = .ok (.invokevirtual 22, 3) := by decide +kernel
theorem dX8_worth_72 : decode cX8_worth 72 = .ok (.iastore, 1) := by decide +kernel
theorem dX8_worth_73 : decode cX8_worth 73 = .ok (.iinc 4 1, 3) := by decide +kernel
theorem dX8_worth_76 : decode cX8_worth 76 = .ok (.goto 84, 3) := by decide +kernel
theorem dX8_worth_79 : decode cX8_worth 79 = .ok (.iload 6, 2) := by decide +kernel
theorem dX8_worth_81 : decode cX8_worth 81 = .ok (.bipush (-109), 2) := by decide +kernel
theorem dX8_worth_83 : decode cX8_worth 83 = .ok (.if_icmp .ne 37, 3) := by decide +kernel
theorem dX8_worth_86 : decode cX8_worth 86 = .ok (.iload 4, 2) := by decide +kernel
theorem dX8_worth_88 : decode cX8_worth 88 = .ok (.ifCond .le 72, 3) := by decide +kernel
theorem dX8_worth_91 : decode cX8_worth 91 = .ok (.aload_n 0, 1) := by decide +kernel
theorem dX8_worth_92 : decode cX8_worth 92 = .ok (.getfield 19, 3) := by decide +kernel
theorem dX8_worth_95 : decode cX8_worth 95 = .ok (.iload 4, 2) := by decide +kernel
theorem dX8_worth_97 : decode cX8_worth 97 = .ok (.iconst 1, 1) := by decide +kernel
theorem dX8_worth_98 : decode cX8_worth 98 = .ok (.isub, 1) := by decide +kernel
theorem dX8_worth_99 : decode cX8_worth 99 = .ok (.aload_n 0, 1) := by decide +kernel
theorem dX8_worth_100 : decode cX8_worth 100 = .ok (.getfield 19, 3) := by decide +kernel
theorem dX8_worth_103 : decode cX8_worth 103 = .ok (.iload 4, 2) := by decide +kernel
theorem dX8_worth_105 : decode cX8_worth 105 = .ok (.iconst 1, 1) := by decide +kernel
theorem dX8_worth_106 : decode cX8_worth 106 = .ok (.isub, 1) := by decide +kernel
theorem dX8_worth_107 : decode cX8_worth 107 = .ok (.iaload, 1) := by decide +kernel
theorem dX8_worth_108 : decode cX8_worth 108 = .ok (.ifCond .ne 7, 3) := by decide +kernel
theorem dX8_worth_111 : decode cX8_worth 111 = .ok (.iconst 1, 1) := by decide +kernel
theorem dX8_worth_112 : decode cX8_worth 112 = .ok (.goto 4, 3) := by decide +kernel
theorem dX8_worth_115 : decode cX8_worth 115 = .ok (.iconst 0, 1) := by decide +kernel
theorem dX8_worth_116 : decode cX8_worth 116 = .ok (.iastore, 1) := by decide +kernel
theorem dX8_worth_117 : decode cX8_worth 117 = .ok (.goto 43, 3) := by decide +kernel
theorem dX8_worth_120 : decode cX8_worth 120 = .ok (.iload 4, 2) := by decide +kernel
theorem dX8_worth_122 : decode cX8_worth 122 = .ok (.iconst 1, 1) := by decide +kernel
theorem dX8_worth_123 : decode cX8_worth 123 = .ok (.if_icmp .le 37, 3) := by decide +kernel
theorem dX8_worth_126 : decode cX8_worth 126 = .ok (.iinc 4 (-1), 3) := by decide +kernel
theorem dX8_worth_129 : decode cX8_worth 129 = .ok (.aload_n 0, 1) := by decide +kernel
theorem dX8_worth_130 : decode cX8_worth 130 = .ok (.getfield 19, 3) := by decide +kernel
theorem dX8_worth_133 : decode cX8_worth 133 = .ok (.iload 4, 2) := by decide +kernel
theorem dX8_worth_135 : decode cX8_worth 135 = .ok (.iconst 1, 1) := by decide +kernel
theorem dX8_worth_136 : decode cX8_worth 136 = .ok (.isub, 1) := by decide +kernel
theorem dX8_worth_137 : decode cX8_worth 137 = .ok (.iload 6, 2) := by decide +kernel
theorem dX8_worth_139 : decode cX8_worth 139 = .ok (.ineg, 1) := by decide +kernel
theorem dX8_worth_140 : decode cX8_worth 140 = .ok (.aload_n 0, 1) := by decide +kernel
theorem dX8_worth_141 : decode cX8_worth 141 = .ok (.getfield 19, 3) := by decide +kernel
theorem dX8_worth_144 : decode cX8_worth 144 = .ok (.iload 4, 2) := by decide +kernel
theorem dX8_worth_146 : decode cX8_worth 146 = .ok (.iconst 1, 1) := by decide +kernel
theorem dX8_worth_147 : decode cX8_worth 147 = .ok (.isub, 1) := by decide +kernel
theorem dX8_worth_148 : decode cX8_worth 148 = .ok (.iaload, 1) := by decide +kernel
theorem dX8_worth_149 : decode cX8_worth 149 = .ok (.aload_n 0, 1) := by decide +kernel
theorem dX8_worth_150 : decode cX8_worth 150 = .ok (.getfield 19, 3) := by decide +kernel
theorem dX8_worth_153 : decode cX8_worth 153 = .ok (.iload 4, 2) := by decide +kernel
theorem dX8_worth_155 : decode cX8_worth 155 = .ok (.iaload, 1) := by decide +kernel
theorem dX8_worth_156 : decode cX8_worth 156 = .ok (.invokestatic 28, 3) := by decide +kernel
theorem dX8_worth_159 : decode cX8_worth 159 = .ok (.iastore, 1) := by decide +kernel
theorem dX8_worth_160 : decode cX8_worth 160 = .ok (.iinc 5 1, 3) := by decide +kernel
theorem dX8_worth_163 : decode cX8_worth 163 = .ok (.goto (-157), 3) := by decide +kernel
theorem dX8_worth_166 : decode cX8_worth 166 = .ok (.iload 4, 2) := by decide +kernel
theorem dX8_worth_168 : decode cX8_worth 168 = .ok (.ifCond .le 12, 3) := by decide +kernel
theorem dX8_worth_171 : decode cX8_worth 171 = .ok (.aload_n 0, 1) := by decide +kernel
theorem dX8_worth_172 : decode cX8_worth 172 = .ok (.getfield 19, 3) := by decide +kernel
theorem dX8_worth_175 : decode cX8_worth 175 = .ok (.iconst 0, 1) := by decide +kernel
theorem dX8_worth_176 : decode cX8_worth 176 = .ok (.iaload, 1) := by decide +kernel
theorem dX8_worth_177 : decode cX8_worth 177 = .ok (.goto 4, 3) := by decide +kernel
theorem dX8_worth_180 : decode cX8_worth 180 = .ok (.iconst 0, 1) := by decide +kernel
theorem dX8_worth_181 : decode cX8_worth 181 = .ok (.ireturn, 1) := by decide +kernel
theorem dX8_apply_0 : decode cX8_apply 0 = .ok (.iload_n 0, 1) := by decide +kernel
theorem dX8_apply_1 : decode cX8_apply 1 = .ok (.lookupswitch 129 #[(42, 125), (43, 117), (45, 121), (60, 95), (61, 106), (107, 67), (108, 81)], 67) := by decide +kernel
theorem dX8_apply_68 : decode cX8_apply 68 = .ok (.iload_n 1, 1) := by decide +kernel
theorem dX8_apply_69 : decode cX8_apply 69 = .ok (.ifCond .ne 7, 3) := by decide +kernel
theorem dX8_apply_72 : decode cX8_apply 72 = .ok (.iload_n 2, 1) := by decide +kernel
theorem dX8_apply_73 : decode cX8_apply 73 = .ok (.ifCond .eq 7, 3) := by decide +kernel
theorem dX8_apply_76 : decode cX8_apply 76 = .ok (.iconst 1, 1) := by decide +kernel
theorem dX8_apply_77 : decode cX8_apply 77 = .ok (.goto 4, 3) := by decide +kernel
theorem dX8_apply_80 : decode cX8_apply 80 = .ok (.iconst 0, 1) := by decide +kernel
theorem dX8_apply_81 : decode cX8_apply 81 = .ok (.ireturn, 1) := by decide +kernel
theorem dX8_apply_82 : decode cX8_apply 82 = .ok (.iload_n 1, 1) := by decide +kernel
theorem dX8_apply_83 : decode cX8_apply 83 = .ok (.ifCond .eq 11, 3) := by decide +kernel
theorem dX8_apply_86 : decode cX8_apply 86 = .ok (.iload_n 2, 1) := by decide +kernel
theorem dX8_apply_87 : decode cX8_apply 87 = .ok (.ifCond .eq 7, 3) := by decide +kernel
theorem dX8_apply_90 : decode cX8_apply 90 = .ok (.iconst 1, 1) := by decide +kernel
theorem dX8_apply_91 : decode cX8_apply 91 = .ok (.goto 4, 3) := by decide +kernel
theorem dX8_apply_94 : decode cX8_apply 94 = .ok (.iconst 0, 1) := by decide +kernel
theorem dX8_apply_95 : decode cX8_apply 95 = .ok (.ireturn, 1) := by decide +kernel
theorem dX8_apply_96 : decode cX8_apply 96 = .ok (.iload_n 1, 1) := by decide +kernel
theorem dX8_apply_97 : decode cX8_apply 97 = .ok (.iload_n 2, 1) := by decide +kernel
theorem dX8_apply_98 : decode cX8_apply 98 = .ok (.if_icmp .ge 7, 3) := by decide +kernel
theorem dX8_apply_101 : decode cX8_apply 101 = .ok (.iconst 1, 1) := by decide +kernel
theorem dX8_apply_102 : decode cX8_apply 102 = .ok (.goto 4, 3) := by decide +kernel
theorem dX8_apply_105 : decode cX8_apply 105 = .ok (.iconst 0, 1) := by decide +kernel
theorem dX8_apply_106 : decode cX8_apply 106 = .ok (.ireturn, 1) := by decide +kernel
theorem dX8_apply_107 : decode cX8_apply 107 = .ok (.iload_n 1, 1) := by decide +kernel
theorem dX8_apply_108 : decode cX8_apply 108 = .ok (.iload_n 2, 1) := by decide +kernel
theorem dX8_apply_109 : decode cX8_apply 109 = .ok (.if_icmp .ne 7, 3) := by decide +kernel
theorem dX8_apply_112 : decode cX8_apply 112 = .ok (.iconst 1, 1) := by decide +kernel
theorem dX8_apply_113 : decode cX8_apply 113 = .ok (.goto 4, 3) := by decide +kernel
theorem dX8_apply_116 : decode cX8_apply 116 = .ok (.iconst 0, 1) := by decide +kernel
theorem dX8_apply_117 : decode cX8_apply 117 = .ok (.ireturn, 1) := by decide +kernel
theorem dX8_apply_118 : decode cX8_apply 118 = .ok (.iload_n 1, 1) := by decide +kernel
theorem dX8_apply_119 : decode cX8_apply 119 = .ok (.iload_n 2, 1) := by decide +kernel
theorem dX8_apply_120 : decode cX8_apply 120 = .ok (.iadd, 1) := by decide +kernel
theorem dX8_apply_121 : decode cX8_apply 121 = .ok (.ireturn, 1) := by decide +kernel
theorem dX8_apply_122 : decode cX8_apply 122 = .ok (.iload_n 1, 1) := by decide +kernel
theorem dX8_apply_123 : decode cX8_apply 123 = .ok (.iload_n 2, 1) := by decide +kernel
theorem dX8_apply_124 : decode cX8_apply 124 = .ok (.isub, 1) := by decide +kernel
theorem dX8_apply_125 : decode cX8_apply 125 = .ok (.ireturn, 1) := by decide +kernel
theorem dX8_apply_126 : decode cX8_apply 126 = .ok (.iload_n 1, 1) := by decide +kernel
theorem dX8_apply_127 : decode cX8_apply 127 = .ok (.iload_n 2, 1) := by decide +kernel
theorem dX8_apply_128 : decode cX8_apply 128 = .ok (.imul, 1) := by decide +kernel
theorem dX8_apply_129 : decode cX8_apply 129 = .ok (.ireturn, 1) := by decide +kernel
theorem dX8_apply_130 : decode cX8_apply 130 = .ok (.iload_n 2, 1) := by decide +kernel
theorem dX8_apply_131 : decode cX8_apply 131 = .ok (.ifCond .ne 7, 3) := by decide +kernel
theorem dX8_apply_134 : decode cX8_apply 134 = .ok (.iconst 0, 1) := by decide +kernel
theorem dX8_apply_135 : decode cX8_apply 135 = .ok (.goto 6, 3) := by decide +kernel
theorem dX8_apply_138 : decode cX8_apply 138 = .ok (.iload_n 1, 1) := by decide +kernel
theorem dX8_apply_139 : decode cX8_apply 139 = .ok (.iload_n 2, 1) := by decide +kernel
theorem dX8_apply_140 : decode cX8_apply 140 = .ok (.idiv, 1) := by decide +kernel
theorem dX8_apply_141 : decode cX8_apply 141 = .ok (.ireturn, 1) := by decide +kernel
theorem dX9_init_0 : decode cX9_init 0 = .ok (.aload_n 0, 1) := by decide +kernel
theorem dX9_init_1 : decode cX9_init 1 = .ok (.invokespecial 3, 3) := by decide +kernel
theorem dX9_init_4 : decode cX9_init 4 = .ok (.aload_n 0, 1) := by decide +kernel
theorem dX9_init_5 : decode cX9_init 5 = .ok (.sipush 600, 3) := by decide +kernel
theorem dX9_init_8 : decode cX9_init 8 = .ok (.newarray .byte, 2) := by decide +kernel
theorem dX9_init_10 : decode cX9_init 10 = .ok (.putfield 9, 3) := by decide +kernel
theorem dX9_init_13 : decode cX9_init 13 = .ok (.aload_n 0, 1) := by decide +kernel
theorem dX9_init_14 : decode cX9_init 14 = .ok (.iconst 0, 1) := by decide +kernel
theorem dX9_init_15 : decode cX9_init 15 = .ok (.putfield 15, 3) := by decide +kernel
theorem dX9_init_18 : decode cX9_init 18 = .ok (.aload_n 0, 1) := by decide +kernel
theorem dX9_init_19 : decode cX9_init 19 = .ok (.iconst 0, 1) := by decide +kernel
theorem dX9_init_20 : decode cX9_init 20 = .ok (.putfield 19, 3) := by decide +kernel
theorem dX9_init_23 : decode cX9_init 23 = .ok (.aload_n 0, 1) := by decide +kernel
theorem dX9_init_24 : decode cX9_init 24 = .ok (.iconst 0, 1) := by decide +kernel
theorem dX9_init_25 : decode cX9_init 25 = .ok (.putfield 22, 3) := by decide +kernel
theorem dX9_init_28 : decode cX9_init 28 = .ok (.aload_n 0, 1) := by decide +kernel
theorem dX9_init_29 : decode cX9_init 29 = .ok (.iconst 0, 1) := by decide +kernel
theorem dX9_init_30 : decode cX9_init 30 = .ok (.putfield 25, 3) := by decide +kernel
theorem dX9_init_33 : decode cX9_init 33 = .ok (.aload_n 0, 1) := by decide +kernel
theorem dX9_init_34 : decode cX9_init 34 = .ok (.iconst 0, 1) := by decide +kernel
theorem dX9_init_35 : decode cX9_init 35 = .ok (.putfield 28, 3) := by decide +kernel
theorem dX9_init_38 : decode cX9_init 38 = .ok (.aload_n 0, 1) := by decide +kernel
theorem dX9_init_39 : decode cX9_init 39 = .ok (.iconst 0, 1) := by decide +kernel
theorem dX9_init_40 : decode cX9_init 40 = .ok (.putfield 31, 3) := by decide +kernel
theorem dX9_init_43 : decode cX9_init 43 = .ok (.aload_n 0, 1) := by decide +kernel
theorem dX9_init_44 : decode cX9_init 44 = .ok (.iconst 0, 1) := by decide +kernel
theorem dX9_init_45 : decode cX9_init 45 = .ok (.putfield 34, 3) := by decide +kernel
theorem dX9_init_48 : decode cX9_init 48 = .ok (.return_, 1) := by decide +kernel
theorem dX9_addFour_0 : decode cX9_addFour 0 = .ok (.bipush 24, 2) := by decide +kernel
theorem dX9_addFour_2 : decode cX9_addFour 2 = .ok (.istore_n 2, 1) := by decide +kernel
theorem dX9_addFour_3 : decode cX9_addFour 3 = .ok (.iload_n 2, 1) := by decide +kernel
theorem dX9_addFour_4 : decode cX9_addFour 4 = .ok (.ifCond .lt 42, 3) := by decide +kernel
theorem dX9_addFour_7 : decode cX9_addFour 7 = .ok (.aload_n 0, 1) := by decide +kernel
theorem dX9_addFour_8 : decode cX9_addFour 8 = .ok (.getfield 15, 3) := by decide +kernel
theorem dX9_addFour_11 : decode cX9_addFour 11 = .ok (.sipush 600, 3) := by decide +kernel
theorem dX9_addFour_14 : decode cX9_addFour 14 = .ok (.if_icmp .ge 26, 3) := by decide +kernel
theorem dX9_addFour_17 : decode cX9_addFour 17 = .ok (.aload_n 0, 1) := by decide +kernel
theorem dX9_addFour_18 : decode cX9_addFour 18 = .ok (.getfield 9, 3) := by decide +kernel
theorem dX9_addFour_21 : decode cX9_addFour 21 = .ok (.aload_n 0, 1) := by decide +kernel
theorem dX9_addFour_22 : decode cX9_addFour 22 = .ok (.getfield 15, 3) := by decide +kernel
theorem dX9_addFour_25 : decode cX9_addFour 25 = .ok (.iload_n 1, 1) := by decide +kernel
theorem dX9_addFour_26 : decode cX9_addFour 26 = .ok (.iload_n 2, 1) := by decide +kernel
theorem dX9_addFour_27 : decode cX9_addFour 27 = .ok (.ishr, 1) := by decide +kernel
theorem dX9_addFour_28 : decode cX9_addFour 28 = .ok (.i2b, 1) := by decide +kernel
theorem dX9_addFour_29 : decode cX9_addFour 29 = .ok (.bastore, 1) := by decide +kernel
theorem dX9_addFour_30 : decode cX9_addFour 30 = .ok (.aload_n 0, 1) := by decide +kernel
theorem dX9_addFour_31 : decode cX9_addFour 31 = .ok (.dup, 1) := by decide +kernel
theorem dX9_addFour_32 : decode cX9_addFour 32 = .ok (.getfield 15, 3) := by decide +kernel
theorem dX9_addFour_35 : decode cX9_addFour 35 = .ok (.iconst 1, 1) := by decide +kernel
theorem dX9_addFour_36 : decode cX9_addFour 36 = .ok (.iadd, 1) := by decide +kernel
theorem dX9_addFour_37 : decode cX9_addFour 37 = .ok (.putfield 15, 3) := by decide +kernel
theorem dX9_addFour_40 : decode cX9_addFour 40 = .ok (.iinc 2 (-8), 3) := by decide +kernel
theorem dX9_addFour_43 : decode cX9_addFour 43 = .ok (.goto (-40), 3) := by decide +kernel
theorem dX9_addFour_46 : decode cX9_addFour 46 = .ok (.return_, 1) := by decide +kernel
theorem dX9_begin_0 : decode cX9_begin 0 = .ok (.aload_n 0, 1) := by decide +kernel
theorem dX9_begin_1 : decode cX9_begin 1 = .ok (.iload_n 1, 1) := by decide +kernel
theorem dX9_begin_2 : decode cX9_begin 2 = .ok (.sipush 600, 3) := by decide +kernel
theorem dX9_begin_5 : decode cX9_begin 5 = .ok (.invokestatic 37, 3) := by decide +kernel
theorem dX9_begin_8 : decode cX9_begin 8 = .ok (.putfield 19, 3) := by decide +kernel
theorem dX9_begin_11 : decode cX9_begin 11 = .ok (.aload_n 0, 1) := by decide +kernel
theorem dX9_begin_12 : decode cX9_begin 12 = .ok (.iconst 0, 1) := by decide +kernel
theorem dX9_begin_13 : decode cX9_begin 13 = .ok (.putfield 22, 3) := by decide +kernel
theorem dX9_begin_16 : decode cX9_begin 16 = .ok (.aload_n 0, 1) := by decide +kernel
theorem dX9_begin_17 : decode cX9_begin 17 = .ok (.invokevirtual 43, 3) := by decide +kernel
theorem dX9_begin_20 : decode cX9_begin 20 = .ok (.return_, 1) := by decide +kernel
theorem dX9_next_0 : decode cX9_next 0 = .ok (.aload_n 0, 1) := by decide +kernel
theorem dX9_next_1 : decode cX9_next 1 = .ok (.getfield 22, 3) := by decide +kernel
theorem dX9_next_4 : decode cX9_next 4 = .ok (.aload_n 0, 1) := by decide +kernel
theorem dX9_next_5 : decode cX9_next 5 = .ok (.getfield 19, 3) := by decide +kernel
theorem dX9_next_8 : decode cX9_next 8 = .ok (.if_icmp .ge 31, 3) := by decide +kernel
theorem dX9_next_11 : decode cX9_next 11 = .ok (.aload_n 0, 1) := by decide +kernel
theorem dX9_next_12 : decode cX9_next 12 = .ok (.getfield 9, 3) := by decide +kernel
theorem dX9_next_15 : decode cX9_next 15 = .ok (.aload_n 0, 1) := by decide +kernel
theorem dX9_next_16 : decode cX9_next 16 = .ok (.getfield 22, 3) := by decide +kernel
theorem dX9_next_19 : decode cX9_next 19 = .ok (.baload, 1) := by decide +kernel
theorem dX9_next_20 : decode cX9_next 20 = .ok (.invokestatic 46, 3) := by decide +kernel
theorem dX9_next_23 : decode cX9_next 23 = .ok (.ifCond .eq 16, 3) := by decide +kernel
theorem dX9_next_26 : decode cX9_next 26 = .ok (.aload_n 0, 1) := by decide +kernel
theorem dX9_next_27 : decode cX9_next 27 = .ok (.dup, 1) := by decide +kernel
theorem dX9_next_28 : decode cX9_next 28 = .ok (.getfield 22, 3) := by decide +kernel
theorem dX9_next_31 : decode cX9_next 31 = .ok (.iconst 1, 1) := by decide +kernel
theorem dX9_next_32 : decode cX9_next 32 = .ok (.iadd, 1) := by decide +kernel
theorem dX9_next_33 : decode cX9_next 33 = .ok (.putfield 22, 3) := by decide +kernel
theorem dX9_next_36 : decode cX9_next 36 = .ok (.goto (-36), 3) := by decide +kernel
theorem dX9_next_39 : decode cX9_next 39 = .ok (.aload_n 0, 1) := by decide +kernel
theorem dX9_next_40 : decode cX9_next 40 = .ok (.aload_n 0, 1) := by decide +kernel
theorem dX9_next_41 : decode cX9_next 41 = .ok (.getfield 22, 3) := by decide +kernel
theorem dX9_next_44 : decode cX9_next 44 = .ok (.putfield 28, 3) := by decide +kernel
theorem dX9_next_47 : decode cX9_next 47 = .ok (.aload_n 0, 1) := by decide +kernel
theorem dX9_next_48 : decode cX9_next 48 = .ok (.getfield 22, 3) := by decide +kernel
theorem dX9_next_51 : decode cX9_next 51 = .ok (.aload_n 0, 1) := by decide +kernel
theorem dX9_next_52 : decode cX9_next 52 = .ok (.getfield 19, 3) := by decide +kernel
theorem dX9_next_55 : decode cX9_next 55 = .ok (.if_icmp .lt 11, 3) := by decide +kernel
theorem dX9_next_58 : decode cX9_next 58 = .ok (.aload_n 0, 1) := by decide +kernel
theorem dX9_next_59 : decode cX9_next 59 = .ok (.iconst 0, 1) := by decide +kernel
theorem dX9_next_60 : decode cX9_next 60 = .ok (.putfield 25, 3) := by decide +kernel
theorem dX9_next_63 : decode cX9_next 63 = .ok (.goto 97, 3) := by decide +kernel
theorem dX9_next_66 : decode cX9_next 66 = .ok (.aload_n 0, 1) := by decide +kernel
theorem dX9_next_67 : decode cX9_next 67 = .ok (.getfield 9, 3) := by decide +kernel
theorem dX9_next_70 : decode cX9_next 70 = .ok (.aload_n 0, 1) := by decide +kernel
theorem dX9_next_71 : decode cX9_next 71 = .ok (.getfield 22, 3) := by decide +kernel
theorem dX9_next_74 : decode cX9_next 74 = .ok (.baload, 1) := by decide +kernel
theorem dX9_next_75 : decode cX9_next 75 = .ok (.invokestatic 50, 3) := by decide +kernel
theorem dX9_next_78 : decode cX9_next 78 = .ok (.ifCond .eq 18, 3) := by decide +kernel
theorem dX9_next_81 : decode cX9_next 81 = .ok (.aload_n 0, 1) := by decide +kernel
theorem dX9_next_82 : decode cX9_next 82 = .ok (.invokevirtual 53, 3) := by decide +kernel
theorem dX9_next_85 : decode cX9_next 85 = .ok (.aload_n 0, 1) := by decide +kernel
theorem dX9_next_86 : decode cX9_next 86 = .ok (.aload_n 0, 1) := by decide +kernel
theorem dX9_next_87 : decode cX9_next 87 = .ok (.invokevirtual 56, 3) := by decide +kernel
theorem dX9_next_90 : decode cX9_next 90 = .ok (.putfield 25, 3) := by decide +kernel
theorem dX9_next_93 : decode cX9_next 93 = .ok (.goto 67, 3) := by decide +kernel
theorem dX9_next_96 : decode cX9_next 96 = .ok (.aload_n 0, 1) := by decide +kernel
theorem dX9_next_97 : decode cX9_next 97 = .ok (.getfield 9, 3) := by decide +kernel
theorem dX9_next_100 : decode cX9_next 100 = .ok (.aload_n 0, 1) := by decide +kernel
theorem dX9_next_101 : decode cX9_next 101 = .ok (.getfield 22, 3) := by decide +kernel
theorem dX9_next_104 : decode cX9_next 104 = .ok (.baload, 1) := by decide +kernel
theorem dX9_next_105 : decode cX9_next 105 = .ok (.invokestatic 60, 3) := by decide +kernel
theorem dX9_next_108 : decode cX9_next 108 = .ok (.ifCond .eq 10, 3) := by decide +kernel
theorem dX9_next_111 : decode cX9_next 111 = .ok (.aload_n 0, 1) := by decide +kernel
theorem dX9_next_112 : decode cX9_next 112 = .ok (.invokevirtual 63, 3) := by decide +kernel
theorem dX9_next_115 : decode cX9_next 115 = .ok (.goto 45, 3) := by decide +kernel
theorem dX9_next_118 : decode cX9_next 118 = .ok (.aload_n 0, 1) := by decide +kernel
theorem dX9_next_119 : decode cX9_next 119 = .ok (.aload_n 0, 1) := by decide +kernel
theorem dX9_next_120 : decode cX9_next 120 = .ok (.getfield 9, 3) := by decide +kernel
theorem dX9_next_123 : decode cX9_next 123 = .ok (.aload_n 0, 1) := by decide +kernel
theorem dX9_next_124 : decode cX9_next 124 = .ok (.getfield 22, 3) := by decide +kernel
theorem dX9_next_127 : decode cX9_next 127 = .ok (.baload, 1) := by decide +kernel
theorem dX9_next_128 : decode cX9_next 128 = .ok (.invokestatic 66, 3) := by decide +kernel
theorem dX9_next_131 : decode cX9_next 131 = .ok (.ifCond .eq 15, 3) := by decide +kernel
theorem dX9_next_134 : decode cX9_next 134 = .ok (.aload_n 0, 1) := by decide +kernel
theorem dX9_next_135 : decode cX9_next 135 = .ok (.getfield 9, 3) := by decide +kernel
theorem dX9_next_138 : decode cX9_next 138 = .ok (.aload_n 0, 1) := by decide +kernel
theorem dX9_next_139 : decode cX9_next 139 = .ok (.getfield 22, 3) := by decide +kernel
theorem dX9_next_142 : decode cX9_next 142 = .ok (.baload, 1) := by decide +kernel
theorem dX9_next_143 : decode cX9_next 143 = .ok (.goto 4, 3) := by decide +kernel
theorem dX9_next_146 : decode cX9_next 146 = .ok (.iconst 1, 1) := by decide +kernel
theorem dX9_next_147 : decode cX9_next 147 = .ok (.putfield 25, 3) := by decide +kernel
theorem dX9_next_150 : decode cX9_next 150 = .ok (.aload_n 0, 1) := by decide +kernel
theorem dX9_next_151 : decode cX9_next 151 = .ok (.dup, 1) := by decide +kernel
theorem dX9_next_152 : decode cX9_next 152 = .ok (.getfield 22, 3) := by decide +kernel
theorem dX9_next_155 : decode cX9_next 155 = .ok (.iconst 1, 1) := by decide +kernel
theorem dX9_next_156 : decode cX9_next 156 = .ok (.iadd, 1) := by decide +kernel
theorem dX9_next_157 : decode cX9_next 157 = .ok (.putfield 22, 3) := by decide +kernel
theorem dX9_next_160 : decode cX9_next 160 = .ok (.return_, 1) := by decide +kernel
theorem dX9_isWord_0 : decode cX9_isWord 0 = .ok (.aload_n 0, 1) := by decide +kernel
theorem dX9_isWord_1 : decode cX9_isWord 1 = .ok (.getfield 25, 3) := by decide +kernel
theorem dX9_isWord_4 : decode cX9_isWord 4 = .ok (.bipush 99, 2) := by decide +kernel
theorem dX9_isWord_6 : decode cX9_isWord 6 = .ok (.if_icmp .lt 7, 3) := by decide +kernel
theorem dX9_isWord_9 : decode cX9_isWord 9 = .ok (.iconst 1, 1) := by decide +kernel
theorem dX9_isWord_10 : decode cX9_isWord 10 = .ok (.goto 4, 3) := by decide +kernel
theorem dX9_isWord_13 : decode cX9_isWord 13 = .ok (.iconst 0, 1) := by decide +kernel
theorem dX9_isWord_14 : decode cX9_isWord 14 = .ok (.ireturn, 1) := by decide +kernel
theorem dX9_isBlank_0 : decode cX9_isBlank 0 = .ok (.iload_n 0, 1) := by decide +kernel
theorem dX9_isBlank_1 : decode cX9_isBlank 1 = .ok (.bipush 32, 2) := by decide +kernel
theorem dX9_isBlank_3 : decode cX9_isBlank 3 = .ok (.if_icmp .eq 9, 3) := by decide +kernel
theorem dX9_isBlank_6 : decode cX9_isBlank 6 = .ok (.iload_n 0, 1) := by decide +kernel
theorem dX9_isBlank_7 : decode cX9_isBlank 7 = .ok (.bipush 10, 2) := by decide +kernel
theorem dX9_isBlank_9 : decode cX9_isBlank 9 = .ok (.if_icmp .ne 7, 3) := by decide +kernel
theorem dX9_isBlank_12 : decode cX9_isBlank 12 = .ok (.iconst 1, 1) := by decide +kernel
theorem dX9_isBlank_13 : decode cX9_isBlank 13 = .ok (.goto 4, 3) := by decide +kernel
theorem dX9_isBlank_16 : decode cX9_isBlank 16 = .ok (.iconst 0, 1) := by decide +kernel
theorem dX9_isBlank_17 : decode cX9_isBlank 17 = .ok (.ireturn, 1) := by decide +kernel
theorem dX9_isLetter_0 : decode cX9_isLetter 0 = .ok (.iload_n 0, 1) := by decide +kernel
theorem dX9_isLetter_1 : decode cX9_isLetter 1 = .ok (.bipush 97, 2) := by decide +kernel
theorem dX9_isLetter_3 : decode cX9_isLetter 3 = .ok (.if_icmp .lt 13, 3) := by decide +kernel
theorem dX9_isLetter_6 : decode cX9_isLetter 6 = .ok (.iload_n 0, 1) := by decide +kernel
theorem dX9_isLetter_7 : decode cX9_isLetter 7 = .ok (.bipush 122, 2) := by decide +kernel
theorem dX9_isLetter_9 : decode cX9_isLetter 9 = .ok (.if_icmp .gt 7, 3) := by decide +kernel
theorem dX9_isLetter_12 : decode cX9_isLetter 12 = .ok (.iconst 1, 1) := by decide +kernel
theorem dX9_isLetter_13 : decode cX9_isLetter 13 = .ok (.goto 4, 3) := by decide +kernel
theorem dX9_isLetter_16 : decode cX9_isLetter 16 = .ok (.iconst 0, 1) := by decide +kernel
theorem dX9_isLetter_17 : decode cX9_isLetter 17 = .ok (.ireturn, 1) := by decide +kernel
theorem dX9_isDigit_0 : decode cX9_isDigit 0 = .ok (.iload_n 0, 1) := by decide +kernel
theorem dX9_isDigit_1 : decode cX9_isDigit 1 = .ok (.bipush 48, 2) := by decide +kernel
theorem dX9_isDigit_3 : decode cX9_isDigit 3 = .ok (.if_icmp .lt 13, 3) := by decide +kernel
theorem dX9_isDigit_6 : decode cX9_isDigit 6 = .ok (.iload_n 0, 1) := by decide +kernel
theorem dX9_isDigit_7 : decode cX9_isDigit 7 = .ok (.bipush 57, 2) := by decide +kernel
theorem dX9_isDigit_9 : decode cX9_isDigit 9 = .ok (.if_icmp .gt 7, 3) := by decide +kernel
theorem dX9_isDigit_12 : decode cX9_isDigit 12 = .ok (.iconst 1, 1) := by decide +kernel
theorem dX9_isDigit_13 : decode cX9_isDigit 13 = .ok (.goto 4, 3) := by decide +kernel
theorem dX9_isDigit_16 : decode cX9_isDigit 16 = .ok (.iconst 0, 1) := by decide +kernel
theorem dX9_isDigit_17 : decode cX9_isDigit 17 = .ok (.ireturn, 1) := by decide +kernel
theorem dX9_isSign_0 : decode cX9_isSign 0 = .ok (.iload_n 0, 1) := by decide +kernel
theorem dX9_isSign_1 : decode cX9_isSign 1 = .ok (.tableswitch 105 40 61 #[103, 103, 103, 103, 105, 103, 105, 103, 105, 105, 105, 105, 105, 105, 105, 105, 105, 105, 105, 103, 103, 103], 103) := by decide +kernel
theorem dX9_isSign_104 : decode cX9_isSign 104 = .ok (.iconst 1, 1) := by decide +kernel
theorem dX9_isSign_105 : decode cX9_isSign 105 = .ok (.ireturn, 1) := by decide +kernel
theorem dX9_isSign_106 : decode cX9_isSign 106 = .ok (.iconst 0, 1) := by decide +kernel
theorem dX9_isSign_107 : decode cX9_isSign 107 = .ok (.ireturn, 1) := by decide +kernel
theorem dX9_readNumber_0 : decode cX9_readNumber 0 = .ok (.aload_n 0, 1) := by decide +kernel
theorem dX9_readNumber_1 : decode cX9_readNumber 1 = .ok (.iconst 2, 1) := by decide +kernel
theorem dX9_readNumber_2 : decode cX9_readNumber 2 = .ok (.putfield 25, 3) := by decide +kernel
theorem dX9_readNumber_5 : decode cX9_readNumber 5 = .ok (.aload_n 0, 1) := by decide +kernel
theorem dX9_readNumber_6 : decode cX9_readNumber 6 = .ok (.iconst 0, 1) := by decide +kernel
theorem dX9_readNumber_7 : decode cX9_readNumber 7 = .ok (.putfield 31, 3) := by decide +kernel
theorem dX9_readNumber_10 : decode cX9_readNumber 10 = .ok (.aload_n 0, 1) := by decide +kernel
theorem dX9_readNumber_11 : decode cX9_readNumber 11 = .ok (.iconst 0, 1) := by decide +kernel
theorem dX9_readNumber_12 : decode cX9_readNumber 12 = .ok (.putfield 34, 3) := by decide +kernel
theorem dX9_readNumber_15 : decode cX9_readNumber 15 = .ok (.aload_n 0, 1) := by decide +kernel
theorem dX9_readNumber_16 : decode cX9_readNumber 16 = .ok (.getfield 22, 3) := by decide +kernel
theorem dX9_readNumber_19 : decode cX9_readNumber 19 = .ok (.aload_n 0, 1) := by decide +kernel
theorem dX9_readNumber_20 : decode cX9_readNumber 20 = .ok (.getfield 19, 3) := by decide +kernel
theorem dX9_readNumber_23 : decode cX9_readNumber 23 = .ok (.if_icmp .ge 73, 3) := by decide +kernel
theorem dX9_readNumber_26 : decode cX9_readNumber 26 = .ok (.aload_n 0, 1) := by decide +kernel
theorem dX9_readNumber_27 : decode cX9_readNumber 27 = .ok (.getfield 9, 3) := by decide +kernel
theorem dX9_readNumber_30 : decode cX9_readNumber 30 = .ok (.aload_n 0, 1) := by decide +kernel
theorem dX9_readNumber_31 : decode cX9_readNumber 31 = .ok (.getfield 22, 3) := by decide +kernel
theorem dX9_readNumber_34 : decode cX9_readNumber 34 = .ok (.baload, 1) := by decide +kernel
theorem dX9_readNumber_35 : decode cX9_readNumber 35 = .ok (.invokestatic 60, 3) := by decide +kernel
theorem dX9_readNumber_38 : decode cX9_readNumber 38 = .ok (.ifCond .eq 58, 3) := by decide +kernel
theorem dX9_readNumber_41 : decode cX9_readNumber 41 = .ok (.aload_n 0, 1) := by decide +kernel
theorem dX9_readNumber_42 : decode cX9_readNumber 42 = .ok (.dup, 1) := by decide +kernel
theorem dX9_readNumber_43 : decode cX9_readNumber 43 = .ok (.getfield 34, 3) := by decide +kernel
theorem dX9_readNumber_46 : decode cX9_readNumber 46 = .ok (.iconst 1, 1) := by decide +kernel
theorem dX9_readNumber_47 : decode cX9_readNumber 47 = .ok (.iadd, 1) := by decide +kernel
theorem dX9_readNumber_48 : decode cX9_readNumber 48 = .ok (.putfield 34, 3) := by decide +kernel
theorem dX9_readNumber_51 : decode cX9_readNumber 51 = .ok (.aload_n 0, 1) := by decide +kernel
theorem dX9_readNumber_52 : decode cX9_readNumber 52 = .ok (.getfield 34, 3) := by decide +kernel
theorem dX9_readNumber_55 : decode cX9_readNumber 55 = .ok (.iconst 4, 1) := by decide +kernel
theorem dX9_readNumber_56 : decode cX9_readNumber 56 = .ok (.if_icmp .gt 27, 3) := by decide +kernel
theorem dX9_readNumber_59 : decode cX9_readNumber 59 = .ok (.aload_n 0, 1) := by decide +kernel
theorem dX9_readNumber_60 : decode cX9_readNumber 60 = .ok (.aload_n 0, 1) := by decide +kernel
theorem dX9_readNumber_61 : decode cX9_readNumber 61 = .ok (.getfield 31, 3) := by decide +kernel
theorem dX9_readNumber_64 : decode cX9_readNumber 64 = .ok (.bipush 10, 2) := by decide +kernel
theorem dX9_readNumber_66 : decode cX9_readNumber 66 = .ok (.imul, 1) := by decide +kernel
theorem dX9_readNumber_67 : decode cX9_readNumber 67 = .ok (.aload_n 0, 1) := by decide +kernel
theorem dX9_readNumber_68 : decode cX9_readNumber 68 = .ok (.getfield 9, 3) := by decide +kernel
theorem dX9_readNumber_71 : decode cX9_readNumber 71 = .ok (.aload_n 0, 1) := by decide +kernel
theorem dX9_readNumber_72 : decode cX9_readNumber 72 = .ok (.getfield 22, 3) := by decide +kernel
theorem dX9_readNumber_75 : decode cX9_readNumber 75 = .ok (.baload, 1) := by decide +kernel
theorem dX9_readNumber_76 : decode cX9_readNumber 76 = .ok (.iadd, 1) := by decide +kernel
theorem dX9_readNumber_77 : decode cX9_readNumber 77 = .ok (.bipush 48, 2) := by decide +kernel
theorem dX9_readNumber_79 : decode cX9_readNumber 79 = .ok (.isub, 1) := by decide +kernel
theorem dX9_readNumber_80 : decode cX9_readNumber 80 = .ok (.putfield 31, 3) := by decide +kernel
theorem dX9_readNumber_83 : decode cX9_readNumber 83 = .ok (.aload_n 0, 1) := by decide +kernel
theorem dX9_readNumber_84 : decode cX9_readNumber 84 = .ok (.dup, 1) := by decide +kernel
theorem dX9_readNumber_85 : decode cX9_readNumber 85 = .ok (.getfield 22, 3) := by decide +kernel
theorem dX9_readNumber_88 : decode cX9_readNumber 88 = .ok (.iconst 1, 1) := by decide +kernel
theorem dX9_readNumber_89 : decode cX9_readNumber 89 = .ok (.iadd, 1) := by decide +kernel
theorem dX9_readNumber_90 : decode cX9_readNumber 90 = .ok (.putfield 22, 3) := by decide +kernel
theorem dX9_readNumber_93 : decode cX9_readNumber 93 = .ok (.goto (-78), 3) := by decide +kernel
theorem dX9_readNumber_96 : decode cX9_readNumber 96 = .ok (.return_, 1) := by decide +kernel
theorem dX9_passLetters_0 : decode cX9_passLetters 0 = .ok (.aload_n 0, 1) := by decide +kernel
theorem dX9_passLetters_1 : decode cX9_passLetters 1 = .ok (.getfield 22, 3) := by decide +kernel
theorem dX9_passLetters_4 : decode cX9_passLetters 4 = .ok (.aload_n 0, 1) := by decide +kernel
theorem dX9_passLetters_5 : decode cX9_passLetters 5 = .ok (.getfield 19, 3) := by decide +kernel
theorem dX9_passLetters_8 : decode cX9_passLetters 8 = .ok (.if_icmp .ge 31, 3) := by decide +kernel
theorem dX9_passLetters_11 : decode cX9_passLetters 11 = .ok (.aload_n 0, 1) := by decide +kernel
theorem dX9_passLetters_12 : decode cX9_passLetters 12 = .ok (.getfield 9, 3) := by decide +kernel
theorem dX9_passLetters_15 : decode cX9_passLetters 15 = .ok (.aload_n 0, 1) := by decide +kernel
theorem dX9_passLetters_16 : decode cX9_passLetters 16 = .ok (.getfield 22, 3) := by decide +kernel
theorem dX9_passLetters_19 : decode cX9_passLetters 19 = .ok (.baload, 1) := by decide +kernel
theorem dX9_passLetters_20 : decode cX9_passLetters 20 = .ok (.invokestatic 50, 3) := by decide +kernel
theorem dX9_passLetters_23 : decode cX9_passLetters 23 = .ok (.ifCond .eq 16, 3) := by decide +kernel
theorem dX9_passLetters_26 : decode cX9_passLetters 26 = .ok (.aload_n 0, 1) := by decide +kernel
theorem dX9_passLetters_27 : decode cX9_passLetters 27 = .ok (.dup, 1) := by decide +kernel
theorem dX9_passLetters_28 : decode cX9_passLetters 28 = .ok (.getfield 22, 3) := by decide +kernel
theorem dX9_passLetters_31 : decode cX9_passLetters 31 = .ok (.iconst 1, 1) := by decide +kernel
theorem dX9_passLetters_32 : decode cX9_passLetters 32 = .ok (.iadd, 1) := by decide +kernel
theorem dX9_passLetters_33 : decode cX9_passLetters 33 = .ok (.putfield 22, 3) := by decide +kernel
theorem dX9_passLetters_36 : decode cX9_passLetters 36 = .ok (.goto (-36), 3) := by decide +kernel
theorem dX9_passLetters_39 : decode cX9_passLetters 39 = .ok (.return_, 1) := by decide +kernel
theorem dX9_wordKind_0 : decode cX9_wordKind 0 = .ok (.aload_n 0, 1) := by decide +kernel
theorem dX9_wordKind_1 : decode cX9_wordKind 1 = .ok (.ldc 69, 2) := by decide +kernel
theorem dX9_wordKind_3 : decode cX9_wordKind 3 = .ok (.invokevirtual 71, 3) := by decide +kernel
theorem dX9_wordKind_6 : decode cX9_wordKind 6 = .ok (.ifCond .eq 6, 3) := by decide +kernel
theorem dX9_wordKind_9 : decode cX9_wordKind 9 = .ok (.bipush 100, 2) := by decide +kernel
theorem dX9_wordKind_11 : decode cX9_wordKind 11 = .ok (.ireturn, 1) := by decide +kernel
theorem dX9_wordKind_12 : decode cX9_wordKind 12 = .ok (.aload_n 0, 1) := by decide +kernel
theorem dX9_wordKind_13 : decode cX9_wordKind 13 = .ok (.ldc 75, 2) := by decide +kernel
theorem dX9_wordKind_15 : decode cX9_wordKind 15 = .ok (.invokevirtual 71, 3) := by decide +kernel
theorem dX9_wordKind_18 : decode cX9_wordKind 18 = .ok (.ifCond .eq 6, 3) := by decide +kernel
theorem dX9_wordKind_21 : decode cX9_wordKind 21 = .ok (.bipush 101, 2) := by decide +kernel
theorem dX9_wordKind_23 : decode cX9_wordKind 23 = .ok (.ireturn, 1) := by decide +kernel
theorem dX9_wordKind_24 : decode cX9_wordKind 24 = .ok (.aload_n 0, 1) := by decide +kernel
theorem dX9_wordKind_25 : decode cX9_wordKind 25 = .ok (.ldc 77, 2) := by decide +kernel
theorem dX9_wordKind_27 : decode cX9_wordKind 27 = .ok (.invokevirtual 71, 3) := by decide +kernel
theorem dX9_wordKind_30 : decode cX9_wordKind 30 = .ok (.ifCond .eq 6, 3) := by decide +kernel
theorem dX9_wordKind_33 : decode cX9_wordKind 33 = .ok (.bipush 102, 2) := by decide +kernel
theorem dX9_wordKind_35 : decode cX9_wordKind 35 = .ok (.ireturn, 1) := by decide +kernel
theorem dX9_wordKind_36 : decode cX9_wordKind 36 = .ok (.aload_n 0, 1) := by decide +kernel
theorem dX9_wordKind_37 : decode cX9_wordKind 37 = .ok (.ldc 79, 2) := by decide +kernel
theorem dX9_wordKind_39 : decode cX9_wordKind 39 = .ok (.invokevirtual 71, 3) := by decide +kernel
theorem dX9_wordKind_42 : decode cX9_wordKind 42 = .ok (.ifCond .eq 6, 3) := by decide +kernel
theorem dX9_wordKind_45 : decode cX9_wordKind 45 = .ok (.bipush 103, 2) := by decide +kernel
theorem dX9_wordKind_47 : decode cX9_wordKind 47 = .ok (.ireturn, 1) := by decide +kernel
theorem dX9_wordKind_48 : decode cX9_wordKind 48 = .ok (.aload_n 0, 1) := by decide +kernel
theorem dX9_wordKind_49 : decode cX9_wordKind 49 = .ok (.ldc 81, 2) := by decide +kernel
theorem dX9_wordKind_51 : decode cX9_wordKind 51 = .ok (.invokevirtual 71, 3) := by decide +kernel
theorem dX9_wordKind_54 : decode cX9_wordKind 54 = .ok (.ifCond .eq 6, 3) := by decide +kernel
theorem dX9_wordKind_57 : decode cX9_wordKind 57 = .ok (.bipush 104, 2) := by decide +kernel
theorem dX9_wordKind_59 : decode cX9_wordKind 59 = .ok (.ireturn, 1) := by decide +kernel
theorem dX9_wordKind_60 : decode cX9_wordKind 60 = .ok (.aload_n 0, 1) := by decide +kernel
theorem dX9_wordKind_61 : decode cX9_wordKind 61 = .ok (.ldc 83, 2) := by decide +kernel
theorem dX9_wordKind_63 : decode cX9_wordKind 63 = .ok (.invokevirtual 71, 3) := by decide +kernel
theorem dX9_wordKind_66 : decode cX9_wordKind 66 = .ok (.ifCond .eq 6, 3) := by decide +kernel
theorem dX9_wordKind_69 : decode cX9_wordKind 69 = .ok (.bipush 105, 2) := by decide +kernel
theorem dX9_wordKind_71 : decode cX9_wordKind 71 = .ok (.ireturn, 1) := by decide +kernel
theorem dX9_wordKind_72 : decode cX9_wordKind 72 = .ok (.aload_n 0, 1) := by decide +kernel
theorem dX9_wordKind_73 : decode cX9_wordKind 73 = .ok (.ldc 85, 2) := by decide +kernel
theorem dX9_wordKind_75 : decode cX9_wordKind 75 = .ok (.invokevirtual 71, 3) := by decide +kernel
theorem dX9_wordKind_78 : decode cX9_wordKind 78 = .ok (.ifCond .eq 6, 3) := by decide +kernel
theorem dX9_wordKind_81 : decode cX9_wordKind 81 = .ok (.bipush 106, 2) := by decide +kernel
theorem dX9_wordKind_83 : decode cX9_wordKind 83 = .ok (.ireturn, 1) := by decide +kernel
theorem dX9_wordKind_84 : decode cX9_wordKind 84 = .ok (.aload_n 0, 1) := by decide +kernel
theorem dX9_wordKind_85 : decode cX9_wordKind 85 = .ok (.ldc 87, 2) := by decide +kernel
theorem dX9_wordKind_87 : decode cX9_wordKind 87 = .ok (.invokevirtual 71, 3) := by decide +kernel
theorem dX9_wordKind_90 : decode cX9_wordKind 90 = .ok (.ifCond .eq 6, 3) := by decide +kernel
theorem dX9_wordKind_93 : decode cX9_wordKind 93 = .ok (.bipush 107, 2) := by decide +kernel
theorem dX9_wordKind_95 : decode cX9_wordKind 95 = .ok (.ireturn, 1) := by decide +kernel
theorem dX9_wordKind_96 : decode cX9_wordKind 96 = .ok (.aload_n 0, 1) := by decide +kernel
theorem dX9_wordKind_97 : decode cX9_wordKind 97 = .ok (.ldc 89, 2) := by decide +kernel
theorem dX9_wordKind_99 : decode cX9_wordKind 99 = .ok (.invokevirtual 71, 3) := by decide +kernel
theorem dX9_wordKind_102 : decode cX9_wordKind 102 = .ok (.ifCond .eq 6, 3) := by decide +kernel
theorem dX9_wordKind_105 : decode cX9_wordKind 105 = .ok (.bipush 108, 2) := by decide +kernel
theorem dX9_wordKind_107 : decode cX9_wordKind 107 = .ok (.ireturn, 1) := by decide +kernel
theorem dX9_wordKind_108 : decode cX9_wordKind 108 = .ok (.aload_n 0, 1) := by decide +kernel
theorem dX9_wordKind_109 : decode cX9_wordKind 109 = .ok (.ldc 91, 2) := by decide +kernel
theorem dX9_wordKind_111 : decode cX9_wordKind 111 = .ok (.invokevirtual 71, 3) := by decide +kernel
theorem dX9_wordKind_114 : decode cX9_wordKind 114 = .ok (.ifCond .eq 6, 3) := by decide +kernel
theorem dX9_wordKind_117 : decode cX9_wordKind 117 = .ok (.bipush 109, 2) := by decide +kernel
theorem dX9_wordKind_119 : decode cX9_wordKind 119 = .ok (.ireturn, 1) := by decide +kernel
theorem dX9_wordKind_120 : decode cX9_wordKind 120 = .ok (.aload_n 0, 1) := by decide +kernel
theorem dX9_wordKind_121 : decode cX9_wordKind 121 = .ok (.ldc 93, 2) := by decide +kernel
theorem dX9_wordKind_123 : decode cX9_wordKind 123 = .ok (.invokevirtual 71, 3) := by decide +kernel
theorem dX9_wordKind_126 : decode cX9_wordKind 126 = .ok (.ifCond .eq 6, 3) := by decide +kernel
theorem dX9_wordKind_129 : decode cX9_wordKind 129 = .ok (.bipush 110, 2) := by decide +kernel
theorem dX9_wordKind_131 : decode cX9_wordKind 131 = .ok (.ireturn, 1) := by decide +kernel
theorem dX9_wordKind_132 : decode cX9_wordKind 132 = .ok (.aload_n 0, 1) := by decide +kernel
theorem dX9_wordKind_133 : decode cX9_wordKind 133 = .ok (.ldc 95, 2) := by decide +kernel
theorem dX9_wordKind_135 : decode cX9_wordKind 135 = .ok (.invokevirtual 71, 3) := by decide +kernel
theorem dX9_wordKind_138 : decode cX9_wordKind 138 = .ok (.ifCond .eq 6, 3) := by decide +kernel
theorem dX9_wordKind_141 : decode cX9_wordKind 141 = .ok (.bipush 111, 2) := by decide +kernel
theorem dX9_wordKind_143 : decode cX9_wordKind 143 = .ok (.ireturn, 1) := by decide +kernel
theorem dX9_wordKind_144 : decode cX9_wordKind 144 = .ok (.aload_n 0, 1) := by decide +kernel
theorem dX9_wordKind_145 : decode cX9_wordKind 145 = .ok (.ldc 97, 2) := by decide +kernel
theorem dX9_wordKind_147 : decode cX9_wordKind 147 = .ok (.invokevirtual 71, 3) := by decide +kernel
theorem dX9_wordKind_150 : decode cX9_wordKind 150 = .ok (.ifCond .eq 6, 3) := by decide +kernel
theorem dX9_wordKind_153 : decode cX9_wordKind 153 = .ok (.bipush 112, 2) := by decide +kernel
theorem dX9_wordKind_155 : decode cX9_wordKind 155 = .ok (.ireturn, 1) := by decide +kernel
theorem dX9_wordKind_156 : decode cX9_wordKind 156 = .ok (.aload_n 0, 1) := by decide +kernel
theorem dX9_wordKind_157 : decode cX9_wordKind 157 = .ok (.ldc 99, 2) := by decide +kernel
theorem dX9_wordKind_159 : decode cX9_wordKind 159 = .ok (.invokevirtual 71, 3) := by decide +kernel
theorem dX9_wordKind_162 : decode cX9_wordKind 162 = .ok (.ifCond .eq 6, 3) := by decide +kernel
theorem dX9_wordKind_165 : decode cX9_wordKind 165 = .ok (.bipush 113, 2) := by decide +kernel
theorem dX9_wordKind_167 : decode cX9_wordKind 167 = .ok (.ireturn, 1) := by decide +kernel
theorem dX9_wordKind_168 : decode cX9_wordKind 168 = .ok (.aload_n 0, 1) := by decide +kernel
theorem dX9_wordKind_169 : decode cX9_wordKind 169 = .ok (.ldc 101, 2) := by decide +kernel
theorem dX9_wordKind_171 : decode cX9_wordKind 171 = .ok (.invokevirtual 71, 3) := by decide +kernel
theorem dX9_wordKind_174 : decode cX9_wordKind 174 = .ok (.ifCond .eq 6, 3) := by decide +kernel
theorem dX9_wordKind_177 : decode cX9_wordKind 177 = .ok (.bipush 114, 2) := by decide +kernel
theorem dX9_wordKind_179 : decode cX9_wordKind 179 = .ok (.ireturn, 1) := by decide +kernel
theorem dX9_wordKind_180 : decode cX9_wordKind 180 = .ok (.aload_n 0, 1) := by decide +kernel
theorem dX9_wordKind_181 : decode cX9_wordKind 181 = .ok (.ldc 103, 2) := by decide +kernel
theorem dX9_wordKind_183 : decode cX9_wordKind 183 = .ok (.invokevirtual 71, 3) := by decide +kernel
theorem dX9_wordKind_186 : decode cX9_wordKind 186 = .ok (.ifCond .eq 6, 3) := by decide +kernel
theorem dX9_wordKind_189 : decode cX9_wordKind 189 = .ok (.bipush 115, 2) := by decide +kernel
theorem dX9_wordKind_191 : decode cX9_wordKind 191 = .ok (.ireturn, 1) := by decide +kernel
theorem dX9_wordKind_192 : decode cX9_wordKind 192 = .ok (.aload_n 0, 1) := by decide +kernel
theorem dX9_wordKind_193 : decode cX9_wordKind 193 = .ok (.ldc 104, 2) := by decide +kernel
theorem dX9_wordKind_195 : decode cX9_wordKind 195 = .ok (.invokevirtual 71, 3) := by decide +kernel
theorem dX9_wordKind_198 : decode cX9_wordKind 198 = .ok (.ifCond .eq 6, 3) := by decide +kernel
theorem dX9_wordKind_201 : decode cX9_wordKind 201 = .ok (.bipush 116, 2) := by decide +kernel
theorem dX9_wordKind_203 : decode cX9_wordKind 203 = .ok (.ireturn, 1) := by decide +kernel
theorem dX9_wordKind_204 : decode cX9_wordKind 204 = .ok (.bipush 99, 2) := by decide +kernel
theorem dX9_wordKind_206 : decode cX9_wordKind 206 = .ok (.ireturn, 1) := by decide +kernel
theorem dX9_spells_0 : decode cX9_spells 0 = .ok (.aload_n 0, 1) := by decide +kernel
theorem dX9_spells_1 : decode cX9_spells 1 = .ok (.getfield 22, 3) := by decide +kernel
theorem dX9_spells_4 : decode cX9_spells 4 = .ok (.aload_n 0, 1) := by decide +kernel
theorem dX9_spells_5 : decode cX9_spells 5 = .ok (.getfield 28, 3) := by decide +kernel
theorem dX9_spells_8 : decode cX9_spells 8 = .ok (.isub, 1) := by decide +kernel
theorem dX9_spells_9 : decode cX9_spells 9 = .ok (.aload_n 1, 1) := by decide +kernel
theorem dX9_spells_10 : decode cX9_spells 10 = .ok (.invokevirtual 106, 3) := by decide +kernel
theorem dX9_spells_13 : decode cX9_spells 13 = .ok (.if_icmp .eq 5, 3) := by decide +kernel
theorem dX9_spells_16 : decode cX9_spells 16 = .ok (.iconst 0, 1) := by decide +kernel
theorem dX9_spells_17 : decode cX9_spells 17 = .ok (.ireturn, 1) := by decide +kernel
theorem dX9_spells_18 : decode cX9_spells 18 = .ok (.iconst 0, 1) := by decide +kernel
theorem dX9_spells_19 : decode cX9_spells 19 = .ok (.istore_n 2, 1) := by decide +kernel
theorem dX9_spells_20 : decode cX9_spells 20 = .ok (.iload_n 2, 1) := by decide +kernel
theorem dX9_spells_21 : decode cX9_spells 21 = .ok (.aload_n 1, 1) := by decide +kernel
theorem dX9_spells_22 : decode cX9_spells 22 = .ok (.invokevirtual 106, 3) := by decide +kernel
theorem dX9_spells_25 : decode cX9_spells 25 = .ok (.if_icmp .ge 30, 3) := by decide +kernel
theorem dX9_spells_28 : decode cX9_spells 28 = .ok (.aload_n 0, 1) := by decide +kernel
theorem dX9_spells_29 : decode cX9_spells 29 = .ok (.getfield 9, 3) := by decide +kernel
theorem dX9_spells_32 : decode cX9_spells 32 = .ok (.aload_n 0, 1) := by decide +kernel
theorem dX9_spells_33 : decode cX9_spells 33 = .ok (.getfield 28, 3) := by decide +kernel
theorem dX9_spells_36 : decode cX9_spells 36 = .ok (.iload_n 2, 1) := by decide +kernel
theorem dX9_spells_37 : decode cX9_spells 37 = .ok (.iadd, 1) := by decide +kernel
theorem dX9_spells_38 : decode cX9_spells 38 = .ok (.baload, 1) := by decide +kernel
theorem dX9_spells_39 : decode cX9_spells 39 = .ok (.aload_n 1, 1) := by decide +kernel
theorem dX9_spells_40 : decode cX9_spells 40 = .ok (.iload_n 2, 1) := by decide +kernel
theorem dX9_spells_41 : decode cX9_spells 41 = .ok (.invokevirtual 110, 3) := by decide +kernel
theorem dX9_spells_44 : decode cX9_spells 44 = .ok (.if_icmp .eq 5, 3) := by decide +kernel
theorem dX9_spells_47 : decode cX9_spells 47 = .ok (.iconst 0, 1) := by decide +kernel
theorem dX9_spells_48 : decode cX9_spells 48 = .ok (.ireturn, 1) := by decide +kernel
theorem dX9_spells_49 : decode cX9_spells 49 = .ok (.iinc 2 1, 3) := by decide +kernel
theorem dX9_spells_52 : decode cX9_spells 52 = .ok (.goto (-32), 3) := by decide +kernel
theorem dX9_spells_55 : decode cX9_spells 55 = .ok (.iconst 1, 1) := by decide +kernel
theorem dX9_spells_56 : decode cX9_spells 56 = .ok (.ireturn, 1) := by decide +kernel
theorem dX10_init_0 : decode cX10_init 0 = .ok (.aload_n 0, 1) := by decide +kernel
theorem dX10_init_1 : decode cX10_init 1 = .ok (.invokespecial 3, 3) := by decide +kernel
theorem dX10_init_4 : decode cX10_init 4 = .ok (.aload_n 0, 1) := by decide +kernel
theorem dX10_init_5 : decode cX10_init 5 = .ok (.iconst 0, 1) := by decide +kernel
theorem dX10_init_6 : decode cX10_init 6 = .ok (.putfield 9, 3) := by decide +kernel
theorem dX10_init_9 : decode cX10_init 9 = .ok (.aload_n 0, 1) := by decide +kernel
theorem dX10_init_10 : decode cX10_init 10 = .ok (.bipush 8, 2) := by decide +kernel
theorem dX10_init_12 : decode cX10_init 12 = .ok (.newarray .int, 2) := by decide +kernel
theorem dX10_init_14 : decode cX10_init 14 = .ok (.putfield 15, 3) := by decide +kernel
theorem dX10_init_17 : decode cX10_init 17 = .ok (.aload_n 0, 1) := by decide +kernel
theorem dX10_init_18 : decode cX10_init 18 = .ok (.bipush 8, 2) := by decide +kernel
theorem dX10_init_20 : decode cX10_init 20 = .ok (.newarray .int, 2) := by decide +kernel
theorem dX10_init_22 : decode cX10_init 22 = .ok (.putfield 19, 3) := by decide +kernel
theorem dX10_init_25 : decode cX10_init 25 = .ok (.aload_n 0, 1) := by decide +kernel
theorem dX10_init_26 : decode cX10_init 26 = .ok (.bipush 8, 2) := by decide +kernel
theorem dX10_init_28 : decode cX10_init 28 = .ok (.newarray .int, 2) := by decide +kernel
theorem dX10_init_30 : decode cX10_init 30 = .ok (.putfield 22, 3) := by decide +kernel
theorem dX10_init_33 : decode cX10_init 33 = .ok (.aload_n 0, 1) := by decide +kernel
theorem dX10_init_34 : decode cX10_init 34 = .ok (.bipush 8, 2) := by decide +kernel
theorem dX10_init_36 : decode cX10_init 36 = .ok (.newarray .int, 2) := by decide +kernel
theorem dX10_init_38 : decode cX10_init 38 = .ok (.putfield 25, 3) := by decide +kernel
theorem dX10_init_41 : decode cX10_init 41 = .ok (.aload_n 0, 1) := by decide +kernel
theorem dX10_init_42 : decode cX10_init 42 = .ok (.bipush 8, 2) := by decide +kernel
theorem dX10_init_44 : decode cX10_init 44 = .ok (.newarray .int, 2) := by decide +kernel
theorem dX10_init_46 : decode cX10_init 46 = .ok (.putfield 28, 3) := by decide +kernel
theorem dX10_init_49 : decode cX10_init 49 = .ok (.aload_n 0, 1) := by decide +kernel
theorem dX10_init_50 : decode cX10_init 50 = .ok (.iconst 0, 1) := by decide +kernel
theorem dX10_init_51 : decode cX10_init 51 = .ok (.putfield 31, 3) := by decide +kernel
theorem dX10_init_54 : decode cX10_init 54 = .ok (.aload_n 0, 1) := by decide +kernel
theorem dX10_init_55 : decode cX10_init 55 = .ok (.new 34, 3) := by decide +kernel
theorem dX10_init_58 : decode cX10_init 58 = .ok (.dup, 1) := by decide +kernel
theorem dX10_init_59 : decode cX10_init 59 = .ok (.invokespecial 36, 3) := by decide +kernel
theorem dX10_init_62 : decode cX10_init 62 = .ok (.putfield 37, 3) := by decide +kernel
theorem dX10_init_65 : decode cX10_init 65 = .ok (.aload_n 0, 1) := by decide +kernel
theorem dX10_init_66 : decode cX10_init 66 = .ok (.bipush 24, 2) := by decide +kernel
theorem dX10_init_68 : decode cX10_init 68 = .ok (.newarray .int, 2) := by decide +kernel
theorem dX10_init_70 : decode cX10_init 70 = .ok (.putfield 41, 3) := by decide +kernel
theorem dX10_init_73 : decode cX10_init 73 = .ok (.aload_n 0, 1) := by decide +kernel
theorem dX10_init_74 : decode cX10_init 74 = .ok (.iconst 0, 1) := by decide +kernel
theorem dX10_init_75 : decode cX10_init 75 = .ok (.putfield 44, 3) := by decide +kernel
theorem dX10_init_78 : decode cX10_init 78 = .ok (.aload_n 0, 1) := by decide +kernel
theorem dX10_init_79 : decode cX10_init 79 = .ok (.new 47, 3) := by decide +kernel
theorem dX10_init_82 : decode cX10_init 82 = .ok (.dup, 1) := by decide +kernel
theorem dX10_init_83 : decode cX10_init 83 = .ok (.invokespecial 49, 3) := by decide +kernel
theorem dX10_init_86 : decode cX10_init 86 = .ok (.putfield 50, 3) := by decide +kernel
theorem dX10_init_89 : decode cX10_init 89 = .ok (.return_, 1) := by decide +kernel
theorem dX10_clear_0 : decode cX10_clear 0 = .ok (.aload_n 0, 1) := by decide +kernel
theorem dX10_clear_1 : decode cX10_clear 1 = .ok (.iconst 0, 1) := by decide +kernel
theorem dX10_clear_2 : decode cX10_clear 2 = .ok (.putfield 9, 3) := by decide +kernel
theorem dX10_clear_5 : decode cX10_clear 5 = .ok (.aload_n 0, 1) := by decide +kernel
theorem dX10_clear_6 : decode cX10_clear 6 = .ok (.iconst 0, 1) := by decide +kernel
theorem dX10_clear_7 : decode cX10_clear 7 = .ok (.putfield 31, 3) := by decide +kernel
theorem dX10_clear_10 : decode cX10_clear 10 = .ok (.aload_n 0, 1) := by decide +kernel
theorem dX10_clear_11 : decode cX10_clear 11 = .ok (.getfield 37, 3) := by decide +kernel
theorem dX10_clear_14 : decode cX10_clear 14 = .ok (.iconst 0, 1) := by decide +kernel
theorem dX10_clear_15 : decode cX10_clear 15 = .ok (.putfield 54, 3) := by decide +kernel
theorem dX10_clear_18 : decode cX10_clear 18 = .ok (.aload_n 0, 1) := by decide +kernel
theorem dX10_clear_19 : decode cX10_clear 19 = .ok (.iconst 0, 1) := by decide +kernel
theorem dX10_clear_20 : decode cX10_clear 20 = .ok (.putfield 44, 3) := by decide +kernel
theorem dX10_clear_23 : decode cX10_clear 23 = .ok (.aload_n 0, 1) := by decide +kernel
theorem dX10_clear_24 : decode cX10_clear 24 = .ok (.getfield 50, 3) := by decide +kernel
theorem dX10_clear_27 : decode cX10_clear 27 = .ok (.iconst 0, 1) := by decide +kernel
theorem dX10_clear_28 : decode cX10_clear 28 = .ok (.putfield 57, 3) := by decide +kernel
theorem dX10_clear_31 : decode cX10_clear 31 = .ok (.return_, 1) := by decide +kernel
theorem dX10_add_0 : decode cX10_add 0 = .ok (.aload_n 0, 1) := by decide +kernel
theorem dX10_add_1 : decode cX10_add 1 = .ok (.getfield 9, 3) := by decide +kernel
theorem dX10_add_4 : decode cX10_add 4 = .ok (.bipush 8, 2) := by decide +kernel
theorem dX10_add_6 : decode cX10_add 6 = .ok (.if_icmp .ge 54, 3) := by decide +kernel
theorem dX10_add_9 : decode cX10_add 9 = .ok (.aload_n 0, 1) := by decide +kernel
theorem dX10_add_10 : decode cX10_add 10 = .ok (.getfield 15, 3) := by decide +kernel
theorem dX10_add_13 : decode cX10_add 13 = .ok (.aload_n 0, 1) := by decide +kernel
theorem dX10_add_14 : decode cX10_add 14 = .ok (.getfield 9, 3) := by decide +kernel
theorem dX10_add_17 : decode cX10_add 17 = .ok (.iload_n 1, 1) := by decide +kernel
theorem dX10_add_18 : decode cX10_add 18 = .ok (.iastore, 1) := by decide +kernel
theorem dX10_add_19 : decode cX10_add 19 = .ok (.aload_n 0, 1) := by decide +kernel
theorem dX10_add_20 : decode cX10_add 20 = .ok (.getfield 19, 3) := by decide +kernel
theorem dX10_add_23 : decode cX10_add 23 = .ok (.aload_n 0, 1) := by decide +kernel
theorem dX10_add_24 : decode cX10_add 24 = .ok (.getfield 9, 3) := by decide +kernel
theorem dX10_add_27 : decode cX10_add 27 = .ok (.iload_n 2, 1) := by decide +kernel
theorem dX10_add_28 : decode cX10_add 28 = .ok (.iastore, 1) := by decide +kernel
theorem dX10_add_29 : decode cX10_add 29 = .ok (.aload_n 0, 1) := by decide +kernel
theorem dX10_add_30 : decode cX10_add 30 = .ok (.getfield 22, 3) := by decide +kernel
theorem dX10_add_33 : decode cX10_add 33 = .ok (.aload_n 0, 1) := by decide +kernel
theorem dX10_add_34 : decode cX10_add 34 = .ok (.getfield 9, 3) := by decide +kernel
theorem dX10_add_37 : decode cX10_add 37 = .ok (.iload_n 3, 1) := by decide +kernel
theorem dX10_add_38 : decode cX10_add 38 = .ok (.iastore, 1) := by decide +kernel
theorem dX10_add_39 : decode cX10_add 39 = .ok (.aload_n 0, 1) := by decide +kernel
theorem dX10_add_40 : decode cX10_add 40 = .ok (.getfield 25, 3) := by decide +kernel
theorem dX10_add_43 : decode cX10_add 43 = .ok (.aload_n 0, 1) := by decide +kernel
theorem dX10_add_44 : decode cX10_add 44 = .ok (.getfield 9, 3) := by decide +kernel
theorem dX10_add_47 : decode cX10_add 47 = .ok (.iload 4, 2) := by decide +kernel
theorem dX10_add_49 : decode cX10_add 49 = .ok (.iastore, 1) := by decide +kernel
theorem dX10_add_50 : decode cX10_add 50 = .ok (.aload_n 0, 1) := by decide +kernel
theorem dX10_add_51 : decode cX10_add 51 = .ok (.dup, 1) := by decide +kernel
theorem dX10_add_52 : decode cX10_add 52 = .ok (.getfield 9, 3) := by decide +kernel
theorem dX10_add_55 : decode cX10_add 55 = .ok (.iconst 1, 1) := by decide +kernel
theorem dX10_add_56 : decode cX10_add 56 = .ok (.iadd, 1) := by decide +kernel
theorem dX10_add_57 : decode cX10_add 57 = .ok (.putfield 9, 3) := by decide +kernel
theorem dX10_add_60 : decode cX10_add 60 = .ok (.return_, 1) := by decide +kernel
theorem dX10_hasBirthday_0 : decode cX10_hasBirthday 0 = .ok (.iconst 0, 1) := by decide +kernel
theorem dX10_hasBirthday_1 : decode cX10_hasBirthday 1 = .ok (.istore_n 2, 1) := by decide +kernel
theorem dX10_hasBirthday_2 : decode cX10_hasBirthday 2 = .ok (.iload_n 2, 1) := by decide +kernel
theorem dX10_hasBirthday_3 : decode cX10_hasBirthday 3 = .ok (.aload_n 0, 1) := by decide +kernel
theorem dX10_hasBirthday_4 : decode cX10_hasBirthday 4 = .ok (.getfield 9, 3) := by decide +kernel
theorem dX10_hasBirthday_7 : decode cX10_hasBirthday 7 = .ok (.if_icmp .ge 21, 3) := by decide +kernel
theorem dX10_hasBirthday_10 : decode cX10_hasBirthday 10 = .ok (.aload_n 0, 1) := by decide +kernel
theorem dX10_hasBirthday_11 : decode cX10_hasBirthday 11 = .ok (.getfield 22, 3) := by decide +kernel
theorem dX10_hasBirthday_14 : decode cX10_hasBirthday 14 = .ok (.iload_n 2, 1) := by decide +kernel
theorem dX10_hasBirthday_15 : decode cX10_hasBirthday 15 = .ok (.iaload, 1) := by decide +kernel
theorem dX10_hasBirthday_16 : decode cX10_hasBirthday 16 = .ok (.iload_n 1, 1) := by decide +kernel
theorem dX10_hasBirthday_17 : decode cX10_hasBirthday 17 = .ok (.if_icmp .ne 5, 3) := by decide +kernel
theorem dX10_hasBirthday_20 : decode cX10_hasBirthday 20 = .ok (.iconst 1, 1) := by decide +kernel
theorem dX10_hasBirthday_21 : decode cX10_hasBirthday 21 = .ok (.ireturn, 1) := by decide +kernel
theorem dX10_hasBirthday_22 : decode cX10_hasBirthday 22 = .ok (.iinc 2 1, 3) := by decide +kernel
theorem dX10_hasBirthday_25 : decode cX10_hasBirthday 25 = .ok (.goto (-23), 3) := by decide +kernel
theorem dX10_hasBirthday_28 : decode cX10_hasBirthday 28 = .ok (.iconst 0, 1) := by decide +kernel
theorem dX10_hasBirthday_29 : decode cX10_hasBirthday 29 = .ok (.ireturn, 1) := by decide +kernel
theorem dX10_rank_0 : decode cX10_rank 0 = .ok (.iconst 0, 1) := by decide +kernel
theorem dX10_rank_1 : decode cX10_rank 1 = .ok (.istore_n 2, 1) := by decide +kernel
theorem dX10_rank_2 : decode cX10_rank 2 = .ok (.iconst 0, 1) := by decide +kernel
theorem dX10_rank_3 : decode cX10_rank 3 = .ok (.istore_n 3, 1) := by decide +kernel
theorem dX10_rank_4 : decode cX10_rank 4 = .ok (.iload_n 3, 1) := by decide +kernel
theorem dX10_rank_5 : decode cX10_rank 5 = .ok (.aload_n 0, 1) := by decide +kernel
theorem dX10_rank_6 : decode cX10_rank 6 = .ok (.getfield 9, 3) := by decide +kernel
theorem dX10_rank_9 : decode cX10_rank 9 = .ok (.if_icmp .ge 27, 3) := by decide +kernel
theorem dX10_rank_12 : decode cX10_rank 12 = .ok (.aload_n 0, 1) := by decide +kernel
theorem dX10_rank_13 : decode cX10_rank 13 = .ok (.getfield 22, 3) := by decide +kernel
theorem dX10_rank_16 : decode cX10_rank 16 = .ok (.iload_n 3, 1) := by decide +kernel
theorem dX10_rank_17 : decode cX10_rank 17 = .ok (.iaload, 1) := by decide +kernel
theorem dX10_rank_18 : decode cX10_rank 18 = .ok (.aload_n 0, 1) := by decide +kernel
theorem dX10_rank_19 : decode cX10_rank 19 = .ok (.getfield 22, 3) := by decide +kernel
theorem dX10_rank_22 : decode cX10_rank 22 = .ok (.iload_n 1, 1) := by decide +kernel
theorem dX10_rank_23 : decode cX10_rank 23 = .ok (.iaload, 1) := by decide +kernel
theorem dX10_rank_24 : decode cX10_rank 24 = .ok (.if_icmp .ge 6, 3) := by decide +kernel
theorem dX10_rank_27 : decode cX10_rank 27 = .ok (.iinc 2 1, 3) := by decide +kernel
theorem dX10_rank_30 : decode cX10_rank 30 = .ok (.iinc 3 1, 3) := by decide +kernel
theorem dX10_rank_33 : decode cX10_rank 33 = .ok (.goto (-29), 3) := by decide +kernel
theorem dX10_rank_36 : decode cX10_rank 36 = .ok (.iload_n 2, 1) := by decide +kernel
theorem dX10_rank_37 : decode cX10_rank 37 = .ok (.ireturn, 1) := by decide +kernel
theorem dX10_sortByBirthdays_0 : decode cX10_sortByBirthdays 0 = .ok (.iconst 0, 1) := by decide +kernel
theorem dX10_sortByBirthdays_1 : decode cX10_sortByBirthdays 1 = .ok (.istore_n 1, 1) := by decide +kernel
theorem dX10_sortByBirthdays_2 : decode cX10_sortByBirthdays 2 = .ok (.iload_n 1, 1) := by decide +kernel
theorem dX10_sortByBirthdays_3 : decode cX10_sortByBirthdays 3 = .ok (.aload_n 0, 1) := by decide +kernel
theorem dX10_sortByBirthdays_4 : decode cX10_sortByBirthdays 4 = .ok (.getfield 9, 3) := by decide +kernel
theorem dX10_sortByBirthdays_7 : decode cX10_sortByBirthdays 7 = .ok (.if_icmp .ge 20, 3) := by decide +kernel
theorem dX10_sortByBirthdays_10 : decode cX10_sortByBirthdays 10 = .ok (.aload_n 0, 1) := by decide +kernel
theorem dX10_sortByBirthdays_11 : decode cX10_sortByBirthdays 11 = .ok (.getfield 28, 3) := by decide +kernel
theorem dX10_sortByBirthdays_14 : decode cX10_sortByBirthdays 14 = .ok (.aload_n 0, 1) := by decide +kernel
theorem dX10_sortByBirthdays_15 : decode cX10_sortByBirthdays 15 = .ok (.iload_n 1, 1) := by decide +kernel
theorem dX10_sortByBirthdays_16 : decode cX10_sortByBirthdays 16 = .ok (.invokevirtual 58, 3) := by decide +kernel
theorem dX10_sortByBirthdays_19 : decode cX10_sortByBirthdays 19 = .ok (.iload_n 1, 1) := by decide +kernel
theorem dX10_sortByBirthdays_20 : decode cX10_sortByBirthdays 20 = .ok (.iastore, 1) := by decide +kernel
theorem dX10_sortByBirthdays_21 : decode cX10_sortByBirthdays 21 = .ok (.iinc 1 1, 3) := by decide +kernel
theorem dX10_sortByBirthdays_24 : decode cX10_sortByBirthdays 24 = .ok (.goto (-22), 3) := by decide +kernel
theorem dX10_sortByBirthdays_27 : decode cX10_sortByBirthdays 27 = .ok (.return_, 1) := by decide +kernel
theorem dX11_init_0 : decode cX11_init 0 = .ok (.aload_n 0, 1) := by decide +kernel
theorem dX11_init_1 : decode cX11_init 1 = .ok (.invokespecial 1, 3) := by decide +kernel
theorem dX11_init_4 : decode cX11_init 4 = .ok (.aload_n 0, 1) := by decide +kernel
theorem dX11_init_5 : decode cX11_init 5 = .ok (.new 7, 3) := by decide +kernel
theorem dX11_init_8 : decode cX11_init 8 = .ok (.dup, 1) := by decide +kernel
theorem dX11_init_9 : decode cX11_init 9 = .ok (.invokespecial 9, 3) := by decide +kernel
theorem dX11_init_12 : decode cX11_init 12 = .ok (.putfield 10, 3) := by decide +kernel
theorem dX11_init_15 : decode cX11_init 15 = .ok (.aload_n 0, 1) := by decide +kernel
theorem dX11_init_16 : decode cX11_init 16 = .ok (.aload_n 0, 1) := by decide +kernel
theorem dX11_init_17 : decode cX11_init 17 = .ok (.getfield 10, 3) := by decide +kernel
theorem dX11_init_20 : decode cX11_init 20 = .ok (.getfield 16, 3) := by decide +kernel
theorem dX11_init_23 : decode cX11_init 23 = .ok (.putfield 20, 3) := by decide +kernel
theorem dX11_init_26 : decode cX11_init 26 = .ok (.aload_n 0, 1) := by decide +kernel
theorem dX11_init_27 : decode cX11_init 27 = .ok (.new 23, 3) := by decide +kernel
theorem dX11_init_30 : decode cX11_init 30 = .ok (.dup, 1) := by decide +kernel
theorem dX11_init_31 : decode cX11_init 31 = .ok (.invokespecial 25, 3) := by decide +kernel
theorem dX11_init_34 : decode cX11_init 34 = .ok (.putfield 26, 3) := by decide +kernel
theorem dX11_init_37 : decode cX11_init 37 = .ok (.aload_n 0, 1) := by decide +kernel
theorem dX11_init_38 : decode cX11_init 38 = .ok (.new 30, 3) := by decide +kernel
theorem dX11_init_41 : decode cX11_init 41 = .ok (.dup, 1) := by decide +kernel
theorem dX11_init_42 : decode cX11_init 42 = .ok (.invokespecial 32, 3) := by decide +kernel
theorem dX11_init_45 : decode cX11_init 45 = .ok (.putfield 33, 3) := by decide +kernel
theorem dX11_init_48 : decode cX11_init 48 = .ok (.aload_n 0, 1) := by decide +kernel
theorem dX11_init_49 : decode cX11_init 49 = .ok (.new 37, 3) := by decide +kernel
theorem dX11_init_52 : decode cX11_init 52 = .ok (.dup, 1) := by decide +kernel
theorem dX11_init_53 : decode cX11_init 53 = .ok (.invokespecial 39, 3) := by decide +kernel
theorem dX11_init_56 : decode cX11_init 56 = .ok (.putfield 40, 3) := by decide +kernel
theorem dX11_init_59 : decode cX11_init 59 = .ok (.aload_n 0, 1) := by decide +kernel
theorem dX11_init_60 : decode cX11_init 60 = .ok (.new 44, 3) := by decide +kernel
theorem dX11_init_63 : decode cX11_init 63 = .ok (.dup, 1) := by decide +kernel
theorem dX11_init_64 : decode cX11_init 64 = .ok (.invokespecial 46, 3) := by decide +kernel
theorem dX11_init_67 : decode cX11_init 67 = .ok (.putfield 47, 3) := by decide +kernel
theorem dX11_init_70 : decode cX11_init 70 = .ok (.aload_n 0, 1) := by decide +kernel
theorem dX11_init_71 : decode cX11_init 71 = .ok (.iconst 3, 1) := by decide +kernel
theorem dX11_init_72 : decode cX11_init 72 = .ok (.newarray .int, 2) := by decide +kernel
theorem dX11_init_74 : decode cX11_init 74 = .ok (.putfield 51, 3) := by decide +kernel
theorem dX11_init_77 : decode cX11_init 77 = .ok (.aload_n 0, 1) := by decide +kernel
theorem dX11_init_78 : decode cX11_init 78 = .ok (.new 55, 3) := by decide +kernel
theorem dX11_init_81 : decode cX11_init 81 = .ok (.dup, 1) := by decide +kernel
theorem dX11_init_82 : decode cX11_init 82 = .ok (.invokespecial 57, 3) := by decide +kernel
theorem dX11_init_85 : decode cX11_init 85 = .ok (.putfield 58, 3) := by decide +kernel
theorem dX11_init_88 : decode cX11_init 88 = .ok (.aload_n 0, 1) := by decide +kernel
theorem dX11_init_89 : decode cX11_init 89 = .ok (.new 30, 3) := by decide +kernel
theorem dX11_init_92 : decode cX11_init 92 = .ok (.dup, 1) := by decide +kernel
theorem dX11_init_93 : decode cX11_init 93 = .ok (.invokespecial 32, 3) := by decide +kernel
theorem dX11_init_96 : decode cX11_init 96 = .ok (.putfield 62, 3) := by decide +kernel
theorem dX11_init_99 : decode cX11_init 99 = .ok (.aload_n 0, 1) := by decide +kernel
theorem dX11_init_100 : decode cX11_init 100 = .ok (.new 65, 3) := by decide +kernel
theorem dX11_init_103 : decode cX11_init 103 = .ok (.dup, 1) := by decide +kernel
theorem dX11_init_104 : decode cX11_init 104 = .ok (.invokespecial 67, 3) := by decide +kernel
theorem dX11_init_107 : decode cX11_init 107 = .ok (.putfield 68, 3) := by decide +kernel
theorem dX11_init_110 : decode cX11_init 110 = .ok (.aload_n 0, 1) := by decide +kernel
theorem dX11_init_111 : decode cX11_init 111 = .ok (.new 72, 3) := by decide +kernel
theorem dX11_init_114 : decode cX11_init 114 = .ok (.dup, 1) := by decide +kernel
theorem dX11_init_115 : decode cX11_init 115 = .ok (.invokespecial 74, 3) := by decide +kernel
theorem dX11_init_118 : decode cX11_init 118 = .ok (.putfield 75, 3) := by decide +kernel
theorem dX11_init_121 : decode cX11_init 121 = .ok (.aload_n 0, 1) := by decide +kernel
theorem dX11_init_122 : decode cX11_init 122 = .ok (.bipush 7, 2) := by decide +kernel
theorem dX11_init_124 : decode cX11_init 124 = .ok (.newarray .int, 2) := by decide +kernel
theorem dX11_init_126 : decode cX11_init 126 = .ok (.putfield 79, 3) := by decide +kernel
theorem dX11_init_129 : decode cX11_init 129 = .ok (.aload_n 0, 1) := by decide +kernel
theorem dX11_init_130 : decode cX11_init 130 = .ok (.sipush 401, 3) := by decide +kernel
theorem dX11_init_133 : decode cX11_init 133 = .ok (.newarray .int, 2) := by decide +kernel
theorem dX11_init_135 : decode cX11_init 135 = .ok (.putfield 82, 3) := by decide +kernel
theorem dX11_init_138 : decode cX11_init 138 = .ok (.return_, 1) := by decide +kernel
theorem dX11_feed_0 : decode cX11_feed 0 = .ok (.aload_n 0, 1) := by decide +kernel
theorem dX11_feed_1 : decode cX11_feed 1 = .ok (.getfield 20, 3) := by decide +kernel
theorem dX11_feed_4 : decode cX11_feed 4 = .ok (.getfield 85, 3) := by decide +kernel
theorem dX11_feed_7 : decode cX11_feed 7 = .ok (.bipush 20, 2) := by decide +kernel
theorem dX11_feed_9 : decode cX11_feed 9 = .ok (.iadd, 1) := by decide +kernel
theorem dX11_feed_10 : decode cX11_feed 10 = .ok (.sipush 600, 3) := by decide +kernel
theorem dX11_feed_13 : decode cX11_feed 13 = .ok (.if_icmp .le 5, 3) := by decide +kernel
theorem dX11_feed_16 : decode cX11_feed 16 = .ok (.iconst (-1), 1) := by decide +kernel
theorem dX11_feed_17 : decode cX11_feed 17 = .ok (.ireturn, 1) := by decide +kernel
theorem dX11_feed_18 : decode cX11_feed 18 = .ok (.aload_n 0, 1) := by decide +kernel
theorem dX11_feed_19 : decode cX11_feed 19 = .ok (.getfield 20, 3) := by decide +kernel
theorem dX11_feed_22 : decode cX11_feed 22 = .ok (.iload_n 1, 1) := by decide +kernel
theorem dX11_feed_23 : decode cX11_feed 23 = .ok (.invokevirtual 91, 3) := by decide +kernel
theorem dX11_feed_26 : decode cX11_feed 26 = .ok (.aload_n 0, 1) := by decide +kernel
theorem dX11_feed_27 : decode cX11_feed 27 = .ok (.getfield 20, 3) := by decide +kernel
theorem dX11_feed_30 : decode cX11_feed 30 = .ok (.iload_n 2, 1) := by decide +kernel
theorem dX11_feed_31 : decode cX11_feed 31 = .ok (.invokevirtual 91, 3) := by decide +kernel
theorem dX11_feed_34 : decode cX11_feed 34 = .ok (.aload_n 0, 1) := by decide +kernel
theorem dX11_feed_35 : decode cX11_feed 35 = .ok (.getfield 20, 3) := by decide +kernel
theorem dX11_feed_38 : decode cX11_feed 38 = .ok (.iload_n 3, 1) := by decide +kernel
theorem dX11_feed_39 : decode cX11_feed 39 = .ok (.invokevirtual 91, 3) := by decide +kernel
theorem dX11_feed_42 : decode cX11_feed 42 = .ok (.aload_n 0, 1) := by decide +kernel
theorem dX11_feed_43 : decode cX11_feed 43 = .ok (.getfield 20, 3) := by decide +kernel
theorem dX11_feed_46 : decode cX11_feed 46 = .ok (.iload 4, 2) := by decide +kernel
theorem dX11_feed_48 : decode cX11_feed 48 = .ok (.invokevirtual 91, 3) := by decide +kernel
theorem dX11_feed_51 : decode cX11_feed 51 = .ok (.aload_n 0, 1) := by decide +kernel
theorem dX11_feed_52 : decode cX11_feed 52 = .ok (.getfield 20, 3) := by decide +kernel
theorem dX11_feed_55 : decode cX11_feed 55 = .ok (.iload 5, 2) := by decide +kernel
theorem dX11_feed_57 : decode cX11_feed 57 = .ok (.invokevirtual 91, 3) := by decide +kernel
theorem dX11_feed_60 : decode cX11_feed 60 = .ok (.aload_n 0, 1) := by decide +kernel
theorem dX11_feed_61 : decode cX11_feed 61 = .ok (.getfield 20, 3) := by decide +kernel
theorem dX11_feed_64 : decode cX11_feed 64 = .ok (.getfield 85, 3) := by decide +kernel
theorem dX11_feed_67 : decode cX11_feed 67 = .ok (.ireturn, 1) := by decide +kernel
theorem dX11_town_0 : decode cX11_town 0 = .ok (.iload_n 1, 1) := by decide +kernel
theorem dX11_town_1 : decode cX11_town 1 = .ok (.ifCond .lt 14, 3) := by decide +kernel
theorem dX11_town_4 : decode cX11_town 4 = .ok (.iload_n 1, 1) := by decide +kernel
theorem dX11_town_5 : decode cX11_town 5 = .ok (.aload_n 0, 1) := by decide +kernel
theorem dX11_town_6 : decode cX11_town 6 = .ok (.getfield 20, 3) := by decide +kernel
theorem dX11_town_9 : decode cX11_town 9 = .ok (.getfield 85, 3) := by decide +kernel
theorem dX11_town_12 : decode cX11_town 12 = .ok (.if_icmp .le 13, 3) := by decide +kernel
theorem dX11_town_15 : decode cX11_town 15 = .ok (.new 95, 3) := by decide +kernel
theorem dX11_town_18 : decode cX11_town 18 = .ok (.dup, 1) := by decide +kernel
theorem dX11_town_19 : decode cX11_town 19 = .ok (.ldc 97, 2) := by decide +kernel
theorem dX11_town_21 : decode cX11_town 21 = .ok (.invokespecial 99, 3) := by decide +kernel
theorem dX11_town_24 : decode cX11_town 24 = .ok (.athrow, 1) := by decide +kernel
theorem dX11_town_25 : decode cX11_town 25 = .ok (.aload_n 0, 1) := by decide +kernel
theorem dX11_town_26 : decode cX11_town 26 = .ok (.getfield 20, 3) := by decide +kernel
theorem dX11_town_29 : decode cX11_town 29 = .ok (.iconst 0, 1) := by decide +kernel
theorem dX11_town_30 : decode cX11_town 30 = .ok (.putfield 85, 3) := by decide +kernel
theorem dX11_town_33 : decode cX11_town 33 = .ok (.aload_n 0, 1) := by decide +kernel
theorem dX11_town_34 : decode cX11_town 34 = .ok (.getfield 10, 3) := by decide +kernel
theorem dX11_town_37 : decode cX11_town 37 = .ok (.iload_n 1, 1) := by decide +kernel
theorem dX11_town_38 : decode cX11_town 38 = .ok (.invokevirtual 102, 3) := by decide +kernel
theorem dX11_town_41 : decode cX11_town 41 = .ok (.istore_n 2, 1) := by decide +kernel
theorem dX11_town_42 : decode cX11_town 42 = .ok (.iload_n 2, 1) := by decide +kernel
theorem dX11_town_43 : decode cX11_town 43 = .ok (.ifCond .eq 15, 3) := by decide +kernel
theorem dX11_town_46 : decode cX11_town 46 = .ok (.aload_n 0, 1) := by decide +kernel
theorem dX11_town_47 : decode cX11_town 47 = .ok (.getfield 51, 3) := by decide +kernel
theorem dX11_town_50 : decode cX11_town 50 = .ok (.iconst 0, 1) := by decide +kernel
theorem dX11_town_51 : decode cX11_town 51 = .ok (.dup2, 1) := by decide +kernel
theorem dX11_town_52 : decode cX11_town 52 = .ok (.iaload, 1) := by decide +kernel
theorem dX11_town_53 : decode cX11_town 53 = .ok (.iconst 1, 1) := by decide +kernel
theorem dX11_town_54 : decode cX11_town 54 = .ok (.iadd, 1) := by decide +kernel
theorem dX11_town_55 : decode cX11_town 55 = .ok (.iastore, 1) := by decide +kernel
theorem dX11_town_56 : decode cX11_town 56 = .ok (.iload_n 2, 1) := by decide +kernel
theorem dX11_town_57 : decode cX11_town 57 = .ok (.ireturn, 1) := by decide +kernel
theorem dX11_town_58 : decode cX11_town 58 = .ok (.aload_n 0, 1) := by decide +kernel
theorem dX11_town_59 : decode cX11_town 59 = .ok (.getfield 26, 3) := by decide +kernel
theorem dX11_town_62 : decode cX11_town 62 = .ok (.astore_n 3, 1) := by decide +kernel
theorem dX11_town_63 : decode cX11_town 63 = .ok (.aload_n 0, 1) := by decide +kernel
theorem dX11_town_64 : decode cX11_town 64 = .ok (.aload_n 0, 1) := by decide +kernel
theorem dX11_town_65 : decode cX11_town 65 = .ok (.getfield 10, 3) := by decide +kernel
theorem dX11_town_68 : decode cX11_town 68 = .ok (.getfield 106, 3) := by decide +kernel
theorem dX11_town_71 : decode cX11_town 71 = .ok (.putfield 26, 3) := by decide +kernel
theorem dX11_town_74 : decode cX11_town 74 = .ok (.aload_n 0, 1) := by decide +kernel
theorem dX11_town_75 : decode cX11_town 75 = .ok (.getfield 10, 3) := by decide +kernel
theorem dX11_town_78 : decode cX11_town 78 = .ok (.aload_n 3, 1) := by decide +kernel
theorem dX11_town_79 : decode cX11_town 79 = .ok (.putfield 106, 3) := by decide +kernel
theorem dX11_town_82 : decode cX11_town 82 = .ok (.aload_n 0, 1) := by decide +kernel
theorem dX11_town_83 : decode cX11_town 83 = .ok (.getfield 33, 3) := by decide +kernel
theorem dX11_town_86 : decode cX11_town 86 = .ok (.aload_n 0, 1) := by decide +kernel
theorem dX11_town_87 : decode cX11_town 87 = .ok (.getfield 26, 3) := by decide +kernel
theorem dX11_town_90 : decode cX11_town 90 = .ok (.invokevirtual 109, 3) := by decide +kernel
theorem dX11_town_93 : decode cX11_town 93 = .ok (.aload_n 0, 1) := by decide +kernel
theorem dX11_town_94 : decode cX11_town 94 = .ok (.getfield 40, 3) := by decide +kernel
theorem dX11_town_97 : decode cX11_town 97 = .ok (.iconst 0, 1) := by decide +kernel
theorem dX11_town_98 : decode cX11_town 98 = .ok (.putfield 113, 3) := by decide +kernel
theorem dX11_town_101 : decode cX11_town 101 = .ok (.aload_n 0, 1) := by decide +kernel
theorem dX11_town_102 : decode cX11_town 102 = .ok (.getfield 47, 3) := by decide +kernel
theorem dX11_town_105 : decode cX11_town 105 = .ok (.iconst 0, 1) := by decide +kernel
theorem dX11_town_106 : decode cX11_town 106 = .ok (.putfield 116, 3) := by decide +kernel
theorem dX11_town_109 : decode cX11_town 109 = .ok (.aload_n 0, 1) := by decide +kernel
theorem dX11_town_110 : decode cX11_town 110 = .ok (.getfield 58, 3) := by decide +kernel
theorem dX11_town_113 : decode cX11_town 113 = .ok (.iconst 0, 1) := by decide +kernel
theorem dX11_town_114 : decode cX11_town 114 = .ok (.putfield 117, 3) := by decide +kernel
theorem dX11_town_117 : decode cX11_town 117 = .ok (.iconst 0, 1) := by decide +kernel
theorem dX11_town_118 : decode cX11_town 118 = .ok (.ireturn, 1) := by decide +kernel
theorem dX11_fault_0 : decode cX11_fault 0 = .ok (.aload_n 0, 1) := by decide +kernel
theorem dX11_fault_1 : decode cX11_fault 1 = .ok (.getfield 10, 3) := by decide +kernel
theorem dX11_fault_4 : decode cX11_fault 4 = .ok (.getfield 121, 3) := by decide +kernel
theorem dX11_fault_7 : decode cX11_fault 7 = .ok (.ireturn, 1) := by decide +kernel
theorem dX11_count_0 : decode cX11_count 0 = .ok (.iload_n 1, 1) := by decide +kernel
theorem dX11_count_1 : decode cX11_count 1 = .ok (.tableswitch 207 0 15 #[79, 87, 98, 106, 114, 122, 130, 138, 146, 154, 162, 170, 178, 186, 193, 200], 79) := by decide +kernel
theorem dX11_count_80 : decode cX11_count 80 = .ok (.aload_n 0, 1) := by decide +kernel
theorem dX11_count_81 : decode cX11_count 81 = .ok (.getfield 26, 3) := by decide +kernel
theorem dX11_count_84 : decode cX11_count 84 = .ok (.getfield 124, 3) := by decide +kernel
theorem dX11_count_87 : decode cX11_count 87 = .ok (.ireturn, 1) := by decide +kernel
theorem dX11_count_88 : decode cX11_count 88 = .ok (.aload_n 0, 1) := by decide +kernel
theorem dX11_count_89 : decode cX11_count 89 = .ok (.getfield 33, 3) := by decide +kernel
theorem dX11_count_92 : decode cX11_count 92 = .ok (.getfield 127, 3) := by decide +kernel
theorem dX11_count_95 : decode cX11_count 95 = .ok (.getfield 131, 3) := by decide +kernel
theorem dX11_count_98 : decode cX11_count 98 = .ok (.ireturn, 1) := by decide +kernel
theorem dX11_count_99 : decode cX11_count 99 = .ok (.aload_n 0, 1) := by decide +kernel
theorem dX11_count_100 : decode cX11_count 100 = .ok (.getfield 33, 3) := by decide +kernel
theorem dX11_count_103 : decode cX11_count 103 = .ok (.getfield 134, 3) := by decide +kernel
theorem dX11_count_106 : decode cX11_count 106 = .ok (.ireturn, 1) := by decide +kernel
theorem dX11_count_107 : decode cX11_count 107 = .ok (.aload_n 0, 1) := by decide +kernel
theorem dX11_count_108 : decode cX11_count 108 = .ok (.getfield 33, 3) := by decide +kernel
theorem dX11_count_111 : decode cX11_count 111 = .ok (.getfield 137, 3) := by decide +kernel
theorem dX11_count_114 : decode cX11_count 114 = .ok (.ireturn, 1) := by decide +kernel
theorem dX11_count_115 : decode cX11_count 115 = .ok (.aload_n 0, 1) := by decide +kernel
theorem dX11_count_116 : decode cX11_count 116 = .ok (.getfield 33, 3) := by decide +kernel
theorem dX11_count_119 : decode cX11_count 119 = .ok (.getfield 140, 3) := by decide +kernel
theorem dX11_count_122 : decode cX11_count 122 = .ok (.ireturn, 1) := by decide +kernel
theorem dX11_count_123 : decode cX11_count 123 = .ok (.aload_n 0, 1) := by decide +kernel
theorem dX11_count_124 : decode cX11_count 124 = .ok (.getfield 26, 3) := by decide +kernel
theorem dX11_count_127 : decode cX11_count 127 = .ok (.getfield 143, 3) := by decide +kernel
theorem dX11_count_130 : decode cX11_count 130 = .ok (.ireturn, 1) := by decide +kernel
theorem dX11_count_131 : decode cX11_count 131 = .ok (.aload_n 0, 1) := by decide +kernel
theorem dX11_count_132 : decode cX11_count 132 = .ok (.getfield 33, 3) := by decide +kernel
theorem dX11_count_135 : decode cX11_count 135 = .ok (.invokevirtual 146, 3) := by decide +kernel
theorem dX11_count_138 : decode cX11_count 138 = .ok (.ireturn, 1) := by decide +kernel
theorem dX11_count_139 : decode cX11_count 139 = .ok (.aload_n 0, 1) := by decide +kernel
theorem dX11_count_140 : decode cX11_count 140 = .ok (.getfield 33, 3) := by decide +kernel
theorem dX11_count_143 : decode cX11_count 143 = .ok (.getfield 150, 3) := by decide +kernel
theorem dX11_count_146 : decode cX11_count 146 = .ok (.ireturn, 1) := by decide +kernel
theorem dX11_count_147 : decode cX11_count 147 = .ok (.aload_n 0, 1) := by decide +kernel
theorem dX11_count_148 : decode cX11_count 148 = .ok (.getfield 33, 3) := by decide +kernel
theorem dX11_count_151 : decode cX11_count 151 = .ok (.getfield 153, 3) := by decide +kernel
theorem dX11_count_154 : decode cX11_count 154 = .ok (.ireturn, 1) := by decide +kernel
theorem dX11_count_155 : decode cX11_count 155 = .ok (.aload_n 0, 1) := by decide +kernel
theorem dX11_count_156 : decode cX11_count 156 = .ok (.getfield 33, 3) := by decide +kernel
theorem dX11_count_159 : decode cX11_count 159 = .ok (.getfield 156, 3) := by decide +kernel
theorem dX11_count_162 : decode cX11_count 162 = .ok (.ireturn, 1) := by decide +kernel
theorem dX11_count_163 : decode cX11_count 163 = .ok (.aload_n 0, 1) := by decide +kernel
theorem dX11_count_164 : decode cX11_count 164 = .ok (.getfield 40, 3) := by decide +kernel
theorem dX11_count_167 : decode cX11_count 167 = .ok (.getfield 113, 3) := by decide +kernel
theorem dX11_count_170 : decode cX11_count 170 = .ok (.ireturn, 1) := by decide +kernel
theorem dX11_count_171 : decode cX11_count 171 = .ok (.aload_n 0, 1) := by decide +kernel
theorem dX11_count_172 : decode cX11_count 172 = .ok (.getfield 47, 3) := by decide +kernel
theorem dX11_count_175 : decode cX11_count 175 = .ok (.getfield 116, 3) := by decide +kernel
theorem dX11_count_178 : decode cX11_count 178 = .ok (.ireturn, 1) := by decide +kernel
theorem dX11_count_179 : decode cX11_count 179 = .ok (.aload_n 0, 1) := by decide +kernel
theorem dX11_count_180 : decode cX11_count 180 = .ok (.getfield 20, 3) := by decide +kernel
theorem dX11_count_183 : decode cX11_count 183 = .ok (.getfield 85, 3) := by decide +kernel
theorem dX11_count_186 : decode cX11_count 186 = .ok (.ireturn, 1) := by decide +kernel
theorem dX11_count_187 : decode cX11_count 187 = .ok (.aload_n 0, 1) := by decide +kernel
theorem dX11_count_188 : decode cX11_count 188 = .ok (.getfield 51, 3) := by decide +kernel
theorem dX11_count_191 : decode cX11_count 191 = .ok (.iconst 0, 1) := by decide +kernel
theorem dX11_count_192 : decode cX11_count 192 = .ok (.iaload, 1) := by decide +kernel
theorem dX11_count_193 : decode cX11_count 193 = .ok (.ireturn, 1) := by decide +kernel
theorem dX11_count_194 : decode cX11_count 194 = .ok (.aload_n 0, 1) := by decide +kernel
theorem dX11_count_195 : decode cX11_count 195 = .ok (.getfield 51, 3) := by decide +kernel
theorem dX11_count_198 : decode cX11_count 198 = .ok (.iconst 1, 1) := by decide +kernel
theorem dX11_count_199 : decode cX11_count 199 = .ok (.iaload, 1) := by decide +kernel
theorem dX11_count_200 : decode cX11_count 200 = .ok (.ireturn, 1) := by decide +kernel
theorem dX11_count_201 : decode cX11_count 201 = .ok (.aload_n 0, 1) := by decide +kernel
theorem dX11_count_202 : decode cX11_count 202 = .ok (.getfield 51, 3) := by decide +kernel
theorem dX11_count_205 : decode cX11_count 205 = .ok (.iconst 2, 1) := by decide +kernel
theorem dX11_count_206 : decode cX11_count 206 = .ok (.iaload, 1) := by decide +kernel
theorem dX11_count_207 : decode cX11_count 207 = .ok (.ireturn, 1) := by decide +kernel
theorem dX11_count_208 : decode cX11_count 208 = .ok (.new 159, 3) := by decide +kernel
theorem dX11_count_211 : decode cX11_count 211 = .ok (.dup, 1) := by decide +kernel
theorem dX11_count_212 : decode cX11_count 212 = .ok (.ldc 161, 2) := by decide +kernel
theorem dX11_count_214 : decode cX11_count 214 = .ok (.invokespecial 163, 3) := by decide +kernel
theorem dX11_count_217 : decode cX11_count 217 = .ok (.athrow, 1) := by decide +kernel
theorem dX11_person_0 : decode cX11_person 0 = .ok (.aload_n 0, 1) := by decide +kernel
theorem dX11_person_1 : decode cX11_person 1 = .ok (.iload_n 1, 1) := by decide +kernel
theorem dX11_person_2 : decode cX11_person 2 = .ok (.invokevirtual 164, 3) := by decide +kernel
theorem dX11_person_5 : decode cX11_person 5 = .ok (.iload_n 2, 1) := by decide +kernel
theorem dX11_person_6 : decode cX11_person 6 = .ok (.tableswitch 113 0 6 #[42, 52, 62, 72, 82, 92, 101], 42) := by decide +kernel
theorem dX11_person_48 : decode cX11_person 48 = .ok (.aload_n 0, 1) := by decide +kernel
theorem dX11_person_49 : decode cX11_person 49 = .ok (.getfield 26, 3) := by decide +kernel
theorem dX11_person_52 : decode cX11_person 52 = .ok (.getfield 167, 3) := by decide +kernel
theorem dX11_person_55 : decode cX11_person 55 = .ok (.iload_n 1, 1) := by decide +kernel
theorem dX11_person_56 : decode cX11_person 56 = .ok (.iaload, 1) := by decide +kernel
theorem dX11_person_57 : decode cX11_person 57 = .ok (.ireturn, 1) := by decide +kernel
theorem dX11_person_58 : decode cX11_person 58 = .ok (.aload_n 0, 1) := by decide +kernel
theorem dX11_person_59 : decode cX11_person 59 = .ok (.getfield 33, 3) := by decide +kernel
theorem dX11_person_62 : decode cX11_person 62 = .ok (.getfield 170, 3) := by decide +kernel
theorem dX11_person_65 : decode cX11_person 65 = .ok (.iload_n 1, 1) := by decide +kernel
theorem dX11_person_66 : decode cX11_person 66 = .ok (.iaload, 1) := by decide +kernel
theorem dX11_person_67 : decode cX11_person 67 = .ok (.ireturn, 1) := by decide +kernel
theorem dX11_person_68 : decode cX11_person 68 = .ok (.aload_n 0, 1) := by decide +kernel
theorem dX11_person_69 : decode cX11_person 69 = .ok (.getfield 26, 3) := by decide +kernel
theorem dX11_person_72 : decode cX11_person 72 = .ok (.getfield 173, 3) := by decide +kernel
theorem dX11_person_75 : decode cX11_person 75 = .ok (.iload_n 1, 1) := by decide +kernel
theorem dX11_person_76 : decode cX11_person 76 = .ok (.iaload, 1) := by decide +kernel
theorem dX11_person_77 : decode cX11_person 77 = .ok (.ireturn, 1) := by decide +kernel
theorem dX11_person_78 : decode cX11_person 78 = .ok (.aload_n 0, 1) := by decide +kernel
theorem dX11_person_79 : decode cX11_person 79 = .ok (.getfield 26, 3) := by decide +kernel
theorem dX11_person_82 : decode cX11_person 82 = .ok (.getfield 176, 3) := by decide +kernel
theorem dX11_person_85 : decode cX11_person 85 = .ok (.iload_n 1, 1) := by decide +kernel
theorem dX11_person_86 : decode cX11_person 86 = .ok (.iaload, 1) := by decide +kernel
theorem dX11_person_87 : decode cX11_person 87 = .ok (.ireturn, 1) := by decide +kernel
theorem dX11_person_88 : decode cX11_person 88 = .ok (.aload_n 0, 1) := by decide +kernel
theorem dX11_person_89 : decode cX11_person 89 = .ok (.getfield 33, 3) := by decide +kernel
theorem dX11_person_92 : decode cX11_person 92 = .ok (.getfield 179, 3) := by decide +kernel
theorem dX11_person_95 : decode cX11_person 95 = .ok (.iload_n 1, 1) := by decide +kernel
theorem dX11_person_96 : decode cX11_person 96 = .ok (.iaload, 1) := by decide +kernel
theorem dX11_person_97 : decode cX11_person 97 = .ok (.ireturn, 1) := by decide +kernel
theorem dX11_person_98 : decode cX11_person 98 = .ok (.aload_n 0, 1) := by decide +kernel
theorem dX11_person_99 : decode cX11_person 99 = .ok (.getfield 26, 3) := by decide +kernel
theorem dX11_person_102 : decode cX11_person 102 = .ok (.iload_n 1, 1) := by decide +kernel
theorem dX11_person_103 : decode cX11_person 103 = .ok (.invokevirtual 182, 3) := by decide +kernel
theorem dX11_person_106 : decode cX11_person 106 = .ok (.ireturn, 1) := by decide +kernel
theorem dX11_person_107 : decode cX11_person 107 = .ok (.aload_n 0, 1) := by decide +kernel
theorem dX11_person_108 : decode cX11_person 108 = .ok (.getfield 33, 3) := by decide +kernel
theorem dX11_person_111 : decode cX11_person 111 = .ok (.getfield 127, 3) := by decide +kernel
theorem dX11_person_114 : decode cX11_person 114 = .ok (.iload_n 1, 1) := by decide +kernel
theorem dX11_person_115 : decode cX11_person 115 = .ok (.invokevirtual 185, 3) := by decide +kernel
theorem dX11_person_118 : decode cX11_person 118 = .ok (.ireturn, 1) := by decide +kernel
theorem dX11_person_119 : decode cX11_person 119 = .ok (.new 159, 3) := by decide +kernel
theorem dX11_person_122 : decode cX11_person 122 = .ok (.dup, 1) := by decide +kernel
theorem dX11_person_123 : decode cX11_person 123 = .ok (.ldc 188, 2) := by decide +kernel
theorem dX11_person_125 : decode cX11_person 125 = .ok (.invokespecial 163, 3) := by decide +kernel
theorem dX11_person_128 : decode cX11_person 128 = .ok (.athrow, 1) := by decide +kernel
theorem dX11_isPerson_0 : decode cX11_isPerson 0 = .ok (.iload_n 1, 1) := by decide +kernel
theorem dX11_isPerson_1 : decode cX11_isPerson 1 = .ok (.ifCond .lt 18, 3) := by decide +kernel
theorem dX11_isPerson_4 : decode cX11_isPerson 4 = .ok (.iload_n 1, 1) := by decide +kernel
theorem dX11_isPerson_5 : decode cX11_isPerson 5 = .ok (.aload_n 0, 1) := by decide +kernel
theorem dX11_isPerson_6 : decode cX11_isPerson 6 = .ok (.getfield 26, 3) := by decide +kernel
theorem dX11_isPerson_9 : decode cX11_isPerson 9 = .ok (.getfield 124, 3) := by decide +kernel
theorem dX11_isPerson_12 : decode cX11_isPerson 12 = .ok (.if_icmp .ge 7, 3) := by decide +kernel
theorem dX11_isPerson_15 : decode cX11_isPerson 15 = .ok (.iconst 1, 1) := by decide +kernel
theorem dX11_isPerson_16 : decode cX11_isPerson 16 = .ok (.goto 4, 3) := by decide +kernel
theorem dX11_isPerson_19 : decode cX11_isPerson 19 = .ok (.iconst 0, 1) := by decide +kernel
theorem dX11_isPerson_20 : decode cX11_isPerson 20 = .ok (.ireturn, 1) := by decide +kernel
theorem dX11_needPerson_0 : decode cX11_needPerson 0 = .ok (.aload_n 0, 1) := by decide +kernel
theorem dX11_needPerson_1 : decode cX11_needPerson 1 = .ok (.iload_n 1, 1) := by decide +kernel
theorem dX11_needPerson_2 : decode cX11_needPerson 2 = .ok (.invokevirtual 190, 3) := by decide +kernel
theorem dX11_needPerson_5 : decode cX11_needPerson 5 = .ok (.ifCond .ne 13, 3) := by decide +kernel
theorem dX11_needPerson_8 : decode cX11_needPerson 8 = .ok (.new 159, 3) := by decide +kernel
theorem dX11_needPerson_11 : decode cX11_needPerson 11 = .ok (.dup, 1) := by decide +kernel
theorem dX11_needPerson_12 : decode cX11_needPerson 12 = .ok (.ldc 194, 2) := by decide +kernel
theorem dX11_needPerson_14 : decode cX11_needPerson 14 = .ok (.invokespecial 163, 3) := by decide +kernel
theorem dX11_needPerson_17 : decode cX11_needPerson 17 = .ok (.athrow, 1) := by decide +kernel
theorem dX11_needPerson_18 : decode cX11_needPerson 18 = .ok (.return_, 1) := by decide +kernel
theorem dX11_needWhat_0 : decode cX11_needWhat 0 = .ok (.iload_n 0, 1) := by decide +kernel
theorem dX11_needWhat_1 : decode cX11_needWhat 1 = .ok (.ifCond .lt 8, 3) := by decide +kernel
theorem dX11_needWhat_4 : decode cX11_needWhat 4 = .ok (.iload_n 0, 1) := by decide +kernel
theorem dX11_needWhat_5 : decode cX11_needWhat 5 = .ok (.iload_n 1, 1) := by decide +kernel
theorem dX11_needWhat_6 : decode cX11_needWhat 6 = .ok (.if_icmp .le 13, 3) := by decide +kernel
theorem dX11_needWhat_9 : decode cX11_needWhat 9 = .ok (.new 159, 3) := by decide +kernel
theorem dX11_needWhat_12 : decode cX11_needWhat 12 = .ok (.dup, 1) := by decide +kernel
theorem dX11_needWhat_13 : decode cX11_needWhat 13 = .ok (.ldc 196, 2) := by decide +kernel
theorem dX11_needWhat_15 : decode cX11_needWhat 15 = .ok (.invokespecial 163, 3) := by decide +kernel
theorem dX11_needWhat_18 : decode cX11_needWhat 18 = .ok (.athrow, 1) := by decide +kernel
theorem dX11_needWhat_19 : decode cX11_needWhat 19 = .ok (.return_, 1) := by decide +kernel
theorem dX11_feud_0 : decode cX11_feud 0 = .ok (.iload_n 2, 1) := by decide +kernel
theorem dX11_feud_1 : decode cX11_feud 1 = .ok (.iconst 1, 1) := by decide +kernel
theorem dX11_feud_2 : decode cX11_feud 2 = .ok (.invokestatic 198, 3) := by decide +kernel
theorem dX11_feud_5 : decode cX11_feud 5 = .ok (.aload_n 0, 1) := by decide +kernel
theorem dX11_feud_6 : decode cX11_feud 6 = .ok (.getfield 33, 3) := by decide +kernel
theorem dX11_feud_9 : decode cX11_feud 9 = .ok (.getfield 127, 3) := by decide +kernel
theorem dX11_feud_12 : decode cX11_feud 12 = .ok (.iload_n 1, 1) := by decide +kernel
theorem dX11_feud_13 : decode cX11_feud 13 = .ok (.invokevirtual 202, 3) := by decide +kernel
theorem dX11_feud_16 : decode cX11_feud 16 = .ok (.ifCond .ne 13, 3) := by decide +kernel
theorem dX11_feud_19 : decode cX11_feud 19 = .ok (.new 159, 3) := by decide +kernel
theorem dX11_feud_22 : decode cX11_feud 22 = .ok (.dup, 1) := by decide +kernel
theorem dX11_feud_23 : decode cX11_feud 23 = .ok (.ldc 205, 2) := by decide +kernel
theorem dX11_feud_25 : decode cX11_feud 25 = .ok (.invokespecial 163, 3) := by decide +kernel
theorem dX11_feud_28 : decode cX11_feud 28 = .ok (.athrow, 1) := by decide +kernel
theorem dX11_feud_29 : decode cX11_feud 29 = .ok (.iload_n 2, 1) := by decide +kernel
theorem dX11_feud_30 : decode cX11_feud 30 = .ok (.ifCond .ne 18, 3) := by decide +kernel
theorem dX11_feud_33 : decode cX11_feud 33 = .ok (.aload_n 0, 1) := by decide +kernel
theorem dX11_feud_34 : decode cX11_feud 34 = .ok (.getfield 33, 3) := by decide +kernel
theorem dX11_feud_37 : decode cX11_feud 37 = .ok (.getfield 127, 3) := by decide +kernel
theorem dX11_feud_40 : decode cX11_feud 40 = .ok (.getfield 207, 3) := by decide +kernel
theorem dX11_feud_43 : decode cX11_feud 43 = .ok (.iload_n 1, 1) := by decide +kernel
theorem dX11_feud_44 : decode cX11_feud 44 = .ok (.iaload, 1) := by decide +kernel
theorem dX11_feud_45 : decode cX11_feud 45 = .ok (.goto 15, 3) := by decide +kernel
theorem dX11_feud_48 : decode cX11_feud 48 = .ok (.aload_n 0, 1) := by decide +kernel
theorem dX11_feud_49 : decode cX11_feud 49 = .ok (.getfield 33, 3) := by decide +kernel
theorem dX11_feud_52 : decode cX11_feud 52 = .ok (.getfield 127, 3) := by decide +kernel
theorem dX11_feud_55 : decode cX11_feud 55 = .ok (.getfield 210, 3) := by decide +kernel
theorem dX11_feud_58 : decode cX11_feud 58 = .ok (.iload_n 1, 1) := by decide +kernel
theorem dX11_feud_59 : decode cX11_feud 59 = .ok (.iaload, 1) := by decide +kernel
theorem dX11_feud_60 : decode cX11_feud 60 = .ok (.ireturn, 1) := by decide +kernel
theorem dX11_sign_0 : decode cX11_sign 0 = .ok (.iload_n 2, 1) := by decide +kernel
theorem dX11_sign_1 : decode cX11_sign 1 = .ok (.iconst 2, 1) := by decide +kernel
theorem dX11_sign_2 : decode cX11_sign 2 = .ok (.invokestatic 198, 3) := by decide +kernel
theorem dX11_sign_5 : decode cX11_sign 5 = .ok (.iload_n 1, 1) := by decide +kernel
theorem dX11_sign_6 : decode cX11_sign 6 = .ok (.ifCond .lt 14, 3) := by decide +kernel
theorem dX11_sign_9 : decode cX11_sign 9 = .ok (.iload_n 1, 1) := by decide +kernel
theorem dX11_sign_10 : decode cX11_sign 10 = .ok (.aload_n 0, 1) := by decide +kernel
theorem dX11_sign_11 : decode cX11_sign 11 = .ok (.getfield 33, 3) := by decide +kernel
theorem dX11_sign_14 : decode cX11_sign 14 = .ok (.getfield 140, 3) := by decide +kernel
theorem dX11_sign_17 : decode cX11_sign 17 = .ok (.if_icmp .lt 13, 3) := by decide +kernel
theorem dX11_sign_20 : decode cX11_sign 20 = .ok (.new 159, 3) := by decide +kernel
theorem dX11_sign_23 : decode cX11_sign 23 = .ok (.dup, 1) := by decide +kernel
theorem dX11_sign_24 : decode cX11_sign 24 = .ok (.ldc 213, 2) := by decide +kernel
theorem dX11_sign_26 : decode cX11_sign 26 = .ok (.invokespecial 163, 3) := by decide +kernel
theorem dX11_sign_29 : decode cX11_sign 29 = .ok (.athrow, 1) := by decide +kernel
theorem dX11_sign_30 : decode cX11_sign 30 = .ok (.iload_n 2, 1) := by decide +kernel
theorem dX11_sign_31 : decode cX11_sign 31 = .ok (.ifCond .ne 13, 3) := by decide +kernel
theorem dX11_sign_34 : decode cX11_sign 34 = .ok (.aload_n 0, 1) := by decide +kernel
theorem dX11_sign_35 : decode cX11_sign 35 = .ok (.getfield 33, 3) := by decide +kernel
theorem dX11_sign_38 : decode cX11_sign 38 = .ok (.getfield 215, 3) := by decide +kernel
theorem dX11_sign_41 : decode cX11_sign 41 = .ok (.iload_n 1, 1) := by decide +kernel
theorem dX11_sign_42 : decode cX11_sign 42 = .ok (.iaload, 1) := by decide +kernel
theorem dX11_sign_43 : decode cX11_sign 43 = .ok (.ireturn, 1) := by decide +kernel
theorem dX11_sign_44 : decode cX11_sign 44 = .ok (.iload_n 2, 1) := by decide +kernel
theorem dX11_sign_45 : decode cX11_sign 45 = .ok (.iconst 1, 1) := by decide +kernel
theorem dX11_sign_46 : decode cX11_sign 46 = .ok (.if_icmp .ne 15, 3) := by decide +kernel
theorem dX11_sign_49 : decode cX11_sign 49 = .ok (.aload_n 0, 1) := by decide +kernel
theorem dX11_sign_50 : decode cX11_sign 50 = .ok (.getfield 33, 3) := by decide +kernel
theorem dX11_sign_53 : decode cX11_sign 53 = .ok (.getfield 218, 3) := by decide +kernel
theorem dX11_sign_56 : decode cX11_sign 56 = .ok (.iload_n 1, 1) := by decide +kernel
theorem dX11_sign_57 : decode cX11_sign 57 = .ok (.iaload, 1) := by decide +kernel
theorem dX11_sign_58 : decode cX11_sign 58 = .ok (.goto 12, 3) := by decide +kernel
theorem dX11_sign_61 : decode cX11_sign 61 = .ok (.aload_n 0, 1) := by decide +kernel
theorem dX11_sign_62 : decode cX11_sign 62 = .ok (.getfield 33, 3) := by decide +kernel
theorem dX11_sign_65 : decode cX11_sign 65 = .ok (.getfield 221, 3) := by decide +kernel
theorem dX11_sign_68 : decode cX11_sign 68 = .ok (.iload_n 1, 1) := by decide +kernel
theorem dX11_sign_69 : decode cX11_sign 69 = .ok (.iaload, 1) := by decide +kernel
theorem dX11_sign_70 : decode cX11_sign 70 = .ok (.ireturn, 1) := by decide +kernel
theorem dX11_other_0 : decode cX11_other 0 = .ok (.iload_n 1, 1) := by decide +kernel
theorem dX11_other_1 : decode cX11_other 1 = .ok (.ifCond .lt 14, 3) := by decide +kernel
theorem dX11_other_4 : decode cX11_other 4 = .ok (.iload_n 1, 1) := by decide +kernel
theorem dX11_other_5 : decode cX11_other 5 = .ok (.aload_n 0, 1) := by decide +kernel
theorem dX11_other_6 : decode cX11_other 6 = .ok (.getfield 26, 3) := by decide +kernel
theorem dX11_other_9 : decode cX11_other 9 = .ok (.getfield 143, 3) := by decide +kernel
theorem dX11_other_12 : decode cX11_other 12 = .ok (.if_icmp .lt 13, 3) := by decide +kernel
theorem dX11_other_15 : decode cX11_other 15 = .ok (.new 159, 3) := by decide +kernel
theorem dX11_other_18 : decode cX11_other 18 = .ok (.dup, 1) := by decide +kernel
theorem dX11_other_19 : decode cX11_other 19 = .ok (.ldc 213, 2) := by decide +kernel
theorem dX11_other_21 : decode cX11_other 21 = .ok (.invokespecial 163, 3) := by decide +kernel
theorem dX11_other_24 : decode cX11_other 24 = .ok (.athrow, 1) := by decide +kernel
theorem dX11_other_25 : decode cX11_other 25 = .ok (.aload_n 0, 1) := by decide +kernel
theorem dX11_other_26 : decode cX11_other 26 = .ok (.getfield 26, 3) := by decide +kernel
theorem dX11_other_29 : decode cX11_other 29 = .ok (.getfield 224, 3) := by decide +kernel
theorem dX11_other_32 : decode cX11_other 32 = .ok (.iload_n 1, 1) := by decide +kernel
theorem dX11_other_33 : decode cX11_other 33 = .ok (.iaload, 1) := by decide +kernel
theorem dX11_other_34 : decode cX11_other 34 = .ok (.ireturn, 1) := by decide +kernel
theorem dX11_refuseAct_0 : decode cX11_refuseAct 0 = .ok (.aload_n 0, 1) := by decide +kernel
theorem dX11_refuseAct_1 : decode cX11_refuseAct 1 = .ok (.getfield 51, 3) := by decide +kernel
theorem dX11_refuseAct_4 : decode cX11_refuseAct 4 = .ok (.iconst 1, 1) := by decide +kernel
theorem dX11_refuseAct_5 : decode cX11_refuseAct 5 = .ok (.dup2, 1) := by decide +kernel
theorem dX11_refuseAct_6 : decode cX11_refuseAct 6 = .ok (.iaload, 1) := by decide +kernel
theorem dX11_refuseAct_7 : decode cX11_refuseAct 7 = .ok (.iconst 1, 1) := by decide +kernel
theorem dX11_refuseAct_8 : decode cX11_refuseAct 8 = .ok (.iadd, 1) := by decide +kernel
theorem dX11_refuseAct_9 : decode cX11_refuseAct 9 = .ok (.iastore, 1) := by decide +kernel
theorem dX11_refuseAct_10 : decode cX11_refuseAct 10 = .ok (.return_, 1) := by decide +kernel
theorem dX11_years_0 : decode cX11_years 0 = .ok (.iload_n 1, 1) := by decide +kernel
theorem dX11_years_1 : decode cX11_years 1 = .ok (.iconst 1, 1) := by decide +kernel
theorem dX11_years_2 : decode cX11_years 2 = .ok (.if_icmp .lt 24, 3) := by decide +kernel
theorem dX11_years_5 : decode cX11_years 5 = .ok (.iload_n 1, 1) := by decide +kernel
theorem dX11_years_6 : decode cX11_years 6 = .ok (.bipush 20, 2) := by decide +kernel
theorem dX11_years_8 : decode cX11_years 8 = .ok (.if_icmp .gt 18, 3) := by decide +kernel
theorem dX11_years_11 : decode cX11_years 11 = .ok (.aload_n 0, 1) := by decide +kernel
theorem dX11_years_12 : decode cX11_years 12 = .ok (.getfield 33, 3) := by decide +kernel
theorem dX11_years_15 : decode cX11_years 15 = .ok (.getfield 137, 3) := by decide +kernel
theorem dX11_years_18 : decode cX11_years 18 = .ok (.iload_n 1, 1) := by decide +kernel
theorem dX11_years_19 : decode cX11_years 19 = .ok (.iadd, 1) := by decide +kernel
theorem dX11_years_20 : decode cX11_years 20 = .ok (.sipush 999, 3) := by decide +kernel
theorem dX11_years_23 : decode cX11_years 23 = .ok (.if_icmp .le 9, 3) := by decide +kernel
theorem dX11_years_26 : decode cX11_years 26 = .ok (.aload_n 0, 1) := by decide +kernel
theorem dX11_years_27 : decode cX11_years 27 = .ok (.invokevirtual 227, 3) := by decide +kernel
theorem dX11_years_30 : decode cX11_years 30 = .ok (.iconst (-1), 1) := by decide +kernel
theorem dX11_years_31 : decode cX11_years 31 = .ok (.ireturn, 1) := by decide +kernel
theorem dX11_years_32 : decode cX11_years 32 = .ok (.aload_n 0, 1) := by decide +kernel
theorem dX11_years_33 : decode cX11_years 33 = .ok (.getfield 40, 3) := by decide +kernel
theorem dX11_years_36 : decode cX11_years 36 = .ok (.iconst 0, 1) := by decide +kernel
theorem dX11_years_37 : decode cX11_years 37 = .ok (.aload_n 0, 1) := by decide +kernel
theorem dX11_years_38 : decode cX11_years 38 = .ok (.getfield 33, 3) := by decide +kernel
theorem dX11_years_41 : decode cX11_years 41 = .ok (.getfield 140, 3) := by decide +kernel
theorem dX11_years_44 : decode cX11_years 44 = .ok (.aload_n 0, 1) := by decide +kernel
theorem dX11_years_45 : decode cX11_years 45 = .ok (.getfield 33, 3) := by decide +kernel
theorem dX11_years_48 : decode cX11_years 48 = .ok (.getfield 137, 3) := by decide +kernel
theorem dX11_years_51 : decode cX11_years 51 = .ok (.iconst 0, 1) := by decide +kernel
theorem dX11_years_52 : decode cX11_years 52 = .ok (.invokevirtual 230, 3) := by decide +kernel
theorem dX11_years_55 : decode cX11_years 55 = .ok (.iconst 0, 1) := by decide +kernel
theorem dX11_years_56 : decode cX11_years 56 = .ok (.istore_n 2, 1) := by decide +kernel
theorem dX11_years_57 : decode cX11_years 57 = .ok (.iload_n 2, 1) := by decide +kernel
theorem dX11_years_58 : decode cX11_years 58 = .ok (.iload_n 1, 1) := by decide +kernel
theorem dX11_years_59 : decode cX11_years 59 = .ok (.if_icmp .ge 20, 3) := by decide +kernel
theorem dX11_years_62 : decode cX11_years 62 = .ok (.aload_n 0, 1) := by decide +kernel
theorem dX11_years_63 : decode cX11_years 63 = .ok (.getfield 33, 3) := by decide +kernel
theorem dX11_years_66 : decode cX11_years 66 = .ok (.aload_n 0, 1) := by decide +kernel
theorem dX11_years_67 : decode cX11_years 67 = .ok (.getfield 26, 3) := by decide +kernel
theorem dX11_years_70 : decode cX11_years 70 = .ok (.invokevirtual 234, 3) := by decide +kernel
theorem dX11_years_73 : decode cX11_years 73 = .ok (.iinc 2 1, 3) := by decide +kernel
theorem dX11_years_76 : decode cX11_years 76 = .ok (.goto (-19), 3) := by decide +kernel
theorem dX11_years_79 : decode cX11_years 79 = .ok (.aload_n 0, 1) := by decide +kernel
theorem dX11_years_80 : decode cX11_years 80 = .ok (.getfield 33, 3) := by decide +kernel
theorem dX11_years_83 : decode cX11_years 83 = .ok (.getfield 137, 3) := by decide +kernel
theorem dX11_years_86 : decode cX11_years 86 = .ok (.ireturn, 1) := by decide +kernel
theorem dX11_away_0 : decode cX11_away 0 = .ok (.aload_n 0, 1) := by decide +kernel
theorem dX11_away_1 : decode cX11_away 1 = .ok (.iload_n 1, 1) := by decide +kernel
theorem dX11_away_2 : decode cX11_away 2 = .ok (.invokevirtual 164, 3) := by decide +kernel
theorem dX11_away_5 : decode cX11_away 5 = .ok (.aload_n 0, 1) := by decide +kernel
theorem dX11_away_6 : decode cX11_away 6 = .ok (.getfield 33, 3) := by decide +kernel
theorem dX11_away_9 : decode cX11_away 9 = .ok (.getfield 153, 3) := by decide +kernel
theorem dX11_away_12 : decode cX11_away 12 = .ok (.iload_n 1, 1) := by decide +kernel
theorem dX11_away_13 : decode cX11_away 13 = .ok (.invokestatic 237, 3) := by decide +kernel
theorem dX11_away_16 : decode cX11_away 16 = .ok (.ifCond .ne 18, 3) := by decide +kernel
theorem dX11_away_19 : decode cX11_away 19 = .ok (.aload_n 0, 1) := by decide +kernel
theorem dX11_away_20 : decode cX11_away 20 = .ok (.getfield 33, 3) := by decide +kernel
theorem dX11_away_23 : decode cX11_away 23 = .ok (.getfield 150, 3) := by decide +kernel
theorem dX11_away_26 : decode cX11_away 26 = .ok (.iload_n 1, 1) := by decide +kernel
theorem dX11_away_27 : decode cX11_away 27 = .ok (.invokestatic 237, 3) := by decide +kernel
theorem dX11_away_30 : decode cX11_away 30 = .ok (.iload_n 2, 1) := by decide +kernel
theorem dX11_away_31 : decode cX11_away 31 = .ok (.if_icmp .ne 9, 3) := by decide +kernel
theorem dX11_away_34 : decode cX11_away 34 = .ok (.aload_n 0, 1) := by decide +kernel
theorem dX11_away_35 : decode cX11_away 35 = .ok (.invokevirtual 227, 3) := by decide +kernel
theorem dX11_away_38 : decode cX11_away 38 = .ok (.iconst 0, 1) := by decide +kernel
theorem dX11_away_39 : decode cX11_away 39 = .ok (.ireturn, 1) := by decide +kernel
theorem dX11_away_40 : decode cX11_away 40 = .ok (.aload_n 0, 1) := by decide +kernel
theorem dX11_away_41 : decode cX11_away 41 = .ok (.getfield 33, 3) := by decide +kernel
theorem dX11_away_44 : decode cX11_away 44 = .ok (.dup, 1) := by decide +kernel
theorem dX11_away_45 : decode cX11_away 45 = .ok (.getfield 150, 3) := by decide +kernel
theorem dX11_away_48 : decode cX11_away 48 = .ok (.iconst 1, 1) := by decide +kernel
theorem dX11_away_49 : decode cX11_away 49 = .ok (.iload_n 1, 1) := by decide +kernel
theorem dX11_away_50 : decode cX11_away 50 = .ok (.ishl, 1) := by decide +kernel
theorem dX11_away_51 : decode cX11_away 51 = .ok (.ixor, 1) := by decide +kernel
theorem dX11_away_52 : decode cX11_away 52 = .ok (.putfield 150, 3) := by decide +kernel
theorem dX11_away_55 : decode cX11_away 55 = .ok (.aload_n 0, 1) := by decide +kernel
theorem dX11_away_56 : decode cX11_away 56 = .ok (.getfield 40, 3) := by decide +kernel
theorem dX11_away_59 : decode cX11_away 59 = .ok (.iconst 1, 1) := by decide +kernel
theorem dX11_away_60 : decode cX11_away 60 = .ok (.iload_n 1, 1) := by decide +kernel
theorem dX11_away_61 : decode cX11_away 61 = .ok (.iconst 0, 1) := by decide +kernel
theorem dX11_away_62 : decode cX11_away 62 = .ok (.iconst 0, 1) := by decide +kernel
theorem dX11_away_63 : decode cX11_away 63 = .ok (.invokevirtual 230, 3) := by decide +kernel
theorem dX11_away_66 : decode cX11_away 66 = .ok (.iconst 1, 1) := by decide +kernel
theorem dX11_away_67 : decode cX11_away 67 = .ok (.ireturn, 1) := by decide +kernel
theorem dX11_dies_0 : decode cX11_dies 0 = .ok (.aload_n 0, 1) := by decide +kernel
theorem dX11_dies_1 : decode cX11_dies 1 = .ok (.iload_n 1, 1) := by decide +kernel
theorem dX11_dies_2 : decode cX11_dies 2 = .ok (.invokevirtual 164, 3) := by decide +kernel
theorem dX11_dies_5 : decode cX11_dies 5 = .ok (.aload_n 0, 1) := by decide +kernel
theorem dX11_dies_6 : decode cX11_dies 6 = .ok (.getfield 33, 3) := by decide +kernel
theorem dX11_dies_9 : decode cX11_dies 9 = .ok (.getfield 153, 3) := by decide +kernel
theorem dX11_dies_12 : decode cX11_dies 12 = .ok (.iload_n 1, 1) := by decide +kernel
theorem dX11_dies_13 : decode cX11_dies 13 = .ok (.invokestatic 237, 3) := by decide +kernel
theorem dX11_dies_16 : decode cX11_dies 16 = .ok (.ifCond .eq 9, 3) := by decide +kernel
theorem dX11_dies_19 : decode cX11_dies 19 = .ok (.aload_n 0, 1) := by decide +kernel
theorem dX11_dies_20 : decode cX11_dies 20 = .ok (.invokevirtual 227, 3) := by decide +kernel
theorem dX11_dies_23 : decode cX11_dies 23 = .ok (.iconst 0, 1) := by decide +kernel
theorem dX11_dies_24 : decode cX11_dies 24 = .ok (.ireturn, 1) := by decide +kernel
theorem dX11_dies_25 : decode cX11_dies 25 = .ok (.aload_n 0, 1) := by decide +kernel
theorem dX11_dies_26 : decode cX11_dies 26 = .ok (.getfield 33, 3) := by decide +kernel
theorem dX11_dies_29 : decode cX11_dies 29 = .ok (.dup, 1) := by decide +kernel
theorem dX11_dies_30 : decode cX11_dies 30 = .ok (.getfield 153, 3) := by decide +kernel
theorem dX11_dies_33 : decode cX11_dies 33 = .ok (.iconst 1, 1) := by decide +kernel
theorem dX11_dies_34 : decode cX11_dies 34 = .ok (.iload_n 1, 1) := by decide +kernel
theorem dX11_dies_35 : decode cX11_dies 35 = .ok (.ishl, 1) := by decide +kernel
theorem dX11_dies_36 : decode cX11_dies 36 = .ok (.ior, 1) := by decide +kernel
theorem dX11_dies_37 : decode cX11_dies 37 = .ok (.putfield 153, 3) := by decide +kernel
theorem dX11_dies_40 : decode cX11_dies 40 = .ok (.aload_n 0, 1) := by decide +kernel
theorem dX11_dies_41 : decode cX11_dies 41 = .ok (.getfield 40, 3) := by decide +kernel
theorem dX11_dies_44 : decode cX11_dies 44 = .ok (.iconst 2, 1) := by decide +kernel
theorem dX11_dies_45 : decode cX11_dies 45 = .ok (.iload_n 1, 1) := by decide +kernel
theorem dX11_dies_46 : decode cX11_dies 46 = .ok (.iconst 0, 1) := by decide +kernel
theorem dX11_dies_47 : decode cX11_dies 47 = .ok (.iconst 0, 1) := by decide +kernel
theorem dX11_dies_48 : decode cX11_dies 48 = .ok (.invokevirtual 230, 3) := by decide +kernel
theorem dX11_dies_51 : decode cX11_dies 51 = .ok (.iconst 1, 1) := by decide +kernel
theorem dX11_dies_52 : decode cX11_dies 52 = .ok (.ireturn, 1) := by decide +kernel
theorem dX11_isIn_0 : decode cX11_isIn 0 = .ok (.iload_n 0, 1) := by decide +kernel
theorem dX11_isIn_1 : decode cX11_isIn 1 = .ok (.iload_n 1, 1) := by decide +kernel
theorem dX11_isIn_2 : decode cX11_isIn 2 = .ok (.ishr, 1) := by decide +kernel
theorem dX11_isIn_3 : decode cX11_isIn 3 = .ok (.iconst 1, 1) := by decide +kernel
theorem dX11_isIn_4 : decode cX11_isIn 4 = .ok (.iand, 1) := by decide +kernel
theorem dX11_isIn_5 : decode cX11_isIn 5 = .ok (.ifCond .eq 7, 3) := by decide +kernel
theorem dX11_isIn_8 : decode cX11_isIn 8 = .ok (.iconst 1, 1) := by decide +kernel
theorem dX11_isIn_9 : decode cX11_isIn 9 = .ok (.goto 4, 3) := by decide +kernel
theorem dX11_isIn_12 : decode cX11_isIn 12 = .ok (.iconst 0, 1) := by decide +kernel
theorem dX11_isIn_13 : decode cX11_isIn 13 = .ok (.ireturn, 1) := by decide +kernel
theorem dX11_marry_0 : decode cX11_marry 0 = .ok (.aload_n 0, 1) := by decide +kernel
theorem dX11_marry_1 : decode cX11_marry 1 = .ok (.iload_n 1, 1) := by decide +kernel
theorem dX11_marry_2 : decode cX11_marry 2 = .ok (.invokevirtual 164, 3) := by decide +kernel
theorem dX11_marry_5 : decode cX11_marry 5 = .ok (.aload_n 0, 1) := by decide +kernel
theorem dX11_marry_6 : decode cX11_marry 6 = .ok (.iload_n 2, 1) := by decide +kernel
theorem dX11_marry_7 : decode cX11_marry 7 = .ok (.invokevirtual 164, 3) := by decide +kernel
theorem dX11_marry_10 : decode cX11_marry 10 = .ok (.aload_n 0, 1) := by decide +kernel
theorem dX11_marry_11 : decode cX11_marry 11 = .ok (.getfield 33, 3) := by decide +kernel
theorem dX11_marry_14 : decode cX11_marry 14 = .ok (.iload_n 1, 1) := by decide +kernel
theorem dX11_marry_15 : decode cX11_marry 15 = .ok (.iload_n 2, 1) := by decide +kernel
theorem dX11_marry_16 : decode cX11_marry 16 = .ok (.invokevirtual 241, 3) := by decide +kernel
theorem dX11_marry_19 : decode cX11_marry 19 = .ok (.ifCond .ne 9, 3) := by decide +kernel
theorem dX11_marry_22 : decode cX11_marry 22 = .ok (.aload_n 0, 1) := by decide +kernel
theorem dX11_marry_23 : decode cX11_marry 23 = .ok (.invokevirtual 227, 3) := by decide +kernel
theorem dX11_marry_26 : decode cX11_marry 26 = .ok (.iconst (-1), 1) := by decide +kernel
theorem dX11_marry_27 : decode cX11_marry 27 = .ok (.ireturn, 1) := by decide +kernel
theorem dX11_marry_28 : decode cX11_marry 28 = .ok (.aload_n 0, 1) := by decide +kernel
theorem dX11_marry_29 : decode cX11_marry 29 = .ok (.getfield 40, 3) := by decide +kernel
theorem dX11_marry_32 : decode cX11_marry 32 = .ok (.iconst 3, 1) := by decide +kernel
theorem dX11_marry_33 : decode cX11_marry 33 = .ok (.iload_n 1, 1) := by decide +kernel
theorem dX11_marry_34 : decode cX11_marry 34 = .ok (.iload_n 2, 1) := by decide +kernel
theorem dX11_marry_35 : decode cX11_marry 35 = .ok (.aload_n 0, 1) := by decide +kernel
theorem dX11_marry_36 : decode cX11_marry 36 = .ok (.getfield 33, 3) := by decide +kernel
theorem dX11_marry_39 : decode cX11_marry 39 = .ok (.getfield 170, 3) := by decide +kernel
theorem dX11_marry_42 : decode cX11_marry 42 = .ok (.iload_n 2, 1) := by decide +kernel
theorem dX11_marry_43 : decode cX11_marry 43 = .ok (.iaload, 1) := by decide +kernel
theorem dX11_marry_44 : decode cX11_marry 44 = .ok (.invokevirtual 230, 3) := by decide +kernel
theorem dX11_marry_47 : decode cX11_marry 47 = .ok (.aload_n 0, 1) := by decide +kernel
theorem dX11_marry_48 : decode cX11_marry 48 = .ok (.getfield 33, 3) := by decide +kernel
theorem dX11_marry_51 : decode cX11_marry 51 = .ok (.iload_n 1, 1) := by decide +kernel
theorem dX11_marry_52 : decode cX11_marry 52 = .ok (.iload_n 2, 1) := by decide +kernel
theorem dX11_marry_53 : decode cX11_marry 53 = .ok (.invokevirtual 244, 3) := by decide +kernel
theorem dX11_marry_56 : decode cX11_marry 56 = .ok (.aload_n 0, 1) := by decide +kernel
theorem dX11_marry_57 : decode cX11_marry 57 = .ok (.getfield 33, 3) := by decide +kernel
theorem dX11_marry_60 : decode cX11_marry 60 = .ok (.getfield 134, 3) := by decide +kernel
theorem dX11_marry_63 : decode cX11_marry 63 = .ok (.ireturn, 1) := by decide +kernel
theorem dX11_quarrel_0 : decode cX11_quarrel 0 = .ok (.aload_n 0, 1) := by decide +kernel
theorem dX11_quarrel_1 : decode cX11_quarrel 1 = .ok (.iload_n 1, 1) := by decide +kernel
theorem dX11_quarrel_2 : decode cX11_quarrel 2 = .ok (.invokevirtual 164, 3) := by decide +kernel
theorem dX11_quarrel_5 : decode cX11_quarrel 5 = .ok (.aload_n 0, 1) := by decide +kernel
theorem dX11_quarrel_6 : decode cX11_quarrel 6 = .ok (.iload_n 2, 1) := by decide +kernel
theorem dX11_quarrel_7 : decode cX11_quarrel 7 = .ok (.invokevirtual 164, 3) := by decide +kernel
theorem dX11_quarrel_10 : decode cX11_quarrel 10 = .ok (.aload_n 0, 1) := by decide +kernel
theorem dX11_quarrel_11 : decode cX11_quarrel 11 = .ok (.getfield 33, 3) := by decide +kernel
theorem dX11_quarrel_14 : decode cX11_quarrel 14 = .ok (.getfield 127, 3) := by decide +kernel
theorem dX11_quarrel_17 : decode cX11_quarrel 17 = .ok (.astore_n 3, 1) := by decide +kernel
theorem dX11_quarrel_18 : decode cX11_quarrel 18 = .ok (.iload_n 1, 1) := by decide +kernel
theorem dX11_quarrel_19 : decode cX11_quarrel 19 = .ok (.iload_n 2, 1) := by decide +kernel
theorem dX11_quarrel_20 : decode cX11_quarrel 20 = .ok (.if_icmp .eq 21, 3) := by decide +kernel
theorem dX11_quarrel_23 : decode cX11_quarrel 23 = .ok (.aload_n 3, 1) := by decide +kernel
theorem dX11_quarrel_24 : decode cX11_quarrel 24 = .ok (.iload_n 1, 1) := by decide +kernel
theorem dX11_quarrel_25 : decode cX11_quarrel 25 = .ok (.iload_n 2, 1) := by decide +kernel
theorem dX11_quarrel_26 : decode cX11_quarrel 26 = .ok (.invokevirtual 247, 3) := by decide +kernel
theorem dX11_quarrel_29 : decode cX11_quarrel 29 = .ok (.ifCond .ne 12, 3) := by decide +kernel
theorem dX11_quarrel_32 : decode cX11_quarrel 32 = .ok (.aload_n 3, 1) := by decide +kernel
theorem dX11_quarrel_33 : decode cX11_quarrel 33 = .ok (.getfield 131, 3) := by decide +kernel
theorem dX11_quarrel_36 : decode cX11_quarrel 36 = .ok (.bipush 6, 2) := by decide +kernel
theorem dX11_quarrel_38 : decode cX11_quarrel 38 = .ok (.if_icmp .lt 9, 3) := by decide +kernel
theorem dX11_quarrel_41 : decode cX11_quarrel 41 = .ok (.aload_n 0, 1) := by decide +kernel
theorem dX11_quarrel_42 : decode cX11_quarrel 42 = .ok (.invokevirtual 227, 3) := by decide +kernel
theorem dX11_quarrel_45 : decode cX11_quarrel 45 = .ok (.iconst (-1), 1) := by decide +kernel
theorem dX11_quarrel_46 : decode cX11_quarrel 46 = .ok (.ireturn, 1) := by decide +kernel
theorem dX11_quarrel_47 : decode cX11_quarrel 47 = .ok (.aload_n 3, 1) := by decide +kernel
theorem dX11_quarrel_48 : decode cX11_quarrel 48 = .ok (.aload_n 3, 1) := by decide +kernel
theorem dX11_quarrel_49 : decode cX11_quarrel 49 = .ok (.getfield 131, 3) := by decide +kernel
theorem dX11_quarrel_52 : decode cX11_quarrel 52 = .ok (.iload_n 1, 1) := by decide +kernel
theorem dX11_quarrel_53 : decode cX11_quarrel 53 = .ok (.iload_n 2, 1) := by decide +kernel
theorem dX11_quarrel_54 : decode cX11_quarrel 54 = .ok (.invokevirtual 250, 3) := by decide +kernel
theorem dX11_quarrel_57 : decode cX11_quarrel 57 = .ok (.aload_n 0, 1) := by decide +kernel
theorem dX11_quarrel_58 : decode cX11_quarrel 58 = .ok (.getfield 40, 3) := by decide +kernel
theorem dX11_quarrel_61 : decode cX11_quarrel 61 = .ok (.iconst 4, 1) := by decide +kernel
theorem dX11_quarrel_62 : decode cX11_quarrel 62 = .ok (.iconst 0, 1) := by decide +kernel
theorem dX11_quarrel_63 : decode cX11_quarrel 63 = .ok (.iconst 0, 1) := by decide +kernel
theorem dX11_quarrel_64 : decode cX11_quarrel 64 = .ok (.iconst 0, 1) := by decide +kernel
theorem dX11_quarrel_65 : decode cX11_quarrel 65 = .ok (.invokevirtual 230, 3) := by decide +kernel
theorem dX11_quarrel_68 : decode cX11_quarrel 68 = .ok (.aload_n 3, 1) := by decide +kernel
theorem dX11_quarrel_69 : decode cX11_quarrel 69 = .ok (.getfield 131, 3) := by decide +kernel
theorem dX11_quarrel_72 : decode cX11_quarrel 72 = .ok (.iconst 1, 1) := by decide +kernel
theorem dX11_quarrel_73 : decode cX11_quarrel 73 = .ok (.isub, 1) := by decide +kernel
theorem dX11_quarrel_74 : decode cX11_quarrel 74 = .ok (.ireturn, 1) := by decide +kernel
theorem dX11_peace_0 : decode cX11_peace 0 = .ok (.aload_n 0, 1) := by decide +kernel
theorem dX11_peace_1 : decode cX11_peace 1 = .ok (.getfield 33, 3) := by decide +kernel
theorem dX11_peace_4 : decode cX11_peace 4 = .ok (.getfield 127, 3) := by decide +kernel
theorem dX11_peace_7 : decode cX11_peace 7 = .ok (.astore_n 2, 1) := by decide +kernel
theorem dX11_peace_8 : decode cX11_peace 8 = .ok (.aload_n 2, 1) := by decide +kernel
theorem dX11_peace_9 : decode cX11_peace 9 = .ok (.iload_n 1, 1) := by decide +kernel
theorem dX11_peace_10 : decode cX11_peace 10 = .ok (.invokevirtual 202, 3) := by decide +kernel
theorem dX11_peace_13 : decode cX11_peace 13 = .ok (.ifCond .ne 9, 3) := by decide +kernel
theorem dX11_peace_16 : decode cX11_peace 16 = .ok (.aload_n 0, 1) := by decide +kernel
theorem dX11_peace_17 : decode cX11_peace 17 = .ok (.invokevirtual 227, 3) := by decide +kernel
theorem dX11_peace_20 : decode cX11_peace 20 = .ok (.iconst 0, 1) := by decide +kernel
theorem dX11_peace_21 : decode cX11_peace 21 = .ok (.ireturn, 1) := by decide +kernel
theorem dX11_peace_22 : decode cX11_peace 22 = .ok (.aload_n 0, 1) := by decide +kernel
theorem dX11_peace_23 : decode cX11_peace 23 = .ok (.getfield 40, 3) := by decide +kernel
theorem dX11_peace_26 : decode cX11_peace 26 = .ok (.iconst 5, 1) := by decide +kernel
theorem dX11_peace_27 : decode cX11_peace 27 = .ok (.iload_n 1, 1) := by decide +kernel
theorem dX11_peace_28 : decode cX11_peace 28 = .ok (.aload_n 2, 1) := by decide +kernel
theorem dX11_peace_29 : decode cX11_peace 29 = .ok (.getfield 207, 3) := by decide +kernel
theorem dX11_peace_32 : decode cX11_peace 32 = .ok (.iload_n 1, 1) := by decide +kernel
theorem dX11_peace_33 : decode cX11_peace 33 = .ok (.iaload, 1) := by decide +kernel
theorem dX11_peace_34 : decode cX11_peace 34 = .ok (.aload_n 2, 1) := by decide +kernel
theorem dX11_peace_35 : decode cX11_peace 35 = .ok (.getfield 210, 3) := by decide +kernel
theorem dX11_peace_38 : decode cX11_peace 38 = .ok (.iload_n 1, 1) := by decide +kernel
theorem dX11_peace_39 : decode cX11_peace 39 = .ok (.iaload, 1) := by decide +kernel
theorem dX11_peace_40 : decode cX11_peace 40 = .ok (.invokevirtual 230, 3) := by decide +kernel
theorem dX11_peace_43 : decode cX11_peace 43 = .ok (.aload_n 2, 1) := by decide +kernel
theorem dX11_peace_44 : decode cX11_peace 44 = .ok (.iload_n 1, 1) := by decide +kernel
theorem dX11_peace_45 : decode cX11_peace 45 = .ok (.invokevirtual 254, 3) := by decide +kernel
theorem dX11_peace_48 : decode cX11_peace 48 = .ok (.iconst 1, 1) := by decide +kernel
theorem dX11_peace_49 : decode cX11_peace 49 = .ok (.ireturn, 1) := by decide +kernel
theorem dX11_undo_0 : decode cX11_undo 0 = .ok (.aload_n 0, 1) := by decide +kernel
theorem dX11_undo_1 : decode cX11_undo 1 = .ok (.getfield 40, 3) := by decide +kernel
theorem dX11_undo_4 : decode cX11_undo 4 = .ok (.getfield 113, 3) := by decide +kernel
theorem dX11_undo_7 : decode cX11_undo 7 = .ok (.ifCond .gt 5, 3) := by decide +kernel
theorem dX11_undo_10 : decode cX11_undo 10 = .ok (.iconst (-1), 1) := by decide +kernel
theorem dX11_undo_11 : decode cX11_undo 11 = .ok (.ireturn, 1) := by decide +kernel
theorem dX11_undo_12 : decode cX11_undo 12 = .ok (.aload_n 0, 1) := by decide +kernel
theorem dX11_undo_13 : decode cX11_undo 13 = .ok (.getfield 40, 3) := by decide +kernel
theorem dX11_undo_16 : decode cX11_undo 16 = .ok (.dup, 1) := by decide +kernel
theorem dX11_undo_17 : decode cX11_undo 17 = .ok (.getfield 113, 3) := by decide +kernel
theorem dX11_undo_20 : decode cX11_undo 20 = .ok (.iconst 1, 1) := by decide +kernel
theorem dX11_undo_21 : decode cX11_undo 21 = .ok (.isub, 1) := by decide +kernel
theorem dX11_undo_22 : decode cX11_undo 22 = .ok (.putfield 113, 3) := by decide +kernel
theorem dX11_undo_25 : decode cX11_undo 25 = .ok (.aload_n 0, 1) := by decide +kernel
theorem dX11_undo_26 : decode cX11_undo 26 = .ok (.getfield 33, 3) := by decide +kernel
theorem dX11_undo_29 : decode cX11_undo 29 = .ok (.aload_n 0, 1) := by decide +kernel
theorem dX11_undo_30 : decode cX11_undo 30 = .ok (.getfield 40, 3) := by decide +kernel
theorem dX11_undo_33 : decode cX11_undo 33 = .ok (.aload_n 0, 1) := by decide +kernel
theorem dX11_undo_34 : decode cX11_undo 34 = .ok (.getfield 40, 3) := by decide +kernel
theorem dX11_undo_37 : decode cX11_undo 37 = .ok (.getfield 113, 3) := by decide +kernel
theorem dX11_undo_40 : decode cX11_undo 40 = .ok (.invokevirtual 257, 3) := by decide +kernel
theorem dX11_undo_43 : decode cX11_undo 43 = .ok (.aload_n 0, 1) := by decide +kernel
theorem dX11_undo_44 : decode cX11_undo 44 = .ok (.getfield 40, 3) := by decide +kernel
theorem dX11_undo_47 : decode cX11_undo 47 = .ok (.getfield 113, 3) := by decide +kernel
theorem dX11_undo_50 : decode cX11_undo 50 = .ok (.ireturn, 1) := by decide +kernel
theorem dX11_found_0 : decode cX11_found 0 = .ok (.iload_n 3, 1) := by decide +kernel
theorem dX11_found_1 : decode cX11_found 1 = .ok (.iconst 1, 1) := by decide +kernel
theorem dX11_found_2 : decode cX11_found 2 = .ok (.invokestatic 198, 3) := by decide +kernel
theorem dX11_found_5 : decode cX11_found 5 = .ok (.aload_n 0, 1) := by decide +kernel
theorem dX11_found_6 : decode cX11_found 6 = .ok (.iload_n 1, 1) := by decide +kernel
theorem dX11_found_7 : decode cX11_found 7 = .ok (.iload_n 2, 1) := by decide +kernel
theorem dX11_found_8 : decode cX11_found 8 = .ok (.invokevirtual 261, 3) := by decide +kernel
theorem dX11_found_11 : decode cX11_found 11 = .ok (.iload_n 3, 1) := by decide +kernel
theorem dX11_found_12 : decode cX11_found 12 = .ok (.iconst 1, 1) := by decide +kernel
theorem dX11_found_13 : decode cX11_found 13 = .ok (.if_icmp .ne 17, 3) := by decide +kernel
theorem dX11_found_16 : decode cX11_found 16 = .ok (.aload_n 0, 1) := by decide +kernel
theorem dX11_found_17 : decode cX11_found 17 = .ok (.getfield 33, 3) := by decide +kernel
theorem dX11_found_20 : decode cX11_found 20 = .ok (.iconst 0, 1) := by decide +kernel
theorem dX11_found_21 : decode cX11_found 21 = .ok (.aload_n 0, 1) := by decide +kernel
theorem dX11_found_22 : decode cX11_found 22 = .ok (.getfield 79, 3) := by decide +kernel
theorem dX11_found_25 : decode cX11_found 25 = .ok (.iload_n 2, 1) := by decide +kernel
theorem dX11_found_26 : decode cX11_found 26 = .ok (.invokevirtual 264, 3) := by decide +kernel
theorem dX11_found_29 : decode cX11_found 29 = .ok (.ireturn, 1) := by decide +kernel
theorem dX11_found_30 : decode cX11_found 30 = .ok (.iconst 0, 1) := by decide +kernel
theorem dX11_found_31 : decode cX11_found 31 = .ok (.istore 4, 2) := by decide +kernel
theorem dX11_found_33 : decode cX11_found 33 = .ok (.iconst 0, 1) := by decide +kernel
theorem dX11_found_34 : decode cX11_found 34 = .ok (.istore 5, 2) := by decide +kernel
theorem dX11_found_36 : decode cX11_found 36 = .ok (.iload 5, 2) := by decide +kernel
theorem dX11_found_38 : decode cX11_found 38 = .ok (.aload_n 0, 1) := by decide +kernel
theorem dX11_found_39 : decode cX11_found 39 = .ok (.getfield 33, 3) := by decide +kernel
theorem dX11_found_42 : decode cX11_found 42 = .ok (.getfield 140, 3) := by decide +kernel
theorem dX11_found_45 : decode cX11_found 45 = .ok (.if_icmp .ge 29, 3) := by decide +kernel
theorem dX11_found_48 : decode cX11_found 48 = .ok (.aload_n 0, 1) := by decide +kernel
theorem dX11_found_49 : decode cX11_found 49 = .ok (.getfield 33, 3) := by decide +kernel
theorem dX11_found_52 : decode cX11_found 52 = .ok (.iload 5, 2) := by decide +kernel
theorem dX11_found_54 : decode cX11_found 54 = .ok (.aload_n 0, 1) := by decide +kernel
theorem dX11_found_55 : decode cX11_found 55 = .ok (.getfield 79, 3) := by decide +kernel
theorem dX11_found_58 : decode cX11_found 58 = .ok (.iload_n 2, 1) := by decide +kernel
theorem dX11_found_59 : decode cX11_found 59 = .ok (.invokevirtual 268, 3) := by decide +kernel
theorem dX11_found_62 : decode cX11_found 62 = .ok (.ifCond .eq 6, 3) := by decide +kernel
theorem dX11_found_65 : decode cX11_found 65 = .ok (.iinc 4 1, 3) := by decide +kernel
theorem dX11_found_68 : decode cX11_found 68 = .ok (.iinc 5 1, 3) := by decide +kernel
theorem dX11_found_71 : decode cX11_found 71 = .ok (.goto (-35), 3) := by decide +kernel
theorem dX11_found_74 : decode cX11_found 74 = .ok (.iload 4, 2) := by decide +kernel
theorem dX11_found_76 : decode cX11_found 76 = .ok (.ireturn, 1) := by decide +kernel
theorem dX11_spell_0 : decode cX11_spell 0 = .ok (.iload_n 2, 1) := by decide +kernel
theorem dX11_spell_1 : decode cX11_spell 1 = .ok (.iconst 1, 1) := by decide +kernel
theorem dX11_spell_2 : decode cX11_spell 2 = .ok (.if_icmp .lt 13, 3) := by decide +kernel
theorem dX11_spell_5 : decode cX11_spell 5 = .ok (.iload_n 2, 1) := by decide +kernel
theorem dX11_spell_6 : decode cX11_spell 6 = .ok (.bipush 7, 2) := by decide +kernel
theorem dX11_spell_8 : decode cX11_spell 8 = .ok (.if_icmp .gt 7, 3) := by decide +kernel
theorem dX11_spell_11 : decode cX11_spell 11 = .ok (.iload_n 1, 1) := by decide +kernel
theorem dX11_spell_12 : decode cX11_spell 12 = .ok (.ifCond .ge 14, 3) := by decide +kernel
theorem dX11_spell_15 : decode cX11_spell 15 = .ok (.new 95, 3) := by decide +kernel
theorem dX11_spell_18 : decode cX11_spell 18 = .ok (.dup, 1) := by decide +kernel
theorem dX11_spell_19 : decode cX11_spell 19 = .ok (.ldc_w 272, 3) := by decide +kernel
theorem dX11_spell_22 : decode cX11_spell 22 = .ok (.invokespecial 99, 3) := by decide +kernel
theorem dX11_spell_25 : decode cX11_spell 25 = .ok (.athrow, 1) := by decide +kernel
theorem dX11_spell_26 : decode cX11_spell 26 = .ok (.iload_n 1, 1) := by decide +kernel
theorem dX11_spell_27 : decode cX11_spell 27 = .ok (.istore_n 3, 1) := by decide +kernel
theorem dX11_spell_28 : decode cX11_spell 28 = .ok (.iload_n 2, 1) := by decide +kernel
theorem dX11_spell_29 : decode cX11_spell 29 = .ok (.iconst 1, 1) := by decide +kernel
theorem dX11_spell_30 : decode cX11_spell 30 = .ok (.isub, 1) := by decide +kernel
theorem dX11_spell_31 : decode cX11_spell 31 = .ok (.istore 4, 2) := by decide +kernel
theorem dX11_spell_33 : decode cX11_spell 33 = .ok (.iload 4, 2) := by decide +kernel
theorem dX11_spell_35 : decode cX11_spell 35 = .ok (.ifCond .lt 25, 3) := by decide +kernel
theorem dX11_spell_38 : decode cX11_spell 38 = .ok (.aload_n 0, 1) := by decide +kernel
theorem dX11_spell_39 : decode cX11_spell 39 = .ok (.getfield 79, 3) := by decide +kernel
theorem dX11_spell_42 : decode cX11_spell 42 = .ok (.iload 4, 2) := by decide +kernel
theorem dX11_spell_44 : decode cX11_spell 44 = .ok (.iload_n 3, 1) := by decide +kernel
theorem dX11_spell_45 : decode cX11_spell 45 = .ok (.bipush 13, 2) := by decide +kernel
theorem dX11_spell_47 : decode cX11_spell 47 = .ok (.irem, 1) := by decide +kernel
theorem dX11_spell_48 : decode cX11_spell 48 = .ok (.iastore, 1) := by decide +kernel
theorem dX11_spell_49 : decode cX11_spell 49 = .ok (.iload_n 3, 1) := by decide +kernel
theorem dX11_spell_50 : decode cX11_spell 50 = .ok (.bipush 13, 2) := by decide +kernel
theorem dX11_spell_52 : decode cX11_spell 52 = .ok (.idiv, 1) := by decide +kernel
theorem dX11_spell_53 : decode cX11_spell 53 = .ok (.istore_n 3, 1) := by decide +kernel
theorem dX11_spell_54 : decode cX11_spell 54 = .ok (.iinc 4 (-1), 3) := by decide +kernel
theorem dX11_spell_57 : decode cX11_spell 57 = .ok (.goto (-24), 3) := by decide +kernel
theorem dX11_spell_60 : decode cX11_spell 60 = .ok (.iload_n 3, 1) := by decide +kernel
theorem dX11_spell_61 : decode cX11_spell 61 = .ok (.ifCond .eq 14, 3) := by decide +kernel
theorem dX11_spell_64 : decode cX11_spell 64 = .ok (.new 95, 3) := by decide +kernel
theorem dX11_spell_67 : decode cX11_spell 67 = .ok (.dup, 1) := by decide +kernel
theorem dX11_spell_68 : decode cX11_spell 68 = .ok (.ldc_w 274, 3) := by decide +kernel
theorem dX11_spell_71 : decode cX11_spell 71 = .ok (.invokespecial 99, 3) := by decide +kernel
theorem dX11_spell_74 : decode cX11_spell 74 = .ok (.athrow, 1) := by decide +kernel
theorem dX11_spell_75 : decode cX11_spell 75 = .ok (.return_, 1) := by decide +kernel
theorem dX11_again_0 : decode cX11_again 0 = .ok (.iload_n 1, 1) := by decide +kernel
theorem dX11_again_1 : decode cX11_again 1 = .ok (.iconst 1, 1) := by decide +kernel
theorem dX11_again_2 : decode cX11_again 2 = .ok (.invokestatic 198, 3) := by decide +kernel
theorem dX11_again_5 : decode cX11_again 5 = .ok (.iconst 0, 1) := by decide +kernel
theorem dX11_again_6 : decode cX11_again 6 = .ok (.istore_n 2, 1) := by decide +kernel
theorem dX11_again_7 : decode cX11_again 7 = .ok (.iconst (-1), 1) := by decide +kernel
theorem dX11_again_8 : decode cX11_again 8 = .ok (.istore_n 3, 1) := by decide +kernel
theorem dX11_again_9 : decode cX11_again 9 = .ok (.iconst 0, 1) := by decide +kernel
theorem dX11_again_10 : decode cX11_again 10 = .ok (.istore 4, 2) := by decide +kernel
theorem dX11_again_12 : decode cX11_again 12 = .ok (.iload 4, 2) := by decide +kernel
theorem dX11_again_14 : decode cX11_again 14 = .ok (.aload_n 0, 1) := by decide +kernel
theorem dX11_again_15 : decode cX11_again 15 = .ok (.getfield 33, 3) := by decide +kernel
theorem dX11_again_18 : decode cX11_again 18 = .ok (.getfield 140, 3) := by decide +kernel
theorem dX11_again_21 : decode cX11_again 21 = .ok (.if_icmp .gt 17, 3) := by decide +kernel
theorem dX11_again_24 : decode cX11_again 24 = .ok (.aload_n 0, 1) := by decide +kernel
theorem dX11_again_25 : decode cX11_again 25 = .ok (.getfield 82, 3) := by decide +kernel
theorem dX11_again_28 : decode cX11_again 28 = .ok (.iload 4, 2) := by decide +kernel
theorem dX11_again_30 : decode cX11_again 30 = .ok (.iconst 0, 1) := by decide +kernel
theorem dX11_again_31 : decode cX11_again 31 = .ok (.iastore, 1) := by decide +kernel
theorem dX11_again_32 : decode cX11_again 32 = .ok (.iinc 4 1, 3) := by decide +kernel
theorem dX11_again_35 : decode cX11_again 35 = .ok (.goto (-23), 3) := by decide +kernel
theorem dX11_again_38 : decode cX11_again 38 = .ok (.aload_n 0, 1) := by decide +kernel
theorem dX11_again_39 : decode cX11_again 39 = .ok (.getfield 33, 3) := by decide +kernel
theorem dX11_again_42 : decode cX11_again 42 = .ok (.getfield 140, 3) := by decide +kernel
theorem dX11_again_45 : decode cX11_again 45 = .ok (.iconst 1, 1) := by decide +kernel
theorem dX11_again_46 : decode cX11_again 46 = .ok (.isub, 1) := by decide +kernel
theorem dX11_again_47 : decode cX11_again 47 = .ok (.istore 4, 2) := by decide +kernel
theorem dX11_again_49 : decode cX11_again 49 = .ok (.iload 4, 2) := by decide +kernel
theorem dX11_again_51 : decode cX11_again 51 = .ok (.ifCond .lt 34, 3) := by decide +kernel
theorem dX11_again_54 : decode cX11_again 54 = .ok (.aload_n 0, 1) := by decide +kernel
theorem dX11_again_55 : decode cX11_again 55 = .ok (.iload 4, 2) := by decide +kernel
theorem dX11_again_57 : decode cX11_again 57 = .ok (.invokevirtual 276, 3) := by decide +kernel
theorem dX11_again_60 : decode cX11_again 60 = .ok (.istore 5, 2) := by decide +kernel
theorem dX11_again_62 : decode cX11_again 62 = .ok (.iload 5, 2) := by decide +kernel
theorem dX11_again_64 : decode cX11_again 64 = .ok (.ifCond .le 15, 3) := by decide +kernel
theorem dX11_again_67 : decode cX11_again 67 = .ok (.iload 5, 2) := by decide +kernel
theorem dX11_again_69 : decode cX11_again 69 = .ok (.iload_n 2, 1) := by decide +kernel
theorem dX11_again_70 : decode cX11_again 70 = .ok (.if_icmp .lt 9, 3) := by decide +kernel
theorem dX11_again_73 : decode cX11_again 73 = .ok (.iload 5, 2) := by decide +kernel
theorem dX11_again_75 : decode cX11_again 75 = .ok (.istore_n 2, 1) := by decide +kernel
theorem dX11_again_76 : decode cX11_again 76 = .ok (.iload 4, 2) := by decide +kernel
theorem dX11_again_78 : decode cX11_again 78 = .ok (.istore_n 3, 1) := by decide +kernel
theorem dX11_again_79 : decode cX11_again 79 = .ok (.iinc 4 (-1), 3) := by decide +kernel
theorem dX11_again_82 : decode cX11_again 82 = .ok (.goto (-33), 3) := by decide +kernel
theorem dX11_again_85 : decode cX11_again 85 = .ok (.iload_n 1, 1) := by decide +kernel
theorem dX11_again_86 : decode cX11_again 86 = .ok (.ifCond .ne 7, 3) := by decide +kernel
theorem dX11_again_89 : decode cX11_again 89 = .ok (.iload_n 2, 1) := by decide +kernel
theorem dX11_again_90 : decode cX11_again 90 = .ok (.goto 4, 3) := by decide +kernel
theorem dX11_again_93 : decode cX11_again 93 = .ok (.iload_n 3, 1) := by decide +kernel
theorem dX11_again_94 : decode cX11_again 94 = .ok (.ireturn, 1) := by decide +kernel
theorem dX11_meetLater_0 : decode cX11_meetLater 0 = .ok (.iconst 0, 1) := by decide +kernel
theorem dX11_meetLater_1 : decode cX11_meetLater 1 = .ok (.istore_n 2, 1) := by decide +kernel
theorem dX11_meetLater_2 : decode cX11_meetLater 2 = .ok (.aload_n 0, 1) := by decide +kernel
theorem dX11_meetLater_3 : decode cX11_meetLater 3 = .ok (.getfield 33, 3) := by decide +kernel
theorem dX11_meetLater_6 : decode cX11_meetLater 6 = .ok (.getfield 215, 3) := by decide +kernel
theorem dX11_meetLater_9 : decode cX11_meetLater 9 = .ok (.iload_n 1, 1) := by decide +kernel
theorem dX11_meetLater_10 : decode cX11_meetLater 10 = .ok (.iaload, 1) := by decide +kernel
theorem dX11_meetLater_11 : decode cX11_meetLater 11 = .ok (.istore_n 3, 1) := by decide +kernel
theorem dX11_meetLater_12 : decode cX11_meetLater 12 = .ok (.iload_n 1, 1) := by decide +kernel
theorem dX11_meetLater_13 : decode cX11_meetLater 13 = .ok (.iconst 1, 1) := by decide +kernel
theorem dX11_meetLater_14 : decode cX11_meetLater 14 = .ok (.iadd, 1) := by decide +kernel
theorem dX11_meetLater_15 : decode cX11_meetLater 15 = .ok (.istore 4, 2) := by decide +kernel
theorem dX11_meetLater_17 : decode cX11_meetLater 17 = .ok (.iload 4, 2) := by decide +kernel
theorem dX11_meetLater_19 : decode cX11_meetLater 19 = .ok (.aload_n 0, 1) := by decide +kernel
theorem dX11_meetLater_20 : decode cX11_meetLater 20 = .ok (.getfield 33, 3) := by decide +kernel
theorem dX11_meetLater_23 : decode cX11_meetLater 23 = .ok (.getfield 140, 3) := by decide +kernel
theorem dX11_meetLater_26 : decode cX11_meetLater 26 = .ok (.if_icmp .ge 57, 3) := by decide +kernel
theorem dX11_meetLater_29 : decode cX11_meetLater 29 = .ok (.aload_n 0, 1) := by decide +kernel
theorem dX11_meetLater_30 : decode cX11_meetLater 30 = .ok (.getfield 82, 3) := by decide +kernel
theorem dX11_meetLater_33 : decode cX11_meetLater 33 = .ok (.iload 4, 2) := by decide +kernel
theorem dX11_meetLater_35 : decode cX11_meetLater 35 = .ok (.aload_n 0, 1) := by decide +kernel
theorem dX11_meetLater_36 : decode cX11_meetLater 36 = .ok (.getfield 33, 3) := by decide +kernel
theorem dX11_meetLater_39 : decode cX11_meetLater 39 = .ok (.getfield 215, 3) := by decide +kernel
theorem dX11_meetLater_42 : decode cX11_meetLater 42 = .ok (.iload 4, 2) := by decide +kernel
theorem dX11_meetLater_44 : decode cX11_meetLater 44 = .ok (.iaload, 1) := by decide +kernel
theorem dX11_meetLater_45 : decode cX11_meetLater 45 = .ok (.iload_n 3, 1) := by decide +kernel
theorem dX11_meetLater_46 : decode cX11_meetLater 46 = .ok (.if_icmp .ne 17, 3) := by decide +kernel
theorem dX11_meetLater_49 : decode cX11_meetLater 49 = .ok (.aload_n 0, 1) := by decide +kernel
theorem dX11_meetLater_50 : decode cX11_meetLater 50 = .ok (.getfield 82, 3) := by decide +kernel
theorem dX11_meetLater_53 : decode cX11_meetLater 53 = .ok (.iload 4, 2) := by decide +kernel
theorem dX11_meetLater_55 : decode cX11_meetLater 55 = .ok (.iconst 1, 1) := by decide +kernel
theorem dX11_meetLater_56 : decode cX11_meetLater 56 = .ok (.iadd, 1) := by decide +kernel
theorem dX11_meetLater_57 : decode cX11_meetLater 57 = .ok (.iaload, 1) := by decide +kernel
theorem dX11_meetLater_58 : decode cX11_meetLater 58 = .ok (.iconst 1, 1) := by decide +kernel
theorem dX11_meetLater_59 : decode cX11_meetLater 59 = .ok (.iadd, 1) := by decide +kernel
theorem dX11_meetLater_60 : decode cX11_meetLater 60 = .ok (.goto 4, 3) := by decide +kernel
theorem dX11_meetLater_63 : decode cX11_meetLater 63 = .ok (.iconst 0, 1) := by decide +kernel
theorem dX11_meetLater_64 : decode cX11_meetLater 64 = .ok (.iastore, 1) := by decide +kernel
theorem dX11_meetLater_65 : decode cX11_meetLater 65 = .ok (.iload_n 2, 1) := by decide +kernel
theorem dX11_meetLater_66 : decode cX11_meetLater 66 = .ok (.aload_n 0, 1) := by decide +kernel
theorem dX11_meetLater_67 : decode cX11_meetLater 67 = .ok (.getfield 82, 3) := by decide +kernel
theorem dX11_meetLater_70 : decode cX11_meetLater 70 = .ok (.iload 4, 2) := by decide +kernel
theorem dX11_meetLater_72 : decode cX11_meetLater 72 = .ok (.iaload, 1) := by decide +kernel
theorem dX11_meetLater_73 : decode cX11_meetLater 73 = .ok (.invokestatic 279, 3) := by decide +kernel
theorem dX11_meetLater_76 : decode cX11_meetLater 76 = .ok (.istore_n 2, 1) := by decide +kernel
theorem dX11_meetLater_77 : decode cX11_meetLater 77 = .ok (.iinc 4 1, 3) := by decide +kernel
theorem dX11_meetLater_80 : decode cX11_meetLater 80 = .ok (.goto (-63), 3) := by decide +kernel
theorem dX11_meetLater_83 : decode cX11_meetLater 83 = .ok (.iload_n 2, 1) := by decide +kernel
theorem dX11_meetLater_84 : decode cX11_meetLater 84 = .ok (.ireturn, 1) := by decide +kernel
theorem dX11_tritones_0 : decode cX11_tritones 0 = .ok (.aload_n 0, 1) := by decide +kernel
theorem dX11_tritones_1 : decode cX11_tritones 1 = .ok (.getfield 33, 3) := by decide +kernel
theorem dX11_tritones_4 : decode cX11_tritones 4 = .ok (.iconst 0, 1) := by decide +kernel
theorem dX11_tritones_5 : decode cX11_tritones 5 = .ok (.bipush 6, 2) := by decide +kernel
theorem dX11_tritones_7 : decode cX11_tritones 7 = .ok (.invokevirtual 285, 3) := by decide +kernel
theorem dX11_tritones_10 : decode cX11_tritones 10 = .ok (.ireturn, 1) := by decide +kernel
theorem dX11_interval_0 : decode cX11_interval 0 = .ok (.iload_n 1, 1) := by decide +kernel
theorem dX11_interval_1 : decode cX11_interval 1 = .ok (.ifCond .lt 9, 3) := by decide +kernel
theorem dX11_interval_4 : decode cX11_interval 4 = .ok (.iload_n 1, 1) := by decide +kernel
theorem dX11_interval_5 : decode cX11_interval 5 = .ok (.bipush 12, 2) := by decide +kernel
theorem dX11_interval_7 : decode cX11_interval 7 = .ok (.if_icmp .lt 14, 3) := by decide +kernel
theorem dX11_interval_10 : decode cX11_interval 10 = .ok (.new 95, 3) := by decide +kernel
theorem dX11_interval_13 : decode cX11_interval 13 = .ok (.dup, 1) := by decide +kernel
theorem dX11_interval_14 : decode cX11_interval 14 = .ok (.ldc_w 288, 3) := by decide +kernel
theorem dX11_interval_17 : decode cX11_interval 17 = .ok (.invokespecial 99, 3) := by decide +kernel
theorem dX11_interval_20 : decode cX11_interval 20 = .ok (.athrow, 1) := by decide +kernel
theorem dX11_interval_21 : decode cX11_interval 21 = .ok (.aload_n 0, 1) := by decide +kernel
theorem dX11_interval_22 : decode cX11_interval 22 = .ok (.getfield 33, 3) := by decide +kernel
theorem dX11_interval_25 : decode cX11_interval 25 = .ok (.iconst 0, 1) := by decide +kernel
theorem dX11_interval_26 : decode cX11_interval 26 = .ok (.iload_n 1, 1) := by decide +kernel
theorem dX11_interval_27 : decode cX11_interval 27 = .ok (.invokevirtual 285, 3) := by decide +kernel
theorem dX11_interval_30 : decode cX11_interval 30 = .ok (.ireturn, 1) := by decide +kernel
theorem dX11_own_0 : decode cX11_own 0 = .ok (.aload_n 0, 1) := by decide +kernel
theorem dX11_own_1 : decode cX11_own 1 = .ok (.iload_n 1, 1) := by decide +kernel
theorem dX11_own_2 : decode cX11_own 2 = .ok (.invokevirtual 164, 3) := by decide +kernel
theorem dX11_own_5 : decode cX11_own 5 = .ok (.iload_n 2, 1) := by decide +kernel
theorem dX11_own_6 : decode cX11_own 6 = .ok (.istore_n 3, 1) := by decide +kernel
theorem dX11_own_7 : decode cX11_own 7 = .ok (.iconst 0, 1) := by decide +kernel
theorem dX11_own_8 : decode cX11_own 8 = .ok (.istore 4, 2) := by decide +kernel
theorem dX11_own_10 : decode cX11_own 10 = .ok (.iload 4, 2) := by decide +kernel
theorem dX11_own_12 : decode cX11_own 12 = .ok (.aload_n 0, 1) := by decide +kernel
theorem dX11_own_13 : decode cX11_own 13 = .ok (.getfield 33, 3) := by decide +kernel
theorem dX11_own_16 : decode cX11_own 16 = .ok (.getfield 140, 3) := by decide +kernel
theorem dX11_own_19 : decode cX11_own 19 = .ok (.if_icmp .ge 45, 3) := by decide +kernel
theorem dX11_own_22 : decode cX11_own 22 = .ok (.iload_n 3, 1) := by decide +kernel
theorem dX11_own_23 : decode cX11_own 23 = .ok (.ifCond .lt 41, 3) := by decide +kernel
theorem dX11_own_26 : decode cX11_own 26 = .ok (.aload_n 0, 1) := by decide +kernel
theorem dX11_own_27 : decode cX11_own 27 = .ok (.getfield 33, 3) := by decide +kernel
theorem dX11_own_30 : decode cX11_own 30 = .ok (.getfield 218, 3) := by decide +kernel
theorem dX11_own_33 : decode cX11_own 33 = .ok (.iload 4, 2) := by decide +kernel
theorem dX11_own_35 : decode cX11_own 35 = .ok (.iaload, 1) := by decide +kernel
theorem dX11_own_36 : decode cX11_own 36 = .ok (.iload_n 1, 1) := by decide +kernel
theorem dX11_own_37 : decode cX11_own 37 = .ok (.if_icmp .ne 21, 3) := by decide +kernel
theorem dX11_own_40 : decode cX11_own 40 = .ok (.iload_n 3, 1) := by decide +kernel
theorem dX11_own_41 : decode cX11_own 41 = .ok (.ifCond .ne 14, 3) := by decide +kernel
theorem dX11_own_44 : decode cX11_own 44 = .ok (.aload_n 0, 1) := by decide +kernel
theorem dX11_own_45 : decode cX11_own 45 = .ok (.getfield 33, 3) := by decide +kernel
theorem dX11_own_48 : decode cX11_own 48 = .ok (.getfield 215, 3) := by decide +kernel
theorem dX11_own_51 : decode cX11_own 51 = .ok (.iload 4, 2) := by decide +kernel
theorem dX11_own_53 : decode cX11_own 53 = .ok (.iaload, 1) := by decide +kernel
theorem dX11_own_54 : decode cX11_own 54 = .ok (.ireturn, 1) := by decide +kernel
theorem dX11_own_55 : decode cX11_own 55 = .ok (.iinc 3 (-1), 3) := by decide +kernel
theorem dX11_own_58 : decode cX11_own 58 = .ok (.iinc 4 1, 3) := by decide +kernel
theorem dX11_own_61 : decode cX11_own 61 = .ok (.goto (-51), 3) := by decide +kernel
theorem dX11_own_64 : decode cX11_own 64 = .ok (.new 159, 3) := by decide +kernel
theorem dX11_own_67 : decode cX11_own 67 = .ok (.dup, 1) := by decide +kernel
theorem dX11_own_68 : decode cX11_own 68 = .ok (.ldc_w 290, 3) := by decide +kernel
theorem dX11_own_71 : decode cX11_own 71 = .ok (.invokespecial 163, 3) := by decide +kernel
theorem dX11_own_74 : decode cX11_own 74 = .ok (.athrow, 1) := by decide +kernel
theorem dX11_breath_0 : decode cX11_breath 0 = .ok (.iload_n 1, 1) := by decide +kernel
theorem dX11_breath_1 : decode cX11_breath 1 = .ok (.iconst 1, 1) := by decide +kernel
theorem dX11_breath_2 : decode cX11_breath 2 = .ok (.invokestatic 198, 3) := by decide +kernel
theorem dX11_breath_5 : decode cX11_breath 5 = .ok (.iconst 0, 1) := by decide +kernel
theorem dX11_breath_6 : decode cX11_breath 6 = .ok (.istore_n 2, 1) := by decide +kernel
theorem dX11_breath_7 : decode cX11_breath 7 = .ok (.iconst (-1), 1) := by decide +kernel
theorem dX11_breath_8 : decode cX11_breath 8 = .ok (.istore_n 3, 1) := by decide +kernel
theorem dX11_breath_9 : decode cX11_breath 9 = .ok (.iconst 0, 1) := by decide +kernel
theorem dX11_breath_10 : decode cX11_breath 10 = .ok (.istore 4, 2) := by decide +kernel
theorem dX11_breath_12 : decode cX11_breath 12 = .ok (.iconst 0, 1) := by decide +kernel
theorem dX11_breath_13 : decode cX11_breath 13 = .ok (.istore 5, 2) := by decide +kernel
theorem dX11_breath_15 : decode cX11_breath 15 = .ok (.iload 5, 2) := by decide +kernel
theorem dX11_breath_17 : decode cX11_breath 17 = .ok (.aload_n 0, 1) := by decide +kernel
theorem dX11_breath_18 : decode cX11_breath 18 = .ok (.getfield 33, 3) := by decide +kernel
theorem dX11_breath_21 : decode cX11_breath 21 = .ok (.getfield 140, 3) := by decide +kernel
theorem dX11_breath_24 : decode cX11_breath 24 = .ok (.if_icmp .ge 55, 3) := by decide +kernel
theorem dX11_breath_27 : decode cX11_breath 27 = .ok (.aload_n 0, 1) := by decide +kernel
theorem dX11_breath_28 : decode cX11_breath 28 = .ok (.getfield 33, 3) := by decide +kernel
theorem dX11_breath_31 : decode cX11_breath 31 = .ok (.getfield 215, 3) := by decide +kernel
theorem dX11_breath_34 : decode cX11_breath 34 = .ok (.iload 5, 2) := by decide +kernel
theorem dX11_breath_36 : decode cX11_breath 36 = .ok (.iaload, 1) := by decide +kernel
theorem dX11_breath_37 : decode cX11_breath 37 = .ok (.bipush 12, 2) := by decide +kernel
theorem dX11_breath_39 : decode cX11_breath 39 = .ok (.if_icmp .ne 12, 3) := by decide +kernel
theorem dX11_breath_42 : decode cX11_breath 42 = .ok (.iload 5, 2) := by decide +kernel
theorem dX11_breath_44 : decode cX11_breath 44 = .ok (.iconst 1, 1) := by decide +kernel
theorem dX11_breath_45 : decode cX11_breath 45 = .ok (.iadd, 1) := by decide +kernel
theorem dX11_breath_46 : decode cX11_breath 46 = .ok (.istore 4, 2) := by decide +kernel
theorem dX11_breath_48 : decode cX11_breath 48 = .ok (.goto 25, 3) := by decide +kernel
theorem dX11_breath_51 : decode cX11_breath 51 = .ok (.iload 5, 2) := by decide +kernel
theorem dX11_breath_53 : decode cX11_breath 53 = .ok (.iconst 1, 1) := by decide +kernel
theorem dX11_breath_54 : decode cX11_breath 54 = .ok (.iadd, 1) := by decide +kernel
theorem dX11_breath_55 : decode cX11_breath 55 = .ok (.iload 4, 2) := by decide +kernel
theorem dX11_breath_57 : decode cX11_breath 57 = .ok (.isub, 1) := by decide +kernel
theorem dX11_breath_58 : decode cX11_breath 58 = .ok (.iload_n 2, 1) := by decide +kernel
theorem dX11_breath_59 : decode cX11_breath 59 = .ok (.if_icmp .le 14, 3) := by decide +kernel
theorem dX11_breath_62 : decode cX11_breath 62 = .ok (.iload 5, 2) := by decide +kernel
theorem dX11_breath_64 : decode cX11_breath 64 = .ok (.iconst 1, 1) := by decide +kernel
theorem dX11_breath_65 : decode cX11_breath 65 = .ok (.iadd, 1) := by decide +kernel
theorem dX11_breath_66 : decode cX11_breath 66 = .ok (.iload 4, 2) := by decide +kernel
theorem dX11_breath_68 : decode cX11_breath 68 = .ok (.isub, 1) := by decide +kernel
theorem dX11_breath_69 : decode cX11_breath 69 = .ok (.istore_n 2, 1) := by decide +kernel
theorem dX11_breath_70 : decode cX11_breath 70 = .ok (.iload 4, 2) := by decide +kernel
theorem dX11_breath_72 : decode cX11_breath 72 = .ok (.istore_n 3, 1) := by decide +kernel
theorem dX11_breath_73 : decode cX11_breath 73 = .ok (.iinc 5 1, 3) := by decide +kernel
theorem dX11_breath_76 : decode cX11_breath 76 = .ok (.goto (-61), 3) := by decide +kernel
theorem dX11_breath_79 : decode cX11_breath 79 = .ok (.iload_n 1, 1) := by decide +kernel
theorem dX11_breath_80 : decode cX11_breath 80 = .ok (.ifCond .ne 7, 3) := by decide +kernel
theorem dX11_breath_83 : decode cX11_breath 83 = .ok (.iload_n 2, 1) := by decide +kernel
theorem dX11_breath_84 : decode cX11_breath 84 = .ok (.goto 4, 3) := by decide +kernel
theorem dX11_breath_87 : decode cX11_breath 87 = .ok (.iload_n 3, 1) := by decide +kernel
theorem dX11_breath_88 : decode cX11_breath 88 = .ok (.ireturn, 1) := by decide +kernel
theorem dX11_palindrome_0 : decode cX11_palindrome 0 = .ok (.iconst 0, 1) := by decide +kernel
theorem dX11_palindrome_1 : decode cX11_palindrome 1 = .ok (.istore_n 1, 1) := by decide +kernel
theorem dX11_palindrome_2 : decode cX11_palindrome 2 = .ok (.iconst 0, 1) := by decide +kernel
theorem dX11_palindrome_3 : decode cX11_palindrome 3 = .ok (.istore_n 2, 1) := by decide +kernel
theorem dX11_palindrome_4 : decode cX11_palindrome 4 = .ok (.iload_n 2, 1) := by decide +kernel
theorem dX11_palindrome_5 : decode cX11_palindrome 5 = .ok (.aload_n 0, 1) := by decide +kernel
theorem dX11_palindrome_6 : decode cX11_palindrome 6 = .ok (.getfield 33, 3) := by decide +kernel
theorem dX11_palindrome_9 : decode cX11_palindrome 9 = .ok (.getfield 140, 3) := by decide +kernel
theorem dX11_palindrome_12 : decode cX11_palindrome 12 = .ok (.if_icmp .ge 39, 3) := by decide +kernel
theorem dX11_palindrome_15 : decode cX11_palindrome 15 = .ok (.iload_n 1, 1) := by decide +kernel
theorem dX11_palindrome_16 : decode cX11_palindrome 16 = .ok (.aload_n 0, 1) := by decide +kernel
theorem dX11_palindrome_17 : decode cX11_palindrome 17 = .ok (.getfield 33, 3) := by decide +kernel
theorem dX11_palindrome_20 : decode cX11_palindrome 20 = .ok (.iload_n 2, 1) := by decide +kernel
theorem dX11_palindrome_21 : decode cX11_palindrome 21 = .ok (.iload_n 2, 1) := by decide +kernel
theorem dX11_palindrome_22 : decode cX11_palindrome 22 = .ok (.invokevirtual 292, 3) := by decide +kernel
theorem dX11_palindrome_25 : decode cX11_palindrome 25 = .ok (.invokestatic 279, 3) := by decide +kernel
theorem dX11_palindrome_28 : decode cX11_palindrome 28 = .ok (.istore_n 1, 1) := by decide +kernel
theorem dX11_palindrome_29 : decode cX11_palindrome 29 = .ok (.iload_n 1, 1) := by decide +kernel
theorem dX11_palindrome_30 : decode cX11_palindrome 30 = .ok (.aload_n 0, 1) := by decide +kernel
theorem dX11_palindrome_31 : decode cX11_palindrome 31 = .ok (.getfield 33, 3) := by decide +kernel
theorem dX11_palindrome_34 : decode cX11_palindrome 34 = .ok (.iload_n 2, 1) := by decide +kernel
theorem dX11_palindrome_35 : decode cX11_palindrome 35 = .ok (.iload_n 2, 1) := by decide +kernel
theorem dX11_palindrome_36 : decode cX11_palindrome 36 = .ok (.iconst 1, 1) := by decide +kernel
theorem dX11_palindrome_37 : decode cX11_palindrome 37 = .ok (.iadd, 1) := by decide +kernel
theorem dX11_palindrome_38 : decode cX11_palindrome 38 = .ok (.invokevirtual 292, 3) := by decide +kernel
theorem dX11_palindrome_41 : decode cX11_palindrome 41 = .ok (.invokestatic 279, 3) := by decide +kernel
theorem dX11_palindrome_44 : decode cX11_palindrome 44 = .ok (.istore_n 1, 1) := by decide +kernel
theorem dX11_palindrome_45 : decode cX11_palindrome 45 = .ok (.iinc 2 1, 3) := by decide +kernel
theorem dX11_palindrome_48 : decode cX11_palindrome 48 = .ok (.goto (-44), 3) := by decide +kernel
theorem dX11_palindrome_51 : decode cX11_palindrome 51 = .ok (.iload_n 1, 1) := by decide +kernel
theorem dX11_palindrome_52 : decode cX11_palindrome 52 = .ok (.ireturn, 1) := by decide +kernel
theorem dX11_tonic_0 : decode cX11_tonic 0 = .ok (.iconst (-1), 1) := by decide +kernel
theorem dX11_tonic_1 : decode cX11_tonic 1 = .ok (.istore_n 1, 1) := by decide +kernel
theorem dX11_tonic_2 : decode cX11_tonic 2 = .ok (.iconst 0, 1) := by decide +kernel
theorem dX11_tonic_3 : decode cX11_tonic 3 = .ok (.istore_n 2, 1) := by decide +kernel
theorem dX11_tonic_4 : decode cX11_tonic 4 = .ok (.iconst 0, 1) := by decide +kernel
theorem dX11_tonic_5 : decode cX11_tonic 5 = .ok (.istore_n 3, 1) := by decide +kernel
theorem dX11_tonic_6 : decode cX11_tonic 6 = .ok (.iload_n 3, 1) := by decide +kernel
theorem dX11_tonic_7 : decode cX11_tonic 7 = .ok (.bipush 12, 2) := by decide +kernel
theorem dX11_tonic_9 : decode cX11_tonic 9 = .ok (.if_icmp .ge 31, 3) := by decide +kernel
theorem dX11_tonic_12 : decode cX11_tonic 12 = .ok (.aload_n 0, 1) := by decide +kernel
theorem dX11_tonic_13 : decode cX11_tonic 13 = .ok (.getfield 33, 3) := by decide +kernel
theorem dX11_tonic_16 : decode cX11_tonic 16 = .ok (.iload_n 3, 1) := by decide +kernel
theorem dX11_tonic_17 : decode cX11_tonic 17 = .ok (.iconst 0, 1) := by decide +kernel
theorem dX11_tonic_18 : decode cX11_tonic 18 = .ok (.invokevirtual 295, 3) := by decide +kernel
theorem dX11_tonic_21 : decode cX11_tonic 21 = .ok (.istore 4, 2) := by decide +kernel
theorem dX11_tonic_23 : decode cX11_tonic 23 = .ok (.iload 4, 2) := by decide +kernel
theorem dX11_tonic_25 : decode cX11_tonic 25 = .ok (.iload_n 2, 1) := by decide +kernel
theorem dX11_tonic_26 : decode cX11_tonic 26 = .ok (.if_icmp .le 8, 3) := by decide +kernel
theorem dX11_tonic_29 : decode cX11_tonic 29 = .ok (.iload 4, 2) := by decide +kernel
theorem dX11_tonic_31 : decode cX11_tonic 31 = .ok (.istore_n 2, 1) := by decide +kernel
theorem dX11_tonic_32 : decode cX11_tonic 32 = .ok (.iload_n 3, 1) := by decide +kernel
theorem dX11_tonic_33 : decode cX11_tonic 33 = .ok (.istore_n 1, 1) := by decide +kernel
theorem dX11_tonic_34 : decode cX11_tonic 34 = .ok (.iinc 3 1, 3) := by decide +kernel
theorem dX11_tonic_37 : decode cX11_tonic 37 = .ok (.goto (-31), 3) := by decide +kernel
theorem dX11_tonic_40 : decode cX11_tonic 40 = .ok (.iload_n 1, 1) := by decide +kernel
theorem dX11_tonic_41 : decode cX11_tonic 41 = .ok (.ireturn, 1) := by decide +kernel
theorem dX11_like_0 : decode cX11_like 0 = .ok (.iload_n 1, 1) := by decide +kernel
theorem dX11_like_1 : decode cX11_like 1 = .ok (.iconst 1, 1) := by decide +kernel
theorem dX11_like_2 : decode cX11_like 2 = .ok (.invokestatic 198, 3) := by decide +kernel
theorem dX11_like_5 : decode cX11_like 5 = .ok (.iload_n 1, 1) := by decide +kernel
theorem dX11_like_6 : decode cX11_like 6 = .ok (.ifCond .ne 21, 3) := by decide +kernel
theorem dX11_like_9 : decode cX11_like 9 = .ok (.aload_n 0, 1) := by decide +kernel
theorem dX11_like_10 : decode cX11_like 10 = .ok (.getfield 68, 3) := by decide +kernel
theorem dX11_like_13 : decode cX11_like 13 = .ok (.aload_n 0, 1) := by decide +kernel
theorem dX11_like_14 : decode cX11_like 14 = .ok (.getfield 26, 3) := by decide +kernel
theorem dX11_like_17 : decode cX11_like 17 = .ok (.aload_n 0, 1) := by decide +kernel
theorem dX11_like_18 : decode cX11_like 18 = .ok (.getfield 33, 3) := by decide +kernel
theorem dX11_like_21 : decode cX11_like 21 = .ok (.invokevirtual 298, 3) := by decide +kernel
theorem dX11_like_24 : decode cX11_like 24 = .ok (.goto 18, 3) := by decide +kernel
theorem dX11_like_27 : decode cX11_like 27 = .ok (.aload_n 0, 1) := by decide +kernel
theorem dX11_like_28 : decode cX11_like 28 = .ok (.getfield 68, 3) := by decide +kernel
theorem dX11_like_31 : decode cX11_like 31 = .ok (.aload_n 0, 1) := by decide +kernel
theorem dX11_like_32 : decode cX11_like 32 = .ok (.getfield 26, 3) := by decide +kernel
theorem dX11_like_35 : decode cX11_like 35 = .ok (.aload_n 0, 1) := by decide +kernel
theorem dX11_like_36 : decode cX11_like 36 = .ok (.getfield 33, 3) := by decide +kernel
theorem dX11_like_39 : decode cX11_like 39 = .ok (.invokevirtual 302, 3) := by decide +kernel
theorem dX11_like_42 : decode cX11_like 42 = .ok (.ireturn, 1) := by decide +kernel
theorem dX11_then_0 : decode cX11_then 0 = .ok (.iload_n 1, 1) := by decide +kernel
theorem dX11_then_1 : decode cX11_then 1 = .ok (.ifCond .lt 10, 3) := by decide +kernel
theorem dX11_then_4 : decode cX11_then 4 = .ok (.iload_n 1, 1) := by decide +kernel
theorem dX11_then_5 : decode cX11_then 5 = .ok (.sipush 400, 3) := by decide +kernel
theorem dX11_then_8 : decode cX11_then 8 = .ok (.if_icmp .lt 13, 3) := by decide +kernel
theorem dX11_then_11 : decode cX11_then 11 = .ok (.new 95, 3) := by decide +kernel
theorem dX11_then_14 : decode cX11_then 14 = .ok (.dup, 1) := by decide +kernel
theorem dX11_then_15 : decode cX11_then 15 = .ok (.ldc 213, 2) := by decide +kernel
theorem dX11_then_17 : decode cX11_then 17 = .ok (.invokespecial 99, 3) := by decide +kernel
theorem dX11_then_20 : decode cX11_then 20 = .ok (.athrow, 1) := by decide +kernel
theorem dX11_then_21 : decode cX11_then 21 = .ok (.aload_n 0, 1) := by decide +kernel
theorem dX11_then_22 : decode cX11_then 22 = .ok (.getfield 62, 3) := by decide +kernel
theorem dX11_then_25 : decode cX11_then 25 = .ok (.aload_n 0, 1) := by decide +kernel
theorem dX11_then_26 : decode cX11_then 26 = .ok (.getfield 33, 3) := by decide +kernel
theorem dX11_then_29 : decode cX11_then 29 = .ok (.invokevirtual 305, 3) := by decide +kernel
theorem dX11_then_32 : decode cX11_then 32 = .ok (.aload_n 0, 1) := by decide +kernel
theorem dX11_then_33 : decode cX11_then 33 = .ok (.getfield 62, 3) := by decide +kernel
theorem dX11_then_36 : decode cX11_then 36 = .ok (.aload_n 0, 1) := by decide +kernel
theorem dX11_then_37 : decode cX11_then 37 = .ok (.getfield 33, 3) := by decide +kernel
theorem dX11_then_40 : decode cX11_then 40 = .ok (.invokevirtual 309, 3) := by decide +kernel
theorem dX11_then_43 : decode cX11_then 43 = .ok (.aload_n 0, 1) := by decide +kernel
theorem dX11_then_44 : decode cX11_then 44 = .ok (.getfield 62, 3) := by decide +kernel
theorem dX11_then_47 : decode cX11_then 47 = .ok (.aload_n 0, 1) := by decide +kernel
theorem dX11_then_48 : decode cX11_then 48 = .ok (.getfield 26, 3) := by decide +kernel
theorem dX11_then_51 : decode cX11_then 51 = .ok (.iload_n 1, 1) := by decide +kernel
theorem dX11_then_52 : decode cX11_then 52 = .ok (.invokevirtual 312, 3) := by decide +kernel
theorem dX11_then_55 : decode cX11_then 55 = .ok (.iload_n 1, 1) := by decide +kernel
theorem dX11_then_56 : decode cX11_then 56 = .ok (.aload_n 0, 1) := by decide +kernel
theorem dX11_then_57 : decode cX11_then 57 = .ok (.getfield 62, 3) := by decide +kernel
theorem dX11_then_60 : decode cX11_then 60 = .ok (.getfield 140, 3) := by decide +kernel
theorem dX11_then_63 : decode cX11_then 63 = .ok (.if_icmp .ge 15, 3) := by decide +kernel
theorem dX11_then_66 : decode cX11_then 66 = .ok (.aload_n 0, 1) := by decide +kernel
theorem dX11_then_67 : decode cX11_then 67 = .ok (.getfield 62, 3) := by decide +kernel
theorem dX11_then_70 : decode cX11_then 70 = .ok (.getfield 215, 3) := by decide +kernel
theorem dX11_then_73 : decode cX11_then 73 = .ok (.iload_n 1, 1) := by decide +kernel
theorem dX11_then_74 : decode cX11_then 74 = .ok (.iaload, 1) := by decide +kernel
theorem dX11_then_75 : decode cX11_then 75 = .ok (.goto 4, 3) := by decide +kernel
theorem dX11_then_78 : decode cX11_then 78 = .ok (.iconst (-1), 1) := by decide +kernel
theorem dX11_then_79 : decode cX11_then 79 = .ok (.ireturn, 1) := by decide +kernel
theorem dX11_when_0 : decode cX11_when 0 = .ok (.aload_n 0, 1) := by decide +kernel
theorem dX11_when_1 : decode cX11_when 1 = .ok (.iload_n 1, 1) := by decide +kernel
theorem dX11_when_2 : decode cX11_when 2 = .ok (.iload_n 2, 1) := by decide +kernel
theorem dX11_when_3 : decode cX11_when 3 = .ok (.invokevirtual 261, 3) := by decide +kernel
theorem dX11_when_6 : decode cX11_when 6 = .ok (.aload_n 0, 1) := by decide +kernel
theorem dX11_when_7 : decode cX11_when 7 = .ok (.getfield 62, 3) := by decide +kernel
theorem dX11_when_10 : decode cX11_when 10 = .ok (.aload_n 0, 1) := by decide +kernel
theorem dX11_when_11 : decode cX11_when 11 = .ok (.getfield 33, 3) := by decide +kernel
theorem dX11_when_14 : decode cX11_when 14 = .ok (.invokevirtual 305, 3) := by decide +kernel
theorem dX11_when_17 : decode cX11_when 17 = .ok (.aload_n 0, 1) := by decide +kernel
theorem dX11_when_18 : decode cX11_when 18 = .ok (.getfield 62, 3) := by decide +kernel
theorem dX11_when_21 : decode cX11_when 21 = .ok (.aload_n 0, 1) := by decide +kernel
theorem dX11_when_22 : decode cX11_when 22 = .ok (.getfield 33, 3) := by decide +kernel
theorem dX11_when_25 : decode cX11_when 25 = .ok (.invokevirtual 309, 3) := by decide +kernel
theorem dX11_when_28 : decode cX11_when 28 = .ok (.iconst 0, 1) := by decide +kernel
theorem dX11_when_29 : decode cX11_when 29 = .ok (.istore_n 3, 1) := by decide +kernel
theorem dX11_when_30 : decode cX11_when 30 = .ok (.iconst 0, 1) := by decide +kernel
theorem dX11_when_31 : decode cX11_when 31 = .ok (.istore 4, 2) := by decide +kernel
theorem dX11_when_33 : decode cX11_when 33 = .ok (.iload 4, 2) := by decide +kernel
theorem dX11_when_35 : decode cX11_when 35 = .ok (.bipush 20, 2) := by decide +kernel
theorem dX11_when_37 : decode cX11_when 37 = .ok (.if_icmp .gt 56, 3) := by decide +kernel
theorem dX11_when_40 : decode cX11_when 40 = .ok (.aload_n 0, 1) := by decide +kernel
theorem dX11_when_41 : decode cX11_when 41 = .ok (.getfield 62, 3) := by decide +kernel
theorem dX11_when_44 : decode cX11_when 44 = .ok (.iload_n 3, 1) := by decide +kernel
theorem dX11_when_45 : decode cX11_when 45 = .ok (.aload_n 0, 1) := by decide +kernel
theorem dX11_when_46 : decode cX11_when 46 = .ok (.getfield 79, 3) := by decide +kernel
theorem dX11_when_49 : decode cX11_when 49 = .ok (.iload_n 2, 1) := by decide +kernel
theorem dX11_when_50 : decode cX11_when 50 = .ok (.invokevirtual 264, 3) := by decide +kernel
theorem dX11_when_53 : decode cX11_when 53 = .ok (.iconst (-1), 1) := by decide +kernel
theorem dX11_when_54 : decode cX11_when 54 = .ok (.if_icmp .eq 6, 3) := by decide +kernel
theorem dX11_when_57 : decode cX11_when 57 = .ok (.iload 4, 2) := by decide +kernel
theorem dX11_when_59 : decode cX11_when 59 = .ok (.ireturn, 1) := by decide +kernel
theorem dX11_when_60 : decode cX11_when 60 = .ok (.iconst 0, 1) := by decide +kernel
theorem dX11_when_61 : decode cX11_when 61 = .ok (.aload_n 0, 1) := by decide +kernel
theorem dX11_when_62 : decode cX11_when 62 = .ok (.getfield 62, 3) := by decide +kernel
theorem dX11_when_65 : decode cX11_when 65 = .ok (.getfield 140, 3) := by decide +kernel
theorem dX11_when_68 : decode cX11_when 68 = .ok (.iconst 1, 1) := by decide +kernel
theorem dX11_when_69 : decode cX11_when 69 = .ok (.iadd, 1) := by decide +kernel
theorem dX11_when_70 : decode cX11_when 70 = .ok (.iload_n 2, 1) := by decide +kernel
theorem dX11_when_71 : decode cX11_when 71 = .ok (.isub, 1) := by decide +kernel
theorem dX11_when_72 : decode cX11_when 72 = .ok (.invokestatic 279, 3) := by decide +kernel
theorem dX11_when_75 : decode cX11_when 75 = .ok (.istore_n 3, 1) := by decide +kernel
theorem dX11_when_76 : decode cX11_when 76 = .ok (.aload_n 0, 1) := by decide +kernel
theorem dX11_when_77 : decode cX11_when 77 = .ok (.getfield 62, 3) := by decide +kernel
theorem dX11_when_80 : decode cX11_when 80 = .ok (.aload_n 0, 1) := by decide +kernel
theorem dX11_when_81 : decode cX11_when 81 = .ok (.getfield 26, 3) := by decide +kernel
theorem dX11_when_84 : decode cX11_when 84 = .ok (.invokevirtual 234, 3) := by decide +kernel
theorem dX11_when_87 : decode cX11_when 87 = .ok (.iinc 4 1, 3) := by decide +kernel
theorem dX11_when_90 : decode cX11_when 90 = .ok (.goto (-57), 3) := by decide +kernel
theorem dX11_when_93 : decode cX11_when 93 = .ok (.iconst (-1), 1) := by decide +kernel
theorem dX11_when_94 : decode cX11_when 94 = .ok (.ireturn, 1) := by decide +kernel
theorem dX11_quiet_0 : decode cX11_quiet 0 = .ok (.iload_n 1, 1) := by decide +kernel
theorem dX11_quiet_1 : decode cX11_quiet 1 = .ok (.iconst 1, 1) := by decide +kernel
theorem dX11_quiet_2 : decode cX11_quiet 2 = .ok (.if_icmp .lt 9, 3) := by decide +kernel
theorem dX11_quiet_5 : decode cX11_quiet 5 = .ok (.iload_n 1, 1) := by decide +kernel
theorem dX11_quiet_6 : decode cX11_quiet 6 = .ok (.bipush 10, 2) := by decide +kernel
theorem dX11_quiet_8 : decode cX11_quiet 8 = .ok (.if_icmp .le 14, 3) := by decide +kernel
theorem dX11_quiet_11 : decode cX11_quiet 11 = .ok (.new 95, 3) := by decide +kernel
theorem dX11_quiet_14 : decode cX11_quiet 14 = .ok (.dup, 1) := by decide +kernel
theorem dX11_quiet_15 : decode cX11_quiet 15 = .ok (.ldc_w 316, 3) := by decide +kernel
theorem dX11_quiet_18 : decode cX11_quiet 18 = .ok (.invokespecial 99, 3) := by decide +kernel
theorem dX11_quiet_21 : decode cX11_quiet 21 = .ok (.athrow, 1) := by decide +kernel
theorem dX11_quiet_22 : decode cX11_quiet 22 = .ok (.aload_n 0, 1) := by decide +kernel
theorem dX11_quiet_23 : decode cX11_quiet 23 = .ok (.getfield 33, 3) := by decide +kernel
theorem dX11_quiet_26 : decode cX11_quiet 26 = .ok (.getfield 150, 3) := by decide +kernel
theorem dX11_quiet_29 : decode cX11_quiet 29 = .ok (.aload_n 0, 1) := by decide +kernel
theorem dX11_quiet_30 : decode cX11_quiet 30 = .ok (.getfield 33, 3) := by decide +kernel
theorem dX11_quiet_33 : decode cX11_quiet 33 = .ok (.getfield 153, 3) := by decide +kernel
theorem dX11_quiet_36 : decode cX11_quiet 36 = .ok (.ior, 1) := by decide +kernel
theorem dX11_quiet_37 : decode cX11_quiet 37 = .ok (.istore_n 2, 1) := by decide +kernel
theorem dX11_quiet_38 : decode cX11_quiet 38 = .ok (.aload_n 0, 1) := by decide +kernel
theorem dX11_quiet_39 : decode cX11_quiet 39 = .ok (.getfield 62, 3) := by decide +kernel
theorem dX11_quiet_42 : decode cX11_quiet 42 = .ok (.aload_n 0, 1) := by decide +kernel
theorem dX11_quiet_43 : decode cX11_quiet 43 = .ok (.getfield 33, 3) := by decide +kernel
theorem dX11_quiet_46 : decode cX11_quiet 46 = .ok (.invokevirtual 305, 3) := by decide +kernel
theorem dX11_quiet_49 : decode cX11_quiet 49 = .ok (.iconst 0, 1) := by decide +kernel
theorem dX11_quiet_50 : decode cX11_quiet 50 = .ok (.istore_n 3, 1) := by decide +kernel
theorem dX11_quiet_51 : decode cX11_quiet 51 = .ok (.iload_n 3, 1) := by decide +kernel
theorem dX11_quiet_52 : decode cX11_quiet 52 = .ok (.aload_n 0, 1) := by decide +kernel
theorem dX11_quiet_53 : decode cX11_quiet 53 = .ok (.getfield 26, 3) := by decide +kernel
theorem dX11_quiet_56 : decode cX11_quiet 56 = .ok (.getfield 124, 3) := by decide +kernel
theorem dX11_quiet_59 : decode cX11_quiet 59 = .ok (.if_icmp .gt 73, 3) := by decide +kernel
theorem dX11_quiet_62 : decode cX11_quiet 62 = .ok (.iconst 0, 1) := by decide +kernel
theorem dX11_quiet_63 : decode cX11_quiet 63 = .ok (.istore 4, 2) := by decide +kernel
theorem dX11_quiet_65 : decode cX11_quiet 65 = .ok (.iload 4, 2) := by decide +kernel
theorem dX11_quiet_67 : decode cX11_quiet 67 = .ok (.iconst 1, 1) := by decide +kernel
theorem dX11_quiet_68 : decode cX11_quiet 68 = .ok (.aload_n 0, 1) := by decide +kernel
theorem dX11_quiet_69 : decode cX11_quiet 69 = .ok (.getfield 26, 3) := by decide +kernel
theorem dX11_quiet_72 : decode cX11_quiet 72 = .ok (.getfield 124, 3) := by decide +kernel
theorem dX11_quiet_75 : decode cX11_quiet 75 = .ok (.ishl, 1) := by decide +kernel
theorem dX11_quiet_76 : decode cX11_quiet 76 = .ok (.if_icmp .ge 50, 3) := by decide +kernel
theorem dX11_quiet_79 : decode cX11_quiet 79 = .ok (.iload 4, 2) := by decide +kernel
theorem dX11_quiet_81 : decode cX11_quiet 81 = .ok (.invokestatic 318, 3) := by decide +kernel
theorem dX11_quiet_84 : decode cX11_quiet 84 = .ok (.iload_n 3, 1) := by decide +kernel
theorem dX11_quiet_85 : decode cX11_quiet 85 = .ok (.if_icmp .ne 14, 3) := by decide +kernel
theorem dX11_quiet_88 : decode cX11_quiet 88 = .ok (.iload 4, 2) := by decide +kernel
theorem dX11_quiet_90 : decode cX11_quiet 90 = .ok (.iload_n 2, 1) := by decide +kernel
theorem dX11_quiet_91 : decode cX11_quiet 91 = .ok (.iand, 1) := by decide +kernel
theorem dX11_quiet_92 : decode cX11_quiet 92 = .ok (.ifCond .ne 7, 3) := by decide +kernel
theorem dX11_quiet_95 : decode cX11_quiet 95 = .ok (.iconst 1, 1) := by decide +kernel
theorem dX11_quiet_96 : decode cX11_quiet 96 = .ok (.goto 4, 3) := by decide +kernel
theorem dX11_quiet_99 : decode cX11_quiet 99 = .ok (.iconst 0, 1) := by decide +kernel
theorem dX11_quiet_100 : decode cX11_quiet 100 = .ok (.istore 5, 2) := by decide +kernel
theorem dX11_quiet_102 : decode cX11_quiet 102 = .ok (.iload 5, 2) := by decide +kernel
theorem dX11_quiet_104 : decode cX11_quiet 104 = .ok (.ifCond .eq 16, 3) := by decide +kernel
theorem dX11_quiet_107 : decode cX11_quiet 107 = .ok (.aload_n 0, 1) := by decide +kernel
theorem dX11_quiet_108 : decode cX11_quiet 108 = .ok (.iload 4, 2) := by decide +kernel
theorem dX11_quiet_110 : decode cX11_quiet 110 = .ok (.iload_n 1, 1) := by decide +kernel
theorem dX11_quiet_111 : decode cX11_quiet 111 = .ok (.invokevirtual 323, 3) := by decide +kernel
theorem dX11_quiet_114 : decode cX11_quiet 114 = .ok (.ifCond .eq 6, 3) := by decide +kernel
theorem dX11_quiet_117 : decode cX11_quiet 117 = .ok (.iload 4, 2) := by decide +kernel
theorem dX11_quiet_119 : decode cX11_quiet 119 = .ok (.ireturn, 1) := by decide +kernel
theorem dX11_quiet_120 : decode cX11_quiet 120 = .ok (.iinc 4 1, 3) := by decide +kernel
theorem dX11_quiet_123 : decode cX11_quiet 123 = .ok (.goto (-58), 3) := by decide +kernel
theorem dX11_quiet_126 : decode cX11_quiet 126 = .ok (.iinc 3 1, 3) := by decide +kernel
theorem dX11_quiet_129 : decode cX11_quiet 129 = .ok (.goto (-78), 3) := by decide +kernel
theorem dX11_quiet_132 : decode cX11_quiet 132 = .ok (.iconst (-1), 1) := by decide +kernel
theorem dX11_quiet_133 : decode cX11_quiet 133 = .ok (.ireturn, 1) := by decide +kernel
theorem dX11_isQuiet_0 : decode cX11_isQuiet 0 = .ok (.aload_n 0, 1) := by decide +kernel
theorem dX11_isQuiet_1 : decode cX11_isQuiet 1 = .ok (.getfield 62, 3) := by decide +kernel
theorem dX11_isQuiet_4 : decode cX11_isQuiet 4 = .ok (.aload_n 0, 1) := by decide +kernel
theorem dX11_isQuiet_5 : decode cX11_isQuiet 5 = .ok (.getfield 33, 3) := by decide +kernel
theorem dX11_isQuiet_8 : decode cX11_isQuiet 8 = .ok (.invokevirtual 309, 3) := by decide +kernel
theorem dX11_isQuiet_11 : decode cX11_isQuiet 11 = .ok (.aload_n 0, 1) := by decide +kernel
theorem dX11_isQuiet_12 : decode cX11_isQuiet 12 = .ok (.getfield 62, 3) := by decide +kernel
theorem dX11_isQuiet_15 : decode cX11_isQuiet 15 = .ok (.dup, 1) := by decide +kernel
theorem dX11_isQuiet_16 : decode cX11_isQuiet 16 = .ok (.getfield 150, 3) := by decide +kernel
theorem dX11_isQuiet_19 : decode cX11_isQuiet 19 = .ok (.iload_n 1, 1) := by decide +kernel
theorem dX11_isQuiet_20 : decode cX11_isQuiet 20 = .ok (.ior, 1) := by decide +kernel
theorem dX11_isQuiet_21 : decode cX11_isQuiet 21 = .ok (.putfield 150, 3) := by decide +kernel
theorem dX11_isQuiet_24 : decode cX11_isQuiet 24 = .ok (.iconst 0, 1) := by decide +kernel
theorem dX11_isQuiet_25 : decode cX11_isQuiet 25 = .ok (.istore_n 3, 1) := by decide +kernel
theorem dX11_isQuiet_26 : decode cX11_isQuiet 26 = .ok (.iload_n 3, 1) := by decide +kernel
theorem dX11_isQuiet_27 : decode cX11_isQuiet 27 = .ok (.iload_n 2, 1) := by decide +kernel
theorem dX11_isQuiet_28 : decode cX11_isQuiet 28 = .ok (.if_icmp .ge 45, 3) := by decide +kernel
theorem dX11_isQuiet_31 : decode cX11_isQuiet 31 = .ok (.aload_n 0, 1) := by decide +kernel
theorem dX11_isQuiet_32 : decode cX11_isQuiet 32 = .ok (.getfield 62, 3) := by decide +kernel
theorem dX11_isQuiet_35 : decode cX11_isQuiet 35 = .ok (.getfield 140, 3) := by decide +kernel
theorem dX11_isQuiet_38 : decode cX11_isQuiet 38 = .ok (.istore 4, 2) := by decide +kernel
theorem dX11_isQuiet_40 : decode cX11_isQuiet 40 = .ok (.aload_n 0, 1) := by decide +kernel
theorem dX11_isQuiet_41 : decode cX11_isQuiet 41 = .ok (.getfield 62, 3) := by decide +kernel
theorem dX11_isQuiet_44 : decode cX11_isQuiet 44 = .ok (.aload_n 0, 1) := by decide +kernel
theorem dX11_isQuiet_45 : decode cX11_isQuiet 45 = .ok (.getfield 26, 3) := by decide +kernel
theorem dX11_isQuiet_48 : decode cX11_isQuiet 48 = .ok (.invokevirtual 234, 3) := by decide +kernel
theorem dX11_isQuiet_51 : decode cX11_isQuiet 51 = .ok (.aload_n 0, 1) := by decide +kernel
theorem dX11_isQuiet_52 : decode cX11_isQuiet 52 = .ok (.getfield 62, 3) := by decide +kernel
theorem dX11_isQuiet_55 : decode cX11_isQuiet 55 = .ok (.iload 4, 2) := by decide +kernel
theorem dX11_isQuiet_57 : decode cX11_isQuiet 57 = .ok (.bipush 6, 2) := by decide +kernel
theorem dX11_isQuiet_59 : decode cX11_isQuiet 59 = .ok (.invokevirtual 285, 3) := by decide +kernel
theorem dX11_isQuiet_62 : decode cX11_isQuiet 62 = .ok (.ifCond .eq 5, 3) := by decide +kernel
theorem dX11_isQuiet_65 : decode cX11_isQuiet 65 = .ok (.iconst 0, 1) := by decide +kernel
theorem dX11_isQuiet_66 : decode cX11_isQuiet 66 = .ok (.ireturn, 1) := by decide +kernel
theorem dX11_isQuiet_67 : decode cX11_isQuiet 67 = .ok (.iinc 3 1, 3) := by decide +kernel
theorem dX11_isQuiet_70 : decode cX11_isQuiet 70 = .ok (.goto (-44), 3) := by decide +kernel
theorem dX11_isQuiet_73 : decode cX11_isQuiet 73 = .ok (.iconst 1, 1) := by decide +kernel
theorem dX11_isQuiet_74 : decode cX11_isQuiet 74 = .ok (.ireturn, 1) := by decide +kernel
theorem dX11_match_0 : decode cX11_match 0 = .ok (.aload_n 0, 1) := by decide +kernel
theorem dX11_match_1 : decode cX11_match 1 = .ok (.getfield 62, 3) := by decide +kernel
theorem dX11_match_4 : decode cX11_match 4 = .ok (.aload_n 0, 1) := by decide +kernel
theorem dX11_match_5 : decode cX11_match 5 = .ok (.getfield 33, 3) := by decide +kernel
theorem dX11_match_8 : decode cX11_match 8 = .ok (.invokevirtual 305, 3) := by decide +kernel
theorem dX11_match_11 : decode cX11_match 11 = .ok (.aload_n 0, 1) := by decide +kernel
theorem dX11_match_12 : decode cX11_match 12 = .ok (.getfield 68, 3) := by decide +kernel
theorem dX11_match_15 : decode cX11_match 15 = .ok (.aload_n 0, 1) := by decide +kernel
theorem dX11_match_16 : decode cX11_match 16 = .ok (.getfield 26, 3) := by decide +kernel
theorem dX11_match_19 : decode cX11_match 19 = .ok (.aload_n 0, 1) := by decide +kernel
theorem dX11_match_20 : decode cX11_match 20 = .ok (.getfield 33, 3) := by decide +kernel
theorem dX11_match_23 : decode cX11_match 23 = .ok (.invokevirtual 326, 3) := by decide +kernel
theorem dX11_match_26 : decode cX11_match 26 = .ok (.iconst (-1), 1) := by decide +kernel
theorem dX11_match_27 : decode cX11_match 27 = .ok (.istore_n 1, 1) := by decide +kernel
theorem dX11_match_28 : decode cX11_match 28 = .ok (.aload_n 0, 1) := by decide +kernel
theorem dX11_match_29 : decode cX11_match 29 = .ok (.iconst (-1), 1) := by decide +kernel
theorem dX11_match_30 : decode cX11_match 30 = .ok (.iconst (-1), 1) := by decide +kernel
theorem dX11_match_31 : decode cX11_match 31 = .ok (.invokevirtual 329, 3) := by decide +kernel
theorem dX11_match_34 : decode cX11_match 34 = .ok (.istore_n 2, 1) := by decide +kernel
theorem dX11_match_35 : decode cX11_match 35 = .ok (.iconst 0, 1) := by decide +kernel
theorem dX11_match_36 : decode cX11_match 36 = .ok (.istore_n 3, 1) := by decide +kernel
theorem dX11_match_37 : decode cX11_match 37 = .ok (.iload_n 3, 1) := by decide +kernel
theorem dX11_match_38 : decode cX11_match 38 = .ok (.aload_n 0, 1) := by decide +kernel
theorem dX11_match_39 : decode cX11_match 39 = .ok (.getfield 26, 3) := by decide +kernel
theorem dX11_match_42 : decode cX11_match 42 = .ok (.getfield 124, 3) := by decide +kernel
theorem dX11_match_45 : decode cX11_match 45 = .ok (.if_icmp .ge 69, 3) := by decide +kernel
theorem dX11_match_48 : decode cX11_match 48 = .ok (.iconst 0, 1) := by decide +kernel
theorem dX11_match_49 : decode cX11_match 49 = .ok (.istore 4, 2) := by decide +kernel
theorem dX11_match_51 : decode cX11_match 51 = .ok (.iload 4, 2) := by decide +kernel
theorem dX11_match_53 : decode cX11_match 53 = .ok (.aload_n 0, 1) := by decide +kernel
theorem dX11_match_54 : decode cX11_match 54 = .ok (.getfield 26, 3) := by decide +kernel
theorem dX11_match_57 : decode cX11_match 57 = .ok (.getfield 124, 3) := by decide +kernel
theorem dX11_match_60 : decode cX11_match 60 = .ok (.if_icmp .ge 48, 3) := by decide +kernel
theorem dX11_match_63 : decode cX11_match 63 = .ok (.aload_n 0, 1) := by decide +kernel
theorem dX11_match_64 : decode cX11_match 64 = .ok (.getfield 33, 3) := by decide +kernel
theorem dX11_match_67 : decode cX11_match 67 = .ok (.iload_n 3, 1) := by decide +kernel
theorem dX11_match_68 : decode cX11_match 68 = .ok (.iload 4, 2) := by decide +kernel
theorem dX11_match_70 : decode cX11_match 70 = .ok (.invokevirtual 241, 3) := by decide +kernel
theorem dX11_match_73 : decode cX11_match 73 = .ok (.ifCond .eq 29, 3) := by decide +kernel
theorem dX11_match_76 : decode cX11_match 76 = .ok (.aload_n 0, 1) := by decide +kernel
theorem dX11_match_77 : decode cX11_match 77 = .ok (.iload_n 3, 1) := by decide +kernel
theorem dX11_match_78 : decode cX11_match 78 = .ok (.iload 4, 2) := by decide +kernel
theorem dX11_match_80 : decode cX11_match 80 = .ok (.invokevirtual 329, 3) := by decide +kernel
theorem dX11_match_83 : decode cX11_match 83 = .ok (.istore 5, 2) := by decide +kernel
theorem dX11_match_85 : decode cX11_match 85 = .ok (.iload 5, 2) := by decide +kernel
theorem dX11_match_87 : decode cX11_match 87 = .ok (.iload_n 2, 1) := by decide +kernel
theorem dX11_match_88 : decode cX11_match 88 = .ok (.if_icmp .le 14, 3) := by decide +kernel
theorem dX11_match_91 : decode cX11_match 91 = .ok (.iload 5, 2) := by decide +kernel
theorem dX11_match_93 : decode cX11_match 93 = .ok (.istore_n 2, 1) := by decide +kernel
theorem dX11_match_94 : decode cX11_match 94 = .ok (.bipush 10, 2) := by decide +kernel
theorem dX11_match_96 : decode cX11_match 96 = .ok (.iload_n 3, 1) := by decide +kernel
theorem dX11_match_97 : decode cX11_match 97 = .ok (.imul, 1) := by decide +kernel
theorem dX11_match_98 : decode cX11_match 98 = .ok (.iload 4, 2) := by decide +kernel
theorem dX11_match_100 : decode cX11_match 100 = .ok (.iadd, 1) := by decide +kernel
theorem dX11_match_101 : decode cX11_match 101 = .ok (.istore_n 1, 1) := by decide +kernel
theorem dX11_match_102 : decode cX11_match 102 = .ok (.iinc 4 1, 3) := by decide +kernel
theorem dX11_match_105 : decode cX11_match 105 = .ok (.goto (-54), 3) := by decide +kernel
theorem dX11_match_108 : decode cX11_match 108 = .ok (.iinc 3 1, 3) := by decide +kernel
theorem dX11_match_111 : decode cX11_match 111 = .ok (.goto (-74), 3) := by decide +kernel
theorem dX11_match_114 : decode cX11_match 114 = .ok (.iload_n 1, 1) := by decide +kernel
theorem dX11_match_115 : decode cX11_match 115 = .ok (.ireturn, 1) := by decide +kernel
theorem dX11_likeIfMarried_0 : decode cX11_likeIfMarried 0 = .ok (.aload_n 0, 1) := by decide +kernel
theorem dX11_likeIfMarried_1 : decode cX11_likeIfMarried 1 = .ok (.getfield 62, 3) := by decide +kernel
theorem dX11_likeIfMarried_4 : decode cX11_likeIfMarried 4 = .ok (.aload_n 0, 1) := by decide +kernel
theorem dX11_likeIfMarried_5 : decode cX11_likeIfMarried 5 = .ok (.getfield 33, 3) := by decide +kernel
theorem dX11_likeIfMarried_8 : decode cX11_likeIfMarried 8 = .ok (.invokevirtual 309, 3) := by decide +kernel
theorem dX11_likeIfMarried_11 : decode cX11_likeIfMarried 11 = .ok (.aload_n 0, 1) := by decide +kernel
theorem dX11_likeIfMarried_12 : decode cX11_likeIfMarried 12 = .ok (.iload_n 1, 1) := by decide +kernel
theorem dX11_likeIfMarried_13 : decode cX11_likeIfMarried 13 = .ok (.invokevirtual 190, 3) := by decide +kernel
theorem dX11_likeIfMarried_16 : decode cX11_likeIfMarried 16 = .ok (.ifCond .eq 20, 3) := by decide +kernel
theorem dX11_likeIfMarried_19 : decode cX11_likeIfMarried 19 = .ok (.aload_n 0, 1) := by decide +kernel
theorem dX11_likeIfMarried_20 : decode cX11_likeIfMarried 20 = .ok (.iload_n 2, 1) := by decide +kernel
theorem dX11_likeIfMarried_21 : decode cX11_likeIfMarried 21 = .ok (.invokevirtual 190, 3) := by decide +kernel
theorem dX11_likeIfMarried_24 : decode cX11_likeIfMarried 24 = .ok (.ifCond .eq 12, 3) := by decide +kernel
theorem dX11_likeIfMarried_27 : decode cX11_likeIfMarried 27 = .ok (.aload_n 0, 1) := by decide +kernel
theorem dX11_likeIfMarried_28 : decode cX11_likeIfMarried 28 = .ok (.getfield 62, 3) := by decide +kernel
theorem dX11_likeIfMarried_31 : decode cX11_likeIfMarried 31 = .ok (.iload_n 1, 1) := by decide +kernel
theorem dX11_likeIfMarried_32 : decode cX11_likeIfMarried 32 = .ok (.iload_n 2, 1) := by decide +kernel
theorem dX11_likeIfMarried_33 : decode cX11_likeIfMarried 33 = .ok (.invokevirtual 244, 3) := by decide +kernel
theorem dX11_likeIfMarried_36 : decode cX11_likeIfMarried 36 = .ok (.iconst 0, 1) := by decide +kernel
theorem dX11_likeIfMarried_37 : decode cX11_likeIfMarried 37 = .ok (.istore_n 3, 1) := by decide +kernel
theorem dX11_likeIfMarried_38 : decode cX11_likeIfMarried 38 = .ok (.iload_n 3, 1) := by decide +kernel
theorem dX11_likeIfMarried_39 : decode cX11_likeIfMarried 39 = .ok (.iconst 5, 1) := by decide +kernel
theorem dX11_likeIfMarried_40 : decode cX11_likeIfMarried 40 = .ok (.if_icmp .ge 20, 3) := by decide +kernel
theorem dX11_likeIfMarried_43 : decode cX11_likeIfMarried 43 = .ok (.aload_n 0, 1) := by decide +kernel
theorem dX11_likeIfMarried_44 : decode cX11_likeIfMarried 44 = .ok (.getfield 62, 3) := by decide +kernel
theorem dX11_likeIfMarried_47 : decode cX11_likeIfMarried 47 = .ok (.aload_n 0, 1) := by decide +kernel
theorem dX11_likeIfMarried_48 : decode cX11_likeIfMarried 48 = .ok (.getfield 26, 3) := by decide +kernel
theorem dX11_likeIfMarried_51 : decode cX11_likeIfMarried 51 = .ok (.invokevirtual 234, 3) := by decide +kernel
theorem dX11_likeIfMarried_54 : decode cX11_likeIfMarried 54 = .ok (.iinc 3 1, 3) := by decide +kernel
theorem dX11_likeIfMarried_57 : decode cX11_likeIfMarried 57 = .ok (.goto (-19), 3) := by decide +kernel
theorem dX11_likeIfMarried_60 : decode cX11_likeIfMarried 60 = .ok (.aload_n 0, 1) := by decide +kernel
theorem dX11_likeIfMarried_61 : decode cX11_likeIfMarried 61 = .ok (.getfield 68, 3) := by decide +kernel
theorem dX11_likeIfMarried_64 : decode cX11_likeIfMarried 64 = .ok (.aload_n 0, 1) := by decide +kernel
theorem dX11_likeIfMarried_65 : decode cX11_likeIfMarried 65 = .ok (.getfield 26, 3) := by decide +kernel
theorem dX11_likeIfMarried_68 : decode cX11_likeIfMarried 68 = .ok (.aload_n 0, 1) := by decide +kernel
theorem dX11_likeIfMarried_69 : decode cX11_likeIfMarried 69 = .ok (.getfield 62, 3) := by decide +kernel
theorem dX11_likeIfMarried_72 : decode cX11_likeIfMarried 72 = .ok (.aload_n 0, 1) := by decide +kernel
theorem dX11_likeIfMarried_73 : decode cX11_likeIfMarried 73 = .ok (.getfield 33, 3) := by decide +kernel
theorem dX11_likeIfMarried_76 : decode cX11_likeIfMarried 76 = .ok (.getfield 140, 3) := by decide +kernel
theorem dX11_likeIfMarried_79 : decode cX11_likeIfMarried 79 = .ok (.invokevirtual 332, 3) := by decide +kernel
theorem dX11_likeIfMarried_82 : decode cX11_likeIfMarried 82 = .ok (.ireturn, 1) := by decide +kernel
theorem dX11_hear_0 : decode cX11_hear 0 = .ok (.iload_n 1, 1) := by decide +kernel
theorem dX11_hear_1 : decode cX11_hear 1 = .ok (.ifCond .lt 24, 3) := by decide +kernel
theorem dX11_hear_4 : decode cX11_hear 4 = .ok (.iload_n 1, 1) := by decide +kernel
theorem dX11_hear_5 : decode cX11_hear 5 = .ok (.sipush 400, 3) := by decide +kernel
theorem dX11_hear_8 : decode cX11_hear 8 = .ok (.if_icmp .ge 17, 3) := by decide +kernel
theorem dX11_hear_11 : decode cX11_hear 11 = .ok (.iload_n 2, 1) := by decide +kernel
theorem dX11_hear_12 : decode cX11_hear 12 = .ok (.ifCond .lt 13, 3) := by decide +kernel
theorem dX11_hear_15 : decode cX11_hear 15 = .ok (.iload_n 2, 1) := by decide +kernel
theorem dX11_hear_16 : decode cX11_hear 16 = .ok (.bipush 13, 2) := by decide +kernel
theorem dX11_hear_18 : decode cX11_hear 18 = .ok (.if_icmp .ge 7, 3) := by decide +kernel
theorem dX11_hear_21 : decode cX11_hear 21 = .ok (.iconst 1, 1) := by decide +kernel
theorem dX11_hear_22 : decode cX11_hear 22 = .ok (.goto 4, 3) := by decide +kernel
theorem dX11_hear_25 : decode cX11_hear 25 = .ok (.iconst 0, 1) := by decide +kernel
theorem dX11_hear_26 : decode cX11_hear 26 = .ok (.istore_n 3, 1) := by decide +kernel
theorem dX11_hear_27 : decode cX11_hear 27 = .ok (.iload_n 3, 1) := by decide +kernel
theorem dX11_hear_28 : decode cX11_hear 28 = .ok (.ifCond .eq 15, 3) := by decide +kernel
theorem dX11_hear_31 : decode cX11_hear 31 = .ok (.aload_n 0, 1) := by decide +kernel
theorem dX11_hear_32 : decode cX11_hear 32 = .ok (.getfield 47, 3) := by decide +kernel
theorem dX11_hear_35 : decode cX11_hear 35 = .ok (.getfield 116, 3) := by decide +kernel
theorem dX11_hear_38 : decode cX11_hear 38 = .ok (.bipush 8, 2) := by decide +kernel
theorem dX11_hear_40 : decode cX11_hear 40 = .ok (.if_icmp .lt 15, 3) := by decide +kernel
theorem dX11_hear_43 : decode cX11_hear 43 = .ok (.aload_n 0, 1) := by decide +kernel
theorem dX11_hear_44 : decode cX11_hear 44 = .ok (.getfield 51, 3) := by decide +kernel
theorem dX11_hear_47 : decode cX11_hear 47 = .ok (.iconst 2, 1) := by decide +kernel
theorem dX11_hear_48 : decode cX11_hear 48 = .ok (.dup2, 1) := by decide +kernel
theorem dX11_hear_49 : decode cX11_hear 49 = .ok (.iaload, 1) := by decide +kernel
theorem dX11_hear_50 : decode cX11_hear 50 = .ok (.iconst 1, 1) := by decide +kernel
theorem dX11_hear_51 : decode cX11_hear 51 = .ok (.iadd, 1) := by decide +kernel
theorem dX11_hear_52 : decode cX11_hear 52 = .ok (.iastore, 1) := by decide +kernel
theorem dX11_hear_53 : decode cX11_hear 53 = .ok (.iconst (-1), 1) := by decide +kernel
theorem dX11_hear_54 : decode cX11_hear 54 = .ok (.ireturn, 1) := by decide +kernel
theorem dX11_hear_55 : decode cX11_hear 55 = .ok (.aload_n 0, 1) := by decide +kernel
theorem dX11_hear_56 : decode cX11_hear 56 = .ok (.getfield 47, 3) := by decide +kernel
theorem dX11_hear_59 : decode cX11_hear 59 = .ok (.iload_n 1, 1) := by decide +kernel
theorem dX11_hear_60 : decode cX11_hear 60 = .ok (.iload_n 2, 1) := by decide +kernel
theorem dX11_hear_61 : decode cX11_hear 61 = .ok (.invokevirtual 336, 3) := by decide +kernel
theorem dX11_hear_64 : decode cX11_hear 64 = .ok (.aload_n 0, 1) := by decide +kernel
theorem dX11_hear_65 : decode cX11_hear 65 = .ok (.getfield 47, 3) := by decide +kernel
theorem dX11_hear_68 : decode cX11_hear 68 = .ok (.getfield 116, 3) := by decide +kernel
theorem dX11_hear_71 : decode cX11_hear 71 = .ok (.ireturn, 1) := by decide +kernel
theorem dX11_spy_0 : decode cX11_spy 0 = .ok (.iload_n 1, 1) := by decide +kernel
theorem dX11_spy_1 : decode cX11_spy 1 = .ok (.iconst 2, 1) := by decide +kernel
theorem dX11_spy_2 : decode cX11_spy 2 = .ok (.invokestatic 198, 3) := by decide +kernel
theorem dX11_spy_5 : decode cX11_spy 5 = .ok (.aload_n 0, 1) := by decide +kernel
theorem dX11_spy_6 : decode cX11_spy 6 = .ok (.getfield 62, 3) := by decide +kernel
theorem dX11_spy_9 : decode cX11_spy 9 = .ok (.aload_n 0, 1) := by decide +kernel
theorem dX11_spy_10 : decode cX11_spy 10 = .ok (.getfield 33, 3) := by decide +kernel
theorem dX11_spy_13 : decode cX11_spy 13 = .ok (.invokevirtual 305, 3) := by decide +kernel
theorem dX11_spy_16 : decode cX11_spy 16 = .ok (.iload_n 1, 1) := by decide +kernel
theorem dX11_spy_17 : decode cX11_spy 17 = .ok (.iconst 2, 1) := by decide +kernel
theorem dX11_spy_18 : decode cX11_spy 18 = .ok (.if_icmp .ne 18, 3) := by decide +kernel
theorem dX11_spy_21 : decode cX11_spy 21 = .ok (.aload_n 0, 1) := by decide +kernel
theorem dX11_spy_22 : decode cX11_spy 22 = .ok (.iconst (-1), 1) := by decide +kernel
theorem dX11_spy_23 : decode cX11_spy 23 = .ok (.iconst 0, 1) := by decide +kernel
theorem dX11_spy_24 : decode cX11_spy 24 = .ok (.invokevirtual 339, 3) := by decide +kernel
theorem dX11_spy_27 : decode cX11_spy 27 = .ok (.ifCond .eq 7, 3) := by decide +kernel
theorem dX11_spy_30 : decode cX11_spy 30 = .ok (.iconst 1, 1) := by decide +kernel
theorem dX11_spy_31 : decode cX11_spy 31 = .ok (.goto 4, 3) := by decide +kernel
theorem dX11_spy_34 : decode cX11_spy 34 = .ok (.iconst 0, 1) := by decide +kernel
theorem dX11_spy_35 : decode cX11_spy 35 = .ok (.ireturn, 1) := by decide +kernel
theorem dX11_spy_36 : decode cX11_spy 36 = .ok (.iconst 0, 1) := by decide +kernel
theorem dX11_spy_37 : decode cX11_spy 37 = .ok (.istore_n 2, 1) := by decide +kernel
theorem dX11_spy_38 : decode cX11_spy 38 = .ok (.iconst (-1), 1) := by decide +kernel
theorem dX11_spy_39 : decode cX11_spy 39 = .ok (.istore_n 3, 1) := by decide +kernel
theorem dX11_spy_40 : decode cX11_spy 40 = .ok (.aload_n 0, 1) := by decide +kernel
theorem dX11_spy_41 : decode cX11_spy 41 = .ok (.getfield 26, 3) := by decide +kernel
theorem dX11_spy_44 : decode cX11_spy 44 = .ok (.getfield 124, 3) := by decide +kernel
theorem dX11_spy_47 : decode cX11_spy 47 = .ok (.iconst 1, 1) := by decide +kernel
theorem dX11_spy_48 : decode cX11_spy 48 = .ok (.isub, 1) := by decide +kernel
theorem dX11_spy_49 : decode cX11_spy 49 = .ok (.istore 4, 2) := by decide +kernel
theorem dX11_spy_51 : decode cX11_spy 51 = .ok (.iload 4, 2) := by decide +kernel
theorem dX11_spy_53 : decode cX11_spy 53 = .ok (.ifCond .lt 25, 3) := by decide +kernel
theorem dX11_spy_56 : decode cX11_spy 56 = .ok (.aload_n 0, 1) := by decide +kernel
theorem dX11_spy_57 : decode cX11_spy 57 = .ok (.iload 4, 2) := by decide +kernel
theorem dX11_spy_59 : decode cX11_spy 59 = .ok (.iconst 0, 1) := by decide +kernel
theorem dX11_spy_60 : decode cX11_spy 60 = .ok (.invokevirtual 339, 3) := by decide +kernel
theorem dX11_spy_63 : decode cX11_spy 63 = .ok (.ifCond .eq 9, 3) := by decide +kernel
theorem dX11_spy_66 : decode cX11_spy 66 = .ok (.iinc 2 1, 3) := by decide +kernel
theorem dX11_spy_69 : decode cX11_spy 69 = .ok (.iload 4, 2) := by decide +kernel
theorem dX11_spy_71 : decode cX11_spy 71 = .ok (.istore_n 3, 1) := by decide +kernel
theorem dX11_spy_72 : decode cX11_spy 72 = .ok (.iinc 4 (-1), 3) := by decide +kernel
theorem dX11_spy_75 : decode cX11_spy 75 = .ok (.goto (-24), 3) := by decide +kernel
theorem dX11_spy_78 : decode cX11_spy 78 = .ok (.iload_n 1, 1) := by decide +kernel
theorem dX11_spy_79 : decode cX11_spy 79 = .ok (.ifCond .ne 7, 3) := by decide +kernel
theorem dX11_spy_82 : decode cX11_spy 82 = .ok (.iload_n 2, 1) := by decide +kernel
theorem dX11_spy_83 : decode cX11_spy 83 = .ok (.goto 4, 3) := by decide +kernel
theorem dX11_spy_86 : decode cX11_spy 86 = .ok (.iload_n 3, 1) := by decide +kernel
theorem dX11_spy_87 : decode cX11_spy 87 = .ok (.ireturn, 1) := by decide +kernel
theorem dX11_wouldBeHeard_0 : decode cX11_wouldBeHeard 0 = .ok (.aload_n 0, 1) := by decide +kernel
theorem dX11_wouldBeHeard_1 : decode cX11_wouldBeHeard 1 = .ok (.getfield 62, 3) := by decide +kernel
theorem dX11_wouldBeHeard_4 : decode cX11_wouldBeHeard 4 = .ok (.aload_n 0, 1) := by decide +kernel
theorem dX11_wouldBeHeard_5 : decode cX11_wouldBeHeard 5 = .ok (.getfield 33, 3) := by decide +kernel
theorem dX11_wouldBeHeard_8 : decode cX11_wouldBeHeard 8 = .ok (.invokevirtual 309, 3) := by decide +kernel
theorem dX11_wouldBeHeard_11 : decode cX11_wouldBeHeard 11 = .ok (.aload_n 0, 1) := by decide +kernel
theorem dX11_wouldBeHeard_12 : decode cX11_wouldBeHeard 12 = .ok (.iload_n 1, 1) := by decide +kernel
theorem dX11_wouldBeHeard_13 : decode cX11_wouldBeHeard 13 = .ok (.invokevirtual 190, 3) := by decide +kernel
theorem dX11_wouldBeHeard_16 : decode cX11_wouldBeHeard 16 = .ok (.ifCond .eq 18, 3) := by decide +kernel
theorem dX11_wouldBeHeard_19 : decode cX11_wouldBeHeard 19 = .ok (.aload_n 0, 1) := by decide +kernel
theorem dX11_wouldBeHeard_20 : decode cX11_wouldBeHeard 20 = .ok (.getfield 62, 3) := by decide +kernel
theorem dX11_wouldBeHeard_23 : decode cX11_wouldBeHeard 23 = .ok (.dup, 1) := by decide +kernel
theorem dX11_wouldBeHeard_24 : decode cX11_wouldBeHeard 24 = .ok (.getfield 342, 3) := by decide +kernel
theorem dX11_wouldBeHeard_27 : decode cX11_wouldBeHeard 27 = .ok (.iconst 1, 1) := by decide +kernel
theorem dX11_wouldBeHeard_28 : decode cX11_wouldBeHeard 28 = .ok (.iload_n 1, 1) := by decide +kernel
theorem dX11_wouldBeHeard_29 : decode cX11_wouldBeHeard 29 = .ok (.ishl, 1) := by decide +kernel
theorem dX11_wouldBeHeard_30 : decode cX11_wouldBeHeard 30 = .ok (.ixor, 1) := by decide +kernel
theorem dX11_wouldBeHeard_31 : decode cX11_wouldBeHeard 31 = .ok (.putfield 342, 3) := by decide +kernel
theorem dX11_wouldBeHeard_34 : decode cX11_wouldBeHeard 34 = .ok (.aload_n 0, 1) := by decide +kernel
theorem dX11_wouldBeHeard_35 : decode cX11_wouldBeHeard 35 = .ok (.getfield 62, 3) := by decide +kernel
theorem dX11_wouldBeHeard_38 : decode cX11_wouldBeHeard 38 = .ok (.aload_n 0, 1) := by decide +kernel
theorem dX11_wouldBeHeard_39 : decode cX11_wouldBeHeard 39 = .ok (.getfield 26, 3) := by decide +kernel
theorem dX11_wouldBeHeard_42 : decode cX11_wouldBeHeard 42 = .ok (.iload_n 2, 1) := by decide +kernel
theorem dX11_wouldBeHeard_43 : decode cX11_wouldBeHeard 43 = .ok (.aload_n 0, 1) := by decide +kernel
theorem dX11_wouldBeHeard_44 : decode cX11_wouldBeHeard 44 = .ok (.getfield 47, 3) := by decide +kernel
theorem dX11_wouldBeHeard_47 : decode cX11_wouldBeHeard 47 = .ok (.invokevirtual 345, 3) := by decide +kernel
theorem dX11_wouldBeHeard_50 : decode cX11_wouldBeHeard 50 = .ok (.invokestatic 279, 3) := by decide +kernel
theorem dX11_wouldBeHeard_53 : decode cX11_wouldBeHeard 53 = .ok (.invokevirtual 312, 3) := by decide +kernel
theorem dX11_wouldBeHeard_56 : decode cX11_wouldBeHeard 56 = .ok (.aload_n 0, 1) := by decide +kernel
theorem dX11_wouldBeHeard_57 : decode cX11_wouldBeHeard 57 = .ok (.getfield 47, 3) := by decide +kernel
theorem dX11_wouldBeHeard_60 : decode cX11_wouldBeHeard 60 = .ok (.aload_n 0, 1) := by decide +kernel
theorem dX11_wouldBeHeard_61 : decode cX11_wouldBeHeard 61 = .ok (.getfield 62, 3) := by decide +kernel
theorem dX11_wouldBeHeard_64 : decode cX11_wouldBeHeard 64 = .ok (.invokevirtual 348, 3) := by decide +kernel
theorem dX11_wouldBeHeard_67 : decode cX11_wouldBeHeard 67 = .ok (.ireturn, 1) := by decide +kernel
theorem dX11_listen_0 : decode cX11_listen 0 = .ok (.iload_n 1, 1) := by decide +kernel
theorem dX11_listen_1 : decode cX11_listen 1 = .ok (.iconst 1, 1) := by decide +kernel
theorem dX11_listen_2 : decode cX11_listen 2 = .ok (.invokestatic 198, 3) := by decide +kernel
theorem dX11_listen_5 : decode cX11_listen 5 = .ok (.aload_n 0, 1) := by decide +kernel
theorem dX11_listen_6 : decode cX11_listen 6 = .ok (.getfield 33, 3) := by decide +kernel
theorem dX11_listen_9 : decode cX11_listen 9 = .ok (.getfield 140, 3) := by decide +kernel
theorem dX11_listen_12 : decode cX11_listen 12 = .ok (.bipush 60, 2) := by decide +kernel
theorem dX11_listen_14 : decode cX11_listen 14 = .ok (.iadd, 1) := by decide +kernel
theorem dX11_listen_15 : decode cX11_listen 15 = .ok (.sipush 400, 3) := by decide +kernel
theorem dX11_listen_18 : decode cX11_listen 18 = .ok (.invokestatic 352, 3) := by decide +kernel
theorem dX11_listen_21 : decode cX11_listen 21 = .ok (.istore_n 2, 1) := by decide +kernel
theorem dX11_listen_22 : decode cX11_listen 22 = .ok (.aload_n 0, 1) := by decide +kernel
theorem dX11_listen_23 : decode cX11_listen 23 = .ok (.getfield 33, 3) := by decide +kernel
theorem dX11_listen_26 : decode cX11_listen 26 = .ok (.getfield 140, 3) := by decide +kernel
theorem dX11_listen_29 : decode cX11_listen 29 = .ok (.istore_n 3, 1) := by decide +kernel
theorem dX11_listen_30 : decode cX11_listen 30 = .ok (.iload_n 3, 1) := by decide +kernel
theorem dX11_listen_31 : decode cX11_listen 31 = .ok (.iload_n 2, 1) := by decide +kernel
theorem dX11_listen_32 : decode cX11_listen 32 = .ok (.if_icmp .ge 16, 3) := by decide +kernel
theorem dX11_listen_35 : decode cX11_listen 35 = .ok (.aload_n 0, 1) := by decide +kernel
theorem dX11_listen_36 : decode cX11_listen 36 = .ok (.getfield 82, 3) := by decide +kernel
theorem dX11_listen_39 : decode cX11_listen 39 = .ok (.iload_n 3, 1) := by decide +kernel
theorem dX11_listen_40 : decode cX11_listen 40 = .ok (.iconst 0, 1) := by decide +kernel
theorem dX11_listen_41 : decode cX11_listen 41 = .ok (.iastore, 1) := by decide +kernel
theorem dX11_listen_42 : decode cX11_listen 42 = .ok (.iinc 3 1, 3) := by decide +kernel
theorem dX11_listen_45 : decode cX11_listen 45 = .ok (.goto (-15), 3) := by decide +kernel
theorem dX11_listen_48 : decode cX11_listen 48 = .ok (.aload_n 0, 1) := by decide +kernel
theorem dX11_listen_49 : decode cX11_listen 49 = .ok (.getfield 62, 3) := by decide +kernel
theorem dX11_listen_52 : decode cX11_listen 52 = .ok (.aload_n 0, 1) := by decide +kernel
theorem dX11_listen_53 : decode cX11_listen 53 = .ok (.getfield 33, 3) := by decide +kernel
theorem dX11_listen_56 : decode cX11_listen 56 = .ok (.invokevirtual 305, 3) := by decide +kernel
theorem dX11_listen_59 : decode cX11_listen 59 = .ok (.iconst 0, 1) := by decide +kernel
theorem dX11_listen_60 : decode cX11_listen 60 = .ok (.istore_n 3, 1) := by decide +kernel
theorem dX11_listen_61 : decode cX11_listen 61 = .ok (.iload_n 3, 1) := by decide +kernel
theorem dX11_listen_62 : decode cX11_listen 62 = .ok (.aload_n 0, 1) := by decide +kernel
theorem dX11_listen_63 : decode cX11_listen 63 = .ok (.getfield 26, 3) := by decide +kernel
theorem dX11_listen_66 : decode cX11_listen 66 = .ok (.getfield 124, 3) := by decide +kernel
theorem dX11_listen_69 : decode cX11_listen 69 = .ok (.if_icmp .ge 25, 3) := by decide +kernel
theorem dX11_listen_72 : decode cX11_listen 72 = .ok (.aload_n 0, 1) := by decide +kernel
theorem dX11_listen_73 : decode cX11_listen 73 = .ok (.iload_n 3, 1) := by decide +kernel
theorem dX11_listen_74 : decode cX11_listen 74 = .ok (.iload_n 2, 1) := by decide +kernel
theorem dX11_listen_75 : decode cX11_listen 75 = .ok (.iconst 1, 1) := by decide +kernel
theorem dX11_listen_76 : decode cX11_listen 76 = .ok (.isub, 1) := by decide +kernel
theorem dX11_listen_77 : decode cX11_listen 77 = .ok (.invokevirtual 339, 3) := by decide +kernel
theorem dX11_listen_80 : decode cX11_listen 80 = .ok (.ifCond .eq 8, 3) := by decide +kernel
theorem dX11_listen_83 : decode cX11_listen 83 = .ok (.aload_n 0, 1) := by decide +kernel
theorem dX11_listen_84 : decode cX11_listen 84 = .ok (.iload_n 2, 1) := by decide +kernel
theorem dX11_listen_85 : decode cX11_listen 85 = .ok (.invokevirtual 355, 3) := by decide +kernel
theorem dX11_listen_88 : decode cX11_listen 88 = .ok (.iinc 3 1, 3) := by decide +kernel
theorem dX11_listen_91 : decode cX11_listen 91 = .ok (.goto (-30), 3) := by decide +kernel
theorem dX11_listen_94 : decode cX11_listen 94 = .ok (.iconst (-1), 1) := by decide +kernel
theorem dX11_listen_95 : decode cX11_listen 95 = .ok (.istore_n 3, 1) := by decide +kernel
theorem dX11_listen_96 : decode cX11_listen 96 = .ok (.iconst 0, 1) := by decide +kernel
theorem dX11_listen_97 : decode cX11_listen 97 = .ok (.istore 4, 2) := by decide +kernel
theorem dX11_listen_99 : decode cX11_listen 99 = .ok (.aload_n 0, 1) := by decide +kernel
theorem dX11_listen_100 : decode cX11_listen 100 = .ok (.getfield 33, 3) := by decide +kernel
theorem dX11_listen_103 : decode cX11_listen 103 = .ok (.getfield 140, 3) := by decide +kernel
theorem dX11_listen_106 : decode cX11_listen 106 = .ok (.istore 5, 2) := by decide +kernel
theorem dX11_listen_108 : decode cX11_listen 108 = .ok (.iload 5, 2) := by decide +kernel
theorem dX11_listen_110 : decode cX11_listen 110 = .ok (.iload_n 2, 1) := by decide +kernel
theorem dX11_listen_111 : decode cX11_listen 111 = .ok (.if_icmp .ge 35, 3) := by decide +kernel
theorem dX11_listen_114 : decode cX11_listen 114 = .ok (.aload_n 0, 1) := by decide +kernel
theorem dX11_listen_115 : decode cX11_listen 115 = .ok (.getfield 82, 3) := by decide +kernel
theorem dX11_listen_118 : decode cX11_listen 118 = .ok (.iload 5, 2) := by decide +kernel
theorem dX11_listen_120 : decode cX11_listen 120 = .ok (.iaload, 1) := by decide +kernel
theorem dX11_listen_121 : decode cX11_listen 121 = .ok (.invokestatic 318, 3) := by decide +kernel
theorem dX11_listen_124 : decode cX11_listen 124 = .ok (.istore 6, 2) := by decide +kernel
theorem dX11_listen_126 : decode cX11_listen 126 = .ok (.iload 6, 2) := by decide +kernel
theorem dX11_listen_128 : decode cX11_listen 128 = .ok (.iload 4, 2) := by decide +kernel
theorem dX11_listen_130 : decode cX11_listen 130 = .ok (.if_icmp .le 10, 3) := by decide +kernel
theorem dX11_listen_133 : decode cX11_listen 133 = .ok (.iload 6, 2) := by decide +kernel
theorem dX11_listen_135 : decode cX11_listen 135 = .ok (.istore 4, 2) := by decide +kernel
theorem dX11_listen_137 : decode cX11_listen 137 = .ok (.iload 5, 2) := by decide +kernel
theorem dX11_listen_139 : decode cX11_listen 139 = .ok (.istore_n 3, 1) := by decide +kernel
theorem dX11_listen_140 : decode cX11_listen 140 = .ok (.iinc 5 1, 3) := by decide +kernel
theorem dX11_listen_143 : decode cX11_listen 143 = .ok (.goto (-35), 3) := by decide +kernel
theorem dX11_listen_146 : decode cX11_listen 146 = .ok (.iload_n 1, 1) := by decide +kernel
theorem dX11_listen_147 : decode cX11_listen 147 = .ok (.ifCond .ne 7, 3) := by decide +kernel
theorem dX11_listen_150 : decode cX11_listen 150 = .ok (.iload_n 3, 1) := by decide +kernel
theorem dX11_listen_151 : decode cX11_listen 151 = .ok (.goto 5, 3) := by decide +kernel
theorem dX11_listen_154 : decode cX11_listen 154 = .ok (.iload 4, 2) := by decide +kernel
theorem dX11_listen_156 : decode cX11_listen 156 = .ok (.ireturn, 1) := by decide +kernel
theorem dX11_gatherSigns_0 : decode cX11_gatherSigns 0 = .ok (.aload_n 0, 1) := by decide +kernel
theorem dX11_gatherSigns_1 : decode cX11_gatherSigns 1 = .ok (.getfield 33, 3) := by decide +kernel
theorem dX11_gatherSigns_4 : decode cX11_gatherSigns 4 = .ok (.getfield 140, 3) := by decide +kernel
theorem dX11_gatherSigns_7 : decode cX11_gatherSigns 7 = .ok (.istore_n 2, 1) := by decide +kernel
theorem dX11_gatherSigns_8 : decode cX11_gatherSigns 8 = .ok (.iload_n 2, 1) := by decide +kernel
theorem dX11_gatherSigns_9 : decode cX11_gatherSigns 9 = .ok (.iload_n 1, 1) := by decide +kernel
theorem dX11_gatherSigns_10 : decode cX11_gatherSigns 10 = .ok (.if_icmp .ge 45, 3) := by decide +kernel
theorem dX11_gatherSigns_13 : decode cX11_gatherSigns 13 = .ok (.aload_n 0, 1) := by decide +kernel
theorem dX11_gatherSigns_14 : decode cX11_gatherSigns 14 = .ok (.getfield 82, 3) := by decide +kernel
theorem dX11_gatherSigns_17 : decode cX11_gatherSigns 17 = .ok (.iload_n 2, 1) := by decide +kernel
theorem dX11_gatherSigns_18 : decode cX11_gatherSigns 18 = .ok (.dup2, 1) := by decide +kernel
theorem dX11_gatherSigns_19 : decode cX11_gatherSigns 19 = .ok (.iaload, 1) := by decide +kernel
theorem dX11_gatherSigns_20 : decode cX11_gatherSigns 20 = .ok (.iconst 1, 1) := by decide +kernel
theorem dX11_gatherSigns_21 : decode cX11_gatherSigns 21 = .ok (.iload_n 2, 1) := by decide +kernel
theorem dX11_gatherSigns_22 : decode cX11_gatherSigns 22 = .ok (.aload_n 0, 1) := by decide +kernel
theorem dX11_gatherSigns_23 : decode cX11_gatherSigns 23 = .ok (.getfield 62, 3) := by decide +kernel
theorem dX11_gatherSigns_26 : decode cX11_gatherSigns 26 = .ok (.getfield 140, 3) := by decide +kernel
theorem dX11_gatherSigns_29 : decode cX11_gatherSigns 29 = .ok (.if_icmp .ge 15, 3) := by decide +kernel
theorem dX11_gatherSigns_32 : decode cX11_gatherSigns 32 = .ok (.aload_n 0, 1) := by decide +kernel
theorem dX11_gatherSigns_33 : decode cX11_gatherSigns 33 = .ok (.getfield 62, 3) := by decide +kernel
theorem dX11_gatherSigns_36 : decode cX11_gatherSigns 36 = .ok (.getfield 215, 3) := by decide +kernel
theorem dX11_gatherSigns_39 : decode cX11_gatherSigns 39 = .ok (.iload_n 2, 1) := by decide +kernel
theorem dX11_gatherSigns_40 : decode cX11_gatherSigns 40 = .ok (.iaload, 1) := by decide +kernel
theorem dX11_gatherSigns_41 : decode cX11_gatherSigns 41 = .ok (.goto 5, 3) := by decide +kernel
theorem dX11_gatherSigns_44 : decode cX11_gatherSigns 44 = .ok (.bipush 13, 2) := by decide +kernel
theorem dX11_gatherSigns_46 : decode cX11_gatherSigns 46 = .ok (.ishl, 1) := by decide +kernel
theorem dX11_gatherSigns_47 : decode cX11_gatherSigns 47 = .ok (.ior, 1) := by decide +kernel
theorem dX11_gatherSigns_48 : decode cX11_gatherSigns 48 = .ok (.iastore, 1) := by decide +kernel
theorem dX11_gatherSigns_49 : decode cX11_gatherSigns 49 = .ok (.iinc 2 1, 3) := by decide +kernel
theorem dX11_gatherSigns_52 : decode cX11_gatherSigns 52 = .ok (.goto (-44), 3) := by decide +kernel
theorem dX11_gatherSigns_55 : decode cX11_gatherSigns 55 = .ok (.return_, 1) := by decide +kernel
theorem dX11_forget_0 : decode cX11_forget 0 = .ok (.aload_n 0, 1) := by decide +kernel
theorem dX11_forget_1 : decode cX11_forget 1 = .ok (.getfield 47, 3) := by decide +kernel
theorem dX11_forget_4 : decode cX11_forget 4 = .ok (.iconst 0, 1) := by decide +kernel
theorem dX11_forget_5 : decode cX11_forget 5 = .ok (.putfield 116, 3) := by decide +kernel
theorem dX11_forget_8 : decode cX11_forget 8 = .ok (.return_, 1) := by decide +kernel
theorem dX11_vote_0 : decode cX11_vote 0 = .ok (.aload_n 0, 1) := by decide +kernel
theorem dX11_vote_1 : decode cX11_vote 1 = .ok (.getfield 26, 3) := by decide +kernel
theorem dX11_vote_4 : decode cX11_vote 4 = .ok (.getfield 124, 3) := by decide +kernel
theorem dX11_vote_7 : decode cX11_vote 7 = .ok (.aload_n 0, 1) := by decide +kernel
theorem dX11_vote_8 : decode cX11_vote 8 = .ok (.getfield 33, 3) := by decide +kernel
theorem dX11_vote_11 : decode cX11_vote 11 = .ok (.getfield 153, 3) := by decide +kernel
theorem dX11_vote_14 : decode cX11_vote 14 = .ok (.invokestatic 318, 3) := by decide +kernel
theorem dX11_vote_17 : decode cX11_vote 17 = .ok (.isub, 1) := by decide +kernel
theorem dX11_vote_18 : decode cX11_vote 18 = .ok (.istore_n 1, 1) := by decide +kernel
theorem dX11_vote_19 : decode cX11_vote 19 = .ok (.iconst 0, 1) := by decide +kernel
theorem dX11_vote_20 : decode cX11_vote 20 = .ok (.aload_n 0, 1) := by decide +kernel
theorem dX11_vote_21 : decode cX11_vote 21 = .ok (.getfield 33, 3) := by decide +kernel
theorem dX11_vote_24 : decode cX11_vote 24 = .ok (.getfield 140, 3) := by decide +kernel
theorem dX11_vote_27 : decode cX11_vote 27 = .ok (.iload_n 1, 1) := by decide +kernel
theorem dX11_vote_28 : decode cX11_vote 28 = .ok (.isub, 1) := by decide +kernel
theorem dX11_vote_29 : decode cX11_vote 29 = .ok (.invokestatic 279, 3) := by decide +kernel
theorem dX11_vote_32 : decode cX11_vote 32 = .ok (.istore_n 2, 1) := by decide +kernel
theorem dX11_vote_33 : decode cX11_vote 33 = .ok (.iconst 0, 1) := by decide +kernel
theorem dX11_vote_34 : decode cX11_vote 34 = .ok (.istore_n 3, 1) := by decide +kernel
theorem dX11_vote_35 : decode cX11_vote 35 = .ok (.iconst 0, 1) := by decide +kernel
theorem dX11_vote_36 : decode cX11_vote 36 = .ok (.istore 4, 2) := by decide +kernel
theorem dX11_vote_38 : decode cX11_vote 38 = .ok (.iload 4, 2) := by decide +kernel
theorem dX11_vote_40 : decode cX11_vote 40 = .ok (.aload_n 0, 1) := by decide +kernel
theorem dX11_vote_41 : decode cX11_vote 41 = .ok (.getfield 26, 3) := by decide +kernel
theorem dX11_vote_44 : decode cX11_vote 44 = .ok (.getfield 124, 3) := by decide +kernel
theorem dX11_vote_47 : decode cX11_vote 47 = .ok (.if_icmp .ge 107, 3) := by decide +kernel
theorem dX11_vote_50 : decode cX11_vote 50 = .ok (.aload_n 0, 1) := by decide +kernel
theorem dX11_vote_51 : decode cX11_vote 51 = .ok (.getfield 26, 3) := by decide +kernel
theorem dX11_vote_54 : decode cX11_vote 54 = .ok (.getfield 167, 3) := by decide +kernel
theorem dX11_vote_57 : decode cX11_vote 57 = .ok (.iload 4, 2) := by decide +kernel
theorem dX11_vote_59 : decode cX11_vote 59 = .ok (.iaload, 1) := by decide +kernel
theorem dX11_vote_60 : decode cX11_vote 60 = .ok (.iconst 2, 1) := by decide +kernel
theorem dX11_vote_61 : decode cX11_vote 61 = .ok (.if_icmp .ne 87, 3) := by decide +kernel
theorem dX11_vote_64 : decode cX11_vote 64 = .ok (.aload_n 0, 1) := by decide +kernel
theorem dX11_vote_65 : decode cX11_vote 65 = .ok (.getfield 33, 3) := by decide +kernel
theorem dX11_vote_68 : decode cX11_vote 68 = .ok (.getfield 150, 3) := by decide +kernel
theorem dX11_vote_71 : decode cX11_vote 71 = .ok (.aload_n 0, 1) := by decide +kernel
theorem dX11_vote_72 : decode cX11_vote 72 = .ok (.getfield 33, 3) := by decide +kernel
theorem dX11_vote_75 : decode cX11_vote 75 = .ok (.getfield 153, 3) := by decide +kernel
theorem dX11_vote_78 : decode cX11_vote 78 = .ok (.ior, 1) := by decide +kernel
theorem dX11_vote_79 : decode cX11_vote 79 = .ok (.iload 4, 2) := by decide +kernel
theorem dX11_vote_81 : decode cX11_vote 81 = .ok (.invokestatic 237, 3) := by decide +kernel
theorem dX11_vote_84 : decode cX11_vote 84 = .ok (.ifCond .ne 64, 3) := by decide +kernel
theorem dX11_vote_87 : decode cX11_vote 87 = .ok (.aload_n 0, 1) := by decide +kernel
theorem dX11_vote_88 : decode cX11_vote 88 = .ok (.getfield 26, 3) := by decide +kernel
theorem dX11_vote_91 : decode cX11_vote 91 = .ok (.getfield 176, 3) := by decide +kernel
theorem dX11_vote_94 : decode cX11_vote 94 = .ok (.iload 4, 2) := by decide +kernel
theorem dX11_vote_96 : decode cX11_vote 96 = .ok (.iaload, 1) := by decide +kernel
theorem dX11_vote_97 : decode cX11_vote 97 = .ok (.istore 5, 2) := by decide +kernel
theorem dX11_vote_99 : decode cX11_vote 99 = .ok (.aload_n 0, 1) := by decide +kernel
theorem dX11_vote_100 : decode cX11_vote 100 = .ok (.getfield 33, 3) := by decide +kernel
theorem dX11_vote_103 : decode cX11_vote 103 = .ok (.iload 5, 2) := by decide +kernel
theorem dX11_vote_105 : decode cX11_vote 105 = .ok (.iload_n 2, 1) := by decide +kernel
theorem dX11_vote_106 : decode cX11_vote 106 = .ok (.invokevirtual 295, 3) := by decide +kernel
theorem dX11_vote_109 : decode cX11_vote 109 = .ok (.aload_n 0, 1) := by decide +kernel
theorem dX11_vote_110 : decode cX11_vote 110 = .ok (.getfield 33, 3) := by decide +kernel
theorem dX11_vote_113 : decode cX11_vote 113 = .ok (.iload 5, 2) := by decide +kernel
theorem dX11_vote_115 : decode cX11_vote 115 = .ok (.bipush 6, 2) := by decide +kernel
theorem dX11_vote_117 : decode cX11_vote 117 = .ok (.iadd, 1) := by decide +kernel
theorem dX11_vote_118 : decode cX11_vote 118 = .ok (.bipush 12, 2) := by decide +kernel
theorem dX11_vote_120 : decode cX11_vote 120 = .ok (.irem, 1) := by decide +kernel
theorem dX11_vote_121 : decode cX11_vote 121 = .ok (.iload_n 2, 1) := by decide +kernel
theorem dX11_vote_122 : decode cX11_vote 122 = .ok (.invokevirtual 295, 3) := by decide +kernel
theorem dX11_vote_125 : decode cX11_vote 125 = .ok (.if_icmp .le 7, 3) := by decide +kernel
theorem dX11_vote_128 : decode cX11_vote 128 = .ok (.iconst 1, 1) := by decide +kernel
theorem dX11_vote_129 : decode cX11_vote 129 = .ok (.goto 4, 3) := by decide +kernel
theorem dX11_vote_132 : decode cX11_vote 132 = .ok (.iconst 0, 1) := by decide +kernel
theorem dX11_vote_133 : decode cX11_vote 133 = .ok (.istore 6, 2) := by decide +kernel
theorem dX11_vote_135 : decode cX11_vote 135 = .ok (.iload_n 3, 1) := by decide +kernel
theorem dX11_vote_136 : decode cX11_vote 136 = .ok (.iload 6, 2) := by decide +kernel
theorem dX11_vote_138 : decode cX11_vote 138 = .ok (.ifCond .eq 7, 3) := by decide +kernel
theorem dX11_vote_141 : decode cX11_vote 141 = .ok (.iconst 1, 1) := by decide +kernel
theorem dX11_vote_142 : decode cX11_vote 142 = .ok (.goto 4, 3) := by decide +kernel
theorem dX11_vote_145 : decode cX11_vote 145 = .ok (.iconst (-1), 1) := by decide +kernel
theorem dX11_vote_146 : decode cX11_vote 146 = .ok (.iadd, 1) := by decide +kernel
theorem dX11_vote_147 : decode cX11_vote 147 = .ok (.istore_n 3, 1) := by decide +kernel
theorem dX11_vote_148 : decode cX11_vote 148 = .ok (.iinc 4 1, 3) := by decide +kernel
theorem dX11_vote_151 : decode cX11_vote 151 = .ok (.goto (-113), 3) := by decide +kernel
theorem dX11_vote_154 : decode cX11_vote 154 = .ok (.iload_n 3, 1) := by decide +kernel
theorem dX11_vote_155 : decode cX11_vote 155 = .ok (.ireturn, 1) := by decide +kernel
theorem dX11_game_0 : decode cX11_game 0 = .ok (.iload_n 3, 1) := by decide +kernel
theorem dX11_game_1 : decode cX11_game 1 = .ok (.iconst 1, 1) := by decide +kernel
theorem dX11_game_2 : decode cX11_game 2 = .ok (.invokestatic 198, 3) := by decide +kernel
theorem dX11_game_5 : decode cX11_game 5 = .ok (.iload_n 1, 1) := by decide +kernel
theorem dX11_game_6 : decode cX11_game 6 = .ok (.ifCond .lt 21, 3) := by decide +kernel
theorem dX11_game_9 : decode cX11_game 9 = .ok (.iload_n 1, 1) := by decide +kernel
theorem dX11_game_10 : decode cX11_game 10 = .ok (.iconst 4, 1) := by decide +kernel
theorem dX11_game_11 : decode cX11_game 11 = .ok (.if_icmp .ge 16, 3) := by decide +kernel
theorem dX11_game_14 : decode cX11_game 14 = .ok (.iload_n 2, 1) := by decide +kernel
theorem dX11_game_15 : decode cX11_game 15 = .ok (.ifCond .lt 12, 3) := by decide +kernel
theorem dX11_game_18 : decode cX11_game 18 = .ok (.iload_n 2, 1) := by decide +kernel
theorem dX11_game_19 : decode cX11_game 19 = .ok (.iconst 4, 1) := by decide +kernel
theorem dX11_game_20 : decode cX11_game 20 = .ok (.if_icmp .ge 7, 3) := by decide +kernel
theorem dX11_game_23 : decode cX11_game 23 = .ok (.iconst 1, 1) := by decide +kernel
theorem dX11_game_24 : decode cX11_game 24 = .ok (.goto 4, 3) := by decide +kernel
theorem dX11_game_27 : decode cX11_game 27 = .ok (.iconst 0, 1) := by decide +kernel
theorem dX11_game_28 : decode cX11_game 28 = .ok (.istore 4, 2) := by decide +kernel
theorem dX11_game_30 : decode cX11_game 30 = .ok (.iload 4, 2) := by decide +kernel
theorem dX11_game_32 : decode cX11_game 32 = .ok (.ifCond .eq 8, 3) := by decide +kernel
theorem dX11_game_35 : decode cX11_game 35 = .ok (.iload_n 1, 1) := by decide +kernel
theorem dX11_game_36 : decode cX11_game 36 = .ok (.iload_n 2, 1) := by decide +kernel
theorem dX11_game_37 : decode cX11_game 37 = .ok (.if_icmp .ne 14, 3) := by decide +kernel
theorem dX11_game_40 : decode cX11_game 40 = .ok (.new 95, 3) := by decide +kernel
theorem dX11_game_43 : decode cX11_game 43 = .ok (.dup, 1) := by decide +kernel
theorem dX11_game_44 : decode cX11_game 44 = .ok (.ldc_w 358, 3) := by decide +kernel
theorem dX11_game_47 : decode cX11_game 47 = .ok (.invokespecial 99, 3) := by decide +kernel
theorem dX11_game_50 : decode cX11_game 50 = .ok (.athrow, 1) := by decide +kernel
theorem dX11_game_51 : decode cX11_game 51 = .ok (.aload_n 0, 1) := by decide +kernel
theorem dX11_game_52 : decode cX11_game 52 = .ok (.getfield 75, 3) := by decide +kernel
theorem dX11_game_55 : decode cX11_game 55 = .ok (.aload_n 0, 1) := by decide +kernel
theorem dX11_game_56 : decode cX11_game 56 = .ok (.getfield 26, 3) := by decide +kernel
theorem dX11_game_59 : decode cX11_game 59 = .ok (.aload_n 0, 1) := by decide +kernel
theorem dX11_game_60 : decode cX11_game 60 = .ok (.getfield 33, 3) := by decide +kernel
theorem dX11_game_63 : decode cX11_game 63 = .ok (.iload_n 1, 1) := by decide +kernel
theorem dX11_game_64 : decode cX11_game 64 = .ok (.iload_n 2, 1) := by decide +kernel
theorem dX11_game_65 : decode cX11_game 65 = .ok (.invokevirtual 360, 3) := by decide +kernel
theorem dX11_game_68 : decode cX11_game 68 = .ok (.aload_n 0, 1) := by decide +kernel
theorem dX11_game_69 : decode cX11_game 69 = .ok (.getfield 75, 3) := by decide +kernel
theorem dX11_game_72 : decode cX11_game 72 = .ok (.aload_n 0, 1) := by decide +kernel
theorem dX11_game_73 : decode cX11_game 73 = .ok (.getfield 26, 3) := by decide +kernel
theorem dX11_game_76 : decode cX11_game 76 = .ok (.aload_n 0, 1) := by decide +kernel
theorem dX11_game_77 : decode cX11_game 77 = .ok (.getfield 33, 3) := by decide +kernel
theorem dX11_game_80 : decode cX11_game 80 = .ok (.aload_n 0, 1) := by decide +kernel
theorem dX11_game_81 : decode cX11_game 81 = .ok (.getfield 62, 3) := by decide +kernel
theorem dX11_game_84 : decode cX11_game 84 = .ok (.invokevirtual 364, 3) := by decide +kernel
theorem dX11_game_87 : decode cX11_game 87 = .ok (.iload_n 3, 1) := by decide +kernel
theorem dX11_game_88 : decode cX11_game 88 = .ok (.ifCond .ne 13, 3) := by decide +kernel
theorem dX11_game_91 : decode cX11_game 91 = .ok (.aload_n 0, 1) := by decide +kernel
theorem dX11_game_92 : decode cX11_game 92 = .ok (.getfield 75, 3) := by decide +kernel
theorem dX11_game_95 : decode cX11_game 95 = .ok (.invokevirtual 368, 3) := by decide +kernel
theorem dX11_game_98 : decode cX11_game 98 = .ok (.goto 10, 3) := by decide +kernel
theorem dX11_game_101 : decode cX11_game 101 = .ok (.aload_n 0, 1) := by decide +kernel
theorem dX11_game_102 : decode cX11_game 102 = .ok (.getfield 75, 3) := by decide +kernel
theorem dX11_game_105 : decode cX11_game 105 = .ok (.invokevirtual 371, 3) := by decide +kernel
theorem dX11_game_108 : decode cX11_game 108 = .ok (.ireturn, 1) := by decide +kernel
theorem dX11_century_0 : decode cX11_century 0 = .ok (.iload_n 3, 1) := by decide +kernel
theorem dX11_century_1 : decode cX11_century 1 = .ok (.iconst 2, 1) := by decide +kernel
theorem dX11_century_2 : decode cX11_century 2 = .ok (.invokestatic 198, 3) := by decide +kernel
theorem dX11_century_5 : decode cX11_century 5 = .ok (.iload_n 2, 1) := by decide +kernel
theorem dX11_century_6 : decode cX11_century 6 = .ok (.ifCond .lt 9, 3) := by decide +kernel
theorem dX11_century_9 : decode cX11_century 9 = .ok (.iload_n 2, 1) := by decide +kernel
theorem dX11_century_10 : decode cX11_century 10 = .ok (.bipush 20, 2) := by decide +kernel
theorem dX11_century_12 : decode cX11_century 12 = .ok (.if_icmp .le 14, 3) := by decide +kernel
theorem dX11_century_15 : decode cX11_century 15 = .ok (.new 95, 3) := by decide +kernel
theorem dX11_century_18 : decode cX11_century 18 = .ok (.dup, 1) := by decide +kernel
theorem dX11_century_19 : decode cX11_century 19 = .ok (.ldc_w 316, 3) := by decide +kernel
theorem dX11_century_22 : decode cX11_century 22 = .ok (.invokespecial 99, 3) := by decide +kernel
theorem dX11_century_25 : decode cX11_century 25 = .ok (.athrow, 1) := by decide +kernel
theorem dX11_century_26 : decode cX11_century 26 = .ok (.aload_n 0, 1) := by decide +kernel
theorem dX11_century_27 : decode cX11_century 27 = .ok (.getfield 62, 3) := by decide +kernel
theorem dX11_century_30 : decode cX11_century 30 = .ok (.aload_n 0, 1) := by decide +kernel
theorem dX11_century_31 : decode cX11_century 31 = .ok (.getfield 33, 3) := by decide +kernel
theorem dX11_century_34 : decode cX11_century 34 = .ok (.invokevirtual 305, 3) := by decide +kernel
theorem dX11_century_37 : decode cX11_century 37 = .ok (.aload_n 0, 1) := by decide +kernel
theorem dX11_century_38 : decode cX11_century 38 = .ok (.getfield 62, 3) := by decide +kernel
theorem dX11_century_41 : decode cX11_century 41 = .ok (.aload_n 0, 1) := by decide +kernel
theorem dX11_century_42 : decode cX11_century 42 = .ok (.getfield 33, 3) := by decide +kernel
theorem dX11_century_45 : decode cX11_century 45 = .ok (.invokevirtual 309, 3) := by decide +kernel
theorem dX11_century_48 : decode cX11_century 48 = .ok (.iload_n 1, 1) := by decide +kernel
theorem dX11_century_49 : decode cX11_century 49 = .ok (.istore 4, 2) := by decide +kernel
theorem dX11_century_51 : decode cX11_century 51 = .ok (.iconst 0, 1) := by decide +kernel
theorem dX11_century_52 : decode cX11_century 52 = .ok (.istore 5, 2) := by decide +kernel
theorem dX11_century_54 : decode cX11_century 54 = .ok (.iload 5, 2) := by decide +kernel
theorem dX11_century_56 : decode cX11_century 56 = .ok (.iload_n 2, 1) := by decide +kernel
theorem dX11_century_57 : decode cX11_century 57 = .ok (.if_icmp .ge 73, 3) := by decide +kernel
theorem dX11_century_60 : decode cX11_century 60 = .ok (.aload_n 0, 1) := by decide +kernel
theorem dX11_century_61 : decode cX11_century 61 = .ok (.getfield 26, 3) := by decide +kernel
theorem dX11_century_64 : decode cX11_century 64 = .ok (.getfield 124, 3) := by decide +kernel
theorem dX11_century_67 : decode cX11_century 67 = .ok (.ifCond .le 46, 3) := by decide +kernel
theorem dX11_century_70 : decode cX11_century 70 = .ok (.iload 4, 2) := by decide +kernel
theorem dX11_century_72 : decode cX11_century 72 = .ok (.invokestatic 374, 3) := by decide +kernel
theorem dX11_century_75 : decode cX11_century 75 = .ok (.istore 4, 2) := by decide +kernel
theorem dX11_century_77 : decode cX11_century 77 = .ok (.iload 4, 2) := by decide +kernel
theorem dX11_century_79 : decode cX11_century 79 = .ok (.aload_n 0, 1) := by decide +kernel
theorem dX11_century_80 : decode cX11_century 80 = .ok (.getfield 26, 3) := by decide +kernel
theorem dX11_century_83 : decode cX11_century 83 = .ok (.getfield 124, 3) := by decide +kernel
theorem dX11_century_86 : decode cX11_century 86 = .ok (.invokestatic 377, 3) := by decide +kernel
theorem dX11_century_89 : decode cX11_century 89 = .ok (.istore 6, 2) := by decide +kernel
theorem dX11_century_91 : decode cX11_century 91 = .ok (.iload 4, 2) := by decide +kernel
theorem dX11_century_93 : decode cX11_century 93 = .ok (.invokestatic 374, 3) := by decide +kernel
theorem dX11_century_96 : decode cX11_century 96 = .ok (.istore 4, 2) := by decide +kernel
theorem dX11_century_98 : decode cX11_century 98 = .ok (.aload_n 0, 1) := by decide +kernel
theorem dX11_century_99 : decode cX11_century 99 = .ok (.getfield 62, 3) := by decide +kernel
theorem dX11_century_102 : decode cX11_century 102 = .ok (.iload 6, 2) := by decide +kernel
theorem dX11_century_104 : decode cX11_century 104 = .ok (.iload 4, 2) := by decide +kernel
theorem dX11_century_106 : decode cX11_century 106 = .ok (.iconst 5, 1) := by decide +kernel
theorem dX11_century_107 : decode cX11_century 107 = .ok (.invokestatic 377, 3) := by decide +kernel
theorem dX11_century_110 : decode cX11_century 110 = .ok (.invokevirtual 380, 3) := by decide +kernel
theorem dX11_century_113 : decode cX11_century 113 = .ok (.aload_n 0, 1) := by decide +kernel
theorem dX11_century_114 : decode cX11_century 114 = .ok (.getfield 62, 3) := by decide +kernel
theorem dX11_century_117 : decode cX11_century 117 = .ok (.aload_n 0, 1) := by decide +kernel
theorem dX11_century_118 : decode cX11_century 118 = .ok (.getfield 26, 3) := by decide +kernel
theorem dX11_century_121 : decode cX11_century 121 = .ok (.invokevirtual 234, 3) := by decide +kernel
theorem dX11_century_124 : decode cX11_century 124 = .ok (.iinc 5 1, 3) := by decide +kernel
theorem dX11_century_127 : decode cX11_century 127 = .ok (.goto (-73), 3) := by decide +kernel
theorem dX11_century_130 : decode cX11_century 130 = .ok (.iload_n 3, 1) := by decide +kernel
theorem dX11_century_131 : decode cX11_century 131 = .ok (.ifCond .ne 11, 3) := by decide +kernel
theorem dX11_century_134 : decode cX11_century 134 = .ok (.aload_n 0, 1) := by decide +kernel
theorem dX11_century_135 : decode cX11_century 135 = .ok (.getfield 62, 3) := by decide +kernel
theorem dX11_century_138 : decode cX11_century 138 = .ok (.getfield 140, 3) := by decide +kernel
theorem dX11_century_141 : decode cX11_century 141 = .ok (.ireturn, 1) := by decide +kernel
theorem dX11_century_142 : decode cX11_century 142 = .ok (.iload_n 3, 1) := by decide +kernel
theorem dX11_century_143 : decode cX11_century 143 = .ok (.iconst 1, 1) := by decide +kernel
theorem dX11_century_144 : decode cX11_century 144 = .ok (.if_icmp .ne 13, 3) := by decide +kernel
theorem dX11_century_147 : decode cX11_century 147 = .ok (.aload_n 0, 1) := by decide +kernel
theorem dX11_century_148 : decode cX11_century 148 = .ok (.getfield 62, 3) := by decide +kernel
theorem dX11_century_151 : decode cX11_century 151 = .ok (.invokevirtual 146, 3) := by decide +kernel
theorem dX11_century_154 : decode cX11_century 154 = .ok (.goto 18, 3) := by decide +kernel
theorem dX11_century_157 : decode cX11_century 157 = .ok (.aload_n 0, 1) := by decide +kernel
theorem dX11_century_158 : decode cX11_century 158 = .ok (.getfield 68, 3) := by decide +kernel
theorem dX11_century_161 : decode cX11_century 161 = .ok (.aload_n 0, 1) := by decide +kernel
theorem dX11_century_162 : decode cX11_century 162 = .ok (.getfield 26, 3) := by decide +kernel
theorem dX11_century_165 : decode cX11_century 165 = .ok (.aload_n 0, 1) := by decide +kernel
theorem dX11_century_166 : decode cX11_century 166 = .ok (.getfield 62, 3) := by decide +kernel
theorem dX11_century_169 : decode cX11_century 169 = .ok (.invokevirtual 298, 3) := by decide +kernel
theorem dX11_century_172 : decode cX11_century 172 = .ok (.ireturn, 1) := by decide +kernel
theorem dX11_nextSeed_0 : decode cX11_nextSeed 0 = .ok (.iload_n 0, 1) := by decide +kernel
theorem dX11_nextSeed_1 : decode cX11_nextSeed 1 = .ok (.ldc_w 383, 3) := by decide +kernel
theorem dX11_nextSeed_4 : decode cX11_nextSeed 4 = .ok (.imul, 1) := by decide +kernel
theorem dX11_nextSeed_5 : decode cX11_nextSeed 5 = .ok (.sipush 12345, 3) := by decide +kernel
theorem dX11_nextSeed_8 : decode cX11_nextSeed 8 = .ok (.iadd, 1) := by decide +kernel
theorem dX11_nextSeed_9 : decode cX11_nextSeed 9 = .ok (.ireturn, 1) := by decide +kernel
theorem dX11_draw_0 : decode cX11_draw 0 = .ok (.iload_n 1, 1) := by decide +kernel
theorem dX11_draw_1 : decode cX11_draw 1 = .ok (.ifCond .le 16, 3) := by decide +kernel
theorem dX11_draw_4 : decode cX11_draw 4 = .ok (.iload_n 0, 1) := by decide +kernel
theorem dX11_draw_5 : decode cX11_draw 5 = .ok (.bipush 16, 2) := by decide +kernel
theorem dX11_draw_7 : decode cX11_draw 7 = .ok (.iushr, 1) := by decide +kernel
theorem dX11_draw_8 : decode cX11_draw 8 = .ok (.sipush 32767, 3) := by decide +kernel
theorem dX11_draw_11 : decode cX11_draw 11 = .ok (.iand, 1) := by decide +kernel
theorem dX11_draw_12 : decode cX11_draw 12 = .ok (.iload_n 1, 1) := by decide +kernel
theorem dX11_draw_13 : decode cX11_draw 13 = .ok (.irem, 1) := by decide +kernel
theorem dX11_draw_14 : decode cX11_draw 14 = .ok (.goto 4, 3) := by decide +kernel
theorem dX11_draw_17 : decode cX11_draw 17 = .ok (.iconst 0, 1) := by decide +kernel
theorem dX11_draw_18 : decode cX11_draw 18 = .ok (.ireturn, 1) := by decide +kernel
theorem dX11_image_0 : decode cX11_image 0 = .ok (.aload_n 0, 1) := by decide +kernel
theorem dX11_image_1 : decode cX11_image 1 = .ok (.getfield 58, 3) := by decide +kernel
theorem dX11_image_4 : decode cX11_image 4 = .ok (.iconst 1, 1) := by decide +kernel
theorem dX11_image_5 : decode cX11_image 5 = .ok (.putfield 117, 3) := by decide +kernel
theorem dX11_image_8 : decode cX11_image 8 = .ok (.aload_n 0, 1) := by decide +kernel
theorem dX11_image_9 : decode cX11_image 9 = .ok (.getfield 58, 3) := by decide +kernel
theorem dX11_image_12 : decode cX11_image 12 = .ok (.getfield 384, 3) := by decide +kernel
theorem dX11_image_15 : decode cX11_image 15 = .ok (.aload_n 0, 1) := by decide +kernel
theorem dX11_image_16 : decode cX11_image 16 = .ok (.getfield 33, 3) := by decide +kernel
theorem dX11_image_19 : decode cX11_image 19 = .ok (.invokevirtual 305, 3) := by decide +kernel
theorem dX11_image_22 : decode cX11_image 22 = .ok (.aload_n 0, 1) := by decide +kernel
theorem dX11_image_23 : decode cX11_image 23 = .ok (.getfield 58, 3) := by decide +kernel
theorem dX11_image_26 : decode cX11_image 26 = .ok (.getfield 384, 3) := by decide +kernel
theorem dX11_image_29 : decode cX11_image 29 = .ok (.aload_n 0, 1) := by decide +kernel
theorem dX11_image_30 : decode cX11_image 30 = .ok (.getfield 33, 3) := by decide +kernel
theorem dX11_image_33 : decode cX11_image 33 = .ok (.invokevirtual 309, 3) := by decide +kernel
theorem dX11_image_36 : decode cX11_image 36 = .ok (.aload_n 0, 1) := by decide +kernel
theorem dX11_image_37 : decode cX11_image 37 = .ok (.getfield 58, 3) := by decide +kernel
theorem dX11_image_40 : decode cX11_image 40 = .ok (.getfield 387, 3) := by decide +kernel
theorem dX11_image_43 : decode cX11_image 43 = .ok (.aload_n 0, 1) := by decide +kernel
theorem dX11_image_44 : decode cX11_image 44 = .ok (.getfield 40, 3) := by decide +kernel
theorem dX11_image_47 : decode cX11_image 47 = .ok (.invokevirtual 388, 3) := by decide +kernel
theorem dX11_image_50 : decode cX11_image 50 = .ok (.aload_n 0, 1) := by decide +kernel
theorem dX11_image_51 : decode cX11_image 51 = .ok (.getfield 58, 3) := by decide +kernel
theorem dX11_image_54 : decode cX11_image 54 = .ok (.getfield 392, 3) := by decide +kernel
theorem dX11_image_57 : decode cX11_image 57 = .ok (.aload_n 0, 1) := by decide +kernel
theorem dX11_image_58 : decode cX11_image 58 = .ok (.getfield 47, 3) := by decide +kernel
theorem dX11_image_61 : decode cX11_image 61 = .ok (.invokevirtual 393, 3) := by decide +kernel
theorem dX11_image_64 : decode cX11_image 64 = .ok (.aload_n 0, 1) := by decide +kernel
theorem dX11_image_65 : decode cX11_image 65 = .ok (.getfield 51, 3) := by decide +kernel
theorem dX11_image_68 : decode cX11_image 68 = .ok (.iconst 0, 1) := by decide +kernel
theorem dX11_image_69 : decode cX11_image 69 = .ok (.aload_n 0, 1) := by decide +kernel
theorem dX11_image_70 : decode cX11_image 70 = .ok (.getfield 58, 3) := by decide +kernel
theorem dX11_image_73 : decode cX11_image 73 = .ok (.getfield 396, 3) := by decide +kernel
theorem dX11_image_76 : decode cX11_image 76 = .ok (.iconst 0, 1) := by decide +kernel
theorem dX11_image_77 : decode cX11_image 77 = .ok (.iconst 3, 1) := by decide +kernel
theorem dX11_image_78 : decode cX11_image 78 = .ok (.invokestatic 397, 3) := by decide +kernel
theorem dX11_image_81 : decode cX11_image 81 = .ok (.return_, 1) := by decide +kernel
theorem dX11_restore_0 : decode cX11_restore 0 = .ok (.aload_n 0, 1) := by decide +kernel
theorem dX11_restore_1 : decode cX11_restore 1 = .ok (.getfield 58, 3) := by decide +kernel
theorem dX11_restore_4 : decode cX11_restore 4 = .ok (.getfield 117, 3) := by decide +kernel
theorem dX11_restore_7 : decode cX11_restore 7 = .ok (.ifCond .ne 5, 3) := by decide +kernel
theorem dX11_restore_10 : decode cX11_restore 10 = .ok (.iconst 0, 1) := by decide +kernel
theorem dX11_restore_11 : decode cX11_restore 11 = .ok (.ireturn, 1) := by decide +kernel
theorem dX11_restore_12 : decode cX11_restore 12 = .ok (.aload_n 0, 1) := by decide +kernel
theorem dX11_restore_13 : decode cX11_restore 13 = .ok (.getfield 33, 3) := by decide +kernel
theorem dX11_restore_16 : decode cX11_restore 16 = .ok (.aload_n 0, 1) := by decide +kernel
theorem dX11_restore_17 : decode cX11_restore 17 = .ok (.getfield 58, 3) := by decide +kernel
theorem dX11_restore_20 : decode cX11_restore 20 = .ok (.getfield 384, 3) := by decide +kernel
theorem dX11_restore_23 : decode cX11_restore 23 = .ok (.invokevirtual 305, 3) := by decide +kernel
theorem dX11_restore_26 : decode cX11_restore 26 = .ok (.aload_n 0, 1) := by decide +kernel
theorem dX11_restore_27 : decode cX11_restore 27 = .ok (.getfield 33, 3) := by decide +kernel
theorem dX11_restore_30 : decode cX11_restore 30 = .ok (.aload_n 0, 1) := by decide +kernel
theorem dX11_restore_31 : decode cX11_restore 31 = .ok (.getfield 58, 3) := by decide +kernel
theorem dX11_restore_34 : decode cX11_restore 34 = .ok (.getfield 384, 3) := by decide +kernel
theorem dX11_restore_37 : decode cX11_restore 37 = .ok (.invokevirtual 309, 3) := by decide +kernel
theorem dX11_restore_40 : decode cX11_restore 40 = .ok (.aload_n 0, 1) := by decide +kernel
theorem dX11_restore_41 : decode cX11_restore 41 = .ok (.getfield 40, 3) := by decide +kernel
theorem dX11_restore_44 : decode cX11_restore 44 = .ok (.aload_n 0, 1) := by decide +kernel
theorem dX11_restore_45 : decode cX11_restore 45 = .ok (.getfield 58, 3) := by decide +kernel
theorem dX11_restore_48 : decode cX11_restore 48 = .ok (.getfield 387, 3) := by decide +kernel
theorem dX11_restore_51 : decode cX11_restore 51 = .ok (.invokevirtual 388, 3) := by decide +kernel
theorem dX11_restore_54 : decode cX11_restore 54 = .ok (.aload_n 0, 1) := by decide +kernel
theorem dX11_restore_55 : decode cX11_restore 55 = .ok (.getfield 47, 3) := by decide +kernel
theorem dX11_restore_58 : decode cX11_restore 58 = .ok (.aload_n 0, 1) := by decide +kernel
theorem dX11_restore_59 : decode cX11_restore 59 = .ok (.getfield 58, 3) := by decide +kernel
theorem dX11_restore_62 : decode cX11_restore 62 = .ok (.getfield 392, 3) := by decide +kernel
theorem dX11_restore_65 : decode cX11_restore 65 = .ok (.invokevirtual 393, 3) := by decide +kernel
theorem dX11_restore_68 : decode cX11_restore 68 = .ok (.aload_n 0, 1) := by decide +kernel
theorem dX11_restore_69 : decode cX11_restore 69 = .ok (.getfield 58, 3) := by decide +kernel
theorem dX11_restore_72 : decode cX11_restore 72 = .ok (.getfield 396, 3) := by decide +kernel
theorem dX11_restore_75 : decode cX11_restore 75 = .ok (.iconst 0, 1) := by decide +kernel
theorem dX11_restore_76 : decode cX11_restore 76 = .ok (.aload_n 0, 1) := by decide +kernel
theorem dX11_restore_77 : decode cX11_restore 77 = .ok (.getfield 51, 3) := by decide +kernel
theorem dX11_restore_80 : decode cX11_restore 80 = .ok (.iconst 0, 1) := by decide +kernel
theorem dX11_restore_81 : decode cX11_restore 81 = .ok (.iconst 3, 1) := by decide +kernel
theorem dX11_restore_82 : decode cX11_restore 82 = .ok (.invokestatic 397, 3) := by decide +kernel
theorem dX11_restore_85 : decode cX11_restore 85 = .ok (.iconst 1, 1) := by decide +kernel
theorem dX11_restore_86 : decode cX11_restore 86 = .ok (.ireturn, 1) := by decide +kernel
