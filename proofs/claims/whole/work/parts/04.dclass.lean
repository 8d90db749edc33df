theorem dX5_init_0 : decode cX5_init 0 = .ok (.aload_n 0, 1) := by decide +kernel
theorem dX5_init_1 : decode cX5_init 1 = .ok (.invokespecial 1, 3) := by decide +kernel
theorem dX5_init_4 : decode cX5_init 4 = .ok (.aload_n 0, 1) := by decide +kernel
theorem dX5_init_5 : decode cX5_init 5 = .ok (.new 7, 3) := by decide +kernel
theorem dX5_init_8 : decode cX5_init 8 = .ok (.dup, 1) := by decide +kernel
theorem dX5_init_9 : decode cX5_init 9 = .ok (.invokespecial 9, 3) := by decide +kernel
theorem dX5_init_12 : decode cX5_init 12 = .ok (.putfield 10, 3) := by decide +kernel
theorem dX5_init_15 : decode cX5_init 15 = .ok (.aload_n 0, 1) := by decide +kernel
theorem dX5_init_16 : decode cX5_init 16 = .ok (.new 16, 3) := by decide +kernel
theorem dX5_init_19 : decode cX5_init 19 = .ok (.dup, 1) := by decide +kernel
theorem dX5_init_20 : decode cX5_init 20 = .ok (.invokespecial 18, 3) := by decide +kernel
theorem dX5_init_23 : decode cX5_init 23 = .ok (.putfield 19, 3) := by decide +kernel
theorem dX5_init_26 : decode cX5_init 26 = .ok (.aload_n 0, 1) := by decide +kernel
theorem dX5_init_27 : decode cX5_init 27 = .ok (.new 23, 3) := by decide +kernel
theorem dX5_init_30 : decode cX5_init 30 = .ok (.dup, 1) := by decide +kernel
theorem dX5_init_31 : decode cX5_init 31 = .ok (.aload_n 0, 1) := by decide +kernel
theorem dX5_init_32 : decode cX5_init 32 = .ok (.getfield 10, 3) := by decide +kernel
theorem dX5_init_35 : decode cX5_init 35 = .ok (.aload_n 0, 1) := by decide +kernel
theorem dX5_init_36 : decode cX5_init 36 = .ok (.getfield 19, 3) := by decide +kernel
theorem dX5_init_39 : decode cX5_init 39 = .ok (.invokespecial 25, 3) := by decide +kernel
theorem dX5_init_42 : decode cX5_init 42 = .ok (.putfield 28, 3) := by decide +kernel
theorem dX5_init_45 : decode cX5_init 45 = .ok (.aload_n 0, 1) := by decide +kernel
theorem dX5_init_46 : decode cX5_init 46 = .ok (.new 32, 3) := by decide +kernel
theorem dX5_init_49 : decode cX5_init 49 = .ok (.dup, 1) := by decide +kernel
theorem dX5_init_50 : decode cX5_init 50 = .ok (.invokespecial 34, 3) := by decide +kernel
theorem dX5_init_53 : decode cX5_init 53 = .ok (.putfield 35, 3) := by decide +kernel
theorem dX5_init_56 : decode cX5_init 56 = .ok (.aload_n 0, 1) := by decide +kernel
theorem dX5_init_57 : decode cX5_init 57 = .ok (.new 39, 3) := by decide +kernel
theorem dX5_init_60 : decode cX5_init 60 = .ok (.dup, 1) := by decide +kernel
theorem dX5_init_61 : decode cX5_init 61 = .ok (.invokespecial 41, 3) := by decide +kernel
theorem dX5_init_64 : decode cX5_init 64 = .ok (.putfield 42, 3) := by decide +kernel
theorem dX5_init_67 : decode cX5_init 67 = .ok (.aload_n 0, 1) := by decide +kernel
theorem dX5_init_68 : decode cX5_init 68 = .ok (.bipush 50, 2) := by decide +kernel
theorem dX5_init_70 : decode cX5_init 70 = .ok (.newarray .boolean, 2) := by decide +kernel
theorem dX5_init_72 : decode cX5_init 72 = .ok (.putfield 46, 3) := by decide +kernel
theorem dX5_init_75 : decode cX5_init 75 = .ok (.return_, 1) := by decide +kernel
theorem dX5_slot_0 : decode cX5_slot 0 = .ok (.iload_n 1, 1) := by decide +kernel
theorem dX5_slot_1 : decode cX5_slot 1 = .ok (.invokestatic 50, 3) := by decide +kernel
theorem dX5_slot_4 : decode cX5_slot 4 = .ok (.iload 6, 2) := by decide +kernel
theorem dX5_slot_6 : decode cX5_slot 6 = .ok (.invokestatic 54, 3) := by decide +kernel
theorem dX5_slot_9 : decode cX5_slot 9 = .ok (.iload 7, 2) := by decide +kernel
theorem dX5_slot_11 : decode cX5_slot 11 = .ok (.invokestatic 57, 3) := by decide +kernel
theorem dX5_slot_14 : decode cX5_slot 14 = .ok (.iload_n 2, 1) := by decide +kernel
theorem dX5_slot_15 : decode cX5_slot 15 = .ok (.invokestatic 60, 3) := by decide +kernel
theorem dX5_slot_18 : decode cX5_slot 18 = .ok (.iload_n 3, 1) := by decide +kernel
theorem dX5_slot_19 : decode cX5_slot 19 = .ok (.iconst 1, 1) := by decide +kernel
theorem dX5_slot_20 : decode cX5_slot 20 = .ok (.if_icmp .lt 9, 3) := by decide +kernel
theorem dX5_slot_23 : decode cX5_slot 23 = .ok (.iload_n 3, 1) := by decide +kernel
theorem dX5_slot_24 : decode cX5_slot 24 = .ok (.bipush 8, 2) := by decide +kernel
theorem dX5_slot_26 : decode cX5_slot 26 = .ok (.if_icmp .le 13, 3) := by decide +kernel
theorem dX5_slot_29 : decode cX5_slot 29 = .ok (.new 63, 3) := by decide +kernel
theorem dX5_slot_32 : decode cX5_slot 32 = .ok (.dup, 1) := by decide +kernel
theorem dX5_slot_33 : decode cX5_slot 33 = .ok (.ldc 65, 2) := by decide +kernel
theorem dX5_slot_35 : decode cX5_slot 35 = .ok (.invokespecial 67, 3) := by decide +kernel
theorem dX5_slot_38 : decode cX5_slot 38 = .ok (.athrow, 1) := by decide +kernel
theorem dX5_slot_39 : decode cX5_slot 39 = .ok (.aload_n 0, 1) := by decide +kernel
theorem dX5_slot_40 : decode cX5_slot 40 = .ok (.getfield 10, 3) := by decide +kernel
theorem dX5_slot_43 : decode cX5_slot 43 = .ok (.getfield 70, 3) := by decide +kernel
theorem dX5_slot_46 : decode cX5_slot 46 = .ok (.sipush 200, 3) := by decide +kernel
theorem dX5_slot_49 : decode cX5_slot 49 = .ok (.if_icmp .lt 13, 3) := by decide +kernel
theorem dX5_slot_52 : decode cX5_slot 52 = .ok (.new 74, 3) := by decide +kernel
theorem dX5_slot_55 : decode cX5_slot 55 = .ok (.dup, 1) := by decide +kernel
theorem dX5_slot_56 : decode cX5_slot 56 = .ok (.ldc 76, 2) := by decide +kernel
theorem dX5_slot_58 : decode cX5_slot 58 = .ok (.invokespecial 78, 3) := by decide +kernel
theorem dX5_slot_61 : decode cX5_slot 61 = .ok (.athrow, 1) := by decide +kernel
theorem dX5_slot_62 : decode cX5_slot 62 = .ok (.aload_n 0, 1) := by decide +kernel
theorem dX5_slot_63 : decode cX5_slot 63 = .ok (.getfield 10, 3) := by decide +kernel
theorem dX5_slot_66 : decode cX5_slot 66 = .ok (.iload_n 1, 1) := by decide +kernel
theorem dX5_slot_67 : decode cX5_slot 67 = .ok (.iload_n 2, 1) := by decide +kernel
theorem dX5_slot_68 : decode cX5_slot 68 = .ok (.iload_n 3, 1) := by decide +kernel
theorem dX5_slot_69 : decode cX5_slot 69 = .ok (.lload 4, 2) := by decide +kernel
theorem dX5_slot_71 : decode cX5_slot 71 = .ok (.iload 6, 2) := by decide +kernel
theorem dX5_slot_73 : decode cX5_slot 73 = .ok (.iload 7, 2) := by decide +kernel
theorem dX5_slot_75 : decode cX5_slot 75 = .ok (.invokevirtual 79, 3) := by decide +kernel
theorem dX5_slot_78 : decode cX5_slot 78 = .ok (.istore 8, 2) := by decide +kernel
theorem dX5_slot_80 : decode cX5_slot 80 = .ok (.aload_n 0, 1) := by decide +kernel
theorem dX5_slot_81 : decode cX5_slot 81 = .ok (.getfield 28, 3) := by decide +kernel
theorem dX5_slot_84 : decode cX5_slot 84 = .ok (.iload 8, 2) := by decide +kernel
theorem dX5_slot_86 : decode cX5_slot 86 = .ok (.invokevirtual 83, 3) := by decide +kernel
theorem dX5_slot_89 : decode cX5_slot 89 = .ok (.iload 8, 2) := by decide +kernel
theorem dX5_slot_91 : decode cX5_slot 91 = .ok (.ireturn, 1) := by decide +kernel
theorem dX5_mark_0 : decode cX5_mark 0 = .ok (.iload_n 1, 1) := by decide +kernel
theorem dX5_mark_1 : decode cX5_mark 1 = .ok (.invokestatic 50, 3) := by decide +kernel
theorem dX5_mark_4 : decode cX5_mark 4 = .ok (.iload_n 2, 1) := by decide +kernel
theorem dX5_mark_5 : decode cX5_mark 5 = .ok (.invokestatic 60, 3) := by decide +kernel
theorem dX5_mark_8 : decode cX5_mark 8 = .ok (.iload_n 3, 1) := by decide +kernel
theorem dX5_mark_9 : decode cX5_mark 9 = .ok (.invokestatic 60, 3) := by decide +kernel
theorem dX5_mark_12 : decode cX5_mark 12 = .ok (.aload_n 0, 1) := by decide +kernel
theorem dX5_mark_13 : decode cX5_mark 13 = .ok (.getfield 19, 3) := by decide +kernel
theorem dX5_mark_16 : decode cX5_mark 16 = .ok (.getfield 86, 3) := by decide +kernel
theorem dX5_mark_19 : decode cX5_mark 19 = .ok (.bipush 60, 2) := by decide +kernel
theorem dX5_mark_21 : decode cX5_mark 21 = .ok (.if_icmp .lt 13, 3) := by decide +kernel
theorem dX5_mark_24 : decode cX5_mark 24 = .ok (.new 74, 3) := by decide +kernel
theorem dX5_mark_27 : decode cX5_mark 27 = .ok (.dup, 1) := by decide +kernel
theorem dX5_mark_28 : decode cX5_mark 28 = .ok (.ldc 87, 2) := by decide +kernel
theorem dX5_mark_30 : decode cX5_mark 30 = .ok (.invokespecial 78, 3) := by decide +kernel
theorem dX5_mark_33 : decode cX5_mark 33 = .ok (.athrow, 1) := by decide +kernel
theorem dX5_mark_34 : decode cX5_mark 34 = .ok (.aload_n 0, 1) := by decide +kernel
theorem dX5_mark_35 : decode cX5_mark 35 = .ok (.getfield 19, 3) := by decide +kernel
theorem dX5_mark_38 : decode cX5_mark 38 = .ok (.iload_n 1, 1) := by decide +kernel
theorem dX5_mark_39 : decode cX5_mark 39 = .ok (.iload_n 3, 1) := by decide +kernel
theorem dX5_mark_40 : decode cX5_mark 40 = .ok (.iload_n 2, 1) := by decide +kernel
theorem dX5_mark_41 : decode cX5_mark 41 = .ok (.isub, 1) := by decide +kernel
theorem dX5_mark_42 : decode cX5_mark 42 = .ok (.invokevirtual 89, 3) := by decide +kernel
theorem dX5_mark_45 : decode cX5_mark 45 = .ok (.istore 4, 2) := by decide +kernel
theorem dX5_mark_47 : decode cX5_mark 47 = .ok (.aload_n 0, 1) := by decide +kernel
theorem dX5_mark_48 : decode cX5_mark 48 = .ok (.getfield 19, 3) := by decide +kernel
theorem dX5_mark_51 : decode cX5_mark 51 = .ok (.getfield 92, 3) := by decide +kernel
theorem dX5_mark_54 : decode cX5_mark 54 = .ok (.iload_n 1, 1) := by decide +kernel
theorem dX5_mark_55 : decode cX5_mark 55 = .ok (.iaload, 1) := by decide +kernel
theorem dX5_mark_56 : decode cX5_mark 56 = .ok (.iload 4, 2) := by decide +kernel
theorem dX5_mark_58 : decode cX5_mark 58 = .ok (.if_icmp .ne 10, 3) := by decide +kernel
theorem dX5_mark_61 : decode cX5_mark 61 = .ok (.aload_n 0, 1) := by decide +kernel
theorem dX5_mark_62 : decode cX5_mark 62 = .ok (.getfield 28, 3) := by decide +kernel
theorem dX5_mark_65 : decode cX5_mark 65 = .ok (.invokevirtual 96, 3) := by decide +kernel
theorem dX5_mark_68 : decode cX5_mark 68 = .ok (.iload 4, 2) := by decide +kernel
theorem dX5_mark_70 : decode cX5_mark 70 = .ok (.ireturn, 1) := by decide +kernel
theorem dX5_offset_0 : decode cX5_offset 0 = .ok (.iload_n 1, 1) := by decide +kernel
theorem dX5_offset_1 : decode cX5_offset 1 = .ok (.invokestatic 50, 3) := by decide +kernel
theorem dX5_offset_4 : decode cX5_offset 4 = .ok (.aload_n 0, 1) := by decide +kernel
theorem dX5_offset_5 : decode cX5_offset 5 = .ok (.getfield 19, 3) := by decide +kernel
theorem dX5_offset_8 : decode cX5_offset 8 = .ok (.iload_n 1, 1) := by decide +kernel
theorem dX5_offset_9 : decode cX5_offset 9 = .ok (.invokevirtual 99, 3) := by decide +kernel
theorem dX5_offset_12 : decode cX5_offset 12 = .ok (.ireturn, 1) := by decide +kernel
theorem dX5_contradiction_0 : decode cX5_contradiction 0 = .ok (.iload_n 1, 1) := by decide +kernel
theorem dX5_contradiction_1 : decode cX5_contradiction 1 = .ok (.invokestatic 103, 3) := by decide +kernel
theorem dX5_contradiction_4 : decode cX5_contradiction 4 = .ok (.aload_n 0, 1) := by decide +kernel
theorem dX5_contradiction_5 : decode cX5_contradiction 5 = .ok (.getfield 19, 3) := by decide +kernel
theorem dX5_contradiction_8 : decode cX5_contradiction 8 = .ok (.iload_n 1, 1) := by decide +kernel
theorem dX5_contradiction_9 : decode cX5_contradiction 9 = .ok (.invokevirtual 106, 3) := by decide +kernel
theorem dX5_contradiction_12 : decode cX5_contradiction 12 = .ok (.ireturn, 1) := by decide +kernel
theorem dX5_find_0 : decode cX5_find 0 = .ok (.iload_n 3, 1) := by decide +kernel
theorem dX5_find_1 : decode cX5_find 1 = .ok (.iconst (-1), 1) := by decide +kernel
theorem dX5_find_2 : decode cX5_find 2 = .ok (.if_icmp .eq 7, 3) := by decide +kernel
theorem dX5_find_5 : decode cX5_find 5 = .ok (.iload_n 3, 1) := by decide +kernel
theorem dX5_find_6 : decode cX5_find 6 = .ok (.invokestatic 54, 3) := by decide +kernel
theorem dX5_find_9 : decode cX5_find 9 = .ok (.iload 4, 2) := by decide +kernel
theorem dX5_find_11 : decode cX5_find 11 = .ok (.iconst (-1), 1) := by decide +kernel
theorem dX5_find_12 : decode cX5_find 12 = .ok (.if_icmp .eq 8, 3) := by decide +kernel
theorem dX5_find_15 : decode cX5_find 15 = .ok (.iload 4, 2) := by decide +kernel
theorem dX5_find_17 : decode cX5_find 17 = .ok (.invokestatic 57, 3) := by decide +kernel
theorem dX5_find_20 : decode cX5_find 20 = .ok (.iload 5, 2) := by decide +kernel
theorem dX5_find_22 : decode cX5_find 22 = .ok (.invokestatic 103, 3) := by decide +kernel
theorem dX5_find_25 : decode cX5_find 25 = .ok (.iconst 0, 1) := by decide +kernel
theorem dX5_find_26 : decode cX5_find 26 = .ok (.istore 6, 2) := by decide +kernel
theorem dX5_find_28 : decode cX5_find 28 = .ok (.iconst 0, 1) := by decide +kernel
theorem dX5_find_29 : decode cX5_find 29 = .ok (.istore 7, 2) := by decide +kernel
theorem dX5_find_31 : decode cX5_find 31 = .ok (.iload 7, 2) := by decide +kernel
theorem dX5_find_33 : decode cX5_find 33 = .ok (.aload_n 0, 1) := by decide +kernel
theorem dX5_find_34 : decode cX5_find 34 = .ok (.getfield 28, 3) := by decide +kernel
theorem dX5_find_37 : decode cX5_find 37 = .ok (.getfield 109, 3) := by decide +kernel
theorem dX5_find_40 : decode cX5_find 40 = .ok (.if_icmp .ge 63, 3) := by decide +kernel
theorem dX5_find_43 : decode cX5_find 43 = .ok (.aload_n 0, 1) := by decide +kernel
theorem dX5_find_44 : decode cX5_find 44 = .ok (.getfield 28, 3) := by decide +kernel
theorem dX5_find_47 : decode cX5_find 47 = .ok (.getfield 112, 3) := by decide +kernel
theorem dX5_find_50 : decode cX5_find 50 = .ok (.iload 7, 2) := by decide +kernel
theorem dX5_find_52 : decode cX5_find 52 = .ok (.iaload, 1) := by decide +kernel
theorem dX5_find_53 : decode cX5_find 53 = .ok (.istore 8, 2) := by decide +kernel
theorem dX5_find_55 : decode cX5_find 55 = .ok (.aload_n 0, 1) := by decide +kernel
theorem dX5_find_56 : decode cX5_find 56 = .ok (.getfield 10, 3) := by decide +kernel
theorem dX5_find_59 : decode cX5_find 59 = .ok (.iload 8, 2) := by decide +kernel
theorem dX5_find_61 : decode cX5_find 61 = .ok (.iload_n 3, 1) := by decide +kernel
theorem dX5_find_62 : decode cX5_find 62 = .ok (.iload 4, 2) := by decide +kernel
theorem dX5_find_64 : decode cX5_find 64 = .ok (.invokevirtual 115, 3) := by decide +kernel
theorem dX5_find_67 : decode cX5_find 67 = .ok (.ifCond .eq 30, 3) := by decide +kernel
theorem dX5_find_70 : decode cX5_find 70 = .ok (.aload_n 0, 1) := by decide +kernel
theorem dX5_find_71 : decode cX5_find 71 = .ok (.getfield 28, 3) := by decide +kernel
theorem dX5_find_74 : decode cX5_find 74 = .ok (.iload 8, 2) := by decide +kernel
theorem dX5_find_76 : decode cX5_find 76 = .ok (.iload_n 1, 1) := by decide +kernel
theorem dX5_find_77 : decode cX5_find 77 = .ok (.iload_n 2, 1) := by decide +kernel
theorem dX5_find_78 : decode cX5_find 78 = .ok (.invokevirtual 119, 3) := by decide +kernel
theorem dX5_find_81 : decode cX5_find 81 = .ok (.ifCond .le 16, 3) := by decide +kernel
theorem dX5_find_84 : decode cX5_find 84 = .ok (.iload 6, 2) := by decide +kernel
theorem dX5_find_86 : decode cX5_find 86 = .ok (.iload 5, 2) := by decide +kernel
theorem dX5_find_88 : decode cX5_find 88 = .ok (.if_icmp .ne 6, 3) := by decide +kernel
theorem dX5_find_91 : decode cX5_find 91 = .ok (.iload 8, 2) := by decide +kernel
theorem dX5_find_93 : decode cX5_find 93 = .ok (.ireturn, 1) := by decide +kernel
theorem dX5_find_94 : decode cX5_find 94 = .ok (.iinc 6 1, 3) := by decide +kernel
theorem dX5_find_97 : decode cX5_find 97 = .ok (.iinc 7 1, 3) := by decide +kernel
theorem dX5_find_100 : decode cX5_find 100 = .ok (.goto (-69), 3) := by decide +kernel
theorem dX5_find_103 : decode cX5_find 103 = .ok (.iconst (-1), 1) := by decide +kernel
theorem dX5_find_104 : decode cX5_find 104 = .ok (.ireturn, 1) := by decide +kernel
theorem dX5_time_0 : decode cX5_time 0 = .ok (.aload_n 0, 1) := by decide +kernel
theorem dX5_time_1 : decode cX5_time 1 = .ok (.iload_n 1, 1) := by decide +kernel
theorem dX5_time_2 : decode cX5_time 2 = .ok (.invokevirtual 123, 3) := by decide +kernel
theorem dX5_time_5 : decode cX5_time 5 = .ok (.aload_n 0, 1) := by decide +kernel
theorem dX5_time_6 : decode cX5_time 6 = .ok (.iload_n 1, 1) := by decide +kernel
theorem dX5_time_7 : decode cX5_time 7 = .ok (.invokevirtual 126, 3) := by decide +kernel
theorem dX5_time_10 : decode cX5_time 10 = .ok (.aload_n 0, 1) := by decide +kernel
theorem dX5_time_11 : decode cX5_time 11 = .ok (.getfield 28, 3) := by decide +kernel
theorem dX5_time_14 : decode cX5_time 14 = .ok (.iload_n 1, 1) := by decide +kernel
theorem dX5_time_15 : decode cX5_time 15 = .ok (.invokevirtual 129, 3) := by decide +kernel
theorem dX5_time_18 : decode cX5_time 18 = .ok (.ireturn, 1) := by decide +kernel
theorem dX5_sum_0 : decode cX5_sum 0 = .ok (.aload_n 0, 1) := by decide +kernel
theorem dX5_sum_1 : decode cX5_sum 1 = .ok (.iload_n 1, 1) := by decide +kernel
theorem dX5_sum_2 : decode cX5_sum 2 = .ok (.invokevirtual 123, 3) := by decide +kernel
theorem dX5_sum_5 : decode cX5_sum 5 = .ok (.aload_n 0, 1) := by decide +kernel
theorem dX5_sum_6 : decode cX5_sum 6 = .ok (.iload_n 1, 1) := by decide +kernel
theorem dX5_sum_7 : decode cX5_sum 7 = .ok (.invokevirtual 126, 3) := by decide +kernel
theorem dX5_sum_10 : decode cX5_sum 10 = .ok (.aload_n 0, 1) := by decide +kernel
theorem dX5_sum_11 : decode cX5_sum 11 = .ok (.getfield 10, 3) := by decide +kernel
theorem dX5_sum_14 : decode cX5_sum 14 = .ok (.iload_n 1, 1) := by decide +kernel
theorem dX5_sum_15 : decode cX5_sum 15 = .ok (.invokevirtual 132, 3) := by decide +kernel
theorem dX5_sum_18 : decode cX5_sum 18 = .ok (.ireturn, 1) := by decide +kernel
theorem dX5_part_0 : decode cX5_part 0 = .ok (.aload_n 0, 1) := by decide +kernel
theorem dX5_part_1 : decode cX5_part 1 = .ok (.iload_n 1, 1) := by decide +kernel
theorem dX5_part_2 : decode cX5_part 2 = .ok (.invokevirtual 123, 3) := by decide +kernel
theorem dX5_part_5 : decode cX5_part 5 = .ok (.aload_n 0, 1) := by decide +kernel
theorem dX5_part_6 : decode cX5_part 6 = .ok (.iload_n 1, 1) := by decide +kernel
theorem dX5_part_7 : decode cX5_part 7 = .ok (.invokevirtual 126, 3) := by decide +kernel
theorem dX5_part_10 : decode cX5_part 10 = .ok (.aload_n 0, 1) := by decide +kernel
theorem dX5_part_11 : decode cX5_part 11 = .ok (.getfield 28, 3) := by decide +kernel
theorem dX5_part_14 : decode cX5_part 14 = .ok (.iconst 0, 1) := by decide +kernel
theorem dX5_part_15 : decode cX5_part 15 = .ok (.iload_n 1, 1) := by decide +kernel
theorem dX5_part_16 : decode cX5_part 16 = .ok (.iload_n 2, 1) := by decide +kernel
theorem dX5_part_17 : decode cX5_part 17 = .ok (.iload_n 3, 1) := by decide +kernel
theorem dX5_part_18 : decode cX5_part 18 = .ok (.invokevirtual 135, 3) := by decide +kernel
theorem dX5_part_21 : decode cX5_part 21 = .ok (.ireturn, 1) := by decide +kernel
theorem dX5_size_0 : decode cX5_size 0 = .ok (.iconst 0, 1) := by decide +kernel
theorem dX5_size_1 : decode cX5_size 1 = .ok (.istore_n 3, 1) := by decide +kernel
theorem dX5_size_2 : decode cX5_size 2 = .ok (.iconst 0, 1) := by decide +kernel
theorem dX5_size_3 : decode cX5_size 3 = .ok (.istore 4, 2) := by decide +kernel
theorem dX5_size_5 : decode cX5_size 5 = .ok (.iload 4, 2) := by decide +kernel
theorem dX5_size_7 : decode cX5_size 7 = .ok (.aload_n 0, 1) := by decide +kernel
theorem dX5_size_8 : decode cX5_size 8 = .ok (.getfield 28, 3) := by decide +kernel
theorem dX5_size_11 : decode cX5_size 11 = .ok (.getfield 109, 3) := by decide +kernel
theorem dX5_size_14 : decode cX5_size 14 = .ok (.if_icmp .ge 31, 3) := by decide +kernel
theorem dX5_size_17 : decode cX5_size 17 = .ok (.iload_n 3, 1) := by decide +kernel
theorem dX5_size_18 : decode cX5_size 18 = .ok (.aload_n 0, 1) := by decide +kernel
theorem dX5_size_19 : decode cX5_size 19 = .ok (.getfield 28, 3) := by decide +kernel
theorem dX5_size_22 : decode cX5_size 22 = .ok (.aload_n 0, 1) := by decide +kernel
theorem dX5_size_23 : decode cX5_size 23 = .ok (.getfield 28, 3) := by decide +kernel
theorem dX5_size_26 : decode cX5_size 26 = .ok (.getfield 112, 3) := by decide +kernel
theorem dX5_size_29 : decode cX5_size 29 = .ok (.iload 4, 2) := by decide +kernel
theorem dX5_size_31 : decode cX5_size 31 = .ok (.iaload, 1) := by decide +kernel
theorem dX5_size_32 : decode cX5_size 32 = .ok (.iload_n 1, 1) := by decide +kernel
theorem dX5_size_33 : decode cX5_size 33 = .ok (.iload_n 2, 1) := by decide +kernel
theorem dX5_size_34 : decode cX5_size 34 = .ok (.invokevirtual 119, 3) := by decide +kernel
theorem dX5_size_37 : decode cX5_size 37 = .ok (.iadd, 1) := by decide +kernel
theorem dX5_size_38 : decode cX5_size 38 = .ok (.istore_n 3, 1) := by decide +kernel
theorem dX5_size_39 : decode cX5_size 39 = .ok (.iinc 4 1, 3) := by decide +kernel
theorem dX5_size_42 : decode cX5_size 42 = .ok (.goto (-37), 3) := by decide +kernel
theorem dX5_size_45 : decode cX5_size 45 = .ok (.iload_n 3, 1) := by decide +kernel
theorem dX5_size_46 : decode cX5_size 46 = .ok (.ireturn, 1) := by decide +kernel
theorem dX5_export_0 : decode cX5_export 0 = .ok (.iconst 0, 1) := by decide +kernel
theorem dX5_export_1 : decode cX5_export 1 = .ok (.istore_n 3, 1) := by decide +kernel
theorem dX5_export_2 : decode cX5_export 2 = .ok (.iconst 0, 1) := by decide +kernel
theorem dX5_export_3 : decode cX5_export 3 = .ok (.istore 4, 2) := by decide +kernel
theorem dX5_export_5 : decode cX5_export 5 = .ok (.iload 4, 2) := by decide +kernel
theorem dX5_export_7 : decode cX5_export 7 = .ok (.aload_n 0, 1) := by decide +kernel
theorem dX5_export_8 : decode cX5_export 8 = .ok (.getfield 28, 3) := by decide +kernel
theorem dX5_export_11 : decode cX5_export 11 = .ok (.getfield 109, 3) := by decide +kernel
theorem dX5_export_14 : decode cX5_export 14 = .ok (.if_icmp .ge 30, 3) := by decide +kernel
theorem dX5_export_17 : decode cX5_export 17 = .ok (.aload_n 0, 1) := by decide +kernel
theorem dX5_export_18 : decode cX5_export 18 = .ok (.getfield 28, 3) := by decide +kernel
theorem dX5_export_21 : decode cX5_export 21 = .ok (.iload_n 3, 1) := by decide +kernel
theorem dX5_export_22 : decode cX5_export 22 = .ok (.aload_n 0, 1) := by decide +kernel
theorem dX5_export_23 : decode cX5_export 23 = .ok (.getfield 28, 3) := by decide +kernel
theorem dX5_export_26 : decode cX5_export 26 = .ok (.getfield 112, 3) := by decide +kernel
theorem dX5_export_29 : decode cX5_export 29 = .ok (.iload 4, 2) := by decide +kernel
theorem dX5_export_31 : decode cX5_export 31 = .ok (.iaload, 1) := by decide +kernel
theorem dX5_export_32 : decode cX5_export 32 = .ok (.iload_n 1, 1) := by decide +kernel
theorem dX5_export_33 : decode cX5_export 33 = .ok (.iload_n 2, 1) := by decide +kernel
theorem dX5_export_34 : decode cX5_export 34 = .ok (.invokevirtual 135, 3) := by decide +kernel
theorem dX5_export_37 : decode cX5_export 37 = .ok (.istore_n 3, 1) := by decide +kernel
theorem dX5_export_38 : decode cX5_export 38 = .ok (.iinc 4 1, 3) := by decide +kernel
theorem dX5_export_41 : decode cX5_export 41 = .ok (.goto (-36), 3) := by decide +kernel
theorem dX5_export_44 : decode cX5_export 44 = .ok (.iload_n 3, 1) := by decide +kernel
theorem dX5_export_45 : decode cX5_export 45 = .ok (.ireturn, 1) := by decide +kernel
theorem dX5_hold_0 : decode cX5_hold 0 = .ok (.iload_n 1, 1) := by decide +kernel
theorem dX5_hold_1 : decode cX5_hold 1 = .ok (.invokestatic 57, 3) := by decide +kernel
theorem dX5_hold_4 : decode cX5_hold 4 = .ok (.aload_n 0, 1) := by decide +kernel
theorem dX5_hold_5 : decode cX5_hold 5 = .ok (.getfield 46, 3) := by decide +kernel
theorem dX5_hold_8 : decode cX5_hold 8 = .ok (.iload_n 1, 1) := by decide +kernel
theorem dX5_hold_9 : decode cX5_hold 9 = .ok (.baload, 1) := by decide +kernel
theorem dX5_hold_10 : decode cX5_hold 10 = .ok (.iload_n 2, 1) := by decide +kernel
theorem dX5_hold_11 : decode cX5_hold 11 = .ok (.if_icmp .ne 13, 3) := by decide +kernel
theorem dX5_hold_14 : decode cX5_hold 14 = .ok (.new 139, 3) := by decide +kernel
theorem dX5_hold_17 : decode cX5_hold 17 = .ok (.dup, 1) := by decide +kernel
theorem dX5_hold_18 : decode cX5_hold 18 = .ok (.ldc 141, 2) := by decide +kernel
theorem dX5_hold_20 : decode cX5_hold 20 = .ok (.invokespecial 143, 3) := by decide +kernel
theorem dX5_hold_23 : decode cX5_hold 23 = .ok (.athrow, 1) := by decide +kernel
theorem dX5_hold_24 : decode cX5_hold 24 = .ok (.aload_n 0, 1) := by decide +kernel
theorem dX5_hold_25 : decode cX5_hold 25 = .ok (.getfield 46, 3) := by decide +kernel
theorem dX5_hold_28 : decode cX5_hold 28 = .ok (.iload_n 1, 1) := by decide +kernel
theorem dX5_hold_29 : decode cX5_hold 29 = .ok (.iload_n 2, 1) := by decide +kernel
theorem dX5_hold_30 : decode cX5_hold 30 = .ok (.bastore, 1) := by decide +kernel
theorem dX5_hold_31 : decode cX5_hold 31 = .ok (.return_, 1) := by decide +kernel
theorem dX5_drop_0 : decode cX5_drop 0 = .ok (.aload_n 0, 1) := by decide +kernel
theorem dX5_drop_1 : decode cX5_drop 1 = .ok (.iload_n 1, 1) := by decide +kernel
theorem dX5_drop_2 : decode cX5_drop 2 = .ok (.invokevirtual 123, 3) := by decide +kernel
theorem dX5_drop_5 : decode cX5_drop 5 = .ok (.aload_n 0, 1) := by decide +kernel
theorem dX5_drop_6 : decode cX5_drop 6 = .ok (.iload_n 1, 1) := by decide +kernel
theorem dX5_drop_7 : decode cX5_drop 7 = .ok (.invokevirtual 126, 3) := by decide +kernel
theorem dX5_drop_10 : decode cX5_drop 10 = .ok (.aload_n 0, 1) := by decide +kernel
theorem dX5_drop_11 : decode cX5_drop 11 = .ok (.getfield 46, 3) := by decide +kernel
theorem dX5_drop_14 : decode cX5_drop 14 = .ok (.aload_n 0, 1) := by decide +kernel
theorem dX5_drop_15 : decode cX5_drop 15 = .ok (.getfield 10, 3) := by decide +kernel
theorem dX5_drop_18 : decode cX5_drop 18 = .ok (.getfield 144, 3) := by decide +kernel
theorem dX5_drop_21 : decode cX5_drop 21 = .ok (.iload_n 1, 1) := by decide +kernel
theorem dX5_drop_22 : decode cX5_drop 22 = .ok (.iaload, 1) := by decide +kernel
theorem dX5_drop_23 : decode cX5_drop 23 = .ok (.baload, 1) := by decide +kernel
theorem dX5_drop_24 : decode cX5_drop 24 = .ok (.ifCond .eq 13, 3) := by decide +kernel
theorem dX5_drop_27 : decode cX5_drop 27 = .ok (.new 139, 3) := by decide +kernel
theorem dX5_drop_30 : decode cX5_drop 30 = .ok (.dup, 1) := by decide +kernel
theorem dX5_drop_31 : decode cX5_drop 31 = .ok (.ldc 147, 2) := by decide +kernel
theorem dX5_drop_33 : decode cX5_drop 33 = .ok (.invokespecial 143, 3) := by decide +kernel
theorem dX5_drop_36 : decode cX5_drop 36 = .ok (.athrow, 1) := by decide +kernel
theorem dX5_drop_37 : decode cX5_drop 37 = .ok (.aload_n 0, 1) := by decide +kernel
theorem dX5_drop_38 : decode cX5_drop 38 = .ok (.getfield 10, 3) := by decide +kernel
theorem dX5_drop_41 : decode cX5_drop 41 = .ok (.getfield 149, 3) := by decide +kernel
theorem dX5_drop_44 : decode cX5_drop 44 = .ok (.iload_n 1, 1) := by decide +kernel
theorem dX5_drop_45 : decode cX5_drop 45 = .ok (.iconst 0, 1) := by decide +kernel
theorem dX5_drop_46 : decode cX5_drop 46 = .ok (.bastore, 1) := by decide +kernel
theorem dX5_drop_47 : decode cX5_drop 47 = .ok (.aload_n 0, 1) := by decide +kernel
theorem dX5_drop_48 : decode cX5_drop 48 = .ok (.getfield 28, 3) := by decide +kernel
theorem dX5_drop_51 : decode cX5_drop 51 = .ok (.iload_n 1, 1) := by decide +kernel
theorem dX5_drop_52 : decode cX5_drop 52 = .ok (.invokevirtual 152, 3) := by decide +kernel
theorem dX5_drop_55 : decode cX5_drop 55 = .ok (.aload_n 0, 1) := by decide +kernel
theorem dX5_drop_56 : decode cX5_drop 56 = .ok (.getfield 35, 3) := by decide +kernel
theorem dX5_drop_59 : decode cX5_drop 59 = .ok (.iload_n 1, 1) := by decide +kernel
theorem dX5_drop_60 : decode cX5_drop 60 = .ok (.aload_n 0, 1) := by decide +kernel
theorem dX5_drop_61 : decode cX5_drop 61 = .ok (.getfield 10, 3) := by decide +kernel
theorem dX5_drop_64 : decode cX5_drop 64 = .ok (.getfield 155, 3) := by decide +kernel
theorem dX5_drop_67 : decode cX5_drop 67 = .ok (.iload_n 1, 1) := by decide +kernel
theorem dX5_drop_68 : decode cX5_drop 68 = .ok (.iaload, 1) := by decide +kernel
theorem dX5_drop_69 : decode cX5_drop 69 = .ok (.aload_n 0, 1) := by decide +kernel
theorem dX5_drop_70 : decode cX5_drop 70 = .ok (.getfield 10, 3) := by decide +kernel
theorem dX5_drop_73 : decode cX5_drop 73 = .ok (.iload_n 1, 1) := by decide +kernel
theorem dX5_drop_74 : decode cX5_drop 74 = .ok (.invokevirtual 132, 3) := by decide +kernel
theorem dX5_drop_77 : decode cX5_drop 77 = .ok (.invokevirtual 158, 3) := by decide +kernel
theorem dX5_drop_80 : decode cX5_drop 80 = .ok (.ireturn, 1) := by decide +kernel
theorem dX5_certificate_0 : decode cX5_certificate 0 = .ok (.iload_n 1, 1) := by decide +kernel
theorem dX5_certificate_1 : decode cX5_certificate 1 = .ok (.ifCond .lt 14, 3) := by decide +kernel
theorem dX5_certificate_4 : decode cX5_certificate 4 = .ok (.iload_n 1, 1) := by decide +kernel
theorem dX5_certificate_5 : decode cX5_certificate 5 = .ok (.aload_n 0, 1) := by decide +kernel
theorem dX5_certificate_6 : decode cX5_certificate 6 = .ok (.getfield 35, 3) := by decide +kernel
theorem dX5_certificate_9 : decode cX5_certificate 9 = .ok (.getfield 160, 3) := by decide +kernel
theorem dX5_certificate_12 : decode cX5_certificate 12 = .ok (.if_icmp .lt 13, 3) := by decide +kernel
theorem dX5_certificate_15 : decode cX5_certificate 15 = .ok (.new 161, 3) := by decide +kernel
theorem dX5_certificate_18 : decode cX5_certificate 18 = .ok (.dup, 1) := by decide +kernel
theorem dX5_certificate_19 : decode cX5_certificate 19 = .ok (.ldc 163, 2) := by decide +kernel
theorem dX5_certificate_21 : decode cX5_certificate 21 = .ok (.invokespecial 165, 3) := by decide +kernel
theorem dX5_certificate_24 : decode cX5_certificate 24 = .ok (.athrow, 1) := by decide +kernel
theorem dX5_certificate_25 : decode cX5_certificate 25 = .ok (.iload_n 2, 1) := by decide +kernel
theorem dX5_certificate_26 : decode cX5_certificate 26 = .ok (.tableswitch 56 0 2 #[26, 36, 46], 26) := by decide +kernel
theorem dX5_certificate_52 : decode cX5_certificate 52 = .ok (.aload_n 0, 1) := by decide +kernel
theorem dX5_certificate_53 : decode cX5_certificate 53 = .ok (.getfield 35, 3) := by decide +kernel
theorem dX5_certificate_56 : decode cX5_certificate 56 = .ok (.getfield 166, 3) := by decide +kernel
theorem dX5_certificate_59 : decode cX5_certificate 59 = .ok (.iload_n 1, 1) := by decide +kernel
theorem dX5_certificate_60 : decode cX5_certificate 60 = .ok (.iaload, 1) := by decide +kernel
theorem dX5_certificate_61 : decode cX5_certificate 61 = .ok (.ireturn, 1) := by decide +kernel
theorem dX5_certificate_62 : decode cX5_certificate 62 = .ok (.aload_n 0, 1) := by decide +kernel
theorem dX5_certificate_63 : decode cX5_certificate 63 = .ok (.getfield 35, 3) := by decide +kernel
theorem dX5_certificate_66 : decode cX5_certificate 66 = .ok (.getfield 169, 3) := by decide +kernel
theorem dX5_certificate_69 : decode cX5_certificate 69 = .ok (.iload_n 1, 1) := by decide +kernel
theorem dX5_certificate_70 : decode cX5_certificate 70 = .ok (.iaload, 1) := by decide +kernel
theorem dX5_certificate_71 : decode cX5_certificate 71 = .ok (.ireturn, 1) := by decide +kernel
theorem dX5_certificate_72 : decode cX5_certificate 72 = .ok (.aload_n 0, 1) := by decide +kernel
theorem dX5_certificate_73 : decode cX5_certificate 73 = .ok (.getfield 35, 3) := by decide +kernel
theorem dX5_certificate_76 : decode cX5_certificate 76 = .ok (.getfield 170, 3) := by decide +kernel
theorem dX5_certificate_79 : decode cX5_certificate 79 = .ok (.iload_n 1, 1) := by decide +kernel
theorem dX5_certificate_80 : decode cX5_certificate 80 = .ok (.iaload, 1) := by decide +kernel
theorem dX5_certificate_81 : decode cX5_certificate 81 = .ok (.ireturn, 1) := by decide +kernel
theorem dX5_certificate_82 : decode cX5_certificate 82 = .ok (.new 161, 3) := by decide +kernel
theorem dX5_certificate_85 : decode cX5_certificate 85 = .ok (.dup, 1) := by decide +kernel
theorem dX5_certificate_86 : decode cX5_certificate 86 = .ok (.ldc 173, 2) := by decide +kernel
theorem dX5_certificate_88 : decode cX5_certificate 88 = .ok (.invokespecial 165, 3) := by decide +kernel
theorem dX5_certificate_91 : decode cX5_certificate 91 = .ok (.athrow, 1) := by decide +kernel
theorem dX5_right_0 : decode cX5_right 0 = .ok (.iload_n 1, 1) := by decide +kernel
theorem dX5_right_1 : decode cX5_right 1 = .ok (.invokestatic 175, 3) := by decide +kernel
theorem dX5_right_4 : decode cX5_right 4 = .ok (.iload_n 2, 1) := by decide +kernel
theorem dX5_right_5 : decode cX5_right 5 = .ok (.invokestatic 57, 3) := by decide +kernel
theorem dX5_right_8 : decode cX5_right 8 = .ok (.aload_n 0, 1) := by decide +kernel
theorem dX5_right_9 : decode cX5_right 9 = .ok (.getfield 42, 3) := by decide +kernel
theorem dX5_right_12 : decode cX5_right 12 = .ok (.iload_n 1, 1) := by decide +kernel
theorem dX5_right_13 : decode cX5_right 13 = .ok (.iload_n 2, 1) := by decide +kernel
theorem dX5_right_14 : decode cX5_right 14 = .ok (.iload_n 3, 1) := by decide +kernel
theorem dX5_right_15 : decode cX5_right 15 = .ok (.invokevirtual 178, 3) := by decide +kernel
theorem dX5_right_18 : decode cX5_right 18 = .ok (.return_, 1) := by decide +kernel
theorem dX5_listen_0 : decode cX5_listen 0 = .ok (.iload_n 1, 1) := by decide +kernel
theorem dX5_listen_1 : decode cX5_listen 1 = .ok (.invokestatic 175, 3) := by decide +kernel
theorem dX5_listen_4 : decode cX5_listen 4 = .ok (.aload_n 0, 1) := by decide +kernel
theorem dX5_listen_5 : decode cX5_listen 5 = .ok (.iload_n 2, 1) := by decide +kernel
theorem dX5_listen_6 : decode cX5_listen 6 = .ok (.invokevirtual 123, 3) := by decide +kernel
theorem dX5_listen_9 : decode cX5_listen 9 = .ok (.aload_n 0, 1) := by decide +kernel
theorem dX5_listen_10 : decode cX5_listen 10 = .ok (.getfield 10, 3) := by decide +kernel
theorem dX5_listen_13 : decode cX5_listen 13 = .ok (.getfield 149, 3) := by decide +kernel
theorem dX5_listen_16 : decode cX5_listen 16 = .ok (.iload_n 2, 1) := by decide +kernel
theorem dX5_listen_17 : decode cX5_listen 17 = .ok (.baload, 1) := by decide +kernel
theorem dX5_listen_18 : decode cX5_listen 18 = .ok (.ifCond .eq 27, 3) := by decide +kernel
theorem dX5_listen_21 : decode cX5_listen 21 = .ok (.aload_n 0, 1) := by decide +kernel
theorem dX5_listen_22 : decode cX5_listen 22 = .ok (.getfield 42, 3) := by decide +kernel
theorem dX5_listen_25 : decode cX5_listen 25 = .ok (.iload_n 1, 1) := by decide +kernel
theorem dX5_listen_26 : decode cX5_listen 26 = .ok (.aload_n 0, 1) := by decide +kernel
theorem dX5_listen_27 : decode cX5_listen 27 = .ok (.getfield 10, 3) := by decide +kernel
theorem dX5_listen_30 : decode cX5_listen 30 = .ok (.getfield 144, 3) := by decide +kernel
theorem dX5_listen_33 : decode cX5_listen 33 = .ok (.iload_n 2, 1) := by decide +kernel
theorem dX5_listen_34 : decode cX5_listen 34 = .ok (.iaload, 1) := by decide +kernel
theorem dX5_listen_35 : decode cX5_listen 35 = .ok (.invokevirtual 182, 3) := by decide +kernel
theorem dX5_listen_38 : decode cX5_listen 38 = .ok (.ifCond .eq 7, 3) := by decide +kernel
theorem dX5_listen_41 : decode cX5_listen 41 = .ok (.iconst 1, 1) := by decide +kernel
theorem dX5_listen_42 : decode cX5_listen 42 = .ok (.goto 4, 3) := by decide +kernel
theorem dX5_listen_45 : decode cX5_listen 45 = .ok (.iconst 0, 1) := by decide +kernel
theorem dX5_listen_46 : decode cX5_listen 46 = .ok (.istore_n 3, 1) := by decide +kernel
theorem dX5_listen_47 : decode cX5_listen 47 = .ok (.aload_n 0, 1) := by decide +kernel
theorem dX5_listen_48 : decode cX5_listen 48 = .ok (.getfield 42, 3) := by decide +kernel
theorem dX5_listen_51 : decode cX5_listen 51 = .ok (.iload_n 1, 1) := by decide +kernel
theorem dX5_listen_52 : decode cX5_listen 52 = .ok (.iload_n 2, 1) := by decide +kernel
theorem dX5_listen_53 : decode cX5_listen 53 = .ok (.iload_n 3, 1) := by decide +kernel
theorem dX5_listen_54 : decode cX5_listen 54 = .ok (.invokevirtual 186, 3) := by decide +kernel
theorem dX5_listen_57 : decode cX5_listen 57 = .ok (.iload_n 3, 1) := by decide +kernel
theorem dX5_listen_58 : decode cX5_listen 58 = .ok (.ifCond .ne 13, 3) := by decide +kernel
theorem dX5_listen_61 : decode cX5_listen 61 = .ok (.new 139, 3) := by decide +kernel
theorem dX5_listen_64 : decode cX5_listen 64 = .ok (.dup, 1) := by decide +kernel
theorem dX5_listen_65 : decode cX5_listen 65 = .ok (.ldc 189, 2) := by decide +kernel
theorem dX5_listen_67 : decode cX5_listen 67 = .ok (.invokespecial 143, 3) := by decide +kernel
theorem dX5_listen_70 : decode cX5_listen 70 = .ok (.athrow, 1) := by decide +kernel
theorem dX5_listen_71 : decode cX5_listen 71 = .ok (.aload_n 0, 1) := by decide +kernel
theorem dX5_listen_72 : decode cX5_listen 72 = .ok (.getfield 10, 3) := by decide +kernel
theorem dX5_listen_75 : decode cX5_listen 75 = .ok (.iload_n 2, 1) := by decide +kernel
theorem dX5_listen_76 : decode cX5_listen 76 = .ok (.invokevirtual 132, 3) := by decide +kernel
theorem dX5_listen_79 : decode cX5_listen 79 = .ok (.ireturn, 1) := by decide +kernel
theorem dX5_row_0 : decode cX5_row 0 = .ok (.aload_n 0, 1) := by decide +kernel
theorem dX5_row_1 : decode cX5_row 1 = .ok (.getfield 42, 3) := by decide +kernel
theorem dX5_row_4 : decode cX5_row 4 = .ok (.iload_n 1, 1) := by decide +kernel
theorem dX5_row_5 : decode cX5_row 5 = .ok (.invokevirtual 191, 3) := by decide +kernel
theorem dX5_row_8 : decode cX5_row 8 = .ok (.ifCond .ne 13, 3) := by decide +kernel
theorem dX5_row_11 : decode cX5_row 11 = .ok (.new 161, 3) := by decide +kernel
theorem dX5_row_14 : decode cX5_row 14 = .ok (.dup, 1) := by decide +kernel
theorem dX5_row_15 : decode cX5_row 15 = .ok (.ldc 195, 2) := by decide +kernel
theorem dX5_row_17 : decode cX5_row 17 = .ok (.invokespecial 165, 3) := by decide +kernel
theorem dX5_row_20 : decode cX5_row 20 = .ok (.athrow, 1) := by decide +kernel
theorem dX5_row_21 : decode cX5_row 21 = .ok (.iload_n 1, 1) := by decide +kernel
theorem dX5_row_22 : decode cX5_row 22 = .ok (.sipush 200, 3) := by decide +kernel
theorem dX5_row_25 : decode cX5_row 25 = .ok (.irem, 1) := by decide +kernel
theorem dX5_row_26 : decode cX5_row 26 = .ok (.istore_n 3, 1) := by decide +kernel
theorem dX5_row_27 : decode cX5_row 27 = .ok (.iload_n 2, 1) := by decide +kernel
theorem dX5_row_28 : decode cX5_row 28 = .ok (.tableswitch 66 0 2 #[28, 38, 48], 28) := by decide +kernel
theorem dX5_row_56 : decode cX5_row 56 = .ok (.aload_n 0, 1) := by decide +kernel
theorem dX5_row_57 : decode cX5_row 57 = .ok (.getfield 42, 3) := by decide +kernel
theorem dX5_row_60 : decode cX5_row 60 = .ok (.getfield 197, 3) := by decide +kernel
theorem dX5_row_63 : decode cX5_row 63 = .ok (.iload_n 3, 1) := by decide +kernel
theorem dX5_row_64 : decode cX5_row 64 = .ok (.iaload, 1) := by decide +kernel
theorem dX5_row_65 : decode cX5_row 65 = .ok (.ireturn, 1) := by decide +kernel
theorem dX5_row_66 : decode cX5_row 66 = .ok (.aload_n 0, 1) := by decide +kernel
theorem dX5_row_67 : decode cX5_row 67 = .ok (.getfield 42, 3) := by decide +kernel
theorem dX5_row_70 : decode cX5_row 70 = .ok (.getfield 200, 3) := by decide +kernel
theorem dX5_row_73 : decode cX5_row 73 = .ok (.iload_n 3, 1) := by decide +kernel
theorem dX5_row_74 : decode cX5_row 74 = .ok (.iaload, 1) := by decide +kernel
theorem dX5_row_75 : decode cX5_row 75 = .ok (.ireturn, 1) := by decide +kernel
theorem dX5_row_76 : decode cX5_row 76 = .ok (.aload_n 0, 1) := by decide +kernel
theorem dX5_row_77 : decode cX5_row 77 = .ok (.getfield 42, 3) := by decide +kernel
theorem dX5_row_80 : decode cX5_row 80 = .ok (.getfield 201, 3) := by decide +kernel
theorem dX5_row_83 : decode cX5_row 83 = .ok (.iload_n 3, 1) := by decide +kernel
theorem dX5_row_84 : decode cX5_row 84 = .ok (.baload, 1) := by decide +kernel
theorem dX5_row_85 : decode cX5_row 85 = .ok (.ifCond .eq 7, 3) := by decide +kernel
theorem dX5_row_88 : decode cX5_row 88 = .ok (.iconst 1, 1) := by decide +kernel
theorem dX5_row_89 : decode cX5_row 89 = .ok (.goto 4, 3) := by decide +kernel
theorem dX5_row_92 : decode cX5_row 92 = .ok (.iconst 0, 1) := by decide +kernel
theorem dX5_row_93 : decode cX5_row 93 = .ok (.ireturn, 1) := by decide +kernel
theorem dX5_row_94 : decode cX5_row 94 = .ok (.new 161, 3) := by decide +kernel
theorem dX5_row_97 : decode cX5_row 97 = .ok (.dup, 1) := by decide +kernel
theorem dX5_row_98 : decode cX5_row 98 = .ok (.ldc 204, 2) := by decide +kernel
theorem dX5_row_100 : decode cX5_row 100 = .ok (.invokespecial 165, 3) := by decide +kernel
theorem dX5_row_103 : decode cX5_row 103 = .ok (.athrow, 1) := by decide +kernel
theorem dX5_poke_0 : decode cX5_poke 0 = .ok (.aload_n 0, 1) := by decide +kernel
theorem dX5_poke_1 : decode cX5_poke 1 = .ok (.iload_n 1, 1) := by decide +kernel
theorem dX5_poke_2 : decode cX5_poke 2 = .ok (.invokevirtual 123, 3) := by decide +kernel
theorem dX5_poke_5 : decode cX5_poke 5 = .ok (.iload_n 2, 1) := by decide +kernel
theorem dX5_poke_6 : decode cX5_poke 6 = .ok (.ifCond .lt 16, 3) := by decide +kernel
theorem dX5_poke_9 : decode cX5_poke 9 = .ok (.iload_n 2, 1) := by decide +kernel
theorem dX5_poke_10 : decode cX5_poke 10 = .ok (.aload_n 0, 1) := by decide +kernel
theorem dX5_poke_11 : decode cX5_poke 11 = .ok (.getfield 10, 3) := by decide +kernel
theorem dX5_poke_14 : decode cX5_poke 14 = .ok (.getfield 206, 3) := by decide +kernel
theorem dX5_poke_17 : decode cX5_poke 17 = .ok (.iload_n 1, 1) := by decide +kernel
theorem dX5_poke_18 : decode cX5_poke 18 = .ok (.iaload, 1) := by decide +kernel
theorem dX5_poke_19 : decode cX5_poke 19 = .ok (.if_icmp .lt 13, 3) := by decide +kernel
theorem dX5_poke_22 : decode cX5_poke 22 = .ok (.new 63, 3) := by decide +kernel
theorem dX5_poke_25 : decode cX5_poke 25 = .ok (.dup, 1) := by decide +kernel
theorem dX5_poke_26 : decode cX5_poke 26 = .ok (.ldc 208, 2) := by decide +kernel
theorem dX5_poke_28 : decode cX5_poke 28 = .ok (.invokespecial 67, 3) := by decide +kernel
theorem dX5_poke_31 : decode cX5_poke 31 = .ok (.athrow, 1) := by decide +kernel
theorem dX5_poke_32 : decode cX5_poke 32 = .ok (.iload_n 3, 1) := by decide +kernel
theorem dX5_poke_33 : decode cX5_poke 33 = .ok (.iconst 1, 1) := by decide +kernel
theorem dX5_poke_34 : decode cX5_poke 34 = .ok (.if_icmp .lt 10, 3) := by decide +kernel
theorem dX5_poke_37 : decode cX5_poke 37 = .ok (.iload_n 3, 1) := by decide +kernel
theorem dX5_poke_38 : decode cX5_poke 38 = .ok (.sipush 255, 3) := by decide +kernel
theorem dX5_poke_41 : decode cX5_poke 41 = .ok (.if_icmp .le 13, 3) := by decide +kernel
theorem dX5_poke_44 : decode cX5_poke 44 = .ok (.new 63, 3) := by decide +kernel
theorem dX5_poke_47 : decode cX5_poke 47 = .ok (.dup, 1) := by decide +kernel
theorem dX5_poke_48 : decode cX5_poke 48 = .ok (.ldc 210, 2) := by decide +kernel
theorem dX5_poke_50 : decode cX5_poke 50 = .ok (.invokespecial 67, 3) := by decide +kernel
theorem dX5_poke_53 : decode cX5_poke 53 = .ok (.athrow, 1) := by decide +kernel
theorem dX5_poke_54 : decode cX5_poke 54 = .ok (.aload_n 0, 1) := by decide +kernel
theorem dX5_poke_55 : decode cX5_poke 55 = .ok (.iload_n 1, 1) := by decide +kernel
theorem dX5_poke_56 : decode cX5_poke 56 = .ok (.invokevirtual 126, 3) := by decide +kernel
theorem dX5_poke_59 : decode cX5_poke 59 = .ok (.aload_n 0, 1) := by decide +kernel
theorem dX5_poke_60 : decode cX5_poke 60 = .ok (.getfield 10, 3) := by decide +kernel
theorem dX5_poke_63 : decode cX5_poke 63 = .ok (.iload_n 1, 1) := by decide +kernel
theorem dX5_poke_64 : decode cX5_poke 64 = .ok (.iload_n 2, 1) := by decide +kernel
theorem dX5_poke_65 : decode cX5_poke 65 = .ok (.iload_n 3, 1) := by decide +kernel
theorem dX5_poke_66 : decode cX5_poke 66 = .ok (.invokevirtual 212, 3) := by decide +kernel
theorem dX5_poke_69 : decode cX5_poke 69 = .ok (.return_, 1) := by decide +kernel
theorem dX5_verify_0 : decode cX5_verify 0 = .ok (.iconst 0, 1) := by decide +kernel
theorem dX5_verify_1 : decode cX5_verify 1 = .ok (.istore_n 1, 1) := by decide +kernel
theorem dX5_verify_2 : decode cX5_verify 2 = .ok (.iload_n 1, 1) := by decide +kernel
theorem dX5_verify_3 : decode cX5_verify 3 = .ok (.aload_n 0, 1) := by decide +kernel
theorem dX5_verify_4 : decode cX5_verify 4 = .ok (.getfield 10, 3) := by decide +kernel
theorem dX5_verify_7 : decode cX5_verify 7 = .ok (.getfield 70, 3) := by decide +kernel
theorem dX5_verify_10 : decode cX5_verify 10 = .ok (.if_icmp .ge 43, 3) := by decide +kernel
theorem dX5_verify_13 : decode cX5_verify 13 = .ok (.aload_n 0, 1) := by decide +kernel
theorem dX5_verify_14 : decode cX5_verify 14 = .ok (.getfield 10, 3) := by decide +kernel
theorem dX5_verify_17 : decode cX5_verify 17 = .ok (.getfield 149, 3) := by decide +kernel
theorem dX5_verify_20 : decode cX5_verify 20 = .ok (.iload_n 1, 1) := by decide +kernel
theorem dX5_verify_21 : decode cX5_verify 21 = .ok (.baload, 1) := by decide +kernel
theorem dX5_verify_22 : decode cX5_verify 22 = .ok (.ifCond .eq 25, 3) := by decide +kernel
theorem dX5_verify_25 : decode cX5_verify 25 = .ok (.aload_n 0, 1) := by decide +kernel
theorem dX5_verify_26 : decode cX5_verify 26 = .ok (.getfield 10, 3) := by decide +kernel
theorem dX5_verify_29 : decode cX5_verify 29 = .ok (.iload_n 1, 1) := by decide +kernel
theorem dX5_verify_30 : decode cX5_verify 30 = .ok (.invokevirtual 132, 3) := by decide +kernel
theorem dX5_verify_33 : decode cX5_verify 33 = .ok (.aload_n 0, 1) := by decide +kernel
theorem dX5_verify_34 : decode cX5_verify 34 = .ok (.getfield 10, 3) := by decide +kernel
theorem dX5_verify_37 : decode cX5_verify 37 = .ok (.getfield 155, 3) := by decide +kernel
theorem dX5_verify_40 : decode cX5_verify 40 = .ok (.iload_n 1, 1) := by decide +kernel
theorem dX5_verify_41 : decode cX5_verify 41 = .ok (.iaload, 1) := by decide +kernel
theorem dX5_verify_42 : decode cX5_verify 42 = .ok (.if_icmp .eq 5, 3) := by decide +kernel
theorem dX5_verify_45 : decode cX5_verify 45 = .ok (.iload_n 1, 1) := by decide +kernel
theorem dX5_verify_46 : decode cX5_verify 46 = .ok (.ireturn, 1) := by decide +kernel
theorem dX5_verify_47 : decode cX5_verify 47 = .ok (.iinc 1 1, 3) := by decide +kernel
theorem dX5_verify_50 : decode cX5_verify 50 = .ok (.goto (-48), 3) := by decide +kernel
theorem dX5_verify_53 : decode cX5_verify 53 = .ok (.iconst (-1), 1) := by decide +kernel
theorem dX5_verify_54 : decode cX5_verify 54 = .ok (.ireturn, 1) := by decide +kernel
theorem dX5_count_0 : decode cX5_count 0 = .ok (.iload_n 1, 1) := by decide +kernel
theorem dX5_count_1 : decode cX5_count 1 = .ok (.tableswitch 75 0 4 #[35, 43, 51, 59, 67], 35) := by decide +kernel
theorem dX5_count_36 : decode cX5_count 36 = .ok (.aload_n 0, 1) := by decide +kernel
theorem dX5_count_37 : decode cX5_count 37 = .ok (.getfield 10, 3) := by decide +kernel
theorem dX5_count_40 : decode cX5_count 40 = .ok (.getfield 70, 3) := by decide +kernel
theorem dX5_count_43 : decode cX5_count 43 = .ok (.ireturn, 1) := by decide +kernel
theorem dX5_count_44 : decode cX5_count 44 = .ok (.aload_n 0, 1) := by decide +kernel
theorem dX5_count_45 : decode cX5_count 45 = .ok (.getfield 28, 3) := by decide +kernel
theorem dX5_count_48 : decode cX5_count 48 = .ok (.getfield 109, 3) := by decide +kernel
theorem dX5_count_51 : decode cX5_count 51 = .ok (.ireturn, 1) := by decide +kernel
theorem dX5_count_52 : decode cX5_count 52 = .ok (.aload_n 0, 1) := by decide +kernel
theorem dX5_count_53 : decode cX5_count 53 = .ok (.getfield 19, 3) := by decide +kernel
theorem dX5_count_56 : decode cX5_count 56 = .ok (.getfield 86, 3) := by decide +kernel
theorem dX5_count_59 : decode cX5_count 59 = .ok (.ireturn, 1) := by decide +kernel
theorem dX5_count_60 : decode cX5_count 60 = .ok (.aload_n 0, 1) := by decide +kernel
theorem dX5_count_61 : decode cX5_count 61 = .ok (.getfield 35, 3) := by decide +kernel
theorem dX5_count_64 : decode cX5_count 64 = .ok (.getfield 160, 3) := by decide +kernel
theorem dX5_count_67 : decode cX5_count 67 = .ok (.ireturn, 1) := by decide +kernel
theorem dX5_count_68 : decode cX5_count 68 = .ok (.aload_n 0, 1) := by decide +kernel
theorem dX5_count_69 : decode cX5_count 69 = .ok (.getfield 42, 3) := by decide +kernel
theorem dX5_count_72 : decode cX5_count 72 = .ok (.getfield 216, 3) := by decide +kernel
theorem dX5_count_75 : decode cX5_count 75 = .ok (.ireturn, 1) := by decide +kernel
theorem dX5_count_76 : decode cX5_count 76 = .ok (.new 161, 3) := by decide +kernel
theorem dX5_count_79 : decode cX5_count 79 = .ok (.dup, 1) := by decide +kernel
theorem dX5_count_80 : decode cX5_count 80 = .ok (.ldc 219, 2) := by decide +kernel
theorem dX5_count_82 : decode cX5_count 82 = .ok (.invokespecial 165, 3) := by decide +kernel
theorem dX5_count_85 : decode cX5_count 85 = .ok (.athrow, 1) := by decide +kernel
theorem dX5_checkSource_0 : decode cX5_checkSource 0 = .ok (.iload_n 0, 1) := by decide +kernel
theorem dX5_checkSource_1 : decode cX5_checkSource 1 = .ok (.ifCond .lt 9, 3) := by decide +kernel
theorem dX5_checkSource_4 : decode cX5_checkSource 4 = .ok (.iload_n 0, 1) := by decide +kernel
theorem dX5_checkSource_5 : decode cX5_checkSource 5 = .ok (.bipush 10, 2) := by decide +kernel
theorem dX5_checkSource_7 : decode cX5_checkSource 7 = .ok (.if_icmp .lt 13, 3) := by decide +kernel
theorem dX5_checkSource_10 : decode cX5_checkSource 10 = .ok (.new 161, 3) := by decide +kernel
theorem dX5_checkSource_13 : decode cX5_checkSource 13 = .ok (.dup, 1) := by decide +kernel
theorem dX5_checkSource_14 : decode cX5_checkSource 14 = .ok (.ldc 221, 2) := by decide +kernel
theorem dX5_checkSource_16 : decode cX5_checkSource 16 = .ok (.invokespecial 165, 3) := by decide +kernel
theorem dX5_checkSource_19 : decode cX5_checkSource 19 = .ok (.athrow, 1) := by decide +kernel
theorem dX5_checkSource_20 : decode cX5_checkSource 20 = .ok (.return_, 1) := by decide +kernel
theorem dX5_checkUnit_0 : decode cX5_checkUnit 0 = .ok (.iload_n 0, 1) := by decide +kernel
theorem dX5_checkUnit_1 : decode cX5_checkUnit 1 = .ok (.ifCond .lt 9, 3) := by decide +kernel
theorem dX5_checkUnit_4 : decode cX5_checkUnit 4 = .ok (.iload_n 0, 1) := by decide +kernel
theorem dX5_checkUnit_5 : decode cX5_checkUnit 5 = .ok (.bipush 100, 2) := by decide +kernel
theorem dX5_checkUnit_7 : decode cX5_checkUnit 7 = .ok (.if_icmp .lt 13, 3) := by decide +kernel
theorem dX5_checkUnit_10 : decode cX5_checkUnit 10 = .ok (.new 161, 3) := by decide +kernel
theorem dX5_checkUnit_13 : decode cX5_checkUnit 13 = .ok (.dup, 1) := by decide +kernel
theorem dX5_checkUnit_14 : decode cX5_checkUnit 14 = .ok (.ldc 223, 2) := by decide +kernel
theorem dX5_checkUnit_16 : decode cX5_checkUnit 16 = .ok (.invokespecial 165, 3) := by decide +kernel
theorem dX5_checkUnit_19 : decode cX5_checkUnit 19 = .ok (.athrow, 1) := by decide +kernel
theorem dX5_checkUnit_20 : decode cX5_checkUnit 20 = .ok (.return_, 1) := by decide +kernel
theorem dX5_checkIncident_0 : decode cX5_checkIncident 0 = .ok (.iload_n 0, 1) := by decide +kernel
theorem dX5_checkIncident_1 : decode cX5_checkIncident 1 = .ok (.ifCond .lt 9, 3) := by decide +kernel
theorem dX5_checkIncident_4 : decode cX5_checkIncident 4 = .ok (.iload_n 0, 1) := by decide +kernel
theorem dX5_checkIncident_5 : decode cX5_checkIncident 5 = .ok (.bipush 50, 2) := by decide +kernel
theorem dX5_checkIncident_7 : decode cX5_checkIncident 7 = .ok (.if_icmp .lt 13, 3) := by decide +kernel
theorem dX5_checkIncident_10 : decode cX5_checkIncident 10 = .ok (.new 161, 3) := by decide +kernel
theorem dX5_checkIncident_13 : decode cX5_checkIncident 13 = .ok (.dup, 1) := by decide +kernel
theorem dX5_checkIncident_14 : decode cX5_checkIncident 14 = .ok (.ldc 225, 2) := by decide +kernel
theorem dX5_checkIncident_16 : decode cX5_checkIncident 16 = .ok (.invokespecial 165, 3) := by decide +kernel
theorem dX5_checkIncident_19 : decode cX5_checkIncident 19 = .ok (.athrow, 1) := by decide +kernel
theorem dX5_checkIncident_20 : decode cX5_checkIncident 20 = .ok (.return_, 1) := by decide +kernel
theorem dX5_checkPerson_0 : decode cX5_checkPerson 0 = .ok (.iload_n 0, 1) := by decide +kernel
theorem dX5_checkPerson_1 : decode cX5_checkPerson 1 = .ok (.ifCond .lt 9, 3) := by decide +kernel
theorem dX5_checkPerson_4 : decode cX5_checkPerson 4 = .ok (.iload_n 0, 1) := by decide +kernel
theorem dX5_checkPerson_5 : decode cX5_checkPerson 5 = .ok (.bipush 20, 2) := by decide +kernel
theorem dX5_checkPerson_7 : decode cX5_checkPerson 7 = .ok (.if_icmp .lt 13, 3) := by decide +kernel
theorem dX5_checkPerson_10 : decode cX5_checkPerson 10 = .ok (.new 161, 3) := by decide +kernel
theorem dX5_checkPerson_13 : decode cX5_checkPerson 13 = .ok (.dup, 1) := by decide +kernel
theorem dX5_checkPerson_14 : decode cX5_checkPerson 14 = .ok (.ldc 227, 2) := by decide +kernel
theorem dX5_checkPerson_16 : decode cX5_checkPerson 16 = .ok (.invokespecial 165, 3) := by decide +kernel
theorem dX5_checkPerson_19 : decode cX5_checkPerson 19 = .ok (.athrow, 1) := by decide +kernel
theorem dX5_checkPerson_20 : decode cX5_checkPerson 20 = .ok (.return_, 1) := by decide +kernel
theorem dX5_checkTime_0 : decode cX5_checkTime 0 = .ok (.iload_n 0, 1) := by decide +kernel
theorem dX5_checkTime_1 : decode cX5_checkTime 1 = .ok (.ifCond .lt 9, 3) := by decide +kernel
theorem dX5_checkTime_4 : decode cX5_checkTime 4 = .ok (.iload_n 0, 1) := by decide +kernel
theorem dX5_checkTime_5 : decode cX5_checkTime 5 = .ok (.ldc 229, 2) := by decide +kernel
theorem dX5_checkTime_7 : decode cX5_checkTime 7 = .ok (.if_icmp .le 13, 3) := by decide +kernel
theorem dX5_checkTime_10 : decode cX5_checkTime 10 = .ok (.new 63, 3) := by decide +kernel
theorem dX5_checkTime_13 : decode cX5_checkTime 13 = .ok (.dup, 1) := by decide +kernel
theorem dX5_checkTime_14 : decode cX5_checkTime 14 = .ok (.ldc 230, 2) := by decide +kernel
theorem dX5_checkTime_16 : decode cX5_checkTime 16 = .ok (.invokespecial 67, 3) := by decide +kernel
theorem dX5_checkTime_19 : decode cX5_checkTime 19 = .ok (.athrow, 1) := by decide +kernel
theorem dX5_checkTime_20 : decode cX5_checkTime 20 = .ok (.return_, 1) := by decide +kernel
theorem dX5_checkPlace_0 : decode cX5_checkPlace 0 = .ok (.iload_n 0, 1) := by decide +kernel
theorem dX5_checkPlace_1 : decode cX5_checkPlace 1 = .ok (.ifCond .ge 13, 3) := by decide +kernel
theorem dX5_checkPlace_4 : decode cX5_checkPlace 4 = .ok (.new 63, 3) := by decide +kernel
theorem dX5_checkPlace_7 : decode cX5_checkPlace 7 = .ok (.dup, 1) := by decide +kernel
theorem dX5_checkPlace_8 : decode cX5_checkPlace 8 = .ok (.ldc 232, 2) := by decide +kernel
theorem dX5_checkPlace_10 : decode cX5_checkPlace 10 = .ok (.invokespecial 67, 3) := by decide +kernel
theorem dX5_checkPlace_13 : decode cX5_checkPlace 13 = .ok (.athrow, 1) := by decide +kernel
theorem dX5_checkPlace_14 : decode cX5_checkPlace 14 = .ok (.return_, 1) := by decide +kernel
theorem dX5_checkSlot_0 : decode cX5_checkSlot 0 = .ok (.iload_n 1, 1) := by decide +kernel
theorem dX5_checkSlot_1 : decode cX5_checkSlot 1 = .ok (.ifCond .lt 14, 3) := by decide +kernel
theorem dX5_checkSlot_4 : decode cX5_checkSlot 4 = .ok (.iload_n 1, 1) := by decide +kernel
theorem dX5_checkSlot_5 : decode cX5_checkSlot 5 = .ok (.aload_n 0, 1) := by decide +kernel
theorem dX5_checkSlot_6 : decode cX5_checkSlot 6 = .ok (.getfield 10, 3) := by decide +kernel
theorem dX5_checkSlot_9 : decode cX5_checkSlot 9 = .ok (.getfield 70, 3) := by decide +kernel
theorem dX5_checkSlot_12 : decode cX5_checkSlot 12 = .ok (.if_icmp .lt 13, 3) := by decide +kernel
theorem dX5_checkSlot_15 : decode cX5_checkSlot 15 = .ok (.new 161, 3) := by decide +kernel
theorem dX5_checkSlot_18 : decode cX5_checkSlot 18 = .ok (.dup, 1) := by decide +kernel
theorem dX5_checkSlot_19 : decode cX5_checkSlot 19 = .ok (.ldc 234, 2) := by decide +kernel
theorem dX5_checkSlot_21 : decode cX5_checkSlot 21 = .ok (.invokespecial 165, 3) := by decide +kernel
theorem dX5_checkSlot_24 : decode cX5_checkSlot 24 = .ok (.athrow, 1) := by decide +kernel
theorem dX5_checkSlot_25 : decode cX5_checkSlot 25 = .ok (.return_, 1) := by decide +kernel
theorem dX5_checkThere_0 : decode cX5_checkThere 0 = .ok (.aload_n 0, 1) := by decide +kernel
theorem dX5_checkThere_1 : decode cX5_checkThere 1 = .ok (.getfield 10, 3) := by decide +kernel
theorem dX5_checkThere_4 : decode cX5_checkThere 4 = .ok (.getfield 149, 3) := by decide +kernel
theorem dX5_checkThere_7 : decode cX5_checkThere 7 = .ok (.iload_n 1, 1) := by decide +kernel
theorem dX5_checkThere_8 : decode cX5_checkThere 8 = .ok (.baload, 1) := by decide +kernel
theorem dX5_checkThere_9 : decode cX5_checkThere 9 = .ok (.ifCond .ne 13, 3) := by decide +kernel
theorem dX5_checkThere_12 : decode cX5_checkThere 12 = .ok (.new 139, 3) := by decide +kernel
theorem dX5_checkThere_15 : decode cX5_checkThere 15 = .ok (.dup, 1) := by decide +kernel
theorem dX5_checkThere_16 : decode cX5_checkThere 16 = .ok (.ldc 236, 2) := by decide +kernel
theorem dX5_checkThere_18 : decode cX5_checkThere 18 = .ok (.invokespecial 143, 3) := by decide +kernel
theorem dX5_checkThere_21 : decode cX5_checkThere 21 = .ok (.athrow, 1) := by decide +kernel
theorem dX5_checkThere_22 : decode cX5_checkThere 22 = .ok (.return_, 1) := by decide +kernel
theorem dX0_init_0 : decode cX0_init 0 = .ok (.aload_n 0, 1) := by decide +kernel
theorem dX0_init_1 : decode cX0_init 1 = .ok (.invokespecial 3, 3) := by decide +kernel
theorem dX0_init_4 : decode cX0_init 4 = .ok (.aload_n 0, 1) := by decide +kernel
theorem dX0_init_5 : decode cX0_init 5 = .ok (.sipush 200, 3) := by decide +kernel
theorem dX0_init_8 : decode cX0_init 8 = .ok (.newarray .int, 2) := by decide +kernel
theorem dX0_init_10 : decode cX0_init 10 = .ok (.putfield 9, 3) := by decide +kernel
theorem dX0_init_13 : decode cX0_init 13 = .ok (.aload_n 0, 1) := by decide +kernel
theorem dX0_init_14 : decode cX0_init 14 = .ok (.sipush 200, 3) := by decide +kernel
theorem dX0_init_17 : decode cX0_init 17 = .ok (.newarray .int, 2) := by decide +kernel
theorem dX0_init_19 : decode cX0_init 19 = .ok (.putfield 15, 3) := by decide +kernel
theorem dX0_init_22 : decode cX0_init 22 = .ok (.aload_n 0, 1) := by decide +kernel
theorem dX0_init_23 : decode cX0_init 23 = .ok (.sipush 200, 3) := by decide +kernel
theorem dX0_init_26 : decode cX0_init 26 = .ok (.newarray .int, 2) := by decide +kernel
theorem dX0_init_28 : decode cX0_init 28 = .ok (.putfield 18, 3) := by decide +kernel
theorem dX0_init_31 : decode cX0_init 31 = .ok (.return_, 1) := by decide +kernel
theorem dX0_add_0 : decode cX0_add 0 = .ok (.aload_n 0, 1) := by decide +kernel
theorem dX0_add_1 : decode cX0_add 1 = .ok (.getfield 21, 3) := by decide +kernel
theorem dX0_add_4 : decode cX0_add 4 = .ok (.istore 4, 2) := by decide +kernel
theorem dX0_add_6 : decode cX0_add 6 = .ok (.aload_n 0, 1) := by decide +kernel
theorem dX0_add_7 : decode cX0_add 7 = .ok (.getfield 9, 3) := by decide +kernel
theorem dX0_add_10 : decode cX0_add 10 = .ok (.iload 4, 2) := by decide +kernel
theorem dX0_add_12 : decode cX0_add 12 = .ok (.iload_n 1, 1) := by decide +kernel
theorem dX0_add_13 : decode cX0_add 13 = .ok (.iastore, 1) := by decide +kernel
theorem dX0_add_14 : decode cX0_add 14 = .ok (.aload_n 0, 1) := by decide +kernel
theorem dX0_add_15 : decode cX0_add 15 = .ok (.getfield 15, 3) := by decide +kernel
theorem dX0_add_18 : decode cX0_add 18 = .ok (.iload 4, 2) := by decide +kernel
theorem dX0_add_20 : decode cX0_add 20 = .ok (.iload_n 2, 1) := by decide +kernel
theorem dX0_add_21 : decode cX0_add 21 = .ok (.iastore, 1) := by decide +kernel
theorem dX0_add_22 : decode cX0_add 22 = .ok (.aload_n 0, 1) := by decide +kernel
theorem dX0_add_23 : decode cX0_add 23 = .ok (.getfield 18, 3) := by decide +kernel
theorem dX0_add_26 : decode cX0_add 26 = .ok (.iload 4, 2) := by decide +kernel
theorem dX0_add_28 : decode cX0_add 28 = .ok (.iload_n 3, 1) := by decide +kernel
theorem dX0_add_29 : decode cX0_add 29 = .ok (.iastore, 1) := by decide +kernel
theorem dX0_add_30 : decode cX0_add 30 = .ok (.aload_n 0, 1) := by decide +kernel
theorem dX0_add_31 : decode cX0_add 31 = .ok (.dup, 1) := by decide +kernel
theorem dX0_add_32 : decode cX0_add 32 = .ok (.getfield 21, 3) := by decide +kernel
theorem dX0_add_35 : decode cX0_add 35 = .ok (.iconst 1, 1) := by decide +kernel
theorem dX0_add_36 : decode cX0_add 36 = .ok (.iadd, 1) := by decide +kernel
theorem dX0_add_37 : decode cX0_add 37 = .ok (.putfield 21, 3) := by decide +kernel
theorem dX0_add_40 : decode cX0_add 40 = .ok (.iload 4, 2) := by decide +kernel
theorem dX0_add_42 : decode cX0_add 42 = .ok (.ireturn, 1) := by decide +kernel
theorem dX1_init_0 : decode cX1_init 0 = .ok (.aload_n 0, 1) := by decide +kernel
theorem dX1_init_1 : decode cX1_init 1 = .ok (.invokespecial 3, 3) := by decide +kernel
theorem dX1_init_4 : decode cX1_init 4 = .ok (.aload_n 0, 1) := by decide +kernel
theorem dX1_init_5 : decode cX1_init 5 = .ok (.sipush 200, 3) := by decide +kernel
theorem dX1_init_8 : decode cX1_init 8 = .ok (.newarray .int, 2) := by decide +kernel
theorem dX1_init_10 : decode cX1_init 10 = .ok (.putfield 9, 3) := by decide +kernel
theorem dX1_init_13 : decode cX1_init 13 = .ok (.aload_n 0, 1) := by decide +kernel
theorem dX1_init_14 : decode cX1_init 14 = .ok (.aload_n 1, 1) := by decide +kernel
theorem dX1_init_15 : decode cX1_init 15 = .ok (.putfield 15, 3) := by decide +kernel
theorem dX1_init_18 : decode cX1_init 18 = .ok (.aload_n 0, 1) := by decide +kernel
theorem dX1_init_19 : decode cX1_init 19 = .ok (.aload_n 2, 1) := by decide +kernel
theorem dX1_init_20 : decode cX1_init 20 = .ok (.putfield 19, 3) := by decide +kernel
theorem dX1_init_23 : decode cX1_init 23 = .ok (.return_, 1) := by decide +kernel
theorem dX1_insert_0 : decode cX1_insert 0 = .ok (.aload_n 0, 1) := by decide +kernel
theorem dX1_insert_1 : decode cX1_insert 1 = .ok (.getfield 9, 3) := by decide +kernel
theorem dX1_insert_4 : decode cX1_insert 4 = .ok (.aload_n 0, 1) := by decide +kernel
theorem dX1_insert_5 : decode cX1_insert 5 = .ok (.getfield 23, 3) := by decide +kernel
theorem dX1_insert_8 : decode cX1_insert 8 = .ok (.iload_n 1, 1) := by decide +kernel
theorem dX1_insert_9 : decode cX1_insert 9 = .ok (.iastore, 1) := by decide +kernel
theorem dX1_insert_10 : decode cX1_insert 10 = .ok (.aload_n 0, 1) := by decide +kernel
theorem dX1_insert_11 : decode cX1_insert 11 = .ok (.aload_n 0, 1) := by decide +kernel
theorem dX1_insert_12 : decode cX1_insert 12 = .ok (.getfield 23, 3) := by decide +kernel
theorem dX1_insert_15 : decode cX1_insert 15 = .ok (.invokevirtual 27, 3) := by decide +kernel
theorem dX1_insert_18 : decode cX1_insert 18 = .ok (.aload_n 0, 1) := by decide +kernel
theorem dX1_insert_19 : decode cX1_insert 19 = .ok (.dup, 1) := by decide +kernel
theorem dX1_insert_20 : decode cX1_insert 20 = .ok (.getfield 23, 3) := by decide +kernel
theorem dX1_insert_23 : decode cX1_insert 23 = .ok (.iconst 1, 1) := by decide +kernel
theorem dX1_insert_24 : decode cX1_insert 24 = .ok (.iadd, 1) := by decide +kernel
theorem dX1_insert_25 : decode cX1_insert 25 = .ok (.putfield 23, 3) := by decide +kernel
theorem dX1_insert_28 : decode cX1_insert 28 = .ok (.return_, 1) := by decide +kernel
theorem dX1_remove_0 : decode cX1_remove 0 = .ok (.iconst 0, 1) := by decide +kernel
theorem dX1_remove_1 : decode cX1_remove 1 = .ok (.istore_n 2, 1) := by decide +kernel
theorem dX1_remove_2 : decode cX1_remove 2 = .ok (.iconst 0, 1) := by decide +kernel
theorem dX1_remove_3 : decode cX1_remove 3 = .ok (.istore_n 3, 1) := by decide +kernel
theorem dX1_remove_4 : decode cX1_remove 4 = .ok (.iload_n 3, 1) := by decide +kernel
theorem dX1_remove_5 : decode cX1_remove 5 = .ok (.aload_n 0, 1) := by decide +kernel
theorem dX1_remove_6 : decode cX1_remove 6 = .ok (.getfield 23, 3) := by decide +kernel
theorem dX1_remove_9 : decode cX1_remove 9 = .ok (.if_icmp .ge 34, 3) := by decide +kernel
theorem dX1_remove_12 : decode cX1_remove 12 = .ok (.aload_n 0, 1) := by decide +kernel
theorem dX1_remove_13 : decode cX1_remove 13 = .ok (.getfield 9, 3) := by decide +kernel
theorem dX1_remove_16 : decode cX1_remove 16 = .ok (.iload_n 3, 1) := by decide +kernel
theorem dX1_remove_17 : decode cX1_remove 17 = .ok (.iaload, 1) := by decide +kernel
theorem dX1_remove_18 : decode cX1_remove 18 = .ok (.iload_n 1, 1) := by decide +kernel
theorem dX1_remove_19 : decode cX1_remove 19 = .ok (.if_icmp .eq 18, 3) := by decide +kernel
theorem dX1_remove_22 : decode cX1_remove 22 = .ok (.aload_n 0, 1) := by decide +kernel
theorem dX1_remove_23 : decode cX1_remove 23 = .ok (.getfield 9, 3) := by decide +kernel
theorem dX1_remove_26 : decode cX1_remove 26 = .ok (.iload_n 2, 1) := by decide +kernel
theorem dX1_remove_27 : decode cX1_remove 27 = .ok (.aload_n 0, 1) := by decide +kernel
theorem dX1_remove_28 : decode cX1_remove 28 = .ok (.getfield 9, 3) := by decide +kernel
theorem dX1_remove_31 : decode cX1_remove 31 = .ok (.iload_n 3, 1) := by decide +kernel
theorem dX1_remove_32 : decode cX1_remove 32 = .ok (.iaload, 1) := by decide +kernel
theorem dX1_remove_33 : decode cX1_remove 33 = .ok (.iastore, 1) := by decide +kernel
theorem dX1_remove_34 : decode cX1_remove 34 = .ok (.iinc 2 1, 3) := by decide +kernel
theorem dX1_remove_37 : decode cX1_remove 37 = .ok (.iinc 3 1, 3) := by decide +kernel
theorem dX1_remove_40 : decode cX1_remove 40 = .ok (.goto (-36), 3) := by decide +kernel
theorem dX1_remove_43 : decode cX1_remove 43 = .ok (.aload_n 0, 1) := by decide +kernel
theorem dX1_remove_44 : decode cX1_remove 44 = .ok (.iload_n 2, 1) := by decide +kernel
theorem dX1_remove_45 : decode cX1_remove 45 = .ok (.putfield 23, 3) := by decide +kernel
theorem dX1_remove_48 : decode cX1_remove 48 = .ok (.return_, 1) := by decide +kernel
theorem dX1_sortAgain_0 : decode cX1_sortAgain 0 = .ok (.iconst 1, 1) := by decide +kernel
theorem dX1_sortAgain_1 : decode cX1_sortAgain 1 = .ok (.istore_n 1, 1) := by decide +kernel
theorem dX1_sortAgain_2 : decode cX1_sortAgain 2 = .ok (.iload_n 1, 1) := by decide +kernel
theorem dX1_sortAgain_3 : decode cX1_sortAgain 3 = .ok (.aload_n 0, 1) := by decide +kernel
theorem dX1_sortAgain_4 : decode cX1_sortAgain 4 = .ok (.getfield 23, 3) := by decide +kernel
theorem dX1_sortAgain_7 : decode cX1_sortAgain 7 = .ok (.if_icmp .ge 14, 3) := by decide +kernel
theorem dX1_sortAgain_10 : decode cX1_sortAgain 10 = .ok (.aload_n 0, 1) := by decide +kernel
theorem dX1_sortAgain_11 : decode cX1_sortAgain 11 = .ok (.iload_n 1, 1) := by decide +kernel
theorem dX1_sortAgain_12 : decode cX1_sortAgain 12 = .ok (.invokevirtual 27, 3) := by decide +kernel
theorem dX1_sortAgain_15 : decode cX1_sortAgain 15 = .ok (.iinc 1 1, 3) := by decide +kernel
theorem dX1_sortAgain_18 : decode cX1_sortAgain 18 = .ok (.goto (-16), 3) := by decide +kernel
theorem dX1_sortAgain_21 : decode cX1_sortAgain 21 = .ok (.return_, 1) := by decide +kernel
theorem dX1_beginOf_0 : decode cX1_beginOf 0 = .ok (.aload_n 0, 1) := by decide +kernel
theorem dX1_beginOf_1 : decode cX1_beginOf 1 = .ok (.getfield 15, 3) := by decide +kernel
theorem dX1_beginOf_4 : decode cX1_beginOf 4 = .ok (.getfield 31, 3) := by decide +kernel
theorem dX1_beginOf_7 : decode cX1_beginOf 7 = .ok (.iload_n 1, 1) := by decide +kernel
theorem dX1_beginOf_8 : decode cX1_beginOf 8 = .ok (.iaload, 1) := by decide +kernel
theorem dX1_beginOf_9 : decode cX1_beginOf 9 = .ok (.aload_n 0, 1) := by decide +kernel
theorem dX1_beginOf_10 : decode cX1_beginOf 10 = .ok (.getfield 19, 3) := by decide +kernel
theorem dX1_beginOf_13 : decode cX1_beginOf 13 = .ok (.aload_n 0, 1) := by decide +kernel
theorem dX1_beginOf_14 : decode cX1_beginOf 14 = .ok (.getfield 15, 3) := by decide +kernel
theorem dX1_beginOf_17 : decode cX1_beginOf 17 = .ok (.getfield 36, 3) := by decide +kernel
theorem dX1_beginOf_20 : decode cX1_beginOf 20 = .ok (.iload_n 1, 1) := by decide +kernel
theorem dX1_beginOf_21 : decode cX1_beginOf 21 = .ok (.iaload, 1) := by decide +kernel
theorem dX1_beginOf_22 : decode cX1_beginOf 22 = .ok (.invokevirtual 39, 3) := by decide +kernel
theorem dX1_beginOf_25 : decode cX1_beginOf 25 = .ok (.iadd, 1) := by decide +kernel
theorem dX1_beginOf_26 : decode cX1_beginOf 26 = .ok (.ireturn, 1) := by decide +kernel
theorem dX1_bytesWithin_0 : decode cX1_bytesWithin 0 = .ok (.iconst 0, 1) := by decide +kernel
theorem dX1_bytesWithin_1 : decode cX1_bytesWithin 1 = .ok (.aload_n 0, 1) := by decide +kernel
theorem dX1_bytesWithin_2 : decode cX1_bytesWithin 2 = .ok (.iload_n 1, 1) := by decide +kernel
theorem dX1_bytesWithin_3 : decode cX1_bytesWithin 3 = .ok (.iload_n 3, 1) := by decide +kernel
theorem dX1_bytesWithin_4 : decode cX1_bytesWithin 4 = .ok (.invokevirtual 45, 3) := by decide +kernel
theorem dX1_bytesWithin_7 : decode cX1_bytesWithin 7 = .ok (.aload_n 0, 1) := by decide +kernel
theorem dX1_bytesWithin_8 : decode cX1_bytesWithin 8 = .ok (.iload_n 1, 1) := by decide +kernel
theorem dX1_bytesWithin_9 : decode cX1_bytesWithin 9 = .ok (.iload_n 2, 1) := by decide +kernel
theorem dX1_bytesWithin_10 : decode cX1_bytesWithin 10 = .ok (.invokevirtual 45, 3) := by decide +kernel
theorem dX1_bytesWithin_13 : decode cX1_bytesWithin 13 = .ok (.isub, 1) := by decide +kernel
theorem dX1_bytesWithin_14 : decode cX1_bytesWithin 14 = .ok (.invokestatic 49, 3) := by decide +kernel
theorem dX1_bytesWithin_17 : decode cX1_bytesWithin 17 = .ok (.ireturn, 1) := by decide +kernel
theorem dX1_sumWithin_0 : decode cX1_sumWithin 0 = .ok (.aload_n 0, 1) := by decide +kernel
theorem dX1_sumWithin_1 : decode cX1_sumWithin 1 = .ok (.getfield 15, 3) := by decide +kernel
theorem dX1_sumWithin_4 : decode cX1_sumWithin 4 = .ok (.iload_n 1, 1) := by decide +kernel
theorem dX1_sumWithin_5 : decode cX1_sumWithin 5 = .ok (.iload_n 2, 1) := by decide +kernel
theorem dX1_sumWithin_6 : decode cX1_sumWithin 6 = .ok (.aload_n 0, 1) := by decide +kernel
theorem dX1_sumWithin_7 : decode cX1_sumWithin 7 = .ok (.iload_n 2, 1) := by decide +kernel
theorem dX1_sumWithin_8 : decode cX1_sumWithin 8 = .ok (.iload_n 3, 1) := by decide +kernel
theorem dX1_sumWithin_9 : decode cX1_sumWithin 9 = .ok (.invokevirtual 45, 3) := by decide +kernel
theorem dX1_sumWithin_12 : decode cX1_sumWithin 12 = .ok (.aload_n 0, 1) := by decide +kernel
theorem dX1_sumWithin_13 : decode cX1_sumWithin 13 = .ok (.iload_n 2, 1) := by decide +kernel
theorem dX1_sumWithin_14 : decode cX1_sumWithin 14 = .ok (.iload 4, 2) := by decide +kernel
theorem dX1_sumWithin_16 : decode cX1_sumWithin 16 = .ok (.invokevirtual 45, 3) := by decide +kernel
theorem dX1_sumWithin_19 : decode cX1_sumWithin 19 = .ok (.invokevirtual 54, 3) := by decide +kernel
theorem dX1_sumWithin_22 : decode cX1_sumWithin 22 = .ok (.ireturn, 1) := by decide +kernel
theorem dX1_bytesBefore_0 : decode cX1_bytesBefore 0 = .ok (.aload_n 0, 1) := by decide +kernel
theorem dX1_bytesBefore_1 : decode cX1_bytesBefore 1 = .ok (.iload_n 1, 1) := by decide +kernel
theorem dX1_bytesBefore_2 : decode cX1_bytesBefore 2 = .ok (.invokevirtual 58, 3) := by decide +kernel
theorem dX1_bytesBefore_5 : decode cX1_bytesBefore 5 = .ok (.istore_n 3, 1) := by decide +kernel
theorem dX1_bytesBefore_6 : decode cX1_bytesBefore 6 = .ok (.iload_n 3, 1) := by decide +kernel
theorem dX1_bytesBefore_7 : decode cX1_bytesBefore 7 = .ok (.aload_n 0, 1) := by decide +kernel
theorem dX1_bytesBefore_8 : decode cX1_bytesBefore 8 = .ok (.getfield 15, 3) := by decide +kernel
theorem dX1_bytesBefore_11 : decode cX1_bytesBefore 11 = .ok (.getfield 61, 3) := by decide +kernel
theorem dX1_bytesBefore_14 : decode cX1_bytesBefore 14 = .ok (.iload_n 1, 1) := by decide +kernel
theorem dX1_bytesBefore_15 : decode cX1_bytesBefore 15 = .ok (.iaload, 1) := by decide +kernel
theorem dX1_bytesBefore_16 : decode cX1_bytesBefore 16 = .ok (.iadd, 1) := by decide +kernel
theorem dX1_bytesBefore_17 : decode cX1_bytesBefore 17 = .ok (.istore 4, 2) := by decide +kernel
theorem dX1_bytesBefore_19 : decode cX1_bytesBefore 19 = .ok (.iload_n 3, 1) := by decide +kernel
theorem dX1_bytesBefore_20 : decode cX1_bytesBefore 20 = .ok (.iload_n 2, 1) := by decide +kernel
theorem dX1_bytesBefore_21 : decode cX1_bytesBefore 21 = .ok (.iload 4, 2) := by decide +kernel
theorem dX1_bytesBefore_23 : decode cX1_bytesBefore 23 = .ok (.invokestatic 63, 3) := by decide +kernel
theorem dX1_bytesBefore_26 : decode cX1_bytesBefore 26 = .ok (.invokestatic 49, 3) := by decide +kernel
theorem dX1_bytesBefore_29 : decode cX1_bytesBefore 29 = .ok (.iload_n 3, 1) := by decide +kernel
theorem dX1_bytesBefore_30 : decode cX1_bytesBefore 30 = .ok (.isub, 1) := by decide +kernel
theorem dX1_bytesBefore_31 : decode cX1_bytesBefore 31 = .ok (.ireturn, 1) := by decide +kernel
theorem dX1_settle_0 : decode cX1_settle 0 = .ok (.aload_n 0, 1) := by decide +kernel
theorem dX1_settle_1 : decode cX1_settle 1 = .ok (.getfield 9, 3) := by decide +kernel
theorem dX1_settle_4 : decode cX1_settle 4 = .ok (.iload_n 1, 1) := by decide +kernel
theorem dX1_settle_5 : decode cX1_settle 5 = .ok (.iaload, 1) := by decide +kernel
theorem dX1_settle_6 : decode cX1_settle 6 = .ok (.istore_n 2, 1) := by decide +kernel
theorem dX1_settle_7 : decode cX1_settle 7 = .ok (.iload_n 1, 1) := by decide +kernel
theorem dX1_settle_8 : decode cX1_settle 8 = .ok (.istore_n 3, 1) := by decide +kernel
theorem dX1_settle_9 : decode cX1_settle 9 = .ok (.iload_n 3, 1) := by decide +kernel
theorem dX1_settle_10 : decode cX1_settle 10 = .ok (.ifCond .le 39, 3) := by decide +kernel
theorem dX1_settle_13 : decode cX1_settle 13 = .ok (.aload_n 0, 1) := by decide +kernel
theorem dX1_settle_14 : decode cX1_settle 14 = .ok (.iload_n 2, 1) := by decide +kernel
theorem dX1_settle_15 : decode cX1_settle 15 = .ok (.aload_n 0, 1) := by decide +kernel
theorem dX1_settle_16 : decode cX1_settle 16 = .ok (.getfield 9, 3) := by decide +kernel
theorem dX1_settle_19 : decode cX1_settle 19 = .ok (.iload_n 3, 1) := by decide +kernel
theorem dX1_settle_20 : decode cX1_settle 20 = .ok (.iconst 1, 1) := by decide +kernel
theorem dX1_settle_21 : decode cX1_settle 21 = .ok (.isub, 1) := by decide +kernel
theorem dX1_settle_22 : decode cX1_settle 22 = .ok (.iaload, 1) := by decide +kernel
theorem dX1_settle_23 : decode cX1_settle 23 = .ok (.invokevirtual 66, 3) := by decide +kernel
theorem dX1_settle_26 : decode cX1_settle 26 = .ok (.ifCond .eq 23, 3) := by decide +kernel
theorem dX1_settle_29 : decode cX1_settle 29 = .ok (.aload_n 0, 1) := by decide +kernel
theorem dX1_settle_30 : decode cX1_settle 30 = .ok (.getfield 9, 3) := by decide +kernel
theorem dX1_settle_33 : decode cX1_settle 33 = .ok (.iload_n 3, 1) := by decide +kernel
theorem dX1_settle_34 : decode cX1_settle 34 = .ok (.aload_n 0, 1) := by decide +kernel
theorem dX1_settle_35 : decode cX1_settle 35 = .ok (.getfield 9, 3) := by decide +kernel
theorem dX1_settle_38 : decode cX1_settle 38 = .ok (.iload_n 3, 1) := by decide +kernel
theorem dX1_settle_39 : decode cX1_settle 39 = .ok (.iconst 1, 1) := by decide +kernel
theorem dX1_settle_40 : decode cX1_settle 40 = .ok (.isub, 1) := by decide +kernel
theorem dX1_settle_41 : decode cX1_settle 41 = .ok (.iaload, 1) := by decide +kernel
theorem dX1_settle_42 : decode cX1_settle 42 = .ok (.iastore, 1) := by decide +kernel
theorem dX1_settle_43 : decode cX1_settle 43 = .ok (.iinc 3 (-1), 3) := by decide +kernel
theorem dX1_settle_46 : decode cX1_settle 46 = .ok (.goto (-37), 3) := by decide +kernel
theorem dX1_settle_49 : decode cX1_settle 49 = .ok (.aload_n 0, 1) := by decide +kernel
theorem dX1_settle_50 : decode cX1_settle 50 = .ok (.getfield 9, 3) := by decide +kernel
theorem dX1_settle_53 : decode cX1_settle 53 = .ok (.iload_n 3, 1) := by decide +kernel
theorem dX1_settle_54 : decode cX1_settle 54 = .ok (.iload_n 2, 1) := by decide +kernel
theorem dX1_settle_55 : decode cX1_settle 55 = .ok (.iastore, 1) := by decide +kernel
theorem dX1_settle_56 : decode cX1_settle 56 = .ok (.return_, 1) := by decide +kernel
theorem dX1_isBefore_0 : decode cX1_isBefore 0 = .ok (.aload_n 0, 1) := by decide +kernel
theorem dX1_isBefore_1 : decode cX1_isBefore 1 = .ok (.iload_n 1, 1) := by decide +kernel
theorem dX1_isBefore_2 : decode cX1_isBefore 2 = .ok (.invokevirtual 58, 3) := by decide +kernel
theorem dX1_isBefore_5 : decode cX1_isBefore 5 = .ok (.istore_n 3, 1) := by decide +kernel
theorem dX1_isBefore_6 : decode cX1_isBefore 6 = .ok (.aload_n 0, 1) := by decide +kernel
theorem dX1_isBefore_7 : decode cX1_isBefore 7 = .ok (.iload_n 2, 1) := by decide +kernel
theorem dX1_isBefore_8 : decode cX1_isBefore 8 = .ok (.invokevirtual 58, 3) := by decide +kernel
theorem dX1_isBefore_11 : decode cX1_isBefore 11 = .ok (.istore 4, 2) := by decide +kernel
theorem dX1_isBefore_13 : decode cX1_isBefore 13 = .ok (.iload_n 3, 1) := by decide +kernel
theorem dX1_isBefore_14 : decode cX1_isBefore 14 = .ok (.iload 4, 2) := by decide +kernel
theorem dX1_isBefore_16 : decode cX1_isBefore 16 = .ok (.if_icmp .eq 15, 3) := by decide +kernel
theorem dX1_isBefore_19 : decode cX1_isBefore 19 = .ok (.iload_n 3, 1) := by decide +kernel
theorem dX1_isBefore_20 : decode cX1_isBefore 20 = .ok (.iload 4, 2) := by decide +kernel
theorem dX1_isBefore_22 : decode cX1_isBefore 22 = .ok (.if_icmp .ge 7, 3) := by decide +kernel
theorem dX1_isBefore_25 : decode cX1_isBefore 25 = .ok (.iconst 1, 1) := by decide +kernel
theorem dX1_isBefore_26 : decode cX1_isBefore 26 = .ok (.goto 4, 3) := by decide +kernel
theorem dX1_isBefore_29 : decode cX1_isBefore 29 = .ok (.iconst 0, 1) := by decide +kernel
theorem dX1_isBefore_30 : decode cX1_isBefore 30 = .ok (.ireturn, 1) := by decide +kernel
theorem dX1_isBefore_31 : decode cX1_isBefore 31 = .ok (.aload_n 0, 1) := by decide +kernel
theorem dX1_isBefore_32 : decode cX1_isBefore 32 = .ok (.getfield 15, 3) := by decide +kernel
theorem dX1_isBefore_35 : decode cX1_isBefore 35 = .ok (.getfield 36, 3) := by decide +kernel
theorem dX1_isBefore_38 : decode cX1_isBefore 38 = .ok (.iload_n 1, 1) := by decide +kernel
theorem dX1_isBefore_39 : decode cX1_isBefore 39 = .ok (.iaload, 1) := by decide +kernel
theorem dX1_isBefore_40 : decode cX1_isBefore 40 = .ok (.aload_n 0, 1) := by decide +kernel
theorem dX1_isBefore_41 : decode cX1_isBefore 41 = .ok (.getfield 15, 3) := by decide +kernel
theorem dX1_isBefore_44 : decode cX1_isBefore 44 = .ok (.getfield 36, 3) := by decide +kernel
theorem dX1_isBefore_47 : decode cX1_isBefore 47 = .ok (.iload_n 2, 1) := by decide +kernel
theorem dX1_isBefore_48 : decode cX1_isBefore 48 = .ok (.iaload, 1) := by decide +kernel
theorem dX1_isBefore_49 : decode cX1_isBefore 49 = .ok (.if_icmp .eq 30, 3) := by decide +kernel
theorem dX1_isBefore_52 : decode cX1_isBefore 52 = .ok (.aload_n 0, 1) := by decide +kernel
theorem dX1_isBefore_53 : decode cX1_isBefore 53 = .ok (.getfield 15, 3) := by decide +kernel
theorem dX1_isBefore_56 : decode cX1_isBefore 56 = .ok (.getfield 36, 3) := by decide +kernel
theorem dX1_isBefore_59 : decode cX1_isBefore 59 = .ok (.iload_n 1, 1) := by decide +kernel
theorem dX1_isBefore_60 : decode cX1_isBefore 60 = .ok (.iaload, 1) := by decide +kernel
theorem dX1_isBefore_61 : decode cX1_isBefore 61 = .ok (.aload_n 0, 1) := by decide +kernel
theorem dX1_isBefore_62 : decode cX1_isBefore 62 = .ok (.getfield 15, 3) := by decide +kernel
theorem dX1_isBefore_65 : decode cX1_isBefore 65 = .ok (.getfield 36, 3) := by decide +kernel
theorem dX1_isBefore_68 : decode cX1_isBefore 68 = .ok (.iload_n 2, 1) := by decide +kernel
theorem dX1_isBefore_69 : decode cX1_isBefore 69 = .ok (.iaload, 1) := by decide +kernel
theorem dX1_isBefore_70 : decode cX1_isBefore 70 = .ok (.if_icmp .ge 7, 3) := by decide +kernel
theorem dX1_isBefore_73 : decode cX1_isBefore 73 = .ok (.iconst 1, 1) := by decide +kernel
theorem dX1_isBefore_74 : decode cX1_isBefore 74 = .ok (.goto 4, 3) := by decide +kernel
theorem dX1_isBefore_77 : decode cX1_isBefore 77 = .ok (.iconst 0, 1) := by decide +kernel
theorem dX1_isBefore_78 : decode cX1_isBefore 78 = .ok (.ireturn, 1) := by decide +kernel
theorem dX1_isBefore_79 : decode cX1_isBefore 79 = .ok (.iload_n 1, 1) := by decide +kernel
theorem dX1_isBefore_80 : decode cX1_isBefore 80 = .ok (.iload_n 2, 1) := by decide +kernel
theorem dX1_isBefore_81 : decode cX1_isBefore 81 = .ok (.if_icmp .ge 7, 3) := by decide +kernel
theorem dX1_isBefore_84 : decode cX1_isBefore 84 = .ok (.iconst 1, 1) := by decide +kernel
theorem dX1_isBefore_85 : decode cX1_isBefore 85 = .ok (.goto 4, 3) := by decide +kernel
theorem dX1_isBefore_88 : decode cX1_isBefore 88 = .ok (.iconst 0, 1) := by decide +kernel
theorem dX1_isBefore_89 : decode cX1_isBefore 89 = .ok (.ireturn, 1) := by decide +kernel
theorem dX2_init_0 : decode cX2_init 0 = .ok (.aload_n 0, 1) := by decide +kernel
theorem dX2_init_1 : decode cX2_init 1 = .ok (.invokespecial 3, 3) := by decide +kernel
theorem dX2_init_4 : decode cX2_init 4 = .ok (.aload_n 0, 1) := by decide +kernel
theorem dX2_init_5 : decode cX2_init 5 = .ok (.sipush 200, 3) := by decide +kernel
theorem dX2_init_8 : decode cX2_init 8 = .ok (.newarray .int, 2) := by decide +kernel
theorem dX2_init_10 : decode cX2_init 10 = .ok (.putfield 9, 3) := by decide +kernel
theorem dX2_init_13 : decode cX2_init 13 = .ok (.aload_n 0, 1) := by decide +kernel
theorem dX2_init_14 : decode cX2_init 14 = .ok (.sipush 200, 3) := by decide +kernel
theorem dX2_init_17 : decode cX2_init 17 = .ok (.newarray .int, 2) := by decide +kernel
theorem dX2_init_19 : decode cX2_init 19 = .ok (.putfield 15, 3) := by decide +kernel
theorem dX2_init_22 : decode cX2_init 22 = .ok (.aload_n 0, 1) := by decide +kernel
theorem dX2_init_23 : decode cX2_init 23 = .ok (.sipush 200, 3) := by decide +kernel
theorem dX2_init_26 : decode cX2_init 26 = .ok (.newarray .boolean, 2) := by decide +kernel
theorem dX2_init_28 : decode cX2_init 28 = .ok (.putfield 18, 3) := by decide +kernel
theorem dX2_init_31 : decode cX2_init 31 = .ok (.aload_n 0, 1) := by decide +kernel
theorem dX2_init_32 : decode cX2_init 32 = .ok (.sipush 1000, 3) := by decide +kernel
theorem dX2_init_35 : decode cX2_init 35 = .ok (.newarray .boolean, 2) := by decide +kernel
theorem dX2_init_37 : decode cX2_init 37 = .ok (.putfield 22, 3) := by decide +kernel
theorem dX2_init_40 : decode cX2_init 40 = .ok (.return_, 1) := by decide +kernel
theorem dX2_allow_0 : decode cX2_allow 0 = .ok (.aload_n 0, 1) := by decide +kernel
theorem dX2_allow_1 : decode cX2_allow 1 = .ok (.getfield 22, 3) := by decide +kernel
theorem dX2_allow_4 : decode cX2_allow 4 = .ok (.iload_n 1, 1) := by decide +kernel
theorem dX2_allow_5 : decode cX2_allow 5 = .ok (.bipush 50, 2) := by decide +kernel
theorem dX2_allow_7 : decode cX2_allow 7 = .ok (.imul, 1) := by decide +kernel
theorem dX2_allow_8 : decode cX2_allow 8 = .ok (.iload_n 2, 1) := by decide +kernel
theorem dX2_allow_9 : decode cX2_allow 9 = .ok (.iadd, 1) := by decide +kernel
theorem dX2_allow_10 : decode cX2_allow 10 = .ok (.iload_n 3, 1) := by decide +kernel
theorem dX2_allow_11 : decode cX2_allow 11 = .ok (.bastore, 1) := by decide +kernel
theorem dX2_allow_12 : decode cX2_allow 12 = .ok (.return_, 1) := by decide +kernel
theorem dX2_mayHear_0 : decode cX2_mayHear 0 = .ok (.aload_n 0, 1) := by decide +kernel
theorem dX2_mayHear_1 : decode cX2_mayHear 1 = .ok (.getfield 22, 3) := by decide +kernel
theorem dX2_mayHear_4 : decode cX2_mayHear 4 = .ok (.iload_n 1, 1) := by decide +kernel
theorem dX2_mayHear_5 : decode cX2_mayHear 5 = .ok (.bipush 50, 2) := by decide +kernel
theorem dX2_mayHear_7 : decode cX2_mayHear 7 = .ok (.imul, 1) := by decide +kernel
theorem dX2_mayHear_8 : decode cX2_mayHear 8 = .ok (.iload_n 2, 1) := by decide +kernel
theorem dX2_mayHear_9 : decode cX2_mayHear 9 = .ok (.iadd, 1) := by decide +kernel
theorem dX2_mayHear_10 : decode cX2_mayHear 10 = .ok (.baload, 1) := by decide +kernel
theorem dX2_mayHear_11 : decode cX2_mayHear 11 = .ok (.ireturn, 1) := by decide +kernel
theorem dX2_keepRow_0 : decode cX2_keepRow 0 = .ok (.aload_n 0, 1) := by decide +kernel
theorem dX2_keepRow_1 : decode cX2_keepRow 1 = .ok (.getfield 25, 3) := by decide +kernel
theorem dX2_keepRow_4 : decode cX2_keepRow 4 = .ok (.sipush 200, 3) := by decide +kernel
theorem dX2_keepRow_7 : decode cX2_keepRow 7 = .ok (.invokestatic 29, 3) := by decide +kernel
theorem dX2_keepRow_10 : decode cX2_keepRow 10 = .ok (.istore 4, 2) := by decide +kernel
theorem dX2_keepRow_12 : decode cX2_keepRow 12 = .ok (.aload_n 0, 1) := by decide +kernel
theorem dX2_keepRow_13 : decode cX2_keepRow 13 = .ok (.getfield 9, 3) := by decide +kernel
theorem dX2_keepRow_16 : decode cX2_keepRow 16 = .ok (.iload 4, 2) := by decide +kernel
theorem dX2_keepRow_18 : decode cX2_keepRow 18 = .ok (.iload_n 1, 1) := by decide +kernel
theorem dX2_keepRow_19 : decode cX2_keepRow 19 = .ok (.iastore, 1) := by decide +kernel
theorem dX2_keepRow_20 : decode cX2_keepRow 20 = .ok (.aload_n 0, 1) := by decide +kernel
theorem dX2_keepRow_21 : decode cX2_keepRow 21 = .ok (.getfield 15, 3) := by decide +kernel
theorem dX2_keepRow_24 : decode cX2_keepRow 24 = .ok (.iload 4, 2) := by decide +kernel
theorem dX2_keepRow_26 : decode cX2_keepRow 26 = .ok (.iload_n 2, 1) := by decide +kernel
theorem dX2_keepRow_27 : decode cX2_keepRow 27 = .ok (.iastore, 1) := by decide +kernel
theorem dX2_keepRow_28 : decode cX2_keepRow 28 = .ok (.aload_n 0, 1) := by decide +kernel
theorem dX2_keepRow_29 : decode cX2_keepRow 29 = .ok (.getfield 18, 3) := by decide +kernel
theorem dX2_keepRow_32 : decode cX2_keepRow 32 = .ok (.iload 4, 2) := by decide +kernel
theorem dX2_keepRow_34 : decode cX2_keepRow 34 = .ok (.iload_n 3, 1) := by decide +kernel
theorem dX2_keepRow_35 : decode cX2_keepRow 35 = .ok (.bastore, 1) := by decide +kernel
theorem dX2_keepRow_36 : decode cX2_keepRow 36 = .ok (.aload_n 0, 1) := by decide +kernel
theorem dX2_keepRow_37 : decode cX2_keepRow 37 = .ok (.dup, 1) := by decide +kernel
theorem dX2_keepRow_38 : decode cX2_keepRow 38 = .ok (.getfield 25, 3) := by decide +kernel
theorem dX2_keepRow_41 : decode cX2_keepRow 41 = .ok (.iconst 1, 1) := by decide +kernel
theorem dX2_keepRow_42 : decode cX2_keepRow 42 = .ok (.iadd, 1) := by decide +kernel
theorem dX2_keepRow_43 : decode cX2_keepRow 43 = .ok (.putfield 25, 3) := by decide +kernel
theorem dX2_keepRow_46 : decode cX2_keepRow 46 = .ok (.return_, 1) := by decide +kernel
theorem dX2_isKept_0 : decode cX2_isKept 0 = .ok (.iload_n 1, 1) := by decide +kernel
theorem dX2_isKept_1 : decode cX2_isKept 1 = .ok (.ifCond .lt 27, 3) := by decide +kernel
theorem dX2_isKept_4 : decode cX2_isKept 4 = .ok (.iload_n 1, 1) := by decide +kernel
theorem dX2_isKept_5 : decode cX2_isKept 5 = .ok (.aload_n 0, 1) := by decide +kernel
theorem dX2_isKept_6 : decode cX2_isKept 6 = .ok (.getfield 25, 3) := by decide +kernel
theorem dX2_isKept_9 : decode cX2_isKept 9 = .ok (.if_icmp .ge 19, 3) := by decide +kernel
theorem dX2_isKept_12 : decode cX2_isKept 12 = .ok (.iload_n 1, 1) := by decide +kernel
theorem dX2_isKept_13 : decode cX2_isKept 13 = .ok (.aload_n 0, 1) := by decide +kernel
theorem dX2_isKept_14 : decode cX2_isKept 14 = .ok (.getfield 25, 3) := by decide +kernel
theorem dX2_isKept_17 : decode cX2_isKept 17 = .ok (.sipush 200, 3) := by decide +kernel
theorem dX2_isKept_20 : decode cX2_isKept 20 = .ok (.isub, 1) := by decide +kernel
theorem dX2_isKept_21 : decode cX2_isKept 21 = .ok (.if_icmp .lt 7, 3) := by decide +kernel
theorem dX2_isKept_24 : decode cX2_isKept 24 = .ok (.iconst 1, 1) := by decide +kernel
theorem dX2_isKept_25 : decode cX2_isKept 25 = .ok (.goto 4, 3) := by decide +kernel
theorem dX2_isKept_28 : decode cX2_isKept 28 = .ok (.iconst 0, 1) := by decide +kernel
theorem dX2_isKept_29 : decode cX2_isKept 29 = .ok (.ireturn, 1) := by decide +kernel
theorem dX3_init_0 : decode cX3_init 0 = .ok (.aload_n 0, 1) := by decide +kernel
theorem dX3_init_1 : decode cX3_init 1 = .ok (.invokespecial 3, 3) := by decide +kernel
theorem dX3_init_4 : decode cX3_init 4 = .ok (.aload_n 0, 1) := by decide +kernel
theorem dX3_init_5 : decode cX3_init 5 = .ok (.bipush 60, 2) := by decide +kernel
theorem dX3_init_7 : decode cX3_init 7 = .ok (.newarray .int, 2) := by decide +kernel
theorem dX3_init_9 : decode cX3_init 9 = .ok (.putfield 9, 3) := by decide +kernel
theorem dX3_init_12 : decode cX3_init 12 = .ok (.aload_n 0, 1) := by decide +kernel
theorem dX3_init_13 : decode cX3_init 13 = .ok (.bipush 60, 2) := by decide +kernel
theorem dX3_init_15 : decode cX3_init 15 = .ok (.newarray .int, 2) := by decide +kernel
theorem dX3_init_17 : decode cX3_init 17 = .ok (.putfield 15, 3) := by decide +kernel
theorem dX3_init_20 : decode cX3_init 20 = .ok (.aload_n 0, 1) := by decide +kernel
theorem dX3_init_21 : decode cX3_init 21 = .ok (.bipush 10, 2) := by decide +kernel
theorem dX3_init_23 : decode cX3_init 23 = .ok (.newarray .int, 2) := by decide +kernel
theorem dX3_init_25 : decode cX3_init 25 = .ok (.putfield 18, 3) := by decide +kernel
theorem dX3_init_28 : decode cX3_init 28 = .ok (.iconst 0, 1) := by decide +kernel
theorem dX3_init_29 : decode cX3_init 29 = .ok (.istore_n 1, 1) := by decide +kernel
theorem dX3_init_30 : decode cX3_init 30 = .ok (.iload_n 1, 1) := by decide +kernel
theorem dX3_init_31 : decode cX3_init 31 = .ok (.bipush 10, 2) := by decide +kernel
theorem dX3_init_33 : decode cX3_init 33 = .ok (.if_icmp .ge 16, 3) := by decide +kernel
theorem dX3_init_36 : decode cX3_init 36 = .ok (.aload_n 0, 1) := by decide +kernel
theorem dX3_init_37 : decode cX3_init 37 = .ok (.getfield 18, 3) := by decide +kernel
theorem dX3_init_40 : decode cX3_init 40 = .ok (.iload_n 1, 1) := by decide +kernel
theorem dX3_init_41 : decode cX3_init 41 = .ok (.iconst (-1), 1) := by decide +kernel
theorem dX3_init_42 : decode cX3_init 42 = .ok (.iastore, 1) := by decide +kernel
theorem dX3_init_43 : decode cX3_init 43 = .ok (.iinc 1 1, 3) := by decide +kernel
theorem dX3_init_46 : decode cX3_init 46 = .ok (.goto (-16), 3) := by decide +kernel
theorem dX3_init_49 : decode cX3_init 49 = .ok (.return_, 1) := by decide +kernel
theorem dX3_add_0 : decode cX3_add 0 = .ok (.aload_n 0, 1) := by decide +kernel
theorem dX3_add_1 : decode cX3_add 1 = .ok (.getfield 21, 3) := by decide +kernel
theorem dX3_add_4 : decode cX3_add 4 = .ok (.istore_n 3, 1) := by decide +kernel
theorem dX3_add_5 : decode cX3_add 5 = .ok (.aload_n 0, 1) := by decide +kernel
theorem dX3_add_6 : decode cX3_add 6 = .ok (.getfield 9, 3) := by decide +kernel
theorem dX3_add_9 : decode cX3_add 9 = .ok (.iload_n 3, 1) := by decide +kernel
theorem dX3_add_10 : decode cX3_add 10 = .ok (.iload_n 1, 1) := by decide +kernel
theorem dX3_add_11 : decode cX3_add 11 = .ok (.iastore, 1) := by decide +kernel
theorem dX3_add_12 : decode cX3_add 12 = .ok (.aload_n 0, 1) := by decide +kernel
theorem dX3_add_13 : decode cX3_add 13 = .ok (.getfield 15, 3) := by decide +kernel
theorem dX3_add_16 : decode cX3_add 16 = .ok (.iload_n 3, 1) := by decide +kernel
theorem dX3_add_17 : decode cX3_add 17 = .ok (.iload_n 2, 1) := by decide +kernel
theorem dX3_add_18 : decode cX3_add 18 = .ok (.iastore, 1) := by decide +kernel
theorem dX3_add_19 : decode cX3_add 19 = .ok (.aload_n 0, 1) := by decide +kernel
theorem dX3_add_20 : decode cX3_add 20 = .ok (.getfield 18, 3) := by decide +kernel
theorem dX3_add_23 : decode cX3_add 23 = .ok (.iload_n 1, 1) := by decide +kernel
theorem dX3_add_24 : decode cX3_add 24 = .ok (.iaload, 1) := by decide +kernel
theorem dX3_add_25 : decode cX3_add 25 = .ok (.iconst (-1), 1) := by decide +kernel
theorem dX3_add_26 : decode cX3_add 26 = .ok (.if_icmp .ne 10, 3) := by decide +kernel
theorem dX3_add_29 : decode cX3_add 29 = .ok (.aload_n 0, 1) := by decide +kernel
theorem dX3_add_30 : decode cX3_add 30 = .ok (.getfield 18, 3) := by decide +kernel
theorem dX3_add_33 : decode cX3_add 33 = .ok (.iload_n 1, 1) := by decide +kernel
theorem dX3_add_34 : decode cX3_add 34 = .ok (.iload_n 3, 1) := by decide +kernel
theorem dX3_add_35 : decode cX3_add 35 = .ok (.iastore, 1) := by decide +kernel
theorem dX3_add_36 : decode cX3_add 36 = .ok (.aload_n 0, 1) := by decide +kernel
theorem dX3_add_37 : decode cX3_add 37 = .ok (.dup, 1) := by decide +kernel
theorem dX3_add_38 : decode cX3_add 38 = .ok (.getfield 21, 3) := by decide +kernel
theorem dX3_add_41 : decode cX3_add 41 = .ok (.iconst 1, 1) := by decide +kernel
theorem dX3_add_42 : decode cX3_add 42 = .ok (.iadd, 1) := by decide +kernel
theorem dX3_add_43 : decode cX3_add 43 = .ok (.putfield 21, 3) := by decide +kernel
theorem dX3_add_46 : decode cX3_add 46 = .ok (.iload_n 3, 1) := by decide +kernel
theorem dX3_add_47 : decode cX3_add 47 = .ok (.ireturn, 1) := by decide +kernel
theorem dX3_offsetOf_0 : decode cX3_offsetOf 0 = .ok (.aload_n 0, 1) := by decide +kernel
theorem dX3_offsetOf_1 : decode cX3_offsetOf 1 = .ok (.getfield 18, 3) := by decide +kernel
theorem dX3_offsetOf_4 : decode cX3_offsetOf 4 = .ok (.iload_n 1, 1) := by decide +kernel
theorem dX3_offsetOf_5 : decode cX3_offsetOf 5 = .ok (.iaload, 1) := by decide +kernel
theorem dX3_offsetOf_6 : decode cX3_offsetOf 6 = .ok (.istore_n 2, 1) := by decide +kernel
theorem dX3_offsetOf_7 : decode cX3_offsetOf 7 = .ok (.iload_n 2, 1) := by decide +kernel
theorem dX3_offsetOf_8 : decode cX3_offsetOf 8 = .ok (.iconst (-1), 1) := by decide +kernel
theorem dX3_offsetOf_9 : decode cX3_offsetOf 9 = .ok (.if_icmp .ne 7, 3) := by decide +kernel
theorem dX3_offsetOf_12 : decode cX3_offsetOf 12 = .ok (.iconst 0, 1) := by decide +kernel
theorem dX3_offsetOf_13 : decode cX3_offsetOf 13 = .ok (.goto 9, 3) := by decide +kernel
theorem dX3_offsetOf_16 : decode cX3_offsetOf 16 = .ok (.aload_n 0, 1) := by decide +kernel
theorem dX3_offsetOf_17 : decode cX3_offsetOf 17 = .ok (.getfield 15, 3) := by decide +kernel
theorem dX3_offsetOf_20 : decode cX3_offsetOf 20 = .ok (.iload_n 2, 1) := by decide +kernel
theorem dX3_offsetOf_21 : decode cX3_offsetOf 21 = .ok (.iaload, 1) := by decide +kernel
theorem dX3_offsetOf_22 : decode cX3_offsetOf 22 = .ok (.ireturn, 1) := by decide +kernel
theorem dX3_contradictionAt_0 : decode cX3_contradictionAt 0 = .ok (.iconst 0, 1) := by decide +kernel
theorem dX3_contradictionAt_1 : decode cX3_contradictionAt 1 = .ok (.istore_n 2, 1) := by decide +kernel
theorem dX3_contradictionAt_2 : decode cX3_contradictionAt 2 = .ok (.iconst 0, 1) := by decide +kernel
theorem dX3_contradictionAt_3 : decode cX3_contradictionAt 3 = .ok (.istore_n 3, 1) := by decide +kernel
theorem dX3_contradictionAt_4 : decode cX3_contradictionAt 4 = .ok (.iload_n 3, 1) := by decide +kernel
theorem dX3_contradictionAt_5 : decode cX3_contradictionAt 5 = .ok (.aload_n 0, 1) := by decide +kernel
theorem dX3_contradictionAt_6 : decode cX3_contradictionAt 6 = .ok (.getfield 21, 3) := by decide +kernel
theorem dX3_contradictionAt_9 : decode cX3_contradictionAt 9 = .ok (.if_icmp .ge 53, 3) := by decide +kernel
theorem dX3_contradictionAt_12 : decode cX3_contradictionAt 12 = .ok (.aload_n 0, 1) := by decide +kernel
theorem dX3_contradictionAt_13 : decode cX3_contradictionAt 13 = .ok (.getfield 15, 3) := by decide +kernel
theorem dX3_contradictionAt_16 : decode cX3_contradictionAt 16 = .ok (.iload_n 3, 1) := by decide +kernel
theorem dX3_contradictionAt_17 : decode cX3_contradictionAt 17 = .ok (.iaload, 1) := by decide +kernel
theorem dX3_contradictionAt_18 : decode cX3_contradictionAt 18 = .ok (.aload_n 0, 1) := by decide +kernel
theorem dX3_contradictionAt_19 : decode cX3_contradictionAt 19 = .ok (.aload_n 0, 1) := by decide +kernel
theorem dX3_contradictionAt_20 : decode cX3_contradictionAt 20 = .ok (.getfield 9, 3) := by decide +kernel
theorem dX3_contradictionAt_23 : decode cX3_contradictionAt 23 = .ok (.iload_n 3, 1) := by decide +kernel
theorem dX3_contradictionAt_24 : decode cX3_contradictionAt 24 = .ok (.iaload, 1) := by decide +kernel
theorem dX3_contradictionAt_25 : decode cX3_contradictionAt 25 = .ok (.invokevirtual 25, 3) := by decide +kernel
theorem dX3_contradictionAt_28 : decode cX3_contradictionAt 28 = .ok (.if_icmp .eq 28, 3) := by decide +kernel
theorem dX3_contradictionAt_31 : decode cX3_contradictionAt 31 = .ok (.iload_n 2, 1) := by decide +kernel
theorem dX3_contradictionAt_32 : decode cX3_contradictionAt 32 = .ok (.iload_n 1, 1) := by decide +kernel
theorem dX3_contradictionAt_33 : decode cX3_contradictionAt 33 = .ok (.if_icmp .ne 20, 3) := by decide +kernel
theorem dX3_contradictionAt_36 : decode cX3_contradictionAt 36 = .ok (.bipush 100, 2) := by decide +kernel
theorem dX3_contradictionAt_38 : decode cX3_contradictionAt 38 = .ok (.aload_n 0, 1) := by decide +kernel
theorem dX3_contradictionAt_39 : decode cX3_contradictionAt 39 = .ok (.getfield 18, 3) := by decide +kernel
theorem dX3_contradictionAt_42 : decode cX3_contradictionAt 42 = .ok (.aload_n 0, 1) := by decide +kernel
theorem dX3_contradictionAt_43 : decode cX3_contradictionAt 43 = .ok (.getfield 9, 3) := by decide +kernel
theorem dX3_contradictionAt_46 : decode cX3_contradictionAt 46 = .ok (.iload_n 3, 1) := by decide +kernel
theorem dX3_contradictionAt_47 : decode cX3_contradictionAt 47 = .ok (.iaload, 1) := by decide +kernel
theorem dX3_contradictionAt_48 : decode cX3_contradictionAt 48 = .ok (.iaload, 1) := by decide +kernel
theorem dX3_contradictionAt_49 : decode cX3_contradictionAt 49 = .ok (.imul, 1) := by decide +kernel
theorem dX3_contradictionAt_50 : decode cX3_contradictionAt 50 = .ok (.iload_n 3, 1) := by decide +kernel
theorem dX3_contradictionAt_51 : decode cX3_contradictionAt 51 = .ok (.iadd, 1) := by decide +kernel
theorem dX3_contradictionAt_52 : decode cX3_contradictionAt 52 = .ok (.ireturn, 1) := by decide +kernel
theorem dX3_contradictionAt_53 : decode cX3_contradictionAt 53 = .ok (.iinc 2 1, 3) := by decide +kernel
theorem dX3_contradictionAt_56 : decode cX3_contradictionAt 56 = .ok (.iinc 3 1, 3) := by decide +kernel
theorem dX3_contradictionAt_59 : decode cX3_contradictionAt 59 = .ok (.goto (-55), 3) := by decide +kernel
theorem dX3_contradictionAt_62 : decode cX3_contradictionAt 62 = .ok (.iconst (-1), 1) := by decide +kernel
theorem dX3_contradictionAt_63 : decode cX3_contradictionAt 63 = .ok (.ireturn, 1) := by decide +kernel
theorem dX4_init_0 : decode cX4_init 0 = .ok (.aload_n 0, 1) := by decide +kernel
theorem dX4_init_1 : decode cX4_init 1 = .ok (.invokespecial 3, 3) := by decide +kernel
theorem dX4_init_4 : decode cX4_init 4 = .ok (.aload_n 0, 1) := by decide +kernel
theorem dX4_init_5 : decode cX4_init 5 = .ok (.sipush 200, 3) := by decide +kernel
theorem dX4_init_8 : decode cX4_init 8 = .ok (.newarray .int, 2) := by decide +kernel
theorem dX4_init_10 : decode cX4_init 10 = .ok (.putfield 9, 3) := by decide +kernel
theorem dX4_init_13 : decode cX4_init 13 = .ok (.aload_n 0, 1) := by decide +kernel
theorem dX4_init_14 : decode cX4_init 14 = .ok (.sipush 200, 3) := by decide +kernel
theorem dX4_init_17 : decode cX4_init 17 = .ok (.newarray .int, 2) := by decide +kernel
theorem dX4_init_19 : decode cX4_init 19 = .ok (.putfield 15, 3) := by decide +kernel
theorem dX4_init_22 : decode cX4_init 22 = .ok (.aload_n 0, 1) := by decide +kernel
theorem dX4_init_23 : decode cX4_init 23 = .ok (.sipush 200, 3) := by decide +kernel
theorem dX4_init_26 : decode cX4_init 26 = .ok (.newarray .int, 2) := by decide +kernel
theorem dX4_init_28 : decode cX4_init 28 = .ok (.putfield 18, 3) := by decide +kernel
theorem dX4_init_31 : decode cX4_init 31 = .ok (.aload_n 0, 1) := by decide +kernel
theorem dX4_init_32 : decode cX4_init 32 = .ok (.sipush 200, 3) := by decide +kernel
theorem dX4_init_35 : decode cX4_init 35 = .ok (.newarray .long, 2) := by decide +kernel
theorem dX4_init_37 : decode cX4_init 37 = .ok (.putfield 21, 3) := by decide +kernel
theorem dX4_init_40 : decode cX4_init 40 = .ok (.aload_n 0, 1) := by decide +kernel
theorem dX4_init_41 : decode cX4_init 41 = .ok (.sipush 200, 3) := by decide +kernel
theorem dX4_init_44 : decode cX4_init 44 = .ok (.newarray .int, 2) := by decide +kernel
theorem dX4_init_46 : decode cX4_init 46 = .ok (.putfield 25, 3) := by decide +kernel
theorem dX4_init_49 : decode cX4_init 49 = .ok (.aload_n 0, 1) := by decide +kernel
theorem dX4_init_50 : decode cX4_init 50 = .ok (.sipush 200, 3) := by decide +kernel
theorem dX4_init_53 : decode cX4_init 53 = .ok (.newarray .int, 2) := by decide +kernel
theorem dX4_init_55 : decode cX4_init 55 = .ok (.putfield 28, 3) := by decide +kernel
theorem dX4_init_58 : decode cX4_init 58 = .ok (.aload_n 0, 1) := by decide +kernel
theorem dX4_init_59 : decode cX4_init 59 = .ok (.sipush 200, 3) := by decide +kernel
theorem dX4_init_62 : decode cX4_init 62 = .ok (.newarray .int, 2) := by decide +kernel
theorem dX4_init_64 : decode cX4_init 64 = .ok (.putfield 31, 3) := by decide +kernel
theorem dX4_init_67 : decode cX4_init 67 = .ok (.aload_n 0, 1) := by decide +kernel
theorem dX4_init_68 : decode cX4_init 68 = .ok (.sipush 200, 3) := by decide +kernel
theorem dX4_init_71 : decode cX4_init 71 = .ok (.newarray .boolean, 2) := by decide +kernel
theorem dX4_init_73 : decode cX4_init 73 = .ok (.putfield 34, 3) := by decide +kernel
theorem dX4_init_76 : decode cX4_init 76 = .ok (.return_, 1) := by decide +kernel
theorem dX4_add_0 : decode cX4_add 0 = .ok (.aload_n 0, 1) := by decide +kernel
theorem dX4_add_1 : decode cX4_add 1 = .ok (.getfield 38, 3) := by decide +kernel
theorem dX4_add_4 : decode cX4_add 4 = .ok (.istore 8, 2) := by decide +kernel
theorem dX4_add_6 : decode cX4_add 6 = .ok (.aload_n 0, 1) := by decide +kernel
theorem dX4_add_7 : decode cX4_add 7 = .ok (.getfield 9, 3) := by decide +kernel
theorem dX4_add_10 : decode cX4_add 10 = .ok (.iload 8, 2) := by decide +kernel
theorem dX4_add_12 : decode cX4_add 12 = .ok (.iload_n 1, 1) := by decide +kernel
theorem dX4_add_13 : decode cX4_add 13 = .ok (.iastore, 1) := by decide +kernel
theorem dX4_add_14 : decode cX4_add 14 = .ok (.aload_n 0, 1) := by decide +kernel
theorem dX4_add_15 : decode cX4_add 15 = .ok (.getfield 15, 3) := by decide +kernel
theorem dX4_add_18 : decode cX4_add 18 = .ok (.iload 8, 2) := by decide +kernel
theorem dX4_add_20 : decode cX4_add 20 = .ok (.iload_n 2, 1) := by decide +kernel
theorem dX4_add_21 : decode cX4_add 21 = .ok (.iastore, 1) := by decide +kernel
theorem dX4_add_22 : decode cX4_add 22 = .ok (.aload_n 0, 1) := by decide +kernel
theorem dX4_add_23 : decode cX4_add 23 = .ok (.getfield 18, 3) := by decide +kernel
theorem dX4_add_26 : decode cX4_add 26 = .ok (.iload 8, 2) := by decide +kernel
theorem dX4_add_28 : decode cX4_add 28 = .ok (.iload_n 3, 1) := by decide +kernel
theorem dX4_add_29 : decode cX4_add 29 = .ok (.iastore, 1) := by decide +kernel
theorem dX4_add_30 : decode cX4_add 30 = .ok (.aload_n 0, 1) := by decide +kernel
theorem dX4_add_31 : decode cX4_add 31 = .ok (.getfield 21, 3) := by decide +kernel
theorem dX4_add_34 : decode cX4_add 34 = .ok (.iload 8, 2) := by decide +kernel
theorem dX4_add_36 : decode cX4_add 36 = .ok (.lload 4, 2) := by decide +kernel
theorem dX4_add_38 : decode cX4_add 38 = .ok (.lastore, 1) := by decide +kernel
theorem dX4_add_39 : decode cX4_add 39 = .ok (.aload_n 0, 1) := by decide +kernel
theorem dX4_add_40 : decode cX4_add 40 = .ok (.getfield 25, 3) := by decide +kernel
theorem dX4_add_43 : decode cX4_add 43 = .ok (.iload 8, 2) := by decide +kernel
theorem dX4_add_45 : decode cX4_add 45 = .ok (.iload 6, 2) := by decide +kernel
theorem dX4_add_47 : decode cX4_add 47 = .ok (.iastore, 1) := by decide +kernel
theorem dX4_add_48 : decode cX4_add 48 = .ok (.aload_n 0, 1) := by decide +kernel
theorem dX4_add_49 : decode cX4_add 49 = .ok (.getfield 28, 3) := by decide +kernel
theorem dX4_add_52 : decode cX4_add 52 = .ok (.iload 8, 2) := by decide +kernel
theorem dX4_add_54 : decode cX4_add 54 = .ok (.iload 7, 2) := by decide +kernel
theorem dX4_add_56 : decode cX4_add 56 = .ok (.iastore, 1) := by decide +kernel
theorem dX4_add_57 : decode cX4_add 57 = .ok (.aload_n 0, 1) := by decide +kernel
theorem dX4_add_58 : decode cX4_add 58 = .ok (.getfield 34, 3) := by decide +kernel
theorem dX4_add_61 : decode cX4_add 61 = .ok (.iload 8, 2) := by decide +kernel
theorem dX4_add_63 : decode cX4_add 63 = .ok (.iconst 1, 1) := by decide +kernel
theorem dX4_add_64 : decode cX4_add 64 = .ok (.bastore, 1) := by decide +kernel
theorem dX4_add_65 : decode cX4_add 65 = .ok (.aload_n 0, 1) := by decide +kernel
theorem dX4_add_66 : decode cX4_add 66 = .ok (.getfield 31, 3) := by decide +kernel
theorem dX4_add_69 : decode cX4_add 69 = .ok (.iload 8, 2) := by decide +kernel
theorem dX4_add_71 : decode cX4_add 71 = .ok (.aload_n 0, 1) := by decide +kernel
theorem dX4_add_72 : decode cX4_add 72 = .ok (.iload 8, 2) := by decide +kernel
theorem dX4_add_74 : decode cX4_add 74 = .ok (.invokevirtual 42, 3) := by decide +kernel
theorem dX4_add_77 : decode cX4_add 77 = .ok (.iastore, 1) := by decide +kernel
theorem dX4_add_78 : decode cX4_add 78 = .ok (.aload_n 0, 1) := by decide +kernel
theorem dX4_add_79 : decode cX4_add 79 = .ok (.dup, 1) := by decide +kernel
theorem dX4_add_80 : decode cX4_add 80 = .ok (.getfield 38, 3) := by decide +kernel
theorem dX4_add_83 : decode cX4_add 83 = .ok (.iconst 1, 1) := by decide +kernel
theorem dX4_add_84 : decode cX4_add 84 = .ok (.iadd, 1) := by decide +kernel
theorem dX4_add_85 : decode cX4_add 85 = .ok (.putfield 38, 3) := by decide +kernel
theorem dX4_add_88 : decode cX4_add 88 = .ok (.iload 8, 2) := by decide +kernel
theorem dX4_add_90 : decode cX4_add 90 = .ok (.ireturn, 1) := by decide +kernel
theorem dX4_isOf_0 : decode cX4_isOf 0 = .ok (.iload_n 2, 1) := by decide +kernel
theorem dX4_isOf_1 : decode cX4_isOf 1 = .ok (.iconst (-1), 1) := by decide +kernel
theorem dX4_isOf_2 : decode cX4_isOf 2 = .ok (.if_icmp .eq 13, 3) := by decide +kernel
theorem dX4_isOf_5 : decode cX4_isOf 5 = .ok (.iload_n 2, 1) := by decide +kernel
theorem dX4_isOf_6 : decode cX4_isOf 6 = .ok (.aload_n 0, 1) := by decide +kernel
theorem dX4_isOf_7 : decode cX4_isOf 7 = .ok (.getfield 25, 3) := by decide +kernel
theorem dX4_isOf_10 : decode cX4_isOf 10 = .ok (.iload_n 1, 1) := by decide +kernel
theorem dX4_isOf_11 : decode cX4_isOf 11 = .ok (.iaload, 1) := by decide +kernel
theorem dX4_isOf_12 : decode cX4_isOf 12 = .ok (.if_icmp .ne 22, 3) := by decide +kernel
theorem dX4_isOf_15 : decode cX4_isOf 15 = .ok (.iload_n 3, 1) := by decide +kernel
theorem dX4_isOf_16 : decode cX4_isOf 16 = .ok (.iconst (-1), 1) := by decide +kernel
theorem dX4_isOf_17 : decode cX4_isOf 17 = .ok (.if_icmp .eq 13, 3) := by decide +kernel
theorem dX4_isOf_20 : decode cX4_isOf 20 = .ok (.iload_n 3, 1) := by decide +kernel
theorem dX4_isOf_21 : decode cX4_isOf 21 = .ok (.aload_n 0, 1) := by decide +kernel
theorem dX4_isOf_22 : decode cX4_isOf 22 = .ok (.getfield 28, 3) := by decide +kernel
theorem dX4_isOf_25 : decode cX4_isOf 25 = .ok (.iload_n 1, 1) := by decide +kernel
theorem dX4_isOf_26 : decode cX4_isOf 26 = .ok (.iaload, 1) := by decide +kernel
theorem dX4_isOf_27 : decode cX4_isOf 27 = .ok (.if_icmp .ne 7, 3) := by decide +kernel
theorem dX4_isOf_30 : decode cX4_isOf 30 = .ok (.iconst 1, 1) := by decide +kernel
theorem dX4_isOf_31 : decode cX4_isOf 31 = .ok (.goto 4, 3) := by decide +kernel
theorem dX4_isOf_34 : decode cX4_isOf 34 = .ok (.iconst 0, 1) := by decide +kernel
theorem dX4_isOf_35 : decode cX4_isOf 35 = .ok (.ireturn, 1) := by decide +kernel
theorem dX4_sumNow_0 : decode cX4_sumNow 0 = .ok (.aload_n 0, 1) := by decide +kernel
theorem dX4_sumNow_1 : decode cX4_sumNow 1 = .ok (.iconst 0, 1) := by decide +kernel
theorem dX4_sumNow_2 : decode cX4_sumNow 2 = .ok (.iload_n 1, 1) := by decide +kernel
theorem dX4_sumNow_3 : decode cX4_sumNow 3 = .ok (.iconst 0, 1) := by decide +kernel
theorem dX4_sumNow_4 : decode cX4_sumNow 4 = .ok (.aload_n 0, 1) := by decide +kernel
theorem dX4_sumNow_5 : decode cX4_sumNow 5 = .ok (.getfield 18, 3) := by decide +kernel
theorem dX4_sumNow_8 : decode cX4_sumNow 8 = .ok (.iload_n 1, 1) := by decide +kernel
theorem dX4_sumNow_9 : decode cX4_sumNow 9 = .ok (.iaload, 1) := by decide +kernel
theorem dX4_sumNow_10 : decode cX4_sumNow 10 = .ok (.invokevirtual 46, 3) := by decide +kernel
theorem dX4_sumNow_13 : decode cX4_sumNow 13 = .ok (.ireturn, 1) := by decide +kernel
theorem dX4_sumOn_0 : decode cX4_sumOn 0 = .ok (.iload_n 1, 1) := by decide +kernel
theorem dX4_sumOn_1 : decode cX4_sumOn 1 = .ok (.istore 5, 2) := by decide +kernel
theorem dX4_sumOn_3 : decode cX4_sumOn 3 = .ok (.iload_n 3, 1) := by decide +kernel
theorem dX4_sumOn_4 : decode cX4_sumOn 4 = .ok (.istore 6, 2) := by decide +kernel
theorem dX4_sumOn_6 : decode cX4_sumOn 6 = .ok (.iload 6, 2) := by decide +kernel
theorem dX4_sumOn_8 : decode cX4_sumOn 8 = .ok (.iload 4, 2) := by decide +kernel
theorem dX4_sumOn_10 : decode cX4_sumOn 10 = .ok (.if_icmp .ge 52, 3) := by decide +kernel
theorem dX4_sumOn_13 : decode cX4_sumOn 13 = .ok (.aload_n 0, 1) := by decide +kernel
theorem dX4_sumOn_14 : decode cX4_sumOn 14 = .ok (.getfield 21, 3) := by decide +kernel
theorem dX4_sumOn_17 : decode cX4_sumOn 17 = .ok (.iload_n 2, 1) := by decide +kernel
theorem dX4_sumOn_18 : decode cX4_sumOn 18 = .ok (.laload, 1) := by decide +kernel
theorem dX4_sumOn_19 : decode cX4_sumOn 19 = .ok (.aload_n 0, 1) := by decide +kernel
theorem dX4_sumOn_20 : decode cX4_sumOn 20 = .ok (.iload_n 2, 1) := by decide +kernel
theorem dX4_sumOn_21 : decode cX4_sumOn 21 = .ok (.iload 6, 2) := by decide +kernel
theorem dX4_sumOn_23 : decode cX4_sumOn 23 = .ok (.invokevirtual 50, 3) := by decide +kernel
theorem dX4_sumOn_26 : decode cX4_sumOn 26 = .ok (.lushr, 1) := by decide +kernel
theorem dX4_sumOn_27 : decode cX4_sumOn 27 = .ok (.l2i, 1) := by decide +kernel
theorem dX4_sumOn_28 : decode cX4_sumOn 28 = .ok (.sipush 255, 3) := by decide +kernel
theorem dX4_sumOn_31 : decode cX4_sumOn 31 = .ok (.iand, 1) := by decide +kernel
theorem dX4_sumOn_32 : decode cX4_sumOn 32 = .ok (.istore 7, 2) := by decide +kernel
theorem dX4_sumOn_34 : decode cX4_sumOn 34 = .ok (.iload 5, 2) := by decide +kernel
theorem dX4_sumOn_36 : decode cX4_sumOn 36 = .ok (.iload 7, 2) := by decide +kernel
theorem dX4_sumOn_38 : decode cX4_sumOn 38 = .ok (.ixor, 1) := by decide +kernel
theorem dX4_sumOn_39 : decode cX4_sumOn 39 = .ok (.istore 8, 2) := by decide +kernel
theorem dX4_sumOn_41 : decode cX4_sumOn 41 = .ok (.iload 8, 2) := by decide +kernel
theorem dX4_sumOn_43 : decode cX4_sumOn 43 = .ok (.iconst 5, 1) := by decide +kernel
theorem dX4_sumOn_44 : decode cX4_sumOn 44 = .ok (.ishl, 1) := by decide +kernel
theorem dX4_sumOn_45 : decode cX4_sumOn 45 = .ok (.iload 8, 2) := by decide +kernel
theorem dX4_sumOn_47 : decode cX4_sumOn 47 = .ok (.bipush 27, 2) := by decide +kernel
theorem dX4_sumOn_49 : decode cX4_sumOn 49 = .ok (.iushr, 1) := by decide +kernel
theorem dX4_sumOn_50 : decode cX4_sumOn 50 = .ok (.ior, 1) := by decide +kernel
theorem dX4_sumOn_51 : decode cX4_sumOn 51 = .ok (.ldc 54, 2) := by decide +kernel
theorem dX4_sumOn_53 : decode cX4_sumOn 53 = .ok (.imul, 1) := by decide +kernel
theorem dX4_sumOn_54 : decode cX4_sumOn 54 = .ok (.istore 5, 2) := by decide +kernel
theorem dX4_sumOn_56 : decode cX4_sumOn 56 = .ok (.iinc 6 1, 3) := by decide +kernel
theorem dX4_sumOn_59 : decode cX4_sumOn 59 = .ok (.goto (-53), 3) := by decide +kernel
theorem dX4_sumOn_62 : decode cX4_sumOn 62 = .ok (.iload 5, 2) := by decide +kernel
theorem dX4_sumOn_64 : decode cX4_sumOn 64 = .ok (.ireturn, 1) := by decide +kernel
theorem dX4_alter_0 : decode cX4_alter 0 = .ok (.aload_n 0, 1) := by decide +kernel
theorem dX4_alter_1 : decode cX4_alter 1 = .ok (.getfield 21, 3) := by decide +kernel
theorem dX4_alter_4 : decode cX4_alter 4 = .ok (.iload_n 1, 1) := by decide +kernel
theorem dX4_alter_5 : decode cX4_alter 5 = .ok (.dup2, 1) := by decide +kernel
theorem dX4_alter_6 : decode cX4_alter 6 = .ok (.laload, 1) := by decide +kernel
theorem dX4_alter_7 : decode cX4_alter 7 = .ok (.iload_n 3, 1) := by decide +kernel
theorem dX4_alter_8 : decode cX4_alter 8 = .ok (.i2l, 1) := by decide +kernel
theorem dX4_alter_9 : decode cX4_alter 9 = .ok (.aload_n 0, 1) := by decide +kernel
theorem dX4_alter_10 : decode cX4_alter 10 = .ok (.iload_n 1, 1) := by decide +kernel
theorem dX4_alter_11 : decode cX4_alter 11 = .ok (.iload_n 2, 1) := by decide +kernel
theorem dX4_alter_12 : decode cX4_alter 12 = .ok (.invokevirtual 50, 3) := by decide +kernel
theorem dX4_alter_15 : decode cX4_alter 15 = .ok (.lshl, 1) := by decide +kernel
theorem dX4_alter_16 : decode cX4_alter 16 = .ok (.lxor, 1) := by decide +kernel
theorem dX4_alter_17 : decode cX4_alter 17 = .ok (.lastore, 1) := by decide +kernel
theorem dX4_alter_18 : decode cX4_alter 18 = .ok (.return_, 1) := by decide +kernel
theorem dX4_shiftOf_0 : decode cX4_shiftOf 0 = .ok (.bipush 8, 2) := by decide +kernel
theorem dX4_shiftOf_2 : decode cX4_shiftOf 2 = .ok (.aload_n 0, 1) := by decide +kernel
theorem dX4_shiftOf_3 : decode cX4_shiftOf 3 = .ok (.getfield 18, 3) := by decide +kernel
theorem dX4_shiftOf_6 : decode cX4_shiftOf 6 = .ok (.iload_n 1, 1) := by decide +kernel
theorem dX4_shiftOf_7 : decode cX4_shiftOf 7 = .ok (.iaload, 1) := by decide +kernel
theorem dX4_shiftOf_8 : decode cX4_shiftOf 8 = .ok (.iconst 1, 1) := by decide +kernel
theorem dX4_shiftOf_9 : decode cX4_shiftOf 9 = .ok (.isub, 1) := by decide +kernel
theorem dX4_shiftOf_10 : decode cX4_shiftOf 10 = .ok (.iload_n 2, 1) := by decide +kernel
theorem dX4_shiftOf_11 : decode cX4_shiftOf 11 = .ok (.isub, 1) := by decide +kernel
theorem dX4_shiftOf_12 : decode cX4_shiftOf 12 = .ok (.imul, 1) := by decide +kernel
theorem dX4_shiftOf_13 : decode cX4_shiftOf 13 = .ok (.ireturn, 1) := by decide +kernel
