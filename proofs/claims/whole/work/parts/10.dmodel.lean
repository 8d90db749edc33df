theorem dX6_init_0 : decode cX6_init 0 = .ok (.aload_n 0, 1) := by decide +kernel
theorem dX6_init_1 : decode cX6_init 1 = .ok (.invokespecial 1, 3) := by decide +kernel
theorem dX6_init_4 : decode cX6_init 4 = .ok (.aload_n 0, 1) := by decide +kernel
theorem dX6_init_5 : decode cX6_init 5 = .ok (.sipush 200, 3) := by decide +kernel
theorem dX6_init_8 : decode cX6_init 8 = .ok (.newarray .int, 2) := by decide +kernel
theorem dX6_init_10 : decode cX6_init 10 = .ok (.putfield 7, 3) := by decide +kernel
theorem dX6_init_13 : decode cX6_init 13 = .ok (.aload_n 0, 1) := by decide +kernel
theorem dX6_init_14 : decode cX6_init 14 = .ok (.sipush 200, 3) := by decide +kernel
theorem dX6_init_17 : decode cX6_init 17 = .ok (.newarray .int, 2) := by decide +kernel
theorem dX6_init_19 : decode cX6_init 19 = .ok (.putfield 13, 3) := by decide +kernel
theorem dX6_init_22 : decode cX6_init 22 = .ok (.aload_n 0, 1) := by decide +kernel
theorem dX6_init_23 : decode cX6_init 23 = .ok (.sipush 200, 3) := by decide +kernel
theorem dX6_init_26 : decode cX6_init 26 = .ok (.newarray .int, 2) := by decide +kernel
theorem dX6_init_28 : decode cX6_init 28 = .ok (.putfield 16, 3) := by decide +kernel
theorem dX6_init_31 : decode cX6_init 31 = .ok (.aload_n 0, 1) := by decide +kernel
theorem dX6_init_32 : decode cX6_init 32 = .ok (.sipush 1600, 3) := by decide +kernel
theorem dX6_init_35 : decode cX6_init 35 = .ok (.newarray .int, 2) := by decide +kernel
theorem dX6_init_37 : decode cX6_init 37 = .ok (.putfield 19, 3) := by decide +kernel
theorem dX6_init_40 : decode cX6_init 40 = .ok (.aload_n 0, 1) := by decide +kernel
theorem dX6_init_41 : decode cX6_init 41 = .ok (.sipush 200, 3) := by decide +kernel
theorem dX6_init_44 : decode cX6_init 44 = .ok (.newarray .int, 2) := by decide +kernel
theorem dX6_init_46 : decode cX6_init 46 = .ok (.putfield 22, 3) := by decide +kernel
theorem dX6_init_49 : decode cX6_init 49 = .ok (.aload_n 0, 1) := by decide +kernel
theorem dX6_init_50 : decode cX6_init 50 = .ok (.sipush 200, 3) := by decide +kernel
theorem dX6_init_53 : decode cX6_init 53 = .ok (.newarray .int, 2) := by decide +kernel
theorem dX6_init_55 : decode cX6_init 55 = .ok (.putfield 25, 3) := by decide +kernel
theorem dX6_init_58 : decode cX6_init 58 = .ok (.aload_n 0, 1) := by decide +kernel
theorem dX6_init_59 : decode cX6_init 59 = .ok (.sipush 200, 3) := by decide +kernel
theorem dX6_init_62 : decode cX6_init 62 = .ok (.newarray .int, 2) := by decide +kernel
theorem dX6_init_64 : decode cX6_init 64 = .ok (.putfield 28, 3) := by decide +kernel
theorem dX6_init_67 : decode cX6_init 67 = .ok (.aload_n 0, 1) := by decide +kernel
theorem dX6_init_68 : decode cX6_init 68 = .ok (.sipush 200, 3) := by decide +kernel
theorem dX6_init_71 : decode cX6_init 71 = .ok (.newarray .boolean, 2) := by decide +kernel
theorem dX6_init_73 : decode cX6_init 73 = .ok (.putfield 31, 3) := by decide +kernel
theorem dX6_init_76 : decode cX6_init 76 = .ok (.aload_n 0, 1) := by decide +kernel
theorem dX6_init_77 : decode cX6_init 77 = .ok (.bipush 60, 2) := by decide +kernel
theorem dX6_init_79 : decode cX6_init 79 = .ok (.newarray .int, 2) := by decide +kernel
theorem dX6_init_81 : decode cX6_init 81 = .ok (.putfield 35, 3) := by decide +kernel
theorem dX6_init_84 : decode cX6_init 84 = .ok (.aload_n 0, 1) := by decide +kernel
theorem dX6_init_85 : decode cX6_init 85 = .ok (.bipush 60, 2) := by decide +kernel
theorem dX6_init_87 : decode cX6_init 87 = .ok (.newarray .int, 2) := by decide +kernel
theorem dX6_init_89 : decode cX6_init 89 = .ok (.putfield 38, 3) := by decide +kernel
theorem dX6_init_92 : decode cX6_init 92 = .ok (.aload_n 0, 1) := by decide +kernel
theorem dX6_init_93 : decode cX6_init 93 = .ok (.bipush 50, 2) := by decide +kernel
theorem dX6_init_95 : decode cX6_init 95 = .ok (.newarray .boolean, 2) := by decide +kernel
theorem dX6_init_97 : decode cX6_init 97 = .ok (.putfield 41, 3) := by decide +kernel
theorem dX6_init_100 : decode cX6_init 100 = .ok (.aload_n 0, 1) := by decide +kernel
theorem dX6_init_101 : decode cX6_init 101 = .ok (.sipush 1000, 3) := by decide +kernel
theorem dX6_init_104 : decode cX6_init 104 = .ok (.newarray .boolean, 2) := by decide +kernel
theorem dX6_init_106 : decode cX6_init 106 = .ok (.putfield 44, 3) := by decide +kernel
theorem dX6_init_109 : decode cX6_init 109 = .ok (.aload_n 0, 1) := by decide +kernel
theorem dX6_init_110 : decode cX6_init 110 = .ok (.sipush 200, 3) := by decide +kernel
theorem dX6_init_113 : decode cX6_init 113 = .ok (.newarray .int, 2) := by decide +kernel
theorem dX6_init_115 : decode cX6_init 115 = .ok (.putfield 47, 3) := by decide +kernel
theorem dX6_init_118 : decode cX6_init 118 = .ok (.aload_n 0, 1) := by decide +kernel
theorem dX6_init_119 : decode cX6_init 119 = .ok (.sipush 200, 3) := by decide +kernel
theorem dX6_init_122 : decode cX6_init 122 = .ok (.newarray .int, 2) := by decide +kernel
theorem dX6_init_124 : decode cX6_init 124 = .ok (.putfield 50, 3) := by decide +kernel
theorem dX6_init_127 : decode cX6_init 127 = .ok (.aload_n 0, 1) := by decide +kernel
theorem dX6_init_128 : decode cX6_init 128 = .ok (.sipush 600, 3) := by decide +kernel
theorem dX6_init_131 : decode cX6_init 131 = .ok (.newarray .int, 2) := by decide +kernel
theorem dX6_init_133 : decode cX6_init 133 = .ok (.putfield 53, 3) := by decide +kernel
theorem dX6_init_136 : decode cX6_init 136 = .ok (.return_, 1) := by decide +kernel
theorem dX6_thrown_0 : decode cX6_thrown 0 = .ok (.aload_n 0, 1) := by decide +kernel
theorem dX6_thrown_1 : decode cX6_thrown 1 = .ok (.getfield 56, 3) := by decide +kernel
theorem dX6_thrown_4 : decode cX6_thrown 4 = .ok (.ireturn, 1) := by decide +kernel
theorem dX6_throwing_0 : decode cX6_throwing 0 = .ok (.aload_n 0, 1) := by decide +kernel
theorem dX6_throwing_1 : decode cX6_throwing 1 = .ok (.iload_n 1, 1) := by decide +kernel
theorem dX6_throwing_2 : decode cX6_throwing 2 = .ok (.ifCond .eq 7, 3) := by decide +kernel
theorem dX6_throwing_5 : decode cX6_throwing 5 = .ok (.iconst 1, 1) := by decide +kernel
theorem dX6_throwing_6 : decode cX6_throwing 6 = .ok (.goto 20, 3) := by decide +kernel
theorem dX6_throwing_9 : decode cX6_throwing 9 = .ok (.iload_n 2, 1) := by decide +kernel
theorem dX6_throwing_10 : decode cX6_throwing 10 = .ok (.ifCond .eq 7, 3) := by decide +kernel
theorem dX6_throwing_13 : decode cX6_throwing 13 = .ok (.iconst 2, 1) := by decide +kernel
theorem dX6_throwing_14 : decode cX6_throwing 14 = .ok (.goto 12, 3) := by decide +kernel
theorem dX6_throwing_17 : decode cX6_throwing 17 = .ok (.iload_n 3, 1) := by decide +kernel
theorem dX6_throwing_18 : decode cX6_throwing 18 = .ok (.ifCond .eq 7, 3) := by decide +kernel
theorem dX6_throwing_21 : decode cX6_throwing 21 = .ok (.iconst 3, 1) := by decide +kernel
theorem dX6_throwing_22 : decode cX6_throwing 22 = .ok (.goto 4, 3) := by decide +kernel
theorem dX6_throwing_25 : decode cX6_throwing 25 = .ok (.iconst 0, 1) := by decide +kernel
theorem dX6_throwing_26 : decode cX6_throwing 26 = .ok (.putfield 56, 3) := by decide +kernel
theorem dX6_throwing_29 : decode cX6_throwing 29 = .ok (.aload_n 0, 1) := by decide +kernel
theorem dX6_throwing_30 : decode cX6_throwing 30 = .ok (.getfield 56, 3) := by decide +kernel
theorem dX6_throwing_33 : decode cX6_throwing 33 = .ok (.ifCond .le 7, 3) := by decide +kernel
theorem dX6_throwing_36 : decode cX6_throwing 36 = .ok (.iconst 1, 1) := by decide +kernel
theorem dX6_throwing_37 : decode cX6_throwing 37 = .ok (.goto 4, 3) := by decide +kernel
theorem dX6_throwing_40 : decode cX6_throwing 40 = .ok (.iconst 0, 1) := by decide +kernel
theorem dX6_throwing_41 : decode cX6_throwing 41 = .ok (.ireturn, 1) := by decide +kernel
theorem dX6_in_0 : decode cX6_in 0 = .ok (.iload_n 0, 1) := by decide +kernel
theorem dX6_in_1 : decode cX6_in 1 = .ok (.iload_n 1, 1) := by decide +kernel
theorem dX6_in_2 : decode cX6_in 2 = .ok (.if_icmp .lt 12, 3) := by decide +kernel
theorem dX6_in_5 : decode cX6_in 5 = .ok (.iload_n 0, 1) := by decide +kernel
theorem dX6_in_6 : decode cX6_in 6 = .ok (.iload_n 2, 1) := by decide +kernel
theorem dX6_in_7 : decode cX6_in 7 = .ok (.if_icmp .gt 7, 3) := by decide +kernel
theorem dX6_in_10 : decode cX6_in 10 = .ok (.iconst 1, 1) := by decide +kernel
theorem dX6_in_11 : decode cX6_in 11 = .ok (.goto 4, 3) := by decide +kernel
theorem dX6_in_14 : decode cX6_in 14 = .ok (.iconst 0, 1) := by decide +kernel
theorem dX6_in_15 : decode cX6_in 15 = .ok (.ireturn, 1) := by decide +kernel
theorem dX6_isSlot_0 : decode cX6_isSlot 0 = .ok (.iload_n 1, 1) := by decide +kernel
theorem dX6_isSlot_1 : decode cX6_isSlot 1 = .ok (.iconst 0, 1) := by decide +kernel
theorem dX6_isSlot_2 : decode cX6_isSlot 2 = .ok (.aload_n 0, 1) := by decide +kernel
theorem dX6_isSlot_3 : decode cX6_isSlot 3 = .ok (.getfield 60, 3) := by decide +kernel
theorem dX6_isSlot_6 : decode cX6_isSlot 6 = .ok (.iconst 1, 1) := by decide +kernel
theorem dX6_isSlot_7 : decode cX6_isSlot 7 = .ok (.isub, 1) := by decide +kernel
theorem dX6_isSlot_8 : decode cX6_isSlot 8 = .ok (.invokestatic 63, 3) := by decide +kernel
theorem dX6_isSlot_11 : decode cX6_isSlot 11 = .ok (.ireturn, 1) := by decide +kernel
theorem dX6_with_0 : decode cX6_with 0 = .ok (.iload_n 0, 1) := by decide +kernel
theorem dX6_with_1 : decode cX6_with 1 = .ok (.iload_n 1, 1) := by decide +kernel
theorem dX6_with_2 : decode cX6_with 2 = .ok (.ixor, 1) := by decide +kernel
theorem dX6_with_3 : decode cX6_with 3 = .ok (.istore_n 2, 1) := by decide +kernel
theorem dX6_with_4 : decode cX6_with 4 = .ok (.iload_n 2, 1) := by decide +kernel
theorem dX6_with_5 : decode cX6_with 5 = .ok (.iconst 5, 1) := by decide +kernel
theorem dX6_with_6 : decode cX6_with 6 = .ok (.ishl, 1) := by decide +kernel
theorem dX6_with_7 : decode cX6_with 7 = .ok (.iload_n 2, 1) := by decide +kernel
theorem dX6_with_8 : decode cX6_with 8 = .ok (.bipush 27, 2) := by decide +kernel
theorem dX6_with_10 : decode cX6_with 10 = .ok (.iushr, 1) := by decide +kernel
theorem dX6_with_11 : decode cX6_with 11 = .ok (.ior, 1) := by decide +kernel
theorem dX6_with_12 : decode cX6_with 12 = .ok (.ldc 67, 2) := by decide +kernel
theorem dX6_with_14 : decode cX6_with 14 = .ok (.imul, 1) := by decide +kernel
theorem dX6_with_15 : decode cX6_with 15 = .ok (.ireturn, 1) := by decide +kernel
theorem dX6_sumOf_0 : decode cX6_sumOf 0 = .ok (.iconst 0, 1) := by decide +kernel
theorem dX6_sumOf_1 : decode cX6_sumOf 1 = .ok (.istore_n 2, 1) := by decide +kernel
theorem dX6_sumOf_2 : decode cX6_sumOf 2 = .ok (.iconst 0, 1) := by decide +kernel
theorem dX6_sumOf_3 : decode cX6_sumOf 3 = .ok (.istore_n 3, 1) := by decide +kernel
theorem dX6_sumOf_4 : decode cX6_sumOf 4 = .ok (.iload_n 3, 1) := by decide +kernel
theorem dX6_sumOf_5 : decode cX6_sumOf 5 = .ok (.aload_n 0, 1) := by decide +kernel
theorem dX6_sumOf_6 : decode cX6_sumOf 6 = .ok (.getfield 16, 3) := by decide +kernel
theorem dX6_sumOf_9 : decode cX6_sumOf 9 = .ok (.iload_n 1, 1) := by decide +kernel
theorem dX6_sumOf_10 : decode cX6_sumOf 10 = .ok (.iaload, 1) := by decide +kernel
theorem dX6_sumOf_11 : decode cX6_sumOf 11 = .ok (.if_icmp .ge 25, 3) := by decide +kernel
theorem dX6_sumOf_14 : decode cX6_sumOf 14 = .ok (.iload_n 2, 1) := by decide +kernel
theorem dX6_sumOf_15 : decode cX6_sumOf 15 = .ok (.aload_n 0, 1) := by decide +kernel
theorem dX6_sumOf_16 : decode cX6_sumOf 16 = .ok (.getfield 19, 3) := by decide +kernel
theorem dX6_sumOf_19 : decode cX6_sumOf 19 = .ok (.bipush 8, 2) := by decide +kernel
theorem dX6_sumOf_21 : decode cX6_sumOf 21 = .ok (.iload_n 1, 1) := by decide +kernel
theorem dX6_sumOf_22 : decode cX6_sumOf 22 = .ok (.imul, 1) := by decide +kernel
theorem dX6_sumOf_23 : decode cX6_sumOf 23 = .ok (.iload_n 3, 1) := by decide +kernel
theorem dX6_sumOf_24 : decode cX6_sumOf 24 = .ok (.iadd, 1) := by decide +kernel
theorem dX6_sumOf_25 : decode cX6_sumOf 25 = .ok (.iaload, 1) := by decide +kernel
theorem dX6_sumOf_26 : decode cX6_sumOf 26 = .ok (.invokestatic 68, 3) := by decide +kernel
theorem dX6_sumOf_29 : decode cX6_sumOf 29 = .ok (.istore_n 2, 1) := by decide +kernel
theorem dX6_sumOf_30 : decode cX6_sumOf 30 = .ok (.iinc 3 1, 3) := by decide +kernel
theorem dX6_sumOf_33 : decode cX6_sumOf 33 = .ok (.goto (-29), 3) := by decide +kernel
theorem dX6_sumOf_36 : decode cX6_sumOf 36 = .ok (.iload_n 2, 1) := by decide +kernel
theorem dX6_sumOf_37 : decode cX6_sumOf 37 = .ok (.ireturn, 1) := by decide +kernel
theorem dX6_slot_0 : decode cX6_slot 0 = .ok (.iload_n 1, 1) := by decide +kernel
theorem dX6_slot_1 : decode cX6_slot 1 = .ok (.iconst 0, 1) := by decide +kernel
theorem dX6_slot_2 : decode cX6_slot 2 = .ok (.bipush 9, 2) := by decide +kernel
theorem dX6_slot_4 : decode cX6_slot 4 = .ok (.invokestatic 63, 3) := by decide +kernel
theorem dX6_slot_7 : decode cX6_slot 7 = .ok (.ifCond .eq 25, 3) := by decide +kernel
theorem dX6_slot_10 : decode cX6_slot 10 = .ok (.iload 6, 2) := by decide +kernel
theorem dX6_slot_12 : decode cX6_slot 12 = .ok (.iconst 0, 1) := by decide +kernel
theorem dX6_slot_13 : decode cX6_slot 13 = .ok (.bipush 99, 2) := by decide +kernel
theorem dX6_slot_15 : decode cX6_slot 15 = .ok (.invokestatic 63, 3) := by decide +kernel
theorem dX6_slot_18 : decode cX6_slot 18 = .ok (.ifCond .eq 14, 3) := by decide +kernel
theorem dX6_slot_21 : decode cX6_slot 21 = .ok (.iload 7, 2) := by decide +kernel
theorem dX6_slot_23 : decode cX6_slot 23 = .ok (.iconst 0, 1) := by decide +kernel
theorem dX6_slot_24 : decode cX6_slot 24 = .ok (.bipush 49, 2) := by decide +kernel
theorem dX6_slot_26 : decode cX6_slot 26 = .ok (.invokestatic 63, 3) := by decide +kernel
theorem dX6_slot_29 : decode cX6_slot 29 = .ok (.ifCond .ne 7, 3) := by decide +kernel
theorem dX6_slot_32 : decode cX6_slot 32 = .ok (.iconst 1, 1) := by decide +kernel
theorem dX6_slot_33 : decode cX6_slot 33 = .ok (.goto 4, 3) := by decide +kernel
theorem dX6_slot_36 : decode cX6_slot 36 = .ok (.iconst 0, 1) := by decide +kernel
theorem dX6_slot_37 : decode cX6_slot 37 = .ok (.istore 8, 2) := by decide +kernel
theorem dX6_slot_39 : decode cX6_slot 39 = .ok (.aload_n 0, 1) := by decide +kernel
theorem dX6_slot_40 : decode cX6_slot 40 = .ok (.iload 8, 2) := by decide +kernel
theorem dX6_slot_42 : decode cX6_slot 42 = .ok (.iload_n 2, 1) := by decide +kernel
theorem dX6_slot_43 : decode cX6_slot 43 = .ok (.iconst 0, 1) := by decide +kernel
theorem dX6_slot_44 : decode cX6_slot 44 = .ok (.ldc 72, 2) := by decide +kernel
theorem dX6_slot_46 : decode cX6_slot 46 = .ok (.invokestatic 63, 3) := by decide +kernel
theorem dX6_slot_49 : decode cX6_slot 49 = .ok (.ifCond .eq 13, 3) := by decide +kernel
theorem dX6_slot_52 : decode cX6_slot 52 = .ok (.iload_n 3, 1) := by decide +kernel
theorem dX6_slot_53 : decode cX6_slot 53 = .ok (.iconst 1, 1) := by decide +kernel
theorem dX6_slot_54 : decode cX6_slot 54 = .ok (.bipush 8, 2) := by decide +kernel
theorem dX6_slot_56 : decode cX6_slot 56 = .ok (.invokestatic 63, 3) := by decide +kernel
theorem dX6_slot_59 : decode cX6_slot 59 = .ok (.ifCond .ne 7, 3) := by decide +kernel
theorem dX6_slot_62 : decode cX6_slot 62 = .ok (.iconst 1, 1) := by decide +kernel
theorem dX6_slot_63 : decode cX6_slot 63 = .ok (.goto 4, 3) := by decide +kernel
theorem dX6_slot_66 : decode cX6_slot 66 = .ok (.iconst 0, 1) := by decide +kernel
theorem dX6_slot_67 : decode cX6_slot 67 = .ok (.aload_n 0, 1) := by decide +kernel
theorem dX6_slot_68 : decode cX6_slot 68 = .ok (.getfield 60, 3) := by decide +kernel
theorem dX6_slot_71 : decode cX6_slot 71 = .ok (.sipush 200, 3) := by decide +kernel
theorem dX6_slot_74 : decode cX6_slot 74 = .ok (.if_icmp .ne 7, 3) := by decide +kernel
theorem dX6_slot_77 : decode cX6_slot 77 = .ok (.iconst 1, 1) := by decide +kernel
theorem dX6_slot_78 : decode cX6_slot 78 = .ok (.goto 4, 3) := by decide +kernel
theorem dX6_slot_81 : decode cX6_slot 81 = .ok (.iconst 0, 1) := by decide +kernel
theorem dX6_slot_82 : decode cX6_slot 82 = .ok (.invokevirtual 73, 3) := by decide +kernel
theorem dX6_slot_85 : decode cX6_slot 85 = .ok (.ifCond .eq 5, 3) := by decide +kernel
theorem dX6_slot_88 : decode cX6_slot 88 = .ok (.iconst 0, 1) := by decide +kernel
theorem dX6_slot_89 : decode cX6_slot 89 = .ok (.ireturn, 1) := by decide +kernel
theorem dX6_slot_90 : decode cX6_slot 90 = .ok (.aload_n 0, 1) := by decide +kernel
theorem dX6_slot_91 : decode cX6_slot 91 = .ok (.getfield 60, 3) := by decide +kernel
theorem dX6_slot_94 : decode cX6_slot 94 = .ok (.istore 9, 2) := by decide +kernel
theorem dX6_slot_96 : decode cX6_slot 96 = .ok (.aload_n 0, 1) := by decide +kernel
theorem dX6_slot_97 : decode cX6_slot 97 = .ok (.getfield 7, 3) := by decide +kernel
theorem dX6_slot_100 : decode cX6_slot 100 = .ok (.iload 9, 2) := by decide +kernel
theorem dX6_slot_102 : decode cX6_slot 102 = .ok (.iload_n 1, 1) := by decide +kernel
theorem dX6_slot_103 : decode cX6_slot 103 = .ok (.iastore, 1) := by decide +kernel
theorem dX6_slot_104 : decode cX6_slot 104 = .ok (.aload_n 0, 1) := by decide +kernel
theorem dX6_slot_105 : decode cX6_slot 105 = .ok (.getfield 13, 3) := by decide +kernel
theorem dX6_slot_108 : decode cX6_slot 108 = .ok (.iload 9, 2) := by decide +kernel
theorem dX6_slot_110 : decode cX6_slot 110 = .ok (.iload_n 2, 1) := by decide +kernel
theorem dX6_slot_111 : decode cX6_slot 111 = .ok (.iastore, 1) := by decide +kernel
theorem dX6_slot_112 : decode cX6_slot 112 = .ok (.aload_n 0, 1) := by decide +kernel
theorem dX6_slot_113 : decode cX6_slot 113 = .ok (.getfield 16, 3) := by decide +kernel
theorem dX6_slot_116 : decode cX6_slot 116 = .ok (.iload 9, 2) := by decide +kernel
theorem dX6_slot_118 : decode cX6_slot 118 = .ok (.iload_n 3, 1) := by decide +kernel
theorem dX6_slot_119 : decode cX6_slot 119 = .ok (.iastore, 1) := by decide +kernel
theorem dX6_slot_120 : decode cX6_slot 120 = .ok (.aload_n 0, 1) := by decide +kernel
theorem dX6_slot_121 : decode cX6_slot 121 = .ok (.getfield 22, 3) := by decide +kernel
theorem dX6_slot_124 : decode cX6_slot 124 = .ok (.iload 9, 2) := by decide +kernel
theorem dX6_slot_126 : decode cX6_slot 126 = .ok (.iload 6, 2) := by decide +kernel
theorem dX6_slot_128 : decode cX6_slot 128 = .ok (.iastore, 1) := by decide +kernel
theorem dX6_slot_129 : decode cX6_slot 129 = .ok (.aload_n 0, 1) := by decide +kernel
theorem dX6_slot_130 : decode cX6_slot 130 = .ok (.getfield 25, 3) := by decide +kernel
theorem dX6_slot_133 : decode cX6_slot 133 = .ok (.iload 9, 2) := by decide +kernel
theorem dX6_slot_135 : decode cX6_slot 135 = .ok (.iload 7, 2) := by decide +kernel
theorem dX6_slot_137 : decode cX6_slot 137 = .ok (.iastore, 1) := by decide +kernel
theorem dX6_slot_138 : decode cX6_slot 138 = .ok (.iconst 0, 1) := by decide +kernel
theorem dX6_slot_139 : decode cX6_slot 139 = .ok (.istore 10, 2) := by decide +kernel
theorem dX6_slot_141 : decode cX6_slot 141 = .ok (.iload 10, 2) := by decide +kernel
theorem dX6_slot_143 : decode cX6_slot 143 = .ok (.iload_n 3, 1) := by decide +kernel
theorem dX6_slot_144 : decode cX6_slot 144 = .ok (.if_icmp .ge 39, 3) := by decide +kernel
theorem dX6_slot_147 : decode cX6_slot 147 = .ok (.aload_n 0, 1) := by decide +kernel
theorem dX6_slot_148 : decode cX6_slot 148 = .ok (.getfield 19, 3) := by decide +kernel
theorem dX6_slot_151 : decode cX6_slot 151 = .ok (.bipush 8, 2) := by decide +kernel
theorem dX6_slot_153 : decode cX6_slot 153 = .ok (.iload 9, 2) := by decide +kernel
theorem dX6_slot_155 : decode cX6_slot 155 = .ok (.imul, 1) := by decide +kernel
theorem dX6_slot_156 : decode cX6_slot 156 = .ok (.iload 10, 2) := by decide +kernel
theorem dX6_slot_158 : decode cX6_slot 158 = .ok (.iadd, 1) := by decide +kernel
theorem dX6_slot_159 : decode cX6_slot 159 = .ok (.lload 4, 2) := by decide +kernel
theorem dX6_slot_161 : decode cX6_slot 161 = .ok (.bipush 8, 2) := by decide +kernel
theorem dX6_slot_163 : decode cX6_slot 163 = .ok (.iload_n 3, 1) := by decide +kernel
theorem dX6_slot_164 : decode cX6_slot 164 = .ok (.iconst 1, 1) := by decide +kernel
theorem dX6_slot_165 : decode cX6_slot 165 = .ok (.isub, 1) := by decide +kernel
theorem dX6_slot_166 : decode cX6_slot 166 = .ok (.iload 10, 2) := by decide +kernel
theorem dX6_slot_168 : decode cX6_slot 168 = .ok (.isub, 1) := by decide +kernel
theorem dX6_slot_169 : decode cX6_slot 169 = .ok (.imul, 1) := by decide +kernel
theorem dX6_slot_170 : decode cX6_slot 170 = .ok (.lshr, 1) := by decide +kernel
theorem dX6_slot_171 : decode cX6_slot 171 = .ok (.l2i, 1) := by decide +kernel
theorem dX6_slot_172 : decode cX6_slot 172 = .ok (.sipush 255, 3) := by decide +kernel
theorem dX6_slot_175 : decode cX6_slot 175 = .ok (.iand, 1) := by decide +kernel
theorem dX6_slot_176 : decode cX6_slot 176 = .ok (.iastore, 1) := by decide +kernel
theorem dX6_slot_177 : decode cX6_slot 177 = .ok (.iinc 10 1, 3) := by decide +kernel
theorem dX6_slot_180 : decode cX6_slot 180 = .ok (.goto (-39), 3) := by decide +kernel
theorem dX6_slot_183 : decode cX6_slot 183 = .ok (.aload_n 0, 1) := by decide +kernel
theorem dX6_slot_184 : decode cX6_slot 184 = .ok (.getfield 28, 3) := by decide +kernel
theorem dX6_slot_187 : decode cX6_slot 187 = .ok (.iload 9, 2) := by decide +kernel
theorem dX6_slot_189 : decode cX6_slot 189 = .ok (.aload_n 0, 1) := by decide +kernel
theorem dX6_slot_190 : decode cX6_slot 190 = .ok (.iload 9, 2) := by decide +kernel
theorem dX6_slot_192 : decode cX6_slot 192 = .ok (.invokevirtual 77, 3) := by decide +kernel
theorem dX6_slot_195 : decode cX6_slot 195 = .ok (.iastore, 1) := by decide +kernel
theorem dX6_slot_196 : decode cX6_slot 196 = .ok (.aload_n 0, 1) := by decide +kernel
theorem dX6_slot_197 : decode cX6_slot 197 = .ok (.dup, 1) := by decide +kernel
theorem dX6_slot_198 : decode cX6_slot 198 = .ok (.getfield 60, 3) := by decide +kernel
theorem dX6_slot_201 : decode cX6_slot 201 = .ok (.iconst 1, 1) := by decide +kernel
theorem dX6_slot_202 : decode cX6_slot 202 = .ok (.iadd, 1) := by decide +kernel
theorem dX6_slot_203 : decode cX6_slot 203 = .ok (.putfield 60, 3) := by decide +kernel
theorem dX6_slot_206 : decode cX6_slot 206 = .ok (.iload 9, 2) := by decide +kernel
theorem dX6_slot_208 : decode cX6_slot 208 = .ok (.ireturn, 1) := by decide +kernel
theorem dX6_firstMark_0 : decode cX6_firstMark 0 = .ok (.iconst 0, 1) := by decide +kernel
theorem dX6_firstMark_1 : decode cX6_firstMark 1 = .ok (.istore_n 2, 1) := by decide +kernel
theorem dX6_firstMark_2 : decode cX6_firstMark 2 = .ok (.iload_n 2, 1) := by decide +kernel
theorem dX6_firstMark_3 : decode cX6_firstMark 3 = .ok (.aload_n 0, 1) := by decide +kernel
theorem dX6_firstMark_4 : decode cX6_firstMark 4 = .ok (.getfield 81, 3) := by decide +kernel
theorem dX6_firstMark_7 : decode cX6_firstMark 7 = .ok (.if_icmp .ge 21, 3) := by decide +kernel
theorem dX6_firstMark_10 : decode cX6_firstMark 10 = .ok (.aload_n 0, 1) := by decide +kernel
theorem dX6_firstMark_11 : decode cX6_firstMark 11 = .ok (.getfield 35, 3) := by decide +kernel
theorem dX6_firstMark_14 : decode cX6_firstMark 14 = .ok (.iload_n 2, 1) := by decide +kernel
theorem dX6_firstMark_15 : decode cX6_firstMark 15 = .ok (.iaload, 1) := by decide +kernel
theorem dX6_firstMark_16 : decode cX6_firstMark 16 = .ok (.iload_n 1, 1) := by decide +kernel
theorem dX6_firstMark_17 : decode cX6_firstMark 17 = .ok (.if_icmp .ne 5, 3) := by decide +kernel
theorem dX6_firstMark_20 : decode cX6_firstMark 20 = .ok (.iload_n 2, 1) := by decide +kernel
theorem dX6_firstMark_21 : decode cX6_firstMark 21 = .ok (.ireturn, 1) := by decide +kernel
theorem dX6_firstMark_22 : decode cX6_firstMark 22 = .ok (.iinc 2 1, 3) := by decide +kernel
theorem dX6_firstMark_25 : decode cX6_firstMark 25 = .ok (.goto (-23), 3) := by decide +kernel
theorem dX6_firstMark_28 : decode cX6_firstMark 28 = .ok (.iconst (-1), 1) := by decide +kernel
theorem dX6_firstMark_29 : decode cX6_firstMark 29 = .ok (.ireturn, 1) := by decide +kernel
theorem dX6_offsetOf_0 : decode cX6_offsetOf 0 = .ok (.aload_n 0, 1) := by decide +kernel
theorem dX6_offsetOf_1 : decode cX6_offsetOf 1 = .ok (.iload_n 1, 1) := by decide +kernel
theorem dX6_offsetOf_2 : decode cX6_offsetOf 2 = .ok (.invokevirtual 84, 3) := by decide +kernel
theorem dX6_offsetOf_5 : decode cX6_offsetOf 5 = .ok (.istore_n 2, 1) := by decide +kernel
theorem dX6_offsetOf_6 : decode cX6_offsetOf 6 = .ok (.iload_n 2, 1) := by decide +kernel
theorem dX6_offsetOf_7 : decode cX6_offsetOf 7 = .ok (.ifCond .ge 7, 3) := by decide +kernel
theorem dX6_offsetOf_10 : decode cX6_offsetOf 10 = .ok (.iconst 0, 1) := by decide +kernel
theorem dX6_offsetOf_11 : decode cX6_offsetOf 11 = .ok (.goto 9, 3) := by decide +kernel
theorem dX6_offsetOf_14 : decode cX6_offsetOf 14 = .ok (.aload_n 0, 1) := by decide +kernel
theorem dX6_offsetOf_15 : decode cX6_offsetOf 15 = .ok (.getfield 38, 3) := by decide +kernel
theorem dX6_offsetOf_18 : decode cX6_offsetOf 18 = .ok (.iload_n 2, 1) := by decide +kernel
theorem dX6_offsetOf_19 : decode cX6_offsetOf 19 = .ok (.iaload, 1) := by decide +kernel
theorem dX6_offsetOf_20 : decode cX6_offsetOf 20 = .ok (.ireturn, 1) := by decide +kernel
theorem dX6_mark_0 : decode cX6_mark 0 = .ok (.aload_n 0, 1) := by decide +kernel
theorem dX6_mark_1 : decode cX6_mark 1 = .ok (.iload_n 1, 1) := by decide +kernel
theorem dX6_mark_2 : decode cX6_mark 2 = .ok (.iconst 0, 1) := by decide +kernel
theorem dX6_mark_3 : decode cX6_mark 3 = .ok (.bipush 9, 2) := by decide +kernel
theorem dX6_mark_5 : decode cX6_mark 5 = .ok (.invokestatic 63, 3) := by decide +kernel
theorem dX6_mark_8 : decode cX6_mark 8 = .ok (.ifCond .ne 7, 3) := by decide +kernel
theorem dX6_mark_11 : decode cX6_mark 11 = .ok (.iconst 1, 1) := by decide +kernel
theorem dX6_mark_12 : decode cX6_mark 12 = .ok (.goto 4, 3) := by decide +kernel
theorem dX6_mark_15 : decode cX6_mark 15 = .ok (.iconst 0, 1) := by decide +kernel
theorem dX6_mark_16 : decode cX6_mark 16 = .ok (.iload_n 2, 1) := by decide +kernel
theorem dX6_mark_17 : decode cX6_mark 17 = .ok (.iconst 0, 1) := by decide +kernel
theorem dX6_mark_18 : decode cX6_mark 18 = .ok (.ldc 72, 2) := by decide +kernel
theorem dX6_mark_20 : decode cX6_mark 20 = .ok (.invokestatic 63, 3) := by decide +kernel
theorem dX6_mark_23 : decode cX6_mark 23 = .ok (.ifCond .eq 13, 3) := by decide +kernel
theorem dX6_mark_26 : decode cX6_mark 26 = .ok (.iload_n 3, 1) := by decide +kernel
theorem dX6_mark_27 : decode cX6_mark 27 = .ok (.iconst 0, 1) := by decide +kernel
theorem dX6_mark_28 : decode cX6_mark 28 = .ok (.ldc 72, 2) := by decide +kernel
theorem dX6_mark_30 : decode cX6_mark 30 = .ok (.invokestatic 63, 3) := by decide +kernel
theorem dX6_mark_33 : decode cX6_mark 33 = .ok (.ifCond .ne 7, 3) := by decide +kernel
theorem dX6_mark_36 : decode cX6_mark 36 = .ok (.iconst 1, 1) := by decide +kernel
theorem dX6_mark_37 : decode cX6_mark 37 = .ok (.goto 4, 3) := by decide +kernel
theorem dX6_mark_40 : decode cX6_mark 40 = .ok (.iconst 0, 1) := by decide +kernel
theorem dX6_mark_41 : decode cX6_mark 41 = .ok (.aload_n 0, 1) := by decide +kernel
theorem dX6_mark_42 : decode cX6_mark 42 = .ok (.getfield 81, 3) := by decide +kernel
theorem dX6_mark_45 : decode cX6_mark 45 = .ok (.bipush 60, 2) := by decide +kernel
theorem dX6_mark_47 : decode cX6_mark 47 = .ok (.if_icmp .ne 7, 3) := by decide +kernel
theorem dX6_mark_50 : decode cX6_mark 50 = .ok (.iconst 1, 1) := by decide +kernel
theorem dX6_mark_51 : decode cX6_mark 51 = .ok (.goto 4, 3) := by decide +kernel
theorem dX6_mark_54 : decode cX6_mark 54 = .ok (.iconst 0, 1) := by decide +kernel
theorem dX6_mark_55 : decode cX6_mark 55 = .ok (.invokevirtual 73, 3) := by decide +kernel
theorem dX6_mark_58 : decode cX6_mark 58 = .ok (.ifCond .eq 5, 3) := by decide +kernel
theorem dX6_mark_61 : decode cX6_mark 61 = .ok (.iconst 0, 1) := by decide +kernel
theorem dX6_mark_62 : decode cX6_mark 62 = .ok (.ireturn, 1) := by decide +kernel
theorem dX6_mark_63 : decode cX6_mark 63 = .ok (.aload_n 0, 1) := by decide +kernel
theorem dX6_mark_64 : decode cX6_mark 64 = .ok (.getfield 35, 3) := by decide +kernel
theorem dX6_mark_67 : decode cX6_mark 67 = .ok (.aload_n 0, 1) := by decide +kernel
theorem dX6_mark_68 : decode cX6_mark 68 = .ok (.getfield 81, 3) := by decide +kernel
theorem dX6_mark_71 : decode cX6_mark 71 = .ok (.iload_n 1, 1) := by decide +kernel
theorem dX6_mark_72 : decode cX6_mark 72 = .ok (.iastore, 1) := by decide +kernel
theorem dX6_mark_73 : decode cX6_mark 73 = .ok (.aload_n 0, 1) := by decide +kernel
theorem dX6_mark_74 : decode cX6_mark 74 = .ok (.getfield 38, 3) := by decide +kernel
theorem dX6_mark_77 : decode cX6_mark 77 = .ok (.aload_n 0, 1) := by decide +kernel
theorem dX6_mark_78 : decode cX6_mark 78 = .ok (.getfield 81, 3) := by decide +kernel
theorem dX6_mark_81 : decode cX6_mark 81 = .ok (.iload_n 3, 1) := by decide +kernel
theorem dX6_mark_82 : decode cX6_mark 82 = .ok (.iload_n 2, 1) := by decide +kernel
theorem dX6_mark_83 : decode cX6_mark 83 = .ok (.isub, 1) := by decide +kernel
theorem dX6_mark_84 : decode cX6_mark 84 = .ok (.iastore, 1) := by decide +kernel
theorem dX6_mark_85 : decode cX6_mark 85 = .ok (.aload_n 0, 1) := by decide +kernel
theorem dX6_mark_86 : decode cX6_mark 86 = .ok (.dup, 1) := by decide +kernel
theorem dX6_mark_87 : decode cX6_mark 87 = .ok (.getfield 81, 3) := by decide +kernel
theorem dX6_mark_90 : decode cX6_mark 90 = .ok (.iconst 1, 1) := by decide +kernel
theorem dX6_mark_91 : decode cX6_mark 91 = .ok (.iadd, 1) := by decide +kernel
theorem dX6_mark_92 : decode cX6_mark 92 = .ok (.putfield 81, 3) := by decide +kernel
theorem dX6_mark_95 : decode cX6_mark 95 = .ok (.aload_n 0, 1) := by decide +kernel
theorem dX6_mark_96 : decode cX6_mark 96 = .ok (.getfield 81, 3) := by decide +kernel
theorem dX6_mark_99 : decode cX6_mark 99 = .ok (.iconst 1, 1) := by decide +kernel
theorem dX6_mark_100 : decode cX6_mark 100 = .ok (.isub, 1) := by decide +kernel
theorem dX6_mark_101 : decode cX6_mark 101 = .ok (.ireturn, 1) := by decide +kernel
theorem dX6_offset_0 : decode cX6_offset 0 = .ok (.aload_n 0, 1) := by decide +kernel
theorem dX6_offset_1 : decode cX6_offset 1 = .ok (.iload_n 1, 1) := by decide +kernel
theorem dX6_offset_2 : decode cX6_offset 2 = .ok (.iconst 0, 1) := by decide +kernel
theorem dX6_offset_3 : decode cX6_offset 3 = .ok (.bipush 9, 2) := by decide +kernel
theorem dX6_offset_5 : decode cX6_offset 5 = .ok (.invokestatic 63, 3) := by decide +kernel
theorem dX6_offset_8 : decode cX6_offset 8 = .ok (.ifCond .ne 7, 3) := by decide +kernel
theorem dX6_offset_11 : decode cX6_offset 11 = .ok (.iconst 1, 1) := by decide +kernel
theorem dX6_offset_12 : decode cX6_offset 12 = .ok (.goto 4, 3) := by decide +kernel
theorem dX6_offset_15 : decode cX6_offset 15 = .ok (.iconst 0, 1) := by decide +kernel
theorem dX6_offset_16 : decode cX6_offset 16 = .ok (.iconst 0, 1) := by decide +kernel
theorem dX6_offset_17 : decode cX6_offset 17 = .ok (.iconst 0, 1) := by decide +kernel
theorem dX6_offset_18 : decode cX6_offset 18 = .ok (.invokevirtual 73, 3) := by decide +kernel
theorem dX6_offset_21 : decode cX6_offset 21 = .ok (.ifCond .eq 5, 3) := by decide +kernel
theorem dX6_offset_24 : decode cX6_offset 24 = .ok (.iconst 0, 1) := by decide +kernel
theorem dX6_offset_25 : decode cX6_offset 25 = .ok (.ireturn, 1) := by decide +kernel
theorem dX6_offset_26 : decode cX6_offset 26 = .ok (.aload_n 0, 1) := by decide +kernel
theorem dX6_offset_27 : decode cX6_offset 27 = .ok (.iload_n 1, 1) := by decide +kernel
theorem dX6_offset_28 : decode cX6_offset 28 = .ok (.invokevirtual 87, 3) := by decide +kernel
theorem dX6_offset_31 : decode cX6_offset 31 = .ok (.ireturn, 1) := by decide +kernel
theorem dX6_contradiction_0 : decode cX6_contradiction 0 = .ok (.aload_n 0, 1) := by decide +kernel
theorem dX6_contradiction_1 : decode cX6_contradiction 1 = .ok (.iload_n 1, 1) := by decide +kernel
theorem dX6_contradiction_2 : decode cX6_contradiction 2 = .ok (.ifCond .ge 7, 3) := by decide +kernel
theorem dX6_contradiction_5 : decode cX6_contradiction 5 = .ok (.iconst 1, 1) := by decide +kernel
theorem dX6_contradiction_6 : decode cX6_contradiction 6 = .ok (.goto 4, 3) := by decide +kernel
theorem dX6_contradiction_9 : decode cX6_contradiction 9 = .ok (.iconst 0, 1) := by decide +kernel
theorem dX6_contradiction_10 : decode cX6_contradiction 10 = .ok (.iconst 0, 1) := by decide +kernel
theorem dX6_contradiction_11 : decode cX6_contradiction 11 = .ok (.iconst 0, 1) := by decide +kernel
theorem dX6_contradiction_12 : decode cX6_contradiction 12 = .ok (.invokevirtual 73, 3) := by decide +kernel
theorem dX6_contradiction_15 : decode cX6_contradiction 15 = .ok (.ifCond .eq 5, 3) := by decide +kernel
theorem dX6_contradiction_18 : decode cX6_contradiction 18 = .ok (.iconst 0, 1) := by decide +kernel
theorem dX6_contradiction_19 : decode cX6_contradiction 19 = .ok (.ireturn, 1) := by decide +kernel
theorem dX6_contradiction_20 : decode cX6_contradiction 20 = .ok (.iload_n 1, 1) := by decide +kernel
theorem dX6_contradiction_21 : decode cX6_contradiction 21 = .ok (.istore_n 2, 1) := by decide +kernel
theorem dX6_contradiction_22 : decode cX6_contradiction 22 = .ok (.iconst 0, 1) := by decide +kernel
theorem dX6_contradiction_23 : decode cX6_contradiction 23 = .ok (.istore_n 3, 1) := by decide +kernel
theorem dX6_contradiction_24 : decode cX6_contradiction 24 = .ok (.iload_n 3, 1) := by decide +kernel
theorem dX6_contradiction_25 : decode cX6_contradiction 25 = .ok (.aload_n 0, 1) := by decide +kernel
theorem dX6_contradiction_26 : decode cX6_contradiction 26 = .ok (.getfield 81, 3) := by decide +kernel
theorem dX6_contradiction_29 : decode cX6_contradiction 29 = .ok (.if_icmp .ge 52, 3) := by decide +kernel
theorem dX6_contradiction_32 : decode cX6_contradiction 32 = .ok (.aload_n 0, 1) := by decide +kernel
theorem dX6_contradiction_33 : decode cX6_contradiction 33 = .ok (.aload_n 0, 1) := by decide +kernel
theorem dX6_contradiction_34 : decode cX6_contradiction 34 = .ok (.getfield 35, 3) := by decide +kernel
theorem dX6_contradiction_37 : decode cX6_contradiction 37 = .ok (.iload_n 3, 1) := by decide +kernel
theorem dX6_contradiction_38 : decode cX6_contradiction 38 = .ok (.iaload, 1) := by decide +kernel
theorem dX6_contradiction_39 : decode cX6_contradiction 39 = .ok (.invokevirtual 84, 3) := by decide +kernel
theorem dX6_contradiction_42 : decode cX6_contradiction 42 = .ok (.istore 4, 2) := by decide +kernel
theorem dX6_contradiction_44 : decode cX6_contradiction 44 = .ok (.aload_n 0, 1) := by decide +kernel
theorem dX6_contradiction_45 : decode cX6_contradiction 45 = .ok (.getfield 38, 3) := by decide +kernel
theorem dX6_contradiction_48 : decode cX6_contradiction 48 = .ok (.iload_n 3, 1) := by decide +kernel
theorem dX6_contradiction_49 : decode cX6_contradiction 49 = .ok (.iaload, 1) := by decide +kernel
theorem dX6_contradiction_50 : decode cX6_contradiction 50 = .ok (.aload_n 0, 1) := by decide +kernel
theorem dX6_contradiction_51 : decode cX6_contradiction 51 = .ok (.getfield 38, 3) := by decide +kernel
theorem dX6_contradiction_54 : decode cX6_contradiction 54 = .ok (.iload 4, 2) := by decide +kernel
theorem dX6_contradiction_56 : decode cX6_contradiction 56 = .ok (.iaload, 1) := by decide +kernel
theorem dX6_contradiction_57 : decode cX6_contradiction 57 = .ok (.if_icmp .eq 18, 3) := by decide +kernel
theorem dX6_contradiction_60 : decode cX6_contradiction 60 = .ok (.iload_n 2, 1) := by decide +kernel
theorem dX6_contradiction_61 : decode cX6_contradiction 61 = .ok (.ifCond .ne 11, 3) := by decide +kernel
theorem dX6_contradiction_64 : decode cX6_contradiction 64 = .ok (.bipush 100, 2) := by decide +kernel
theorem dX6_contradiction_66 : decode cX6_contradiction 66 = .ok (.iload 4, 2) := by decide +kernel
theorem dX6_contradiction_68 : decode cX6_contradiction 68 = .ok (.imul, 1) := by decide +kernel
theorem dX6_contradiction_69 : decode cX6_contradiction 69 = .ok (.iload_n 3, 1) := by decide +kernel
theorem dX6_contradiction_70 : decode cX6_contradiction 70 = .ok (.iadd, 1) := by decide +kernel
theorem dX6_contradiction_71 : decode cX6_contradiction 71 = .ok (.ireturn, 1) := by decide +kernel
theorem dX6_contradiction_72 : decode cX6_contradiction 72 = .ok (.iinc 2 (-1), 3) := by decide +kernel
theorem dX6_contradiction_75 : decode cX6_contradiction 75 = .ok (.iinc 3 1, 3) := by decide +kernel
theorem dX6_contradiction_78 : decode cX6_contradiction 78 = .ok (.goto (-54), 3) := by decide +kernel
theorem dX6_contradiction_81 : decode cX6_contradiction 81 = .ok (.iconst (-1), 1) := by decide +kernel
theorem dX6_contradiction_82 : decode cX6_contradiction 82 = .ok (.ireturn, 1) := by decide +kernel
theorem dX6_begin_0 : decode cX6_begin 0 = .ok (.aload_n 0, 1) := by decide +kernel
theorem dX6_begin_1 : decode cX6_begin 1 = .ok (.getfield 13, 3) := by decide +kernel
theorem dX6_begin_4 : decode cX6_begin 4 = .ok (.iload_n 1, 1) := by decide +kernel
theorem dX6_begin_5 : decode cX6_begin 5 = .ok (.iaload, 1) := by decide +kernel
theorem dX6_begin_6 : decode cX6_begin 6 = .ok (.aload_n 0, 1) := by decide +kernel
theorem dX6_begin_7 : decode cX6_begin 7 = .ok (.aload_n 0, 1) := by decide +kernel
theorem dX6_begin_8 : decode cX6_begin 8 = .ok (.getfield 7, 3) := by decide +kernel
theorem dX6_begin_11 : decode cX6_begin 11 = .ok (.iload_n 1, 1) := by decide +kernel
theorem dX6_begin_12 : decode cX6_begin 12 = .ok (.iaload, 1) := by decide +kernel
theorem dX6_begin_13 : decode cX6_begin 13 = .ok (.invokevirtual 87, 3) := by decide +kernel
theorem dX6_begin_16 : decode cX6_begin 16 = .ok (.iadd, 1) := by decide +kernel
theorem dX6_begin_17 : decode cX6_begin 17 = .ok (.ireturn, 1) := by decide +kernel
theorem dX6_goesAhead_0 : decode cX6_goesAhead 0 = .ok (.aload_n 0, 1) := by decide +kernel
theorem dX6_goesAhead_1 : decode cX6_goesAhead 1 = .ok (.iload_n 1, 1) := by decide +kernel
theorem dX6_goesAhead_2 : decode cX6_goesAhead 2 = .ok (.invokevirtual 90, 3) := by decide +kernel
theorem dX6_goesAhead_5 : decode cX6_goesAhead 5 = .ok (.istore_n 3, 1) := by decide +kernel
theorem dX6_goesAhead_6 : decode cX6_goesAhead 6 = .ok (.aload_n 0, 1) := by decide +kernel
theorem dX6_goesAhead_7 : decode cX6_goesAhead 7 = .ok (.iload_n 2, 1) := by decide +kernel
theorem dX6_goesAhead_8 : decode cX6_goesAhead 8 = .ok (.invokevirtual 90, 3) := by decide +kernel
theorem dX6_goesAhead_11 : decode cX6_goesAhead 11 = .ok (.istore 4, 2) := by decide +kernel
theorem dX6_goesAhead_13 : decode cX6_goesAhead 13 = .ok (.iload_n 3, 1) := by decide +kernel
theorem dX6_goesAhead_14 : decode cX6_goesAhead 14 = .ok (.iload 4, 2) := by decide +kernel
theorem dX6_goesAhead_16 : decode cX6_goesAhead 16 = .ok (.if_icmp .eq 15, 3) := by decide +kernel
theorem dX6_goesAhead_19 : decode cX6_goesAhead 19 = .ok (.iload_n 3, 1) := by decide +kernel
theorem dX6_goesAhead_20 : decode cX6_goesAhead 20 = .ok (.iload 4, 2) := by decide +kernel
theorem dX6_goesAhead_22 : decode cX6_goesAhead 22 = .ok (.if_icmp .ge 7, 3) := by decide +kernel
theorem dX6_goesAhead_25 : decode cX6_goesAhead 25 = .ok (.iconst 1, 1) := by decide +kernel
theorem dX6_goesAhead_26 : decode cX6_goesAhead 26 = .ok (.goto 4, 3) := by decide +kernel
theorem dX6_goesAhead_29 : decode cX6_goesAhead 29 = .ok (.iconst 0, 1) := by decide +kernel
theorem dX6_goesAhead_30 : decode cX6_goesAhead 30 = .ok (.ireturn, 1) := by decide +kernel
theorem dX6_goesAhead_31 : decode cX6_goesAhead 31 = .ok (.aload_n 0, 1) := by decide +kernel
theorem dX6_goesAhead_32 : decode cX6_goesAhead 32 = .ok (.getfield 7, 3) := by decide +kernel
theorem dX6_goesAhead_35 : decode cX6_goesAhead 35 = .ok (.iload_n 1, 1) := by decide +kernel
theorem dX6_goesAhead_36 : decode cX6_goesAhead 36 = .ok (.iaload, 1) := by decide +kernel
theorem dX6_goesAhead_37 : decode cX6_goesAhead 37 = .ok (.aload_n 0, 1) := by decide +kernel
theorem dX6_goesAhead_38 : decode cX6_goesAhead 38 = .ok (.getfield 7, 3) := by decide +kernel
theorem dX6_goesAhead_41 : decode cX6_goesAhead 41 = .ok (.iload_n 2, 1) := by decide +kernel
theorem dX6_goesAhead_42 : decode cX6_goesAhead 42 = .ok (.iaload, 1) := by decide +kernel
theorem dX6_goesAhead_43 : decode cX6_goesAhead 43 = .ok (.if_icmp .lt 23, 3) := by decide +kernel
theorem dX6_goesAhead_46 : decode cX6_goesAhead 46 = .ok (.aload_n 0, 1) := by decide +kernel
theorem dX6_goesAhead_47 : decode cX6_goesAhead 47 = .ok (.getfield 7, 3) := by decide +kernel
theorem dX6_goesAhead_50 : decode cX6_goesAhead 50 = .ok (.iload_n 1, 1) := by decide +kernel
theorem dX6_goesAhead_51 : decode cX6_goesAhead 51 = .ok (.iaload, 1) := by decide +kernel
theorem dX6_goesAhead_52 : decode cX6_goesAhead 52 = .ok (.aload_n 0, 1) := by decide +kernel
theorem dX6_goesAhead_53 : decode cX6_goesAhead 53 = .ok (.getfield 7, 3) := by decide +kernel
theorem dX6_goesAhead_56 : decode cX6_goesAhead 56 = .ok (.iload_n 2, 1) := by decide +kernel
theorem dX6_goesAhead_57 : decode cX6_goesAhead 57 = .ok (.iaload, 1) := by decide +kernel
theorem dX6_goesAhead_58 : decode cX6_goesAhead 58 = .ok (.if_icmp .ne 12, 3) := by decide +kernel
theorem dX6_goesAhead_61 : decode cX6_goesAhead 61 = .ok (.iload_n 1, 1) := by decide +kernel
theorem dX6_goesAhead_62 : decode cX6_goesAhead 62 = .ok (.iload_n 2, 1) := by decide +kernel
theorem dX6_goesAhead_63 : decode cX6_goesAhead 63 = .ok (.if_icmp .ge 7, 3) := by decide +kernel
theorem dX6_goesAhead_66 : decode cX6_goesAhead 66 = .ok (.iconst 1, 1) := by decide +kernel
theorem dX6_goesAhead_67 : decode cX6_goesAhead 67 = .ok (.goto 4, 3) := by decide +kernel
theorem dX6_goesAhead_70 : decode cX6_goesAhead 70 = .ok (.iconst 0, 1) := by decide +kernel
theorem dX6_goesAhead_71 : decode cX6_goesAhead 71 = .ok (.ireturn, 1) := by decide +kernel
theorem dX6_within_0 : decode cX6_within 0 = .ok (.iconst 0, 1) := by decide +kernel
theorem dX6_within_1 : decode cX6_within 1 = .ok (.istore 4, 2) := by decide +kernel
theorem dX6_within_3 : decode cX6_within 3 = .ok (.iconst 0, 1) := by decide +kernel
theorem dX6_within_4 : decode cX6_within 4 = .ok (.istore 5, 2) := by decide +kernel
theorem dX6_within_6 : decode cX6_within 6 = .ok (.iload 5, 2) := by decide +kernel
theorem dX6_within_8 : decode cX6_within 8 = .ok (.aload_n 0, 1) := by decide +kernel
theorem dX6_within_9 : decode cX6_within 9 = .ok (.getfield 16, 3) := by decide +kernel
theorem dX6_within_12 : decode cX6_within 12 = .ok (.iload_n 1, 1) := by decide +kernel
theorem dX6_within_13 : decode cX6_within 13 = .ok (.iaload, 1) := by decide +kernel
theorem dX6_within_14 : decode cX6_within 14 = .ok (.if_icmp .ge 43, 3) := by decide +kernel
theorem dX6_within_17 : decode cX6_within 17 = .ok (.iload 4, 2) := by decide +kernel
theorem dX6_within_19 : decode cX6_within 19 = .ok (.aload_n 0, 1) := by decide +kernel
theorem dX6_within_20 : decode cX6_within 20 = .ok (.iload_n 1, 1) := by decide +kernel
theorem dX6_within_21 : decode cX6_within 21 = .ok (.invokevirtual 90, 3) := by decide +kernel
theorem dX6_within_24 : decode cX6_within 24 = .ok (.iload 5, 2) := by decide +kernel
theorem dX6_within_26 : decode cX6_within 26 = .ok (.iadd, 1) := by decide +kernel
theorem dX6_within_27 : decode cX6_within 27 = .ok (.iload_n 2, 1) := by decide +kernel
theorem dX6_within_28 : decode cX6_within 28 = .ok (.if_icmp .lt 19, 3) := by decide +kernel
theorem dX6_within_31 : decode cX6_within 31 = .ok (.aload_n 0, 1) := by decide +kernel
theorem dX6_within_32 : decode cX6_within 32 = .ok (.iload_n 1, 1) := by decide +kernel
theorem dX6_within_33 : decode cX6_within 33 = .ok (.invokevirtual 90, 3) := by decide +kernel
theorem dX6_within_36 : decode cX6_within 36 = .ok (.iload 5, 2) := by decide +kernel
theorem dX6_within_38 : decode cX6_within 38 = .ok (.iadd, 1) := by decide +kernel
theorem dX6_within_39 : decode cX6_within 39 = .ok (.iload_n 3, 1) := by decide +kernel
theorem dX6_within_40 : decode cX6_within 40 = .ok (.if_icmp .ge 7, 3) := by decide +kernel
theorem dX6_within_43 : decode cX6_within 43 = .ok (.iconst 1, 1) := by decide +kernel
theorem dX6_within_44 : decode cX6_within 44 = .ok (.goto 4, 3) := by decide +kernel
theorem dX6_within_47 : decode cX6_within 47 = .ok (.iconst 0, 1) := by decide +kernel
theorem dX6_within_48 : decode cX6_within 48 = .ok (.iadd, 1) := by decide +kernel
theorem dX6_within_49 : decode cX6_within 49 = .ok (.istore 4, 2) := by decide +kernel
theorem dX6_within_51 : decode cX6_within 51 = .ok (.iinc 5 1, 3) := by decide +kernel
theorem dX6_within_54 : decode cX6_within 54 = .ok (.goto (-48), 3) := by decide +kernel
theorem dX6_within_57 : decode cX6_within 57 = .ok (.iload 4, 2) := by decide +kernel
theorem dX6_within_59 : decode cX6_within 59 = .ok (.ireturn, 1) := by decide +kernel
theorem dX6_fits_0 : decode cX6_fits 0 = .ok (.aload_n 0, 1) := by decide +kernel
theorem dX6_fits_1 : decode cX6_fits 1 = .ok (.getfield 31, 3) := by decide +kernel
theorem dX6_fits_4 : decode cX6_fits 4 = .ok (.iload_n 1, 1) := by decide +kernel
theorem dX6_fits_5 : decode cX6_fits 5 = .ok (.baload, 1) := by decide +kernel
theorem dX6_fits_6 : decode cX6_fits 6 = .ok (.ifCond .ne 49, 3) := by decide +kernel
theorem dX6_fits_9 : decode cX6_fits 9 = .ok (.iload 4, 2) := by decide +kernel
theorem dX6_fits_11 : decode cX6_fits 11 = .ok (.ifCond .lt 14, 3) := by decide +kernel
theorem dX6_fits_14 : decode cX6_fits 14 = .ok (.aload_n 0, 1) := by decide +kernel
theorem dX6_fits_15 : decode cX6_fits 15 = .ok (.getfield 22, 3) := by decide +kernel
theorem dX6_fits_18 : decode cX6_fits 18 = .ok (.iload_n 1, 1) := by decide +kernel
theorem dX6_fits_19 : decode cX6_fits 19 = .ok (.iaload, 1) := by decide +kernel
theorem dX6_fits_20 : decode cX6_fits 20 = .ok (.iload 4, 2) := by decide +kernel
theorem dX6_fits_22 : decode cX6_fits 22 = .ok (.if_icmp .ne 33, 3) := by decide +kernel
theorem dX6_fits_25 : decode cX6_fits 25 = .ok (.iload 5, 2) := by decide +kernel
theorem dX6_fits_27 : decode cX6_fits 27 = .ok (.ifCond .lt 14, 3) := by decide +kernel
theorem dX6_fits_30 : decode cX6_fits 30 = .ok (.aload_n 0, 1) := by decide +kernel
theorem dX6_fits_31 : decode cX6_fits 31 = .ok (.getfield 25, 3) := by decide +kernel
theorem dX6_fits_34 : decode cX6_fits 34 = .ok (.iload_n 1, 1) := by decide +kernel
theorem dX6_fits_35 : decode cX6_fits 35 = .ok (.iaload, 1) := by decide +kernel
theorem dX6_fits_36 : decode cX6_fits 36 = .ok (.iload 5, 2) := by decide +kernel
theorem dX6_fits_38 : decode cX6_fits 38 = .ok (.if_icmp .ne 17, 3) := by decide +kernel
theorem dX6_fits_41 : decode cX6_fits 41 = .ok (.aload_n 0, 1) := by decide +kernel
theorem dX6_fits_42 : decode cX6_fits 42 = .ok (.iload_n 1, 1) := by decide +kernel
theorem dX6_fits_43 : decode cX6_fits 43 = .ok (.iload_n 2, 1) := by decide +kernel
theorem dX6_fits_44 : decode cX6_fits 44 = .ok (.iload_n 3, 1) := by decide +kernel
theorem dX6_fits_45 : decode cX6_fits 45 = .ok (.invokevirtual 93, 3) := by decide +kernel
theorem dX6_fits_48 : decode cX6_fits 48 = .ok (.ifCond .le 7, 3) := by decide +kernel
theorem dX6_fits_51 : decode cX6_fits 51 = .ok (.iconst 1, 1) := by decide +kernel
theorem dX6_fits_52 : decode cX6_fits 52 = .ok (.goto 4, 3) := by decide +kernel
theorem dX6_fits_55 : decode cX6_fits 55 = .ok (.iconst 0, 1) := by decide +kernel
theorem dX6_fits_56 : decode cX6_fits 56 = .ok (.ireturn, 1) := by decide +kernel
theorem dX6_found_0 : decode cX6_found 0 = .ok (.iconst 0, 1) := by decide +kernel
theorem dX6_found_1 : decode cX6_found 1 = .ok (.istore 6, 2) := by decide +kernel
theorem dX6_found_3 : decode cX6_found 3 = .ok (.iload 6, 2) := by decide +kernel
theorem dX6_found_5 : decode cX6_found 5 = .ok (.aload_n 0, 1) := by decide +kernel
theorem dX6_found_6 : decode cX6_found 6 = .ok (.getfield 60, 3) := by decide +kernel
theorem dX6_found_9 : decode cX6_found 9 = .ok (.if_icmp .ge 96, 3) := by decide +kernel
theorem dX6_found_12 : decode cX6_found 12 = .ok (.aload_n 0, 1) := by decide +kernel
theorem dX6_found_13 : decode cX6_found 13 = .ok (.iload 6, 2) := by decide +kernel
theorem dX6_found_15 : decode cX6_found 15 = .ok (.iload_n 1, 1) := by decide +kernel
theorem dX6_found_16 : decode cX6_found 16 = .ok (.iload_n 2, 1) := by decide +kernel
theorem dX6_found_17 : decode cX6_found 17 = .ok (.iload_n 3, 1) := by decide +kernel
theorem dX6_found_18 : decode cX6_found 18 = .ok (.iload 4, 2) := by decide +kernel
theorem dX6_found_20 : decode cX6_found 20 = .ok (.invokevirtual 97, 3) := by decide +kernel
theorem dX6_found_23 : decode cX6_found 23 = .ok (.ifCond .eq 76, 3) := by decide +kernel
theorem dX6_found_26 : decode cX6_found 26 = .ok (.iconst 0, 1) := by decide +kernel
theorem dX6_found_27 : decode cX6_found 27 = .ok (.istore 7, 2) := by decide +kernel
theorem dX6_found_29 : decode cX6_found 29 = .ok (.iconst 0, 1) := by decide +kernel
theorem dX6_found_30 : decode cX6_found 30 = .ok (.istore 8, 2) := by decide +kernel
theorem dX6_found_32 : decode cX6_found 32 = .ok (.iload 8, 2) := by decide +kernel
theorem dX6_found_34 : decode cX6_found 34 = .ok (.aload_n 0, 1) := by decide +kernel
theorem dX6_found_35 : decode cX6_found 35 = .ok (.getfield 60, 3) := by decide +kernel
theorem dX6_found_38 : decode cX6_found 38 = .ok (.if_icmp .ge 51, 3) := by decide +kernel
theorem dX6_found_41 : decode cX6_found 41 = .ok (.iload 7, 2) := by decide +kernel
theorem dX6_found_43 : decode cX6_found 43 = .ok (.iload 8, 2) := by decide +kernel
theorem dX6_found_45 : decode cX6_found 45 = .ok (.iload 6, 2) := by decide +kernel
theorem dX6_found_47 : decode cX6_found 47 = .ok (.if_icmp .eq 32, 3) := by decide +kernel
theorem dX6_found_50 : decode cX6_found 50 = .ok (.aload_n 0, 1) := by decide +kernel
theorem dX6_found_51 : decode cX6_found 51 = .ok (.iload 8, 2) := by decide +kernel
theorem dX6_found_53 : decode cX6_found 53 = .ok (.iload 6, 2) := by decide +kernel
theorem dX6_found_55 : decode cX6_found 55 = .ok (.invokevirtual 101, 3) := by decide +kernel
theorem dX6_found_58 : decode cX6_found 58 = .ok (.ifCond .eq 21, 3) := by decide +kernel
theorem dX6_found_61 : decode cX6_found 61 = .ok (.aload_n 0, 1) := by decide +kernel
theorem dX6_found_62 : decode cX6_found 62 = .ok (.iload 8, 2) := by decide +kernel
theorem dX6_found_64 : decode cX6_found 64 = .ok (.iload_n 1, 1) := by decide +kernel
theorem dX6_found_65 : decode cX6_found 65 = .ok (.iload_n 2, 1) := by decide +kernel
theorem dX6_found_66 : decode cX6_found 66 = .ok (.iload_n 3, 1) := by decide +kernel
theorem dX6_found_67 : decode cX6_found 67 = .ok (.iload 4, 2) := by decide +kernel
theorem dX6_found_69 : decode cX6_found 69 = .ok (.invokevirtual 97, 3) := by decide +kernel
theorem dX6_found_72 : decode cX6_found 72 = .ok (.ifCond .eq 7, 3) := by decide +kernel
theorem dX6_found_75 : decode cX6_found 75 = .ok (.iconst 1, 1) := by decide +kernel
theorem dX6_found_76 : decode cX6_found 76 = .ok (.goto 4, 3) := by decide +kernel
theorem dX6_found_79 : decode cX6_found 79 = .ok (.iconst 0, 1) := by decide +kernel
theorem dX6_found_80 : decode cX6_found 80 = .ok (.iadd, 1) := by decide +kernel
theorem dX6_found_81 : decode cX6_found 81 = .ok (.istore 7, 2) := by decide +kernel
theorem dX6_found_83 : decode cX6_found 83 = .ok (.iinc 8 1, 3) := by decide +kernel
theorem dX6_found_86 : decode cX6_found 86 = .ok (.goto (-54), 3) := by decide +kernel
theorem dX6_found_89 : decode cX6_found 89 = .ok (.iload 7, 2) := by decide +kernel
theorem dX6_found_91 : decode cX6_found 91 = .ok (.iload 5, 2) := by decide +kernel
theorem dX6_found_93 : decode cX6_found 93 = .ok (.if_icmp .ne 6, 3) := by decide +kernel
theorem dX6_found_96 : decode cX6_found 96 = .ok (.iload 6, 2) := by decide +kernel
theorem dX6_found_98 : decode cX6_found 98 = .ok (.ireturn, 1) := by decide +kernel
theorem dX6_found_99 : decode cX6_found 99 = .ok (.iinc 6 1, 3) := by decide +kernel
theorem dX6_found_102 : decode cX6_found 102 = .ok (.goto (-99), 3) := by decide +kernel
theorem dX6_found_105 : decode cX6_found 105 = .ok (.iconst (-1), 1) := by decide +kernel
theorem dX6_found_106 : decode cX6_found 106 = .ok (.ireturn, 1) := by decide +kernel
theorem dX6_find_0 : decode cX6_find 0 = .ok (.aload_n 0, 1) := by decide +kernel
theorem dX6_find_1 : decode cX6_find 1 = .ok (.iload_n 3, 1) := by decide +kernel
theorem dX6_find_2 : decode cX6_find 2 = .ok (.iconst (-1), 1) := by decide +kernel
theorem dX6_find_3 : decode cX6_find 3 = .ok (.bipush 99, 2) := by decide +kernel
theorem dX6_find_5 : decode cX6_find 5 = .ok (.invokestatic 63, 3) := by decide +kernel
theorem dX6_find_8 : decode cX6_find 8 = .ok (.ifCond .eq 14, 3) := by decide +kernel
theorem dX6_find_11 : decode cX6_find 11 = .ok (.iload 4, 2) := by decide +kernel
theorem dX6_find_13 : decode cX6_find 13 = .ok (.iconst (-1), 1) := by decide +kernel
theorem dX6_find_14 : decode cX6_find 14 = .ok (.bipush 49, 2) := by decide +kernel
theorem dX6_find_16 : decode cX6_find 16 = .ok (.invokestatic 63, 3) := by decide +kernel
theorem dX6_find_19 : decode cX6_find 19 = .ok (.ifCond .ne 7, 3) := by decide +kernel
theorem dX6_find_22 : decode cX6_find 22 = .ok (.iconst 1, 1) := by decide +kernel
theorem dX6_find_23 : decode cX6_find 23 = .ok (.goto 4, 3) := by decide +kernel
theorem dX6_find_26 : decode cX6_find 26 = .ok (.iconst 0, 1) := by decide +kernel
theorem dX6_find_27 : decode cX6_find 27 = .ok (.iload 5, 2) := by decide +kernel
theorem dX6_find_29 : decode cX6_find 29 = .ok (.ifCond .ge 7, 3) := by decide +kernel
theorem dX6_find_32 : decode cX6_find 32 = .ok (.iconst 1, 1) := by decide +kernel
theorem dX6_find_33 : decode cX6_find 33 = .ok (.goto 4, 3) := by decide +kernel
theorem dX6_find_36 : decode cX6_find 36 = .ok (.iconst 0, 1) := by decide +kernel
theorem dX6_find_37 : decode cX6_find 37 = .ok (.iconst 0, 1) := by decide +kernel
theorem dX6_find_38 : decode cX6_find 38 = .ok (.invokevirtual 73, 3) := by decide +kernel
theorem dX6_find_41 : decode cX6_find 41 = .ok (.ifCond .eq 5, 3) := by decide +kernel
theorem dX6_find_44 : decode cX6_find 44 = .ok (.iconst 0, 1) := by decide +kernel
theorem dX6_find_45 : decode cX6_find 45 = .ok (.ireturn, 1) := by decide +kernel
theorem dX6_find_46 : decode cX6_find 46 = .ok (.aload_n 0, 1) := by decide +kernel
theorem dX6_find_47 : decode cX6_find 47 = .ok (.iload_n 1, 1) := by decide +kernel
theorem dX6_find_48 : decode cX6_find 48 = .ok (.iload_n 2, 1) := by decide +kernel
theorem dX6_find_49 : decode cX6_find 49 = .ok (.iload_n 3, 1) := by decide +kernel
theorem dX6_find_50 : decode cX6_find 50 = .ok (.iload 4, 2) := by decide +kernel
theorem dX6_find_52 : decode cX6_find 52 = .ok (.iload 5, 2) := by decide +kernel
theorem dX6_find_54 : decode cX6_find 54 = .ok (.invokevirtual 105, 3) := by decide +kernel
theorem dX6_find_57 : decode cX6_find 57 = .ok (.ireturn, 1) := by decide +kernel
theorem dX6_isGone_0 : decode cX6_isGone 0 = .ok (.aload_n 0, 1) := by decide +kernel
theorem dX6_isGone_1 : decode cX6_isGone 1 = .ok (.iload_n 1, 1) := by decide +kernel
theorem dX6_isGone_2 : decode cX6_isGone 2 = .ok (.invokevirtual 109, 3) := by decide +kernel
theorem dX6_isGone_5 : decode cX6_isGone 5 = .ok (.ifCond .eq 16, 3) := by decide +kernel
theorem dX6_isGone_8 : decode cX6_isGone 8 = .ok (.aload_n 0, 1) := by decide +kernel
theorem dX6_isGone_9 : decode cX6_isGone 9 = .ok (.getfield 31, 3) := by decide +kernel
theorem dX6_isGone_12 : decode cX6_isGone 12 = .ok (.iload_n 1, 1) := by decide +kernel
theorem dX6_isGone_13 : decode cX6_isGone 13 = .ok (.baload, 1) := by decide +kernel
theorem dX6_isGone_14 : decode cX6_isGone 14 = .ok (.ifCond .eq 7, 3) := by decide +kernel
theorem dX6_isGone_17 : decode cX6_isGone 17 = .ok (.iconst 1, 1) := by decide +kernel
theorem dX6_isGone_18 : decode cX6_isGone 18 = .ok (.goto 4, 3) := by decide +kernel
theorem dX6_isGone_21 : decode cX6_isGone 21 = .ok (.iconst 0, 1) := by decide +kernel
theorem dX6_isGone_22 : decode cX6_isGone 22 = .ok (.ireturn, 1) := by decide +kernel
theorem dX6_time_0 : decode cX6_time 0 = .ok (.aload_n 0, 1) := by decide +kernel
theorem dX6_time_1 : decode cX6_time 1 = .ok (.aload_n 0, 1) := by decide +kernel
theorem dX6_time_2 : decode cX6_time 2 = .ok (.iload_n 1, 1) := by decide +kernel
theorem dX6_time_3 : decode cX6_time 3 = .ok (.invokevirtual 109, 3) := by decide +kernel
theorem dX6_time_6 : decode cX6_time 6 = .ok (.ifCond .ne 7, 3) := by decide +kernel
theorem dX6_time_9 : decode cX6_time 9 = .ok (.iconst 1, 1) := by decide +kernel
theorem dX6_time_10 : decode cX6_time 10 = .ok (.goto 4, 3) := by decide +kernel
theorem dX6_time_13 : decode cX6_time 13 = .ok (.iconst 0, 1) := by decide +kernel
theorem dX6_time_14 : decode cX6_time 14 = .ok (.aload_n 0, 1) := by decide +kernel
theorem dX6_time_15 : decode cX6_time 15 = .ok (.iload_n 1, 1) := by decide +kernel
theorem dX6_time_16 : decode cX6_time 16 = .ok (.invokevirtual 113, 3) := by decide +kernel
theorem dX6_time_19 : decode cX6_time 19 = .ok (.iconst 0, 1) := by decide +kernel
theorem dX6_time_20 : decode cX6_time 20 = .ok (.invokevirtual 73, 3) := by decide +kernel
theorem dX6_time_23 : decode cX6_time 23 = .ok (.ifCond .eq 5, 3) := by decide +kernel
theorem dX6_time_26 : decode cX6_time 26 = .ok (.iconst 0, 1) := by decide +kernel
theorem dX6_time_27 : decode cX6_time 27 = .ok (.ireturn, 1) := by decide +kernel
theorem dX6_time_28 : decode cX6_time 28 = .ok (.aload_n 0, 1) := by decide +kernel
theorem dX6_time_29 : decode cX6_time 29 = .ok (.iload_n 1, 1) := by decide +kernel
theorem dX6_time_30 : decode cX6_time 30 = .ok (.invokevirtual 90, 3) := by decide +kernel
theorem dX6_time_33 : decode cX6_time 33 = .ok (.ireturn, 1) := by decide +kernel
theorem dX6_sum_0 : decode cX6_sum 0 = .ok (.aload_n 0, 1) := by decide +kernel
theorem dX6_sum_1 : decode cX6_sum 1 = .ok (.aload_n 0, 1) := by decide +kernel
theorem dX6_sum_2 : decode cX6_sum 2 = .ok (.iload_n 1, 1) := by decide +kernel
theorem dX6_sum_3 : decode cX6_sum 3 = .ok (.invokevirtual 109, 3) := by decide +kernel
theorem dX6_sum_6 : decode cX6_sum 6 = .ok (.ifCond .ne 7, 3) := by decide +kernel
theorem dX6_sum_9 : decode cX6_sum 9 = .ok (.iconst 1, 1) := by decide +kernel
theorem dX6_sum_10 : decode cX6_sum 10 = .ok (.goto 4, 3) := by decide +kernel
theorem dX6_sum_13 : decode cX6_sum 13 = .ok (.iconst 0, 1) := by decide +kernel
theorem dX6_sum_14 : decode cX6_sum 14 = .ok (.aload_n 0, 1) := by decide +kernel
theorem dX6_sum_15 : decode cX6_sum 15 = .ok (.iload_n 1, 1) := by decide +kernel
theorem dX6_sum_16 : decode cX6_sum 16 = .ok (.invokevirtual 113, 3) := by decide +kernel
theorem dX6_sum_19 : decode cX6_sum 19 = .ok (.iconst 0, 1) := by decide +kernel
theorem dX6_sum_20 : decode cX6_sum 20 = .ok (.invokevirtual 73, 3) := by decide +kernel
theorem dX6_sum_23 : decode cX6_sum 23 = .ok (.ifCond .eq 5, 3) := by decide +kernel
theorem dX6_sum_26 : decode cX6_sum 26 = .ok (.iconst 0, 1) := by decide +kernel
theorem dX6_sum_27 : decode cX6_sum 27 = .ok (.ireturn, 1) := by decide +kernel
theorem dX6_sum_28 : decode cX6_sum 28 = .ok (.aload_n 0, 1) := by decide +kernel
theorem dX6_sum_29 : decode cX6_sum 29 = .ok (.iload_n 1, 1) := by decide +kernel
theorem dX6_sum_30 : decode cX6_sum 30 = .ok (.invokevirtual 77, 3) := by decide +kernel
theorem dX6_sum_33 : decode cX6_sum 33 = .ok (.ireturn, 1) := by decide +kernel
theorem dX6_sumWithin_0 : decode cX6_sumWithin 0 = .ok (.iload_n 1, 1) := by decide +kernel
theorem dX6_sumWithin_1 : decode cX6_sumWithin 1 = .ok (.istore 5, 2) := by decide +kernel
theorem dX6_sumWithin_3 : decode cX6_sumWithin 3 = .ok (.iconst 0, 1) := by decide +kernel
theorem dX6_sumWithin_4 : decode cX6_sumWithin 4 = .ok (.istore 6, 2) := by decide +kernel
theorem dX6_sumWithin_6 : decode cX6_sumWithin 6 = .ok (.iload 6, 2) := by decide +kernel
theorem dX6_sumWithin_8 : decode cX6_sumWithin 8 = .ok (.aload_n 0, 1) := by decide +kernel
theorem dX6_sumWithin_9 : decode cX6_sumWithin 9 = .ok (.getfield 16, 3) := by decide +kernel
theorem dX6_sumWithin_12 : decode cX6_sumWithin 12 = .ok (.iload_n 2, 1) := by decide +kernel
theorem dX6_sumWithin_13 : decode cX6_sumWithin 13 = .ok (.iaload, 1) := by decide +kernel
theorem dX6_sumWithin_14 : decode cX6_sumWithin 14 = .ok (.if_icmp .ge 53, 3) := by decide +kernel
theorem dX6_sumWithin_17 : decode cX6_sumWithin 17 = .ok (.aload_n 0, 1) := by decide +kernel
theorem dX6_sumWithin_18 : decode cX6_sumWithin 18 = .ok (.iload_n 2, 1) := by decide +kernel
theorem dX6_sumWithin_19 : decode cX6_sumWithin 19 = .ok (.invokevirtual 90, 3) := by decide +kernel
theorem dX6_sumWithin_22 : decode cX6_sumWithin 22 = .ok (.iload 6, 2) := by decide +kernel
theorem dX6_sumWithin_24 : decode cX6_sumWithin 24 = .ok (.iadd, 1) := by decide +kernel
theorem dX6_sumWithin_25 : decode cX6_sumWithin 25 = .ok (.iload_n 3, 1) := by decide +kernel
theorem dX6_sumWithin_26 : decode cX6_sumWithin 26 = .ok (.if_icmp .lt 35, 3) := by decide +kernel
theorem dX6_sumWithin_29 : decode cX6_sumWithin 29 = .ok (.aload_n 0, 1) := by decide +kernel
theorem dX6_sumWithin_30 : decode cX6_sumWithin 30 = .ok (.iload_n 2, 1) := by decide +kernel
theorem dX6_sumWithin_31 : decode cX6_sumWithin 31 = .ok (.invokevirtual 90, 3) := by decide +kernel
theorem dX6_sumWithin_34 : decode cX6_sumWithin 34 = .ok (.iload 6, 2) := by decide +kernel
theorem dX6_sumWithin_36 : decode cX6_sumWithin 36 = .ok (.iadd, 1) := by decide +kernel
theorem dX6_sumWithin_37 : decode cX6_sumWithin 37 = .ok (.iload 4, 2) := by decide +kernel
theorem dX6_sumWithin_39 : decode cX6_sumWithin 39 = .ok (.if_icmp .ge 22, 3) := by decide +kernel
theorem dX6_sumWithin_42 : decode cX6_sumWithin 42 = .ok (.iload 5, 2) := by decide +kernel
theorem dX6_sumWithin_44 : decode cX6_sumWithin 44 = .ok (.aload_n 0, 1) := by decide +kernel
theorem dX6_sumWithin_45 : decode cX6_sumWithin 45 = .ok (.getfield 19, 3) := by decide +kernel
theorem dX6_sumWithin_48 : decode cX6_sumWithin 48 = .ok (.bipush 8, 2) := by decide +kernel
theorem dX6_sumWithin_50 : decode cX6_sumWithin 50 = .ok (.iload_n 2, 1) := by decide +kernel
theorem dX6_sumWithin_51 : decode cX6_sumWithin 51 = .ok (.imul, 1) := by decide +kernel
theorem dX6_sumWithin_52 : decode cX6_sumWithin 52 = .ok (.iload 6, 2) := by decide +kernel
theorem dX6_sumWithin_54 : decode cX6_sumWithin 54 = .ok (.iadd, 1) := by decide +kernel
theorem dX6_sumWithin_55 : decode cX6_sumWithin 55 = .ok (.iaload, 1) := by decide +kernel
theorem dX6_sumWithin_56 : decode cX6_sumWithin 56 = .ok (.invokestatic 68, 3) := by decide +kernel
theorem dX6_sumWithin_59 : decode cX6_sumWithin 59 = .ok (.istore 5, 2) := by decide +kernel
theorem dX6_sumWithin_61 : decode cX6_sumWithin 61 = .ok (.iinc 6 1, 3) := by decide +kernel
theorem dX6_sumWithin_64 : decode cX6_sumWithin 64 = .ok (.goto (-58), 3) := by decide +kernel
theorem dX6_sumWithin_67 : decode cX6_sumWithin 67 = .ok (.iload 5, 2) := by decide +kernel
theorem dX6_sumWithin_69 : decode cX6_sumWithin 69 = .ok (.ireturn, 1) := by decide +kernel
theorem dX6_part_0 : decode cX6_part 0 = .ok (.aload_n 0, 1) := by decide +kernel
theorem dX6_part_1 : decode cX6_part 1 = .ok (.aload_n 0, 1) := by decide +kernel
theorem dX6_part_2 : decode cX6_part 2 = .ok (.iload_n 1, 1) := by decide +kernel
theorem dX6_part_3 : decode cX6_part 3 = .ok (.invokevirtual 109, 3) := by decide +kernel
theorem dX6_part_6 : decode cX6_part 6 = .ok (.ifCond .ne 7, 3) := by decide +kernel
theorem dX6_part_9 : decode cX6_part 9 = .ok (.iconst 1, 1) := by decide +kernel
theorem dX6_part_10 : decode cX6_part 10 = .ok (.goto 4, 3) := by decide +kernel
theorem dX6_part_13 : decode cX6_part 13 = .ok (.iconst 0, 1) := by decide +kernel
theorem dX6_part_14 : decode cX6_part 14 = .ok (.aload_n 0, 1) := by decide +kernel
theorem dX6_part_15 : decode cX6_part 15 = .ok (.iload_n 1, 1) := by decide +kernel
theorem dX6_part_16 : decode cX6_part 16 = .ok (.invokevirtual 113, 3) := by decide +kernel
theorem dX6_part_19 : decode cX6_part 19 = .ok (.iconst 0, 1) := by decide +kernel
theorem dX6_part_20 : decode cX6_part 20 = .ok (.invokevirtual 73, 3) := by decide +kernel
theorem dX6_part_23 : decode cX6_part 23 = .ok (.ifCond .eq 5, 3) := by decide +kernel
theorem dX6_part_26 : decode cX6_part 26 = .ok (.iconst 0, 1) := by decide +kernel
theorem dX6_part_27 : decode cX6_part 27 = .ok (.ireturn, 1) := by decide +kernel
theorem dX6_part_28 : decode cX6_part 28 = .ok (.aload_n 0, 1) := by decide +kernel
theorem dX6_part_29 : decode cX6_part 29 = .ok (.iconst 0, 1) := by decide +kernel
theorem dX6_part_30 : decode cX6_part 30 = .ok (.iload_n 1, 1) := by decide +kernel
theorem dX6_part_31 : decode cX6_part 31 = .ok (.iload_n 2, 1) := by decide +kernel
theorem dX6_part_32 : decode cX6_part 32 = .ok (.iload_n 3, 1) := by decide +kernel
theorem dX6_part_33 : decode cX6_part 33 = .ok (.invokevirtual 116, 3) := by decide +kernel
theorem dX6_part_36 : decode cX6_part 36 = .ok (.ireturn, 1) := by decide +kernel
theorem dX6_size_0 : decode cX6_size 0 = .ok (.aload_n 0, 1) := by decide +kernel
theorem dX6_size_1 : decode cX6_size 1 = .ok (.iconst 0, 1) := by decide +kernel
theorem dX6_size_2 : decode cX6_size 2 = .ok (.putfield 56, 3) := by decide +kernel
theorem dX6_size_5 : decode cX6_size 5 = .ok (.iconst 0, 1) := by decide +kernel
theorem dX6_size_6 : decode cX6_size 6 = .ok (.istore_n 3, 1) := by decide +kernel
theorem dX6_size_7 : decode cX6_size 7 = .ok (.iconst 0, 1) := by decide +kernel
theorem dX6_size_8 : decode cX6_size 8 = .ok (.istore 4, 2) := by decide +kernel
theorem dX6_size_10 : decode cX6_size 10 = .ok (.iload 4, 2) := by decide +kernel
theorem dX6_size_12 : decode cX6_size 12 = .ok (.aload_n 0, 1) := by decide +kernel
theorem dX6_size_13 : decode cX6_size 13 = .ok (.getfield 60, 3) := by decide +kernel
theorem dX6_size_16 : decode cX6_size 16 = .ok (.if_icmp .ge 34, 3) := by decide +kernel
theorem dX6_size_19 : decode cX6_size 19 = .ok (.iload_n 3, 1) := by decide +kernel
theorem dX6_size_20 : decode cX6_size 20 = .ok (.aload_n 0, 1) := by decide +kernel
theorem dX6_size_21 : decode cX6_size 21 = .ok (.getfield 31, 3) := by decide +kernel
theorem dX6_size_24 : decode cX6_size 24 = .ok (.iload 4, 2) := by decide +kernel
theorem dX6_size_26 : decode cX6_size 26 = .ok (.baload, 1) := by decide +kernel
theorem dX6_size_27 : decode cX6_size 27 = .ok (.ifCond .eq 7, 3) := by decide +kernel
theorem dX6_size_30 : decode cX6_size 30 = .ok (.iconst 0, 1) := by decide +kernel
theorem dX6_size_31 : decode cX6_size 31 = .ok (.goto 11, 3) := by decide +kernel
theorem dX6_size_34 : decode cX6_size 34 = .ok (.aload_n 0, 1) := by decide +kernel
theorem dX6_size_35 : decode cX6_size 35 = .ok (.iload 4, 2) := by decide +kernel
theorem dX6_size_37 : decode cX6_size 37 = .ok (.iload_n 1, 1) := by decide +kernel
theorem dX6_size_38 : decode cX6_size 38 = .ok (.iload_n 2, 1) := by decide +kernel
theorem dX6_size_39 : decode cX6_size 39 = .ok (.invokevirtual 93, 3) := by decide +kernel
theorem dX6_size_42 : decode cX6_size 42 = .ok (.iadd, 1) := by decide +kernel
theorem dX6_size_43 : decode cX6_size 43 = .ok (.istore_n 3, 1) := by decide +kernel
theorem dX6_size_44 : decode cX6_size 44 = .ok (.iinc 4 1, 3) := by decide +kernel
theorem dX6_size_47 : decode cX6_size 47 = .ok (.goto (-37), 3) := by decide +kernel
theorem dX6_size_50 : decode cX6_size 50 = .ok (.iload_n 3, 1) := by decide +kernel
theorem dX6_size_51 : decode cX6_size 51 = .ok (.ireturn, 1) := by decide +kernel
theorem dX6_export_0 : decode cX6_export 0 = .ok (.aload_n 0, 1) := by decide +kernel
theorem dX6_export_1 : decode cX6_export 1 = .ok (.iconst 0, 1) := by decide +kernel
theorem dX6_export_2 : decode cX6_export 2 = .ok (.putfield 56, 3) := by decide +kernel
theorem dX6_export_5 : decode cX6_export 5 = .ok (.iconst 0, 1) := by decide +kernel
theorem dX6_export_6 : decode cX6_export 6 = .ok (.istore_n 3, 1) := by decide +kernel
theorem dX6_export_7 : decode cX6_export 7 = .ok (.iconst 0, 1) := by decide +kernel
theorem dX6_export_8 : decode cX6_export 8 = .ok (.istore 4, 2) := by decide +kernel
theorem dX6_export_10 : decode cX6_export 10 = .ok (.aload_n 0, 1) := by decide +kernel
theorem dX6_export_11 : decode cX6_export 11 = .ok (.iload_n 1, 1) := by decide +kernel
theorem dX6_export_12 : decode cX6_export 12 = .ok (.iload_n 2, 1) := by decide +kernel
theorem dX6_export_13 : decode cX6_export 13 = .ok (.iconst (-1), 1) := by decide +kernel
theorem dX6_export_14 : decode cX6_export 14 = .ok (.iconst (-1), 1) := by decide +kernel
theorem dX6_export_15 : decode cX6_export 15 = .ok (.iconst 0, 1) := by decide +kernel
theorem dX6_export_16 : decode cX6_export 16 = .ok (.invokevirtual 105, 3) := by decide +kernel
theorem dX6_export_19 : decode cX6_export 19 = .ok (.istore 5, 2) := by decide +kernel
theorem dX6_export_21 : decode cX6_export 21 = .ok (.iload 5, 2) := by decide +kernel
theorem dX6_export_23 : decode cX6_export 23 = .ok (.ifCond .lt 31, 3) := by decide +kernel
theorem dX6_export_26 : decode cX6_export 26 = .ok (.aload_n 0, 1) := by decide +kernel
theorem dX6_export_27 : decode cX6_export 27 = .ok (.iload_n 3, 1) := by decide +kernel
theorem dX6_export_28 : decode cX6_export 28 = .ok (.iload 5, 2) := by decide +kernel
theorem dX6_export_30 : decode cX6_export 30 = .ok (.iload_n 1, 1) := by decide +kernel
theorem dX6_export_31 : decode cX6_export 31 = .ok (.iload_n 2, 1) := by decide +kernel
theorem dX6_export_32 : decode cX6_export 32 = .ok (.invokevirtual 116, 3) := by decide +kernel
theorem dX6_export_35 : decode cX6_export 35 = .ok (.istore_n 3, 1) := by decide +kernel
theorem dX6_export_36 : decode cX6_export 36 = .ok (.iinc 4 1, 3) := by decide +kernel
theorem dX6_export_39 : decode cX6_export 39 = .ok (.aload_n 0, 1) := by decide +kernel
theorem dX6_export_40 : decode cX6_export 40 = .ok (.iload_n 1, 1) := by decide +kernel
theorem dX6_export_41 : decode cX6_export 41 = .ok (.iload_n 2, 1) := by decide +kernel
theorem dX6_export_42 : decode cX6_export 42 = .ok (.iconst (-1), 1) := by decide +kernel
theorem dX6_export_43 : decode cX6_export 43 = .ok (.iconst (-1), 1) := by decide +kernel
theorem dX6_export_44 : decode cX6_export 44 = .ok (.iload 4, 2) := by decide +kernel
theorem dX6_export_46 : decode cX6_export 46 = .ok (.invokevirtual 105, 3) := by decide +kernel
theorem dX6_export_49 : decode cX6_export 49 = .ok (.istore 5, 2) := by decide +kernel
theorem dX6_export_51 : decode cX6_export 51 = .ok (.goto (-30), 3) := by decide +kernel
theorem dX6_export_54 : decode cX6_export 54 = .ok (.iload_n 3, 1) := by decide +kernel
theorem dX6_export_55 : decode cX6_export 55 = .ok (.ireturn, 1) := by decide +kernel
theorem dX6_hold_0 : decode cX6_hold 0 = .ok (.iload_n 1, 1) := by decide +kernel
theorem dX6_hold_1 : decode cX6_hold 1 = .ok (.iconst 0, 1) := by decide +kernel
theorem dX6_hold_2 : decode cX6_hold 2 = .ok (.bipush 49, 2) := by decide +kernel
theorem dX6_hold_4 : decode cX6_hold 4 = .ok (.invokestatic 63, 3) := by decide +kernel
theorem dX6_hold_7 : decode cX6_hold 7 = .ok (.ifCond .ne 7, 3) := by decide +kernel
theorem dX6_hold_10 : decode cX6_hold 10 = .ok (.iconst 1, 1) := by decide +kernel
theorem dX6_hold_11 : decode cX6_hold 11 = .ok (.goto 4, 3) := by decide +kernel
theorem dX6_hold_14 : decode cX6_hold 14 = .ok (.iconst 0, 1) := by decide +kernel
theorem dX6_hold_15 : decode cX6_hold 15 = .ok (.istore_n 3, 1) := by decide +kernel
theorem dX6_hold_16 : decode cX6_hold 16 = .ok (.aload_n 0, 1) := by decide +kernel
theorem dX6_hold_17 : decode cX6_hold 17 = .ok (.iload_n 3, 1) := by decide +kernel
theorem dX6_hold_18 : decode cX6_hold 18 = .ok (.iload_n 3, 1) := by decide +kernel
theorem dX6_hold_19 : decode cX6_hold 19 = .ok (.ifCond .ne 17, 3) := by decide +kernel
theorem dX6_hold_22 : decode cX6_hold 22 = .ok (.aload_n 0, 1) := by decide +kernel
theorem dX6_hold_23 : decode cX6_hold 23 = .ok (.getfield 41, 3) := by decide +kernel
theorem dX6_hold_26 : decode cX6_hold 26 = .ok (.iload_n 1, 1) := by decide +kernel
theorem dX6_hold_27 : decode cX6_hold 27 = .ok (.baload, 1) := by decide +kernel
theorem dX6_hold_28 : decode cX6_hold 28 = .ok (.iload_n 2, 1) := by decide +kernel
theorem dX6_hold_29 : decode cX6_hold 29 = .ok (.if_icmp .ne 7, 3) := by decide +kernel
theorem dX6_hold_32 : decode cX6_hold 32 = .ok (.iconst 1, 1) := by decide +kernel
theorem dX6_hold_33 : decode cX6_hold 33 = .ok (.goto 4, 3) := by decide +kernel
theorem dX6_hold_36 : decode cX6_hold 36 = .ok (.iconst 0, 1) := by decide +kernel
theorem dX6_hold_37 : decode cX6_hold 37 = .ok (.iconst 0, 1) := by decide +kernel
theorem dX6_hold_38 : decode cX6_hold 38 = .ok (.invokevirtual 73, 3) := by decide +kernel
theorem dX6_hold_41 : decode cX6_hold 41 = .ok (.ifCond .eq 4, 3) := by decide +kernel
theorem dX6_hold_44 : decode cX6_hold 44 = .ok (.return_, 1) := by decide +kernel
theorem dX6_hold_45 : decode cX6_hold 45 = .ok (.aload_n 0, 1) := by decide +kernel
theorem dX6_hold_46 : decode cX6_hold 46 = .ok (.getfield 41, 3) := by decide +kernel
theorem dX6_hold_49 : decode cX6_hold 49 = .ok (.iload_n 1, 1) := by decide +kernel
theorem dX6_hold_50 : decode cX6_hold 50 = .ok (.iload_n 2, 1) := by decide +kernel
theorem dX6_hold_51 : decode cX6_hold 51 = .ok (.bastore, 1) := by decide +kernel
theorem dX6_hold_52 : decode cX6_hold 52 = .ok (.return_, 1) := by decide +kernel
theorem dX6_drop_0 : decode cX6_drop 0 = .ok (.aload_n 0, 1) := by decide +kernel
theorem dX6_drop_1 : decode cX6_drop 1 = .ok (.aload_n 0, 1) := by decide +kernel
theorem dX6_drop_2 : decode cX6_drop 2 = .ok (.iload_n 1, 1) := by decide +kernel
theorem dX6_drop_3 : decode cX6_drop 3 = .ok (.invokevirtual 109, 3) := by decide +kernel
theorem dX6_drop_6 : decode cX6_drop 6 = .ok (.ifCond .ne 7, 3) := by decide +kernel
theorem dX6_drop_9 : decode cX6_drop 9 = .ok (.iconst 1, 1) := by decide +kernel
theorem dX6_drop_10 : decode cX6_drop 10 = .ok (.goto 4, 3) := by decide +kernel
theorem dX6_drop_13 : decode cX6_drop 13 = .ok (.iconst 0, 1) := by decide +kernel
theorem dX6_drop_14 : decode cX6_drop 14 = .ok (.aload_n 0, 1) := by decide +kernel
theorem dX6_drop_15 : decode cX6_drop 15 = .ok (.iload_n 1, 1) := by decide +kernel
theorem dX6_drop_16 : decode cX6_drop 16 = .ok (.invokevirtual 109, 3) := by decide +kernel
theorem dX6_drop_19 : decode cX6_drop 19 = .ok (.ifCond .eq 30, 3) := by decide +kernel
theorem dX6_drop_22 : decode cX6_drop 22 = .ok (.aload_n 0, 1) := by decide +kernel
theorem dX6_drop_23 : decode cX6_drop 23 = .ok (.getfield 31, 3) := by decide +kernel
theorem dX6_drop_26 : decode cX6_drop 26 = .ok (.iload_n 1, 1) := by decide +kernel
theorem dX6_drop_27 : decode cX6_drop 27 = .ok (.baload, 1) := by decide +kernel
theorem dX6_drop_28 : decode cX6_drop 28 = .ok (.ifCond .ne 17, 3) := by decide +kernel
theorem dX6_drop_31 : decode cX6_drop 31 = .ok (.aload_n 0, 1) := by decide +kernel
theorem dX6_drop_32 : decode cX6_drop 32 = .ok (.getfield 41, 3) := by decide +kernel
theorem dX6_drop_35 : decode cX6_drop 35 = .ok (.aload_n 0, 1) := by decide +kernel
theorem dX6_drop_36 : decode cX6_drop 36 = .ok (.getfield 25, 3) := by decide +kernel
theorem dX6_drop_39 : decode cX6_drop 39 = .ok (.iload_n 1, 1) := by decide +kernel
theorem dX6_drop_40 : decode cX6_drop 40 = .ok (.iaload, 1) := by decide +kernel
theorem dX6_drop_41 : decode cX6_drop 41 = .ok (.baload, 1) := by decide +kernel
theorem dX6_drop_42 : decode cX6_drop 42 = .ok (.ifCond .eq 7, 3) := by decide +kernel
theorem dX6_drop_45 : decode cX6_drop 45 = .ok (.iconst 1, 1) := by decide +kernel
theorem dX6_drop_46 : decode cX6_drop 46 = .ok (.goto 4, 3) := by decide +kernel
theorem dX6_drop_49 : decode cX6_drop 49 = .ok (.iconst 0, 1) := by decide +kernel
theorem dX6_drop_50 : decode cX6_drop 50 = .ok (.iconst 0, 1) := by decide +kernel
theorem dX6_drop_51 : decode cX6_drop 51 = .ok (.invokevirtual 73, 3) := by decide +kernel
theorem dX6_drop_54 : decode cX6_drop 54 = .ok (.ifCond .eq 5, 3) := by decide +kernel
theorem dX6_drop_57 : decode cX6_drop 57 = .ok (.iconst 0, 1) := by decide +kernel
theorem dX6_drop_58 : decode cX6_drop 58 = .ok (.ireturn, 1) := by decide +kernel
theorem dX6_drop_59 : decode cX6_drop 59 = .ok (.aload_n 0, 1) := by decide +kernel
theorem dX6_drop_60 : decode cX6_drop 60 = .ok (.getfield 31, 3) := by decide +kernel
theorem dX6_drop_63 : decode cX6_drop 63 = .ok (.iload_n 1, 1) := by decide +kernel
theorem dX6_drop_64 : decode cX6_drop 64 = .ok (.iconst 1, 1) := by decide +kernel
theorem dX6_drop_65 : decode cX6_drop 65 = .ok (.bastore, 1) := by decide +kernel
theorem dX6_drop_66 : decode cX6_drop 66 = .ok (.aload_n 0, 1) := by decide +kernel
theorem dX6_drop_67 : decode cX6_drop 67 = .ok (.getfield 47, 3) := by decide +kernel
theorem dX6_drop_70 : decode cX6_drop 70 = .ok (.aload_n 0, 1) := by decide +kernel
theorem dX6_drop_71 : decode cX6_drop 71 = .ok (.getfield 120, 3) := by decide +kernel
theorem dX6_drop_74 : decode cX6_drop 74 = .ok (.iload_n 1, 1) := by decide +kernel
theorem dX6_drop_75 : decode cX6_drop 75 = .ok (.iastore, 1) := by decide +kernel
theorem dX6_drop_76 : decode cX6_drop 76 = .ok (.aload_n 0, 1) := by decide +kernel
theorem dX6_drop_77 : decode cX6_drop 77 = .ok (.getfield 50, 3) := by decide +kernel
theorem dX6_drop_80 : decode cX6_drop 80 = .ok (.aload_n 0, 1) := by decide +kernel
theorem dX6_drop_81 : decode cX6_drop 81 = .ok (.getfield 120, 3) := by decide +kernel
theorem dX6_drop_84 : decode cX6_drop 84 = .ok (.aload_n 0, 1) := by decide +kernel
theorem dX6_drop_85 : decode cX6_drop 85 = .ok (.iload_n 1, 1) := by decide +kernel
theorem dX6_drop_86 : decode cX6_drop 86 = .ok (.invokevirtual 77, 3) := by decide +kernel
theorem dX6_drop_89 : decode cX6_drop 89 = .ok (.iastore, 1) := by decide +kernel
theorem dX6_drop_90 : decode cX6_drop 90 = .ok (.aload_n 0, 1) := by decide +kernel
theorem dX6_drop_91 : decode cX6_drop 91 = .ok (.dup, 1) := by decide +kernel
theorem dX6_drop_92 : decode cX6_drop 92 = .ok (.getfield 120, 3) := by decide +kernel
theorem dX6_drop_95 : decode cX6_drop 95 = .ok (.iconst 1, 1) := by decide +kernel
theorem dX6_drop_96 : decode cX6_drop 96 = .ok (.iadd, 1) := by decide +kernel
theorem dX6_drop_97 : decode cX6_drop 97 = .ok (.putfield 120, 3) := by decide +kernel
theorem dX6_drop_100 : decode cX6_drop 100 = .ok (.aload_n 0, 1) := by decide +kernel
theorem dX6_drop_101 : decode cX6_drop 101 = .ok (.getfield 120, 3) := by decide +kernel
theorem dX6_drop_104 : decode cX6_drop 104 = .ok (.iconst 1, 1) := by decide +kernel
theorem dX6_drop_105 : decode cX6_drop 105 = .ok (.isub, 1) := by decide +kernel
theorem dX6_drop_106 : decode cX6_drop 106 = .ok (.ireturn, 1) := by decide +kernel
theorem dX6_certificate_0 : decode cX6_certificate 0 = .ok (.aload_n 0, 1) := by decide +kernel
theorem dX6_certificate_1 : decode cX6_certificate 1 = .ok (.iload_n 1, 1) := by decide +kernel
theorem dX6_certificate_2 : decode cX6_certificate 2 = .ok (.iconst 0, 1) := by decide +kernel
theorem dX6_certificate_3 : decode cX6_certificate 3 = .ok (.aload_n 0, 1) := by decide +kernel
theorem dX6_certificate_4 : decode cX6_certificate 4 = .ok (.getfield 120, 3) := by decide +kernel
theorem dX6_certificate_7 : decode cX6_certificate 7 = .ok (.iconst 1, 1) := by decide +kernel
theorem dX6_certificate_8 : decode cX6_certificate 8 = .ok (.isub, 1) := by decide +kernel
theorem dX6_certificate_9 : decode cX6_certificate 9 = .ok (.invokestatic 63, 3) := by decide +kernel
theorem dX6_certificate_12 : decode cX6_certificate 12 = .ok (.ifCond .eq 12, 3) := by decide +kernel
theorem dX6_certificate_15 : decode cX6_certificate 15 = .ok (.iload_n 2, 1) := by decide +kernel
theorem dX6_certificate_16 : decode cX6_certificate 16 = .ok (.iconst 0, 1) := by decide +kernel
theorem dX6_certificate_17 : decode cX6_certificate 17 = .ok (.iconst 2, 1) := by decide +kernel
theorem dX6_certificate_18 : decode cX6_certificate 18 = .ok (.invokestatic 63, 3) := by decide +kernel
theorem dX6_certificate_21 : decode cX6_certificate 21 = .ok (.ifCond .ne 7, 3) := by decide +kernel
theorem dX6_certificate_24 : decode cX6_certificate 24 = .ok (.iconst 1, 1) := by decide +kernel
theorem dX6_certificate_25 : decode cX6_certificate 25 = .ok (.goto 4, 3) := by decide +kernel
theorem dX6_certificate_28 : decode cX6_certificate 28 = .ok (.iconst 0, 1) := by decide +kernel
theorem dX6_certificate_29 : decode cX6_certificate 29 = .ok (.iconst 0, 1) := by decide +kernel
theorem dX6_certificate_30 : decode cX6_certificate 30 = .ok (.iconst 0, 1) := by decide +kernel
theorem dX6_certificate_31 : decode cX6_certificate 31 = .ok (.invokevirtual 73, 3) := by decide +kernel
theorem dX6_certificate_34 : decode cX6_certificate 34 = .ok (.ifCond .eq 5, 3) := by decide +kernel
theorem dX6_certificate_37 : decode cX6_certificate 37 = .ok (.iconst 0, 1) := by decide +kernel
theorem dX6_certificate_38 : decode cX6_certificate 38 = .ok (.ireturn, 1) := by decide +kernel
theorem dX6_certificate_39 : decode cX6_certificate 39 = .ok (.iload_n 2, 1) := by decide +kernel
theorem dX6_certificate_40 : decode cX6_certificate 40 = .ok (.ifCond .ne 12, 3) := by decide +kernel
theorem dX6_certificate_43 : decode cX6_certificate 43 = .ok (.aload_n 0, 1) := by decide +kernel
theorem dX6_certificate_44 : decode cX6_certificate 44 = .ok (.getfield 47, 3) := by decide +kernel
theorem dX6_certificate_47 : decode cX6_certificate 47 = .ok (.iload_n 1, 1) := by decide +kernel
theorem dX6_certificate_48 : decode cX6_certificate 48 = .ok (.iaload, 1) := by decide +kernel
theorem dX6_certificate_49 : decode cX6_certificate 49 = .ok (.goto 28, 3) := by decide +kernel
theorem dX6_certificate_52 : decode cX6_certificate 52 = .ok (.iload_n 2, 1) := by decide +kernel
theorem dX6_certificate_53 : decode cX6_certificate 53 = .ok (.iconst 1, 1) := by decide +kernel
theorem dX6_certificate_54 : decode cX6_certificate 54 = .ok (.if_icmp .ne 17, 3) := by decide +kernel
theorem dX6_certificate_57 : decode cX6_certificate 57 = .ok (.aload_n 0, 1) := by decide +kernel
theorem dX6_certificate_58 : decode cX6_certificate 58 = .ok (.getfield 28, 3) := by decide +kernel
theorem dX6_certificate_61 : decode cX6_certificate 61 = .ok (.aload_n 0, 1) := by decide +kernel
theorem dX6_certificate_62 : decode cX6_certificate 62 = .ok (.getfield 47, 3) := by decide +kernel
theorem dX6_certificate_65 : decode cX6_certificate 65 = .ok (.iload_n 1, 1) := by decide +kernel
theorem dX6_certificate_66 : decode cX6_certificate 66 = .ok (.iaload, 1) := by decide +kernel
theorem dX6_certificate_67 : decode cX6_certificate 67 = .ok (.iaload, 1) := by decide +kernel
theorem dX6_certificate_68 : decode cX6_certificate 68 = .ok (.goto 9, 3) := by decide +kernel
theorem dX6_certificate_71 : decode cX6_certificate 71 = .ok (.aload_n 0, 1) := by decide +kernel
theorem dX6_certificate_72 : decode cX6_certificate 72 = .ok (.getfield 50, 3) := by decide +kernel
theorem dX6_certificate_75 : decode cX6_certificate 75 = .ok (.iload_n 1, 1) := by decide +kernel
theorem dX6_certificate_76 : decode cX6_certificate 76 = .ok (.iaload, 1) := by decide +kernel
theorem dX6_certificate_77 : decode cX6_certificate 77 = .ok (.ireturn, 1) := by decide +kernel
theorem dX6_right_0 : decode cX6_right 0 = .ok (.aload_n 0, 1) := by decide +kernel
theorem dX6_right_1 : decode cX6_right 1 = .ok (.iload_n 1, 1) := by decide +kernel
theorem dX6_right_2 : decode cX6_right 2 = .ok (.iconst 0, 1) := by decide +kernel
theorem dX6_right_3 : decode cX6_right 3 = .ok (.bipush 19, 2) := by decide +kernel
theorem dX6_right_5 : decode cX6_right 5 = .ok (.invokestatic 63, 3) := by decide +kernel
theorem dX6_right_8 : decode cX6_right 8 = .ok (.ifCond .eq 13, 3) := by decide +kernel
theorem dX6_right_11 : decode cX6_right 11 = .ok (.iload_n 2, 1) := by decide +kernel
theorem dX6_right_12 : decode cX6_right 12 = .ok (.iconst 0, 1) := by decide +kernel
theorem dX6_right_13 : decode cX6_right 13 = .ok (.bipush 49, 2) := by decide +kernel
theorem dX6_right_15 : decode cX6_right 15 = .ok (.invokestatic 63, 3) := by decide +kernel
theorem dX6_right_18 : decode cX6_right 18 = .ok (.ifCond .ne 7, 3) := by decide +kernel
theorem dX6_right_21 : decode cX6_right 21 = .ok (.iconst 1, 1) := by decide +kernel
theorem dX6_right_22 : decode cX6_right 22 = .ok (.goto 4, 3) := by decide +kernel
theorem dX6_right_25 : decode cX6_right 25 = .ok (.iconst 0, 1) := by decide +kernel
theorem dX6_right_26 : decode cX6_right 26 = .ok (.iconst 0, 1) := by decide +kernel
theorem dX6_right_27 : decode cX6_right 27 = .ok (.iconst 0, 1) := by decide +kernel
theorem dX6_right_28 : decode cX6_right 28 = .ok (.invokevirtual 73, 3) := by decide +kernel
theorem dX6_right_31 : decode cX6_right 31 = .ok (.ifCond .eq 4, 3) := by decide +kernel
theorem dX6_right_34 : decode cX6_right 34 = .ok (.return_, 1) := by decide +kernel
theorem dX6_right_35 : decode cX6_right 35 = .ok (.aload_n 0, 1) := by decide +kernel
theorem dX6_right_36 : decode cX6_right 36 = .ok (.getfield 44, 3) := by decide +kernel
theorem dX6_right_39 : decode cX6_right 39 = .ok (.bipush 50, 2) := by decide +kernel
theorem dX6_right_41 : decode cX6_right 41 = .ok (.iload_n 1, 1) := by decide +kernel
theorem dX6_right_42 : decode cX6_right 42 = .ok (.imul, 1) := by decide +kernel
theorem dX6_right_43 : decode cX6_right 43 = .ok (.iload_n 2, 1) := by decide +kernel
theorem dX6_right_44 : decode cX6_right 44 = .ok (.iadd, 1) := by decide +kernel
theorem dX6_right_45 : decode cX6_right 45 = .ok (.iload_n 3, 1) := by decide +kernel
theorem dX6_right_46 : decode cX6_right 46 = .ok (.bastore, 1) := by decide +kernel
theorem dX6_right_47 : decode cX6_right 47 = .ok (.return_, 1) := by decide +kernel
theorem dX6_listen_0 : decode cX6_listen 0 = .ok (.iload_n 1, 1) := by decide +kernel
theorem dX6_listen_1 : decode cX6_listen 1 = .ok (.iconst 0, 1) := by decide +kernel
theorem dX6_listen_2 : decode cX6_listen 2 = .ok (.bipush 19, 2) := by decide +kernel
theorem dX6_listen_4 : decode cX6_listen 4 = .ok (.invokestatic 63, 3) := by decide +kernel
theorem dX6_listen_7 : decode cX6_listen 7 = .ok (.ifCond .eq 11, 3) := by decide +kernel
theorem dX6_listen_10 : decode cX6_listen 10 = .ok (.aload_n 0, 1) := by decide +kernel
theorem dX6_listen_11 : decode cX6_listen 11 = .ok (.iload_n 2, 1) := by decide +kernel
theorem dX6_listen_12 : decode cX6_listen 12 = .ok (.invokevirtual 109, 3) := by decide +kernel
theorem dX6_listen_15 : decode cX6_listen 15 = .ok (.ifCond .ne 7, 3) := by decide +kernel
theorem dX6_listen_18 : decode cX6_listen 18 = .ok (.iconst 1, 1) := by decide +kernel
theorem dX6_listen_19 : decode cX6_listen 19 = .ok (.goto 4, 3) := by decide +kernel
theorem dX6_listen_22 : decode cX6_listen 22 = .ok (.iconst 0, 1) := by decide +kernel
theorem dX6_listen_23 : decode cX6_listen 23 = .ok (.istore_n 3, 1) := by decide +kernel
theorem dX6_listen_24 : decode cX6_listen 24 = .ok (.iload_n 3, 1) := by decide +kernel
theorem dX6_listen_25 : decode cX6_listen 25 = .ok (.ifCond .ne 35, 3) := by decide +kernel
theorem dX6_listen_28 : decode cX6_listen 28 = .ok (.aload_n 0, 1) := by decide +kernel
theorem dX6_listen_29 : decode cX6_listen 29 = .ok (.getfield 31, 3) := by decide +kernel
theorem dX6_listen_32 : decode cX6_listen 32 = .ok (.iload_n 2, 1) := by decide +kernel
theorem dX6_listen_33 : decode cX6_listen 33 = .ok (.baload, 1) := by decide +kernel
theorem dX6_listen_34 : decode cX6_listen 34 = .ok (.ifCond .ne 26, 3) := by decide +kernel
theorem dX6_listen_37 : decode cX6_listen 37 = .ok (.aload_n 0, 1) := by decide +kernel
theorem dX6_listen_38 : decode cX6_listen 38 = .ok (.getfield 44, 3) := by decide +kernel
theorem dX6_listen_41 : decode cX6_listen 41 = .ok (.bipush 50, 2) := by decide +kernel
theorem dX6_listen_43 : decode cX6_listen 43 = .ok (.iload_n 1, 1) := by decide +kernel
theorem dX6_listen_44 : decode cX6_listen 44 = .ok (.imul, 1) := by decide +kernel
theorem dX6_listen_45 : decode cX6_listen 45 = .ok (.aload_n 0, 1) := by decide +kernel
theorem dX6_listen_46 : decode cX6_listen 46 = .ok (.getfield 25, 3) := by decide +kernel
theorem dX6_listen_49 : decode cX6_listen 49 = .ok (.iload_n 2, 1) := by decide +kernel
theorem dX6_listen_50 : decode cX6_listen 50 = .ok (.iaload, 1) := by decide +kernel
theorem dX6_listen_51 : decode cX6_listen 51 = .ok (.iadd, 1) := by decide +kernel
theorem dX6_listen_52 : decode cX6_listen 52 = .ok (.baload, 1) := by decide +kernel
theorem dX6_listen_53 : decode cX6_listen 53 = .ok (.ifCond .eq 7, 3) := by decide +kernel
theorem dX6_listen_56 : decode cX6_listen 56 = .ok (.iconst 1, 1) := by decide +kernel
theorem dX6_listen_57 : decode cX6_listen 57 = .ok (.goto 4, 3) := by decide +kernel
theorem dX6_listen_60 : decode cX6_listen 60 = .ok (.iconst 0, 1) := by decide +kernel
theorem dX6_listen_61 : decode cX6_listen 61 = .ok (.istore 4, 2) := by decide +kernel
theorem dX6_listen_63 : decode cX6_listen 63 = .ok (.iload_n 3, 1) := by decide +kernel
theorem dX6_listen_64 : decode cX6_listen 64 = .ok (.ifCond .ne 74, 3) := by decide +kernel
theorem dX6_listen_67 : decode cX6_listen 67 = .ok (.aload_n 0, 1) := by decide +kernel
theorem dX6_listen_68 : decode cX6_listen 68 = .ok (.getfield 53, 3) := by decide +kernel
theorem dX6_listen_71 : decode cX6_listen 71 = .ok (.iconst 3, 1) := by decide +kernel
theorem dX6_listen_72 : decode cX6_listen 72 = .ok (.aload_n 0, 1) := by decide +kernel
theorem dX6_listen_73 : decode cX6_listen 73 = .ok (.getfield 123, 3) := by decide +kernel
theorem dX6_listen_76 : decode cX6_listen 76 = .ok (.sipush 200, 3) := by decide +kernel
theorem dX6_listen_79 : decode cX6_listen 79 = .ok (.irem, 1) := by decide +kernel
theorem dX6_listen_80 : decode cX6_listen 80 = .ok (.imul, 1) := by decide +kernel
theorem dX6_listen_81 : decode cX6_listen 81 = .ok (.iload_n 1, 1) := by decide +kernel
theorem dX6_listen_82 : decode cX6_listen 82 = .ok (.iastore, 1) := by decide +kernel
theorem dX6_listen_83 : decode cX6_listen 83 = .ok (.aload_n 0, 1) := by decide +kernel
theorem dX6_listen_84 : decode cX6_listen 84 = .ok (.getfield 53, 3) := by decide +kernel
theorem dX6_listen_87 : decode cX6_listen 87 = .ok (.iconst 3, 1) := by decide +kernel
theorem dX6_listen_88 : decode cX6_listen 88 = .ok (.aload_n 0, 1) := by decide +kernel
theorem dX6_listen_89 : decode cX6_listen 89 = .ok (.getfield 123, 3) := by decide +kernel
theorem dX6_listen_92 : decode cX6_listen 92 = .ok (.sipush 200, 3) := by decide +kernel
theorem dX6_listen_95 : decode cX6_listen 95 = .ok (.irem, 1) := by decide +kernel
theorem dX6_listen_96 : decode cX6_listen 96 = .ok (.imul, 1) := by decide +kernel
theorem dX6_listen_97 : decode cX6_listen 97 = .ok (.iconst 1, 1) := by decide +kernel
theorem dX6_listen_98 : decode cX6_listen 98 = .ok (.iadd, 1) := by decide +kernel
theorem dX6_listen_99 : decode cX6_listen 99 = .ok (.iload_n 2, 1) := by decide +kernel
theorem dX6_listen_100 : decode cX6_listen 100 = .ok (.iastore, 1) := by decide +kernel
theorem dX6_listen_101 : decode cX6_listen 101 = .ok (.aload_n 0, 1) := by decide +kernel
theorem dX6_listen_102 : decode cX6_listen 102 = .ok (.getfield 53, 3) := by decide +kernel
theorem dX6_listen_105 : decode cX6_listen 105 = .ok (.iconst 3, 1) := by decide +kernel
theorem dX6_listen_106 : decode cX6_listen 106 = .ok (.aload_n 0, 1) := by decide +kernel
theorem dX6_listen_107 : decode cX6_listen 107 = .ok (.getfield 123, 3) := by decide +kernel
theorem dX6_listen_110 : decode cX6_listen 110 = .ok (.sipush 200, 3) := by decide +kernel
theorem dX6_listen_113 : decode cX6_listen 113 = .ok (.irem, 1) := by decide +kernel
theorem dX6_listen_114 : decode cX6_listen 114 = .ok (.imul, 1) := by decide +kernel
theorem dX6_listen_115 : decode cX6_listen 115 = .ok (.iconst 2, 1) := by decide +kernel
theorem dX6_listen_116 : decode cX6_listen 116 = .ok (.iadd, 1) := by decide +kernel
theorem dX6_listen_117 : decode cX6_listen 117 = .ok (.iload 4, 2) := by decide +kernel
theorem dX6_listen_119 : decode cX6_listen 119 = .ok (.ifCond .eq 7, 3) := by decide +kernel
theorem dX6_listen_122 : decode cX6_listen 122 = .ok (.iconst 1, 1) := by decide +kernel
theorem dX6_listen_123 : decode cX6_listen 123 = .ok (.goto 4, 3) := by decide +kernel
theorem dX6_listen_126 : decode cX6_listen 126 = .ok (.iconst 0, 1) := by decide +kernel
theorem dX6_listen_127 : decode cX6_listen 127 = .ok (.iastore, 1) := by decide +kernel
theorem dX6_listen_128 : decode cX6_listen 128 = .ok (.aload_n 0, 1) := by decide +kernel
theorem dX6_listen_129 : decode cX6_listen 129 = .ok (.dup, 1) := by decide +kernel
theorem dX6_listen_130 : decode cX6_listen 130 = .ok (.getfield 123, 3) := by decide +kernel
theorem dX6_listen_133 : decode cX6_listen 133 = .ok (.iconst 1, 1) := by decide +kernel
theorem dX6_listen_134 : decode cX6_listen 134 = .ok (.iadd, 1) := by decide +kernel
theorem dX6_listen_135 : decode cX6_listen 135 = .ok (.putfield 123, 3) := by decide +kernel
theorem dX6_listen_138 : decode cX6_listen 138 = .ok (.aload_n 0, 1) := by decide +kernel
theorem dX6_listen_139 : decode cX6_listen 139 = .ok (.iload_n 3, 1) := by decide +kernel
theorem dX6_listen_140 : decode cX6_listen 140 = .ok (.iload 4, 2) := by decide +kernel
theorem dX6_listen_142 : decode cX6_listen 142 = .ok (.ifCond .ne 7, 3) := by decide +kernel
theorem dX6_listen_145 : decode cX6_listen 145 = .ok (.iconst 1, 1) := by decide +kernel
theorem dX6_listen_146 : decode cX6_listen 146 = .ok (.goto 4, 3) := by decide +kernel
theorem dX6_listen_149 : decode cX6_listen 149 = .ok (.iconst 0, 1) := by decide +kernel
theorem dX6_listen_150 : decode cX6_listen 150 = .ok (.iconst 0, 1) := by decide +kernel
theorem dX6_listen_151 : decode cX6_listen 151 = .ok (.invokevirtual 73, 3) := by decide +kernel
theorem dX6_listen_154 : decode cX6_listen 154 = .ok (.ifCond .eq 5, 3) := by decide +kernel
theorem dX6_listen_157 : decode cX6_listen 157 = .ok (.iconst 0, 1) := by decide +kernel
theorem dX6_listen_158 : decode cX6_listen 158 = .ok (.ireturn, 1) := by decide +kernel
theorem dX6_listen_159 : decode cX6_listen 159 = .ok (.aload_n 0, 1) := by decide +kernel
theorem dX6_listen_160 : decode cX6_listen 160 = .ok (.iload_n 2, 1) := by decide +kernel
theorem dX6_listen_161 : decode cX6_listen 161 = .ok (.invokevirtual 77, 3) := by decide +kernel
theorem dX6_listen_164 : decode cX6_listen 164 = .ok (.ireturn, 1) := by decide +kernel
theorem dX6_row_0 : decode cX6_row 0 = .ok (.iload_n 1, 1) := by decide +kernel
theorem dX6_row_1 : decode cX6_row 1 = .ok (.iconst 0, 1) := by decide +kernel
theorem dX6_row_2 : decode cX6_row 2 = .ok (.aload_n 0, 1) := by decide +kernel
theorem dX6_row_3 : decode cX6_row 3 = .ok (.getfield 123, 3) := by decide +kernel
theorem dX6_row_6 : decode cX6_row 6 = .ok (.iconst 1, 1) := by decide +kernel
theorem dX6_row_7 : decode cX6_row 7 = .ok (.isub, 1) := by decide +kernel
theorem dX6_row_8 : decode cX6_row 8 = .ok (.invokestatic 63, 3) := by decide +kernel
theorem dX6_row_11 : decode cX6_row 11 = .ok (.ifCond .eq 19, 3) := by decide +kernel
theorem dX6_row_14 : decode cX6_row 14 = .ok (.iload_n 1, 1) := by decide +kernel
theorem dX6_row_15 : decode cX6_row 15 = .ok (.aload_n 0, 1) := by decide +kernel
theorem dX6_row_16 : decode cX6_row 16 = .ok (.getfield 123, 3) := by decide +kernel
theorem dX6_row_19 : decode cX6_row 19 = .ok (.sipush 200, 3) := by decide +kernel
theorem dX6_row_22 : decode cX6_row 22 = .ok (.isub, 1) := by decide +kernel
theorem dX6_row_23 : decode cX6_row 23 = .ok (.if_icmp .lt 7, 3) := by decide +kernel
theorem dX6_row_26 : decode cX6_row 26 = .ok (.iconst 1, 1) := by decide +kernel
theorem dX6_row_27 : decode cX6_row 27 = .ok (.goto 4, 3) := by decide +kernel
theorem dX6_row_30 : decode cX6_row 30 = .ok (.iconst 0, 1) := by decide +kernel
theorem dX6_row_31 : decode cX6_row 31 = .ok (.istore_n 3, 1) := by decide +kernel
theorem dX6_row_32 : decode cX6_row 32 = .ok (.aload_n 0, 1) := by decide +kernel
theorem dX6_row_33 : decode cX6_row 33 = .ok (.iload_n 3, 1) := by decide +kernel
theorem dX6_row_34 : decode cX6_row 34 = .ok (.ifCond .eq 12, 3) := by decide +kernel
theorem dX6_row_37 : decode cX6_row 37 = .ok (.iload_n 2, 1) := by decide +kernel
theorem dX6_row_38 : decode cX6_row 38 = .ok (.iconst 0, 1) := by decide +kernel
theorem dX6_row_39 : decode cX6_row 39 = .ok (.iconst 2, 1) := by decide +kernel
theorem dX6_row_40 : decode cX6_row 40 = .ok (.invokestatic 63, 3) := by decide +kernel
theorem dX6_row_43 : decode cX6_row 43 = .ok (.ifCond .ne 7, 3) := by decide +kernel
theorem dX6_row_46 : decode cX6_row 46 = .ok (.iconst 1, 1) := by decide +kernel
theorem dX6_row_47 : decode cX6_row 47 = .ok (.goto 4, 3) := by decide +kernel
theorem dX6_row_50 : decode cX6_row 50 = .ok (.iconst 0, 1) := by decide +kernel
theorem dX6_row_51 : decode cX6_row 51 = .ok (.iconst 0, 1) := by decide +kernel
theorem dX6_row_52 : decode cX6_row 52 = .ok (.iconst 0, 1) := by decide +kernel
theorem dX6_row_53 : decode cX6_row 53 = .ok (.invokevirtual 73, 3) := by decide +kernel
theorem dX6_row_56 : decode cX6_row 56 = .ok (.ifCond .eq 5, 3) := by decide +kernel
theorem dX6_row_59 : decode cX6_row 59 = .ok (.iconst 0, 1) := by decide +kernel
theorem dX6_row_60 : decode cX6_row 60 = .ok (.ireturn, 1) := by decide +kernel
theorem dX6_row_61 : decode cX6_row 61 = .ok (.aload_n 0, 1) := by decide +kernel
theorem dX6_row_62 : decode cX6_row 62 = .ok (.getfield 53, 3) := by decide +kernel
theorem dX6_row_65 : decode cX6_row 65 = .ok (.iconst 3, 1) := by decide +kernel
theorem dX6_row_66 : decode cX6_row 66 = .ok (.iload_n 1, 1) := by decide +kernel
theorem dX6_row_67 : decode cX6_row 67 = .ok (.sipush 200, 3) := by decide +kernel
theorem dX6_row_70 : decode cX6_row 70 = .ok (.irem, 1) := by decide +kernel
theorem dX6_row_71 : decode cX6_row 71 = .ok (.imul, 1) := by decide +kernel
theorem dX6_row_72 : decode cX6_row 72 = .ok (.iload_n 2, 1) := by decide +kernel
theorem dX6_row_73 : decode cX6_row 73 = .ok (.iadd, 1) := by decide +kernel
theorem dX6_row_74 : decode cX6_row 74 = .ok (.iaload, 1) := by decide +kernel
theorem dX6_row_75 : decode cX6_row 75 = .ok (.ireturn, 1) := by decide +kernel
theorem dX6_poke_0 : decode cX6_poke 0 = .ok (.aload_n 0, 1) := by decide +kernel
theorem dX6_poke_1 : decode cX6_poke 1 = .ok (.iload_n 1, 1) := by decide +kernel
theorem dX6_poke_2 : decode cX6_poke 2 = .ok (.invokevirtual 109, 3) := by decide +kernel
theorem dX6_poke_5 : decode cX6_poke 5 = .ok (.ifCond .ne 7, 3) := by decide +kernel
theorem dX6_poke_8 : decode cX6_poke 8 = .ok (.iconst 1, 1) := by decide +kernel
theorem dX6_poke_9 : decode cX6_poke 9 = .ok (.goto 4, 3) := by decide +kernel
theorem dX6_poke_12 : decode cX6_poke 12 = .ok (.iconst 0, 1) := by decide +kernel
theorem dX6_poke_13 : decode cX6_poke 13 = .ok (.istore 4, 2) := by decide +kernel
theorem dX6_poke_15 : decode cX6_poke 15 = .ok (.aload_n 0, 1) := by decide +kernel
theorem dX6_poke_16 : decode cX6_poke 16 = .ok (.iload 4, 2) := by decide +kernel
theorem dX6_poke_18 : decode cX6_poke 18 = .ok (.iload 4, 2) := by decide +kernel
theorem dX6_poke_20 : decode cX6_poke 20 = .ok (.ifCond .ne 30, 3) := by decide +kernel
theorem dX6_poke_23 : decode cX6_poke 23 = .ok (.iload_n 2, 1) := by decide +kernel
theorem dX6_poke_24 : decode cX6_poke 24 = .ok (.iconst 0, 1) := by decide +kernel
theorem dX6_poke_25 : decode cX6_poke 25 = .ok (.aload_n 0, 1) := by decide +kernel
theorem dX6_poke_26 : decode cX6_poke 26 = .ok (.getfield 16, 3) := by decide +kernel
theorem dX6_poke_29 : decode cX6_poke 29 = .ok (.iload_n 1, 1) := by decide +kernel
theorem dX6_poke_30 : decode cX6_poke 30 = .ok (.iaload, 1) := by decide +kernel
theorem dX6_poke_31 : decode cX6_poke 31 = .ok (.iconst 1, 1) := by decide +kernel
theorem dX6_poke_32 : decode cX6_poke 32 = .ok (.isub, 1) := by decide +kernel
theorem dX6_poke_33 : decode cX6_poke 33 = .ok (.invokestatic 63, 3) := by decide +kernel
theorem dX6_poke_36 : decode cX6_poke 36 = .ok (.ifCond .eq 14, 3) := by decide +kernel
theorem dX6_poke_39 : decode cX6_poke 39 = .ok (.iload_n 3, 1) := by decide +kernel
theorem dX6_poke_40 : decode cX6_poke 40 = .ok (.iconst 1, 1) := by decide +kernel
theorem dX6_poke_41 : decode cX6_poke 41 = .ok (.sipush 255, 3) := by decide +kernel
theorem dX6_poke_44 : decode cX6_poke 44 = .ok (.invokestatic 63, 3) := by decide +kernel
theorem dX6_poke_47 : decode cX6_poke 47 = .ok (.ifCond .ne 7, 3) := by decide +kernel
theorem dX6_poke_50 : decode cX6_poke 50 = .ok (.iconst 1, 1) := by decide +kernel
theorem dX6_poke_51 : decode cX6_poke 51 = .ok (.goto 4, 3) := by decide +kernel
theorem dX6_poke_54 : decode cX6_poke 54 = .ok (.iconst 0, 1) := by decide +kernel
theorem dX6_poke_55 : decode cX6_poke 55 = .ok (.aload_n 0, 1) := by decide +kernel
theorem dX6_poke_56 : decode cX6_poke 56 = .ok (.iload_n 1, 1) := by decide +kernel
theorem dX6_poke_57 : decode cX6_poke 57 = .ok (.invokevirtual 113, 3) := by decide +kernel
theorem dX6_poke_60 : decode cX6_poke 60 = .ok (.invokevirtual 73, 3) := by decide +kernel
theorem dX6_poke_63 : decode cX6_poke 63 = .ok (.ifCond .eq 4, 3) := by decide +kernel
theorem dX6_poke_66 : decode cX6_poke 66 = .ok (.return_, 1) := by decide +kernel
theorem dX6_poke_67 : decode cX6_poke 67 = .ok (.aload_n 0, 1) := by decide +kernel
theorem dX6_poke_68 : decode cX6_poke 68 = .ok (.getfield 19, 3) := by decide +kernel
theorem dX6_poke_71 : decode cX6_poke 71 = .ok (.bipush 8, 2) := by decide +kernel
theorem dX6_poke_73 : decode cX6_poke 73 = .ok (.iload_n 1, 1) := by decide +kernel
theorem dX6_poke_74 : decode cX6_poke 74 = .ok (.imul, 1) := by decide +kernel
theorem dX6_poke_75 : decode cX6_poke 75 = .ok (.iload_n 2, 1) := by decide +kernel
theorem dX6_poke_76 : decode cX6_poke 76 = .ok (.iadd, 1) := by decide +kernel
theorem dX6_poke_77 : decode cX6_poke 77 = .ok (.dup2, 1) := by decide +kernel
theorem dX6_poke_78 : decode cX6_poke 78 = .ok (.iaload, 1) := by decide +kernel
theorem dX6_poke_79 : decode cX6_poke 79 = .ok (.iload_n 3, 1) := by decide +kernel
theorem dX6_poke_80 : decode cX6_poke 80 = .ok (.ixor, 1) := by decide +kernel
theorem dX6_poke_81 : decode cX6_poke 81 = .ok (.iastore, 1) := by decide +kernel
theorem dX6_poke_82 : decode cX6_poke 82 = .ok (.return_, 1) := by decide +kernel
theorem dX6_verify_0 : decode cX6_verify 0 = .ok (.aload_n 0, 1) := by decide +kernel
theorem dX6_verify_1 : decode cX6_verify 1 = .ok (.iconst 0, 1) := by decide +kernel
theorem dX6_verify_2 : decode cX6_verify 2 = .ok (.putfield 56, 3) := by decide +kernel
theorem dX6_verify_5 : decode cX6_verify 5 = .ok (.iconst 0, 1) := by decide +kernel
theorem dX6_verify_6 : decode cX6_verify 6 = .ok (.istore_n 1, 1) := by decide +kernel
theorem dX6_verify_7 : decode cX6_verify 7 = .ok (.iload_n 1, 1) := by decide +kernel
theorem dX6_verify_8 : decode cX6_verify 8 = .ok (.aload_n 0, 1) := by decide +kernel
theorem dX6_verify_9 : decode cX6_verify 9 = .ok (.getfield 60, 3) := by decide +kernel
theorem dX6_verify_12 : decode cX6_verify 12 = .ok (.if_icmp .ge 34, 3) := by decide +kernel
theorem dX6_verify_15 : decode cX6_verify 15 = .ok (.aload_n 0, 1) := by decide +kernel
theorem dX6_verify_16 : decode cX6_verify 16 = .ok (.getfield 31, 3) := by decide +kernel
theorem dX6_verify_19 : decode cX6_verify 19 = .ok (.iload_n 1, 1) := by decide +kernel
theorem dX6_verify_20 : decode cX6_verify 20 = .ok (.baload, 1) := by decide +kernel
theorem dX6_verify_21 : decode cX6_verify 21 = .ok (.ifCond .ne 19, 3) := by decide +kernel
theorem dX6_verify_24 : decode cX6_verify 24 = .ok (.aload_n 0, 1) := by decide +kernel
theorem dX6_verify_25 : decode cX6_verify 25 = .ok (.iload_n 1, 1) := by decide +kernel
theorem dX6_verify_26 : decode cX6_verify 26 = .ok (.invokevirtual 77, 3) := by decide +kernel
theorem dX6_verify_29 : decode cX6_verify 29 = .ok (.aload_n 0, 1) := by decide +kernel
theorem dX6_verify_30 : decode cX6_verify 30 = .ok (.getfield 28, 3) := by decide +kernel
theorem dX6_verify_33 : decode cX6_verify 33 = .ok (.iload_n 1, 1) := by decide +kernel
theorem dX6_verify_34 : decode cX6_verify 34 = .ok (.iaload, 1) := by decide +kernel
theorem dX6_verify_35 : decode cX6_verify 35 = .ok (.if_icmp .eq 5, 3) := by decide +kernel
theorem dX6_verify_38 : decode cX6_verify 38 = .ok (.iload_n 1, 1) := by decide +kernel
theorem dX6_verify_39 : decode cX6_verify 39 = .ok (.ireturn, 1) := by decide +kernel
theorem dX6_verify_40 : decode cX6_verify 40 = .ok (.iinc 1 1, 3) := by decide +kernel
theorem dX6_verify_43 : decode cX6_verify 43 = .ok (.goto (-36), 3) := by decide +kernel
theorem dX6_verify_46 : decode cX6_verify 46 = .ok (.iconst (-1), 1) := by decide +kernel
theorem dX6_verify_47 : decode cX6_verify 47 = .ok (.ireturn, 1) := by decide +kernel
theorem dX6_count_0 : decode cX6_count 0 = .ok (.aload_n 0, 1) := by decide +kernel
theorem dX6_count_1 : decode cX6_count 1 = .ok (.iload_n 1, 1) := by decide +kernel
theorem dX6_count_2 : decode cX6_count 2 = .ok (.iconst 0, 1) := by decide +kernel
theorem dX6_count_3 : decode cX6_count 3 = .ok (.iconst 4, 1) := by decide +kernel
theorem dX6_count_4 : decode cX6_count 4 = .ok (.invokestatic 63, 3) := by decide +kernel
theorem dX6_count_7 : decode cX6_count 7 = .ok (.ifCond .ne 7, 3) := by decide +kernel
theorem dX6_count_10 : decode cX6_count 10 = .ok (.iconst 1, 1) := by decide +kernel
theorem dX6_count_11 : decode cX6_count 11 = .ok (.goto 4, 3) := by decide +kernel
theorem dX6_count_14 : decode cX6_count 14 = .ok (.iconst 0, 1) := by decide +kernel
theorem dX6_count_15 : decode cX6_count 15 = .ok (.iconst 0, 1) := by decide +kernel
theorem dX6_count_16 : decode cX6_count 16 = .ok (.iconst 0, 1) := by decide +kernel
theorem dX6_count_17 : decode cX6_count 17 = .ok (.invokevirtual 73, 3) := by decide +kernel
theorem dX6_count_20 : decode cX6_count 20 = .ok (.ifCond .eq 5, 3) := by decide +kernel
theorem dX6_count_23 : decode cX6_count 23 = .ok (.iconst 0, 1) := by decide +kernel
theorem dX6_count_24 : decode cX6_count 24 = .ok (.ireturn, 1) := by decide +kernel
theorem dX6_count_25 : decode cX6_count 25 = .ok (.iconst 0, 1) := by decide +kernel
theorem dX6_count_26 : decode cX6_count 26 = .ok (.istore_n 2, 1) := by decide +kernel
theorem dX6_count_27 : decode cX6_count 27 = .ok (.iconst 0, 1) := by decide +kernel
theorem dX6_count_28 : decode cX6_count 28 = .ok (.istore_n 3, 1) := by decide +kernel
theorem dX6_count_29 : decode cX6_count 29 = .ok (.iload_n 3, 1) := by decide +kernel
theorem dX6_count_30 : decode cX6_count 30 = .ok (.aload_n 0, 1) := by decide +kernel
theorem dX6_count_31 : decode cX6_count 31 = .ok (.getfield 60, 3) := by decide +kernel
theorem dX6_count_34 : decode cX6_count 34 = .ok (.if_icmp .ge 26, 3) := by decide +kernel
theorem dX6_count_37 : decode cX6_count 37 = .ok (.iload_n 2, 1) := by decide +kernel
theorem dX6_count_38 : decode cX6_count 38 = .ok (.aload_n 0, 1) := by decide +kernel
theorem dX6_count_39 : decode cX6_count 39 = .ok (.getfield 31, 3) := by decide +kernel
theorem dX6_count_42 : decode cX6_count 42 = .ok (.iload_n 3, 1) := by decide +kernel
theorem dX6_count_43 : decode cX6_count 43 = .ok (.baload, 1) := by decide +kernel
theorem dX6_count_44 : decode cX6_count 44 = .ok (.ifCond .eq 7, 3) := by decide +kernel
theorem dX6_count_47 : decode cX6_count 47 = .ok (.iconst 0, 1) := by decide +kernel
theorem dX6_count_48 : decode cX6_count 48 = .ok (.goto 4, 3) := by decide +kernel
theorem dX6_count_51 : decode cX6_count 51 = .ok (.iconst 1, 1) := by decide +kernel
theorem dX6_count_52 : decode cX6_count 52 = .ok (.iadd, 1) := by decide +kernel
theorem dX6_count_53 : decode cX6_count 53 = .ok (.istore_n 2, 1) := by decide +kernel
theorem dX6_count_54 : decode cX6_count 54 = .ok (.iinc 3 1, 3) := by decide +kernel
theorem dX6_count_57 : decode cX6_count 57 = .ok (.goto (-28), 3) := by decide +kernel
theorem dX6_count_60 : decode cX6_count 60 = .ok (.iload_n 1, 1) := by decide +kernel
theorem dX6_count_61 : decode cX6_count 61 = .ok (.ifCond .ne 10, 3) := by decide +kernel
theorem dX6_count_64 : decode cX6_count 64 = .ok (.aload_n 0, 1) := by decide +kernel
theorem dX6_count_65 : decode cX6_count 65 = .ok (.getfield 60, 3) := by decide +kernel
theorem dX6_count_68 : decode cX6_count 68 = .ok (.goto 40, 3) := by decide +kernel
theorem dX6_count_71 : decode cX6_count 71 = .ok (.iload_n 1, 1) := by decide +kernel
theorem dX6_count_72 : decode cX6_count 72 = .ok (.iconst 1, 1) := by decide +kernel
theorem dX6_count_73 : decode cX6_count 73 = .ok (.if_icmp .ne 7, 3) := by decide +kernel
theorem dX6_count_76 : decode cX6_count 76 = .ok (.iload_n 2, 1) := by decide +kernel
theorem dX6_count_77 : decode cX6_count 77 = .ok (.goto 31, 3) := by decide +kernel
theorem dX6_count_80 : decode cX6_count 80 = .ok (.iload_n 1, 1) := by decide +kernel
theorem dX6_count_81 : decode cX6_count 81 = .ok (.iconst 2, 1) := by decide +kernel
theorem dX6_count_82 : decode cX6_count 82 = .ok (.if_icmp .ne 10, 3) := by decide +kernel
theorem dX6_count_85 : decode cX6_count 85 = .ok (.aload_n 0, 1) := by decide +kernel
theorem dX6_count_86 : decode cX6_count 86 = .ok (.getfield 81, 3) := by decide +kernel
theorem dX6_count_89 : decode cX6_count 89 = .ok (.goto 19, 3) := by decide +kernel
theorem dX6_count_92 : decode cX6_count 92 = .ok (.iload_n 1, 1) := by decide +kernel
theorem dX6_count_93 : decode cX6_count 93 = .ok (.iconst 3, 1) := by decide +kernel
theorem dX6_count_94 : decode cX6_count 94 = .ok (.if_icmp .ne 10, 3) := by decide +kernel
theorem dX6_count_97 : decode cX6_count 97 = .ok (.aload_n 0, 1) := by decide +kernel
theorem dX6_count_98 : decode cX6_count 98 = .ok (.getfield 120, 3) := by decide +kernel
theorem dX6_count_101 : decode cX6_count 101 = .ok (.goto 7, 3) := by decide +kernel
theorem dX6_count_104 : decode cX6_count 104 = .ok (.aload_n 0, 1) := by decide +kernel
theorem dX6_count_105 : decode cX6_count 105 = .ok (.getfield 123, 3) := by decide +kernel
theorem dX6_count_108 : decode cX6_count 108 = .ok (.ireturn, 1) := by decide +kernel
