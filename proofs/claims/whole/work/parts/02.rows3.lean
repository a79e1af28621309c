theorem dX4_cheapest_25 : decode cX4_cheapest 25 = .ok (.aload_n 0, 1) := by decide +kernel
theorem dX4_cheapest_26 : decode cX4_cheapest 26 = .ok (.iload_n 3, 1) := by decide +kernel
theorem dX4_cheapest_27 : decode cX4_cheapest 27 = .ok (.invokevirtual 61, 3) := by decide +kernel
theorem dX4_cheapest_30 : decode cX4_cheapest 30 = .ok (.ifCond .eq 26, 3) := by decide +kernel
theorem dX4_cheapest_33 : decode cX4_cheapest 33 = .ok (.iload_n 2, 1) := by decide +kernel
theorem dX4_cheapest_34 : decode cX4_cheapest 34 = .ok (.ifCond .lt 18, 3) := by decide +kernel
theorem dX4_cheapest_37 : decode cX4_cheapest 37 = .ok (.aload_n 0, 1) := by decide +kernel
theorem dX4_cheapest_38 : decode cX4_cheapest 38 = .ok (.iload_n 1, 1) := by decide +kernel
theorem dX4_cheapest_39 : decode cX4_cheapest 39 = .ok (.iload_n 3, 1) := by decide +kernel
theorem dX4_cheapest_40 : decode cX4_cheapest 40 = .ok (.invokevirtual 103, 3) := by decide +kernel
theorem dX4_cheapest_43 : decode cX4_cheapest 43 = .ok (.aload_n 0, 1) := by decide +kernel
theorem dX4_cheapest_44 : decode cX4_cheapest 44 = .ok (.iload_n 1, 1) := by decide +kernel
theorem dX4_cheapest_45 : decode cX4_cheapest 45 = .ok (.iload_n 2, 1) := by decide +kernel
theorem dX4_cheapest_46 : decode cX4_cheapest 46 = .ok (.invokevirtual 103, 3) := by decide +kernel
theorem dX4_cheapest_49 : decode cX4_cheapest 49 = .ok (.if_icmp .ge 7, 3) := by decide +kernel
theorem dX4_cheapest_52 : decode cX4_cheapest 52 = .ok (.iload_n 3, 1) := by decide +kernel
theorem dX4_cheapest_53 : decode cX4_cheapest 53 = .ok (.goto 4, 3) := by decide +kernel
theorem dX4_cheapest_56 : decode cX4_cheapest 56 = .ok (.iload_n 2, 1) := by decide +kernel
theorem dX4_cheapest_57 : decode cX4_cheapest 57 = .ok (.istore_n 2, 1) := by decide +kernel
theorem dX4_cheapest_58 : decode cX4_cheapest 58 = .ok (.iinc 3 1, 3) := by decide +kernel
theorem dX4_cheapest_61 : decode cX4_cheapest 61 = .ok (.goto (-42), 3) := by decide +kernel
theorem dX4_cheapest_64 : decode cX4_cheapest 64 = .ok (.iload_n 2, 1) := by decide +kernel
theorem dX4_cheapest_65 : decode cX4_cheapest 65 = .ok (.ifCond .ge 12, 3) := by decide +kernel
theorem dX4_cheapest_68 : decode cX4_cheapest 68 = .ok (.aload_n 0, 1) := by decide +kernel
theorem dX4_cheapest_69 : decode cX4_cheapest 69 = .ok (.ldc 158, 2) := by decide +kernel
theorem dX4_cheapest_71 : decode cX4_cheapest 71 = .ok (.invokevirtual 74, 3) := by decide +kernel
theorem dX4_cheapest_74 : decode cX4_cheapest 74 = .ok (.goto 4, 3) := by decide +kernel
theorem dX4_cheapest_77 : decode cX4_cheapest 77 = .ok (.iload_n 2, 1) := by decide +kernel
theorem dX4_cheapest_78 : decode cX4_cheapest 78 = .ok (.ireturn, 1) := by decide +kernel
theorem dX4_best_0 : decode cX4_best 0 = .ok (.aload_n 0, 1) := by decide +kernel
theorem dX4_best_1 : decode cX4_best 1 = .ok (.iload_n 1, 1) := by decide +kernel
theorem dX4_best_2 : decode cX4_best 2 = .ok (.invokevirtual 109, 3) := by decide +kernel
theorem dX4_best_5 : decode cX4_best 5 = .ok (.ifCond .ne 10, 3) := by decide +kernel
theorem dX4_best_8 : decode cX4_best 8 = .ok (.aload_n 0, 1) := by decide +kernel
theorem dX4_best_9 : decode cX4_best 9 = .ok (.ldc 48, 2) := by decide +kernel
theorem dX4_best_11 : decode cX4_best 11 = .ok (.invokevirtual 74, 3) := by decide +kernel
theorem dX4_best_14 : decode cX4_best 14 = .ok (.ireturn, 1) := by decide +kernel
theorem dX4_best_15 : decode cX4_best 15 = .ok (.iconst (-1), 1) := by decide +kernel
theorem dX4_best_16 : decode cX4_best 16 = .ok (.istore_n 2, 1) := by decide +kernel
theorem dX4_best_17 : decode cX4_best 17 = .ok (.bipush 48, 2) := by decide +kernel
theorem dX4_best_19 : decode cX4_best 19 = .ok (.istore_n 3, 1) := by decide +kernel
theorem dX4_best_20 : decode cX4_best 20 = .ok (.iconst 0, 1) := by decide +kernel
theorem dX4_best_21 : decode cX4_best 21 = .ok (.istore 4, 2) := by decide +kernel
theorem dX4_best_23 : decode cX4_best 23 = .ok (.iload 4, 2) := by decide +kernel
theorem dX4_best_25 : decode cX4_best 25 = .ok (.bipush 48, 2) := by decide +kernel
theorem dX4_best_27 : decode cX4_best 27 = .ok (.if_icmp .ge 68, 3) := by decide +kernel
theorem dX4_best_30 : decode cX4_best 30 = .ok (.aload_n 0, 1) := by decide +kernel
theorem dX4_best_31 : decode cX4_best 31 = .ok (.iload 4, 2) := by decide +kernel
theorem dX4_best_33 : decode cX4_best 33 = .ok (.invokevirtual 61, 3) := by decide +kernel
theorem dX4_best_36 : decode cX4_best 36 = .ok (.ifCond .ne 6, 3) := by decide +kernel
theorem dX4_best_39 : decode cX4_best 39 = .ok (.goto 50, 3) := by decide +kernel
theorem dX4_best_42 : decode cX4_best 42 = .ok (.aload_n 0, 1) := by decide +kernel
theorem dX4_best_43 : decode cX4_best 43 = .ok (.invokevirtual 149, 3) := by decide +kernel
theorem dX4_best_46 : decode cX4_best 46 = .ok (.aload_n 0, 1) := by decide +kernel
theorem dX4_best_47 : decode cX4_best 47 = .ok (.iload_n 1, 1) := by decide +kernel
theorem dX4_best_48 : decode cX4_best 48 = .ok (.iload 4, 2) := by decide +kernel
theorem dX4_best_50 : decode cX4_best 50 = .ok (.invokevirtual 124, 3) := by decide +kernel
theorem dX4_best_53 : decode cX4_best 53 = .ok (.aload_n 0, 1) := by decide +kernel
theorem dX4_best_54 : decode cX4_best 54 = .ok (.aload_n 0, 1) := by decide +kernel
theorem dX4_best_55 : decode cX4_best 55 = .ok (.invokevirtual 131, 3) := by decide +kernel
theorem dX4_best_58 : decode cX4_best 58 = .ok (.invokevirtual 152, 3) := by decide +kernel
theorem dX4_best_61 : decode cX4_best 61 = .ok (.istore 5, 2) := by decide +kernel
theorem dX4_best_63 : decode cX4_best 63 = .ok (.iload 5, 2) := by decide +kernel
theorem dX4_best_65 : decode cX4_best 65 = .ok (.iload_n 3, 1) := by decide +kernel
theorem dX4_best_66 : decode cX4_best 66 = .ok (.if_icmp .ge 8, 3) := by decide +kernel
theorem dX4_best_69 : decode cX4_best 69 = .ok (.iload 4, 2) := by decide +kernel
theorem dX4_best_71 : decode cX4_best 71 = .ok (.goto 4, 3) := by decide +kernel
theorem dX4_best_74 : decode cX4_best 74 = .ok (.iload_n 2, 1) := by decide +kernel
theorem dX4_best_75 : decode cX4_best 75 = .ok (.istore_n 2, 1) := by decide +kernel
theorem dX4_best_76 : decode cX4_best 76 = .ok (.iload 5, 2) := by decide +kernel
theorem dX4_best_78 : decode cX4_best 78 = .ok (.iload_n 3, 1) := by decide +kernel
theorem dX4_best_79 : decode cX4_best 79 = .ok (.if_icmp .ge 8, 3) := by decide +kernel
theorem dX4_best_82 : decode cX4_best 82 = .ok (.iload 5, 2) := by decide +kernel
theorem dX4_best_84 : decode cX4_best 84 = .ok (.goto 4, 3) := by decide +kernel
theorem dX4_best_87 : decode cX4_best 87 = .ok (.iload_n 3, 1) := by decide +kernel
theorem dX4_best_88 : decode cX4_best 88 = .ok (.istore_n 3, 1) := by decide +kernel
theorem dX4_best_89 : decode cX4_best 89 = .ok (.iinc 4 1, 3) := by decide +kernel
theorem dX4_best_92 : decode cX4_best 92 = .ok (.goto (-69), 3) := by decide +kernel
theorem dX4_best_95 : decode cX4_best 95 = .ok (.iload_n 2, 1) := by decide +kernel
theorem dX4_best_96 : decode cX4_best 96 = .ok (.ifCond .ge 12, 3) := by decide +kernel
theorem dX4_best_99 : decode cX4_best 99 = .ok (.aload_n 0, 1) := by decide +kernel
theorem dX4_best_100 : decode cX4_best 100 = .ok (.ldc 158, 2) := by decide +kernel
theorem dX4_best_102 : decode cX4_best 102 = .ok (.invokevirtual 74, 3) := by decide +kernel
theorem dX4_best_105 : decode cX4_best 105 = .ok (.goto 4, 3) := by decide +kernel
theorem dX4_best_108 : decode cX4_best 108 = .ok (.iload_n 2, 1) := by decide +kernel
theorem dX4_best_109 : decode cX4_best 109 = .ok (.ireturn, 1) := by decide +kernel
theorem dX4_findTwo_0 : decode cX4_findTwo 0 = .ok (.iconst (-1), 1) := by decide +kernel
theorem dX4_findTwo_1 : decode cX4_findTwo 1 = .ok (.istore_n 2, 1) := by decide +kernel
theorem dX4_findTwo_2 : decode cX4_findTwo 2 = .ok (.aload_n 0, 1) := by decide +kernel
theorem dX4_findTwo_3 : decode cX4_findTwo 3 = .ok (.bipush 49, 2) := by decide +kernel
theorem dX4_findTwo_5 : decode cX4_findTwo 5 = .ok (.putfield 159, 3) := by decide +kernel
theorem dX4_findTwo_8 : decode cX4_findTwo 8 = .ok (.iconst 0, 1) := by decide +kernel
theorem dX4_findTwo_9 : decode cX4_findTwo 9 = .ok (.istore_n 3, 1) := by decide +kernel
theorem dX4_findTwo_10 : decode cX4_findTwo 10 = .ok (.iload_n 3, 1) := by decide +kernel
theorem dX4_findTwo_11 : decode cX4_findTwo 11 = .ok (.bipush 48, 2) := by decide +kernel
theorem dX4_findTwo_13 : decode cX4_findTwo 13 = .ok (.if_icmp .ge 126, 3) := by decide +kernel
theorem dX4_findTwo_16 : decode cX4_findTwo 16 = .ok (.aload_n 0, 1) := by decide +kernel
theorem dX4_findTwo_17 : decode cX4_findTwo 17 = .ok (.iload_n 3, 1) := by decide +kernel
theorem dX4_findTwo_18 : decode cX4_findTwo 18 = .ok (.invokevirtual 61, 3) := by decide +kernel
theorem dX4_findTwo_21 : decode cX4_findTwo 21 = .ok (.ifCond .ne 6, 3) := by decide +kernel
theorem dX4_findTwo_24 : decode cX4_findTwo 24 = .ok (.goto 109, 3) := by decide +kernel
theorem dX4_findTwo_27 : decode cX4_findTwo 27 = .ok (.aload_n 0, 1) := by decide +kernel
theorem dX4_findTwo_28 : decode cX4_findTwo 28 = .ok (.invokevirtual 162, 3) := by decide +kernel
theorem dX4_findTwo_31 : decode cX4_findTwo 31 = .ok (.aload_n 0, 1) := by decide +kernel
theorem dX4_findTwo_32 : decode cX4_findTwo 32 = .ok (.iload_n 1, 1) := by decide +kernel
theorem dX4_findTwo_33 : decode cX4_findTwo 33 = .ok (.iload_n 3, 1) := by decide +kernel
theorem dX4_findTwo_34 : decode cX4_findTwo 34 = .ok (.invokevirtual 124, 3) := by decide +kernel
theorem dX4_findTwo_37 : decode cX4_findTwo 37 = .ok (.iconst 0, 1) := by decide +kernel
theorem dX4_findTwo_38 : decode cX4_findTwo 38 = .ok (.istore 4, 2) := by decide +kernel
theorem dX4_findTwo_40 : decode cX4_findTwo 40 = .ok (.iload 4, 2) := by decide +kernel
theorem dX4_findTwo_42 : decode cX4_findTwo 42 = .ok (.bipush 48, 2) := by decide +kernel
theorem dX4_findTwo_44 : decode cX4_findTwo 44 = .ok (.if_icmp .ge 85, 3) := by decide +kernel
theorem dX4_findTwo_47 : decode cX4_findTwo 47 = .ok (.aload_n 0, 1) := by decide +kernel
theorem dX4_findTwo_48 : decode cX4_findTwo 48 = .ok (.iload 4, 2) := by decide +kernel
theorem dX4_findTwo_50 : decode cX4_findTwo 50 = .ok (.invokevirtual 61, 3) := by decide +kernel
theorem dX4_findTwo_53 : decode cX4_findTwo 53 = .ok (.ifCond .ne 6, 3) := by decide +kernel
theorem dX4_findTwo_56 : decode cX4_findTwo 56 = .ok (.goto 67, 3) := by decide +kernel
theorem dX4_findTwo_59 : decode cX4_findTwo 59 = .ok (.aload_n 0, 1) := by decide +kernel
theorem dX4_findTwo_60 : decode cX4_findTwo 60 = .ok (.invokevirtual 149, 3) := by decide +kernel
theorem dX4_findTwo_63 : decode cX4_findTwo 63 = .ok (.aload_n 0, 1) := by decide +kernel
theorem dX4_findTwo_64 : decode cX4_findTwo 64 = .ok (.iload_n 1, 1) := by decide +kernel
theorem dX4_findTwo_65 : decode cX4_findTwo 65 = .ok (.iload 4, 2) := by decide +kernel
theorem dX4_findTwo_67 : decode cX4_findTwo 67 = .ok (.invokevirtual 124, 3) := by decide +kernel
theorem dX4_findTwo_70 : decode cX4_findTwo 70 = .ok (.aload_n 0, 1) := by decide +kernel
theorem dX4_findTwo_71 : decode cX4_findTwo 71 = .ok (.aload_n 0, 1) := by decide +kernel
theorem dX4_findTwo_72 : decode cX4_findTwo 72 = .ok (.invokevirtual 131, 3) := by decide +kernel
theorem dX4_findTwo_75 : decode cX4_findTwo 75 = .ok (.invokevirtual 152, 3) := by decide +kernel
theorem dX4_findTwo_78 : decode cX4_findTwo 78 = .ok (.istore 5, 2) := by decide +kernel
theorem dX4_findTwo_80 : decode cX4_findTwo 80 = .ok (.iload 5, 2) := by decide +kernel
theorem dX4_findTwo_82 : decode cX4_findTwo 82 = .ok (.aload_n 0, 1) := by decide +kernel
theorem dX4_findTwo_83 : decode cX4_findTwo 83 = .ok (.getfield 159, 3) := by decide +kernel
theorem dX4_findTwo_86 : decode cX4_findTwo 86 = .ok (.if_icmp .ge 13, 3) := by decide +kernel
theorem dX4_findTwo_89 : decode cX4_findTwo 89 = .ok (.bipush 100, 2) := by decide +kernel
theorem dX4_findTwo_91 : decode cX4_findTwo 91 = .ok (.iload_n 3, 1) := by decide +kernel
theorem dX4_findTwo_92 : decode cX4_findTwo 92 = .ok (.imul, 1) := by decide +kernel
theorem dX4_findTwo_93 : decode cX4_findTwo 93 = .ok (.iload 4, 2) := by decide +kernel
theorem dX4_findTwo_95 : decode cX4_findTwo 95 = .ok (.iadd, 1) := by decide +kernel
theorem dX4_findTwo_96 : decode cX4_findTwo 96 = .ok (.goto 4, 3) := by decide +kernel
theorem dX4_findTwo_99 : decode cX4_findTwo 99 = .ok (.iload_n 2, 1) := by decide +kernel
theorem dX4_findTwo_100 : decode cX4_findTwo 100 = .ok (.istore_n 2, 1) := by decide +kernel
theorem dX4_findTwo_101 : decode cX4_findTwo 101 = .ok (.aload_n 0, 1) := by decide +kernel
theorem dX4_findTwo_102 : decode cX4_findTwo 102 = .ok (.iload 5, 2) := by decide +kernel
theorem dX4_findTwo_104 : decode cX4_findTwo 104 = .ok (.aload_n 0, 1) := by decide +kernel
theorem dX4_findTwo_105 : decode cX4_findTwo 105 = .ok (.getfield 159, 3) := by decide +kernel
theorem dX4_findTwo_108 : decode cX4_findTwo 108 = .ok (.if_icmp .ge 8, 3) := by decide +kernel
theorem dX4_findTwo_111 : decode cX4_findTwo 111 = .ok (.iload 5, 2) := by decide +kernel
theorem dX4_findTwo_113 : decode cX4_findTwo 113 = .ok (.goto 7, 3) := by decide +kernel
theorem dX4_findTwo_116 : decode cX4_findTwo 116 = .ok (.aload_n 0, 1) := by decide +kernel
theorem dX4_findTwo_117 : decode cX4_findTwo 117 = .ok (.getfield 159, 3) := by decide +kernel
theorem dX4_findTwo_120 : decode cX4_findTwo 120 = .ok (.putfield 159, 3) := by decide +kernel
theorem dX4_findTwo_123 : decode cX4_findTwo 123 = .ok (.iinc 4 1, 3) := by decide +kernel
theorem dX4_findTwo_126 : decode cX4_findTwo 126 = .ok (.goto (-86), 3) := by decide +kernel
theorem dX4_findTwo_129 : decode cX4_findTwo 129 = .ok (.aload_n 0, 1) := by decide +kernel
theorem dX4_findTwo_130 : decode cX4_findTwo 130 = .ok (.invokevirtual 165, 3) := by decide +kernel
theorem dX4_findTwo_133 : decode cX4_findTwo 133 = .ok (.iinc 3 1, 3) := by decide +kernel
theorem dX4_findTwo_136 : decode cX4_findTwo 136 = .ok (.goto (-126), 3) := by decide +kernel
theorem dX4_findTwo_139 : decode cX4_findTwo 139 = .ok (.iload_n 2, 1) := by decide +kernel
theorem dX4_findTwo_140 : decode cX4_findTwo 140 = .ok (.ireturn, 1) := by decide +kernel
theorem dX4_two_0 : decode cX4_two 0 = .ok (.aload_n 0, 1) := by decide +kernel
theorem dX4_two_1 : decode cX4_two 1 = .ok (.iload_n 1, 1) := by decide +kernel
theorem dX4_two_2 : decode cX4_two 2 = .ok (.invokevirtual 109, 3) := by decide +kernel
theorem dX4_two_5 : decode cX4_two 5 = .ok (.ifCond .ne 10, 3) := by decide +kernel
theorem dX4_two_8 : decode cX4_two 8 = .ok (.aload_n 0, 1) := by decide +kernel
theorem dX4_two_9 : decode cX4_two 9 = .ok (.ldc 48, 2) := by decide +kernel
theorem dX4_two_11 : decode cX4_two 11 = .ok (.invokevirtual 74, 3) := by decide +kernel
theorem dX4_two_14 : decode cX4_two 14 = .ok (.ireturn, 1) := by decide +kernel
theorem dX4_two_15 : decode cX4_two 15 = .ok (.aload_n 0, 1) := by decide +kernel
theorem dX4_two_16 : decode cX4_two 16 = .ok (.iload_n 1, 1) := by decide +kernel
theorem dX4_two_17 : decode cX4_two 17 = .ok (.invokevirtual 168, 3) := by decide +kernel
theorem dX4_two_20 : decode cX4_two 20 = .ok (.istore_n 2, 1) := by decide +kernel
theorem dX4_two_21 : decode cX4_two 21 = .ok (.iload_n 2, 1) := by decide +kernel
theorem dX4_two_22 : decode cX4_two 22 = .ok (.ifCond .ge 12, 3) := by decide +kernel
theorem dX4_two_25 : decode cX4_two 25 = .ok (.aload_n 0, 1) := by decide +kernel
theorem dX4_two_26 : decode cX4_two 26 = .ok (.ldc 158, 2) := by decide +kernel
theorem dX4_two_28 : decode cX4_two 28 = .ok (.invokevirtual 74, 3) := by decide +kernel
theorem dX4_two_31 : decode cX4_two 31 = .ok (.goto 4, 3) := by decide +kernel
theorem dX4_two_34 : decode cX4_two 34 = .ok (.iload_n 2, 1) := by decide +kernel
theorem dX4_two_35 : decode cX4_two 35 = .ok (.ireturn, 1) := by decide +kernel
theorem dX4_left_0 : decode cX4_left 0 = .ok (.aload_n 0, 1) := by decide +kernel
theorem dX4_left_1 : decode cX4_left 1 = .ok (.iload_n 1, 1) := by decide +kernel
theorem dX4_left_2 : decode cX4_left 2 = .ok (.invokevirtual 109, 3) := by decide +kernel
theorem dX4_left_5 : decode cX4_left 5 = .ok (.ifCond .ne 10, 3) := by decide +kernel
theorem dX4_left_8 : decode cX4_left 8 = .ok (.aload_n 0, 1) := by decide +kernel
theorem dX4_left_9 : decode cX4_left 9 = .ok (.ldc 48, 2) := by decide +kernel
theorem dX4_left_11 : decode cX4_left 11 = .ok (.invokevirtual 74, 3) := by decide +kernel
theorem dX4_left_14 : decode cX4_left 14 = .ok (.ireturn, 1) := by decide +kernel
theorem dX4_left_15 : decode cX4_left 15 = .ok (.aload_n 0, 1) := by decide +kernel
theorem dX4_left_16 : decode cX4_left 16 = .ok (.iload_n 1, 1) := by decide +kernel
theorem dX4_left_17 : decode cX4_left 17 = .ok (.invokevirtual 168, 3) := by decide +kernel
theorem dX4_left_20 : decode cX4_left 20 = .ok (.ifCond .ge 12, 3) := by decide +kernel
theorem dX4_left_23 : decode cX4_left 23 = .ok (.aload_n 0, 1) := by decide +kernel
theorem dX4_left_24 : decode cX4_left 24 = .ok (.ldc 158, 2) := by decide +kernel
theorem dX4_left_26 : decode cX4_left 26 = .ok (.invokevirtual 74, 3) := by decide +kernel
theorem dX4_left_29 : decode cX4_left 29 = .ok (.goto 7, 3) := by decide +kernel
theorem dX4_left_32 : decode cX4_left 32 = .ok (.aload_n 0, 1) := by decide +kernel
theorem dX4_left_33 : decode cX4_left 33 = .ok (.getfield 159, 3) := by decide +kernel
theorem dX4_left_36 : decode cX4_left 36 = .ok (.ireturn, 1) := by decide +kernel
theorem dX4_kind_0 : decode cX4_kind 0 = .ok (.aload_n 0, 1) := by decide +kernel
theorem dX4_kind_1 : decode cX4_kind 1 = .ok (.iload_n 1, 1) := by decide +kernel
theorem dX4_kind_2 : decode cX4_kind 2 = .ok (.invokevirtual 109, 3) := by decide +kernel
theorem dX4_kind_5 : decode cX4_kind 5 = .ok (.ifCond .eq 15, 3) := by decide +kernel
theorem dX4_kind_8 : decode cX4_kind 8 = .ok (.iload_n 2, 1) := by decide +kernel
theorem dX4_kind_9 : decode cX4_kind 9 = .ok (.i2l, 1) := by decide +kernel
theorem dX4_kind_10 : decode cX4_kind 10 = .ok (.lconst 0, 1) := by decide +kernel
theorem dX4_kind_11 : decode cX4_kind 11 = .ok (.ldc2_w 138, 3) := by decide +kernel
theorem dX4_kind_14 : decode cX4_kind 14 = .ok (.invokestatic 51, 3) := by decide +kernel
theorem dX4_kind_17 : decode cX4_kind 17 = .ok (.ifCond .ne 10, 3) := by decide +kernel
theorem dX4_kind_20 : decode cX4_kind 20 = .ok (.aload_n 0, 1) := by decide +kernel
theorem dX4_kind_21 : decode cX4_kind 21 = .ok (.ldc 48, 2) := by decide +kernel
theorem dX4_kind_23 : decode cX4_kind 23 = .ok (.invokevirtual 74, 3) := by decide +kernel
theorem dX4_kind_26 : decode cX4_kind 26 = .ok (.ireturn, 1) := by decide +kernel
theorem dX4_kind_27 : decode cX4_kind 27 = .ok (.aload_n 0, 1) := by decide +kernel
theorem dX4_kind_28 : decode cX4_kind 28 = .ok (.iload_n 1, 1) := by decide +kernel
theorem dX4_kind_29 : decode cX4_kind 29 = .ok (.iconst 0, 1) := by decide +kernel
theorem dX4_kind_30 : decode cX4_kind 30 = .ok (.invokevirtual 86, 3) := by decide +kernel
theorem dX4_kind_33 : decode cX4_kind 33 = .ok (.istore_n 3, 1) := by decide +kernel
theorem dX4_kind_34 : decode cX4_kind 34 = .ok (.iconst 0, 1) := by decide +kernel
theorem dX4_kind_35 : decode cX4_kind 35 = .ok (.istore 4, 2) := by decide +kernel
theorem dX4_kind_37 : decode cX4_kind 37 = .ok (.bipush 49, 2) := by decide +kernel
theorem dX4_kind_39 : decode cX4_kind 39 = .ok (.istore 5, 2) := by decide +kernel
theorem dX4_kind_41 : decode cX4_kind 41 = .ok (.iconst 0, 1) := by decide +kernel
theorem dX4_kind_42 : decode cX4_kind 42 = .ok (.istore 6, 2) := by decide +kernel
theorem dX4_kind_44 : decode cX4_kind 44 = .ok (.iload 6, 2) := by decide +kernel
theorem dX4_kind_46 : decode cX4_kind 46 = .ok (.iconst 5, 1) := by decide +kernel
theorem dX4_kind_47 : decode cX4_kind 47 = .ok (.if_icmp .gt 60, 3) := by decide +kernel
theorem dX4_kind_50 : decode cX4_kind 50 = .ok (.aload_n 0, 1) := by decide +kernel
theorem dX4_kind_51 : decode cX4_kind 51 = .ok (.getfield 7, 3) := by decide +kernel
theorem dX4_kind_54 : decode cX4_kind 54 = .ok (.iload_n 1, 1) := by decide +kernel
theorem dX4_kind_55 : decode cX4_kind 55 = .ok (.iconst 0, 1) := by decide +kernel
theorem dX4_kind_56 : decode cX4_kind 56 = .ok (.invokestatic 57, 3) := by decide +kernel
theorem dX4_kind_59 : decode cX4_kind 59 = .ok (.iload 6, 2) := by decide +kernel
theorem dX4_kind_61 : decode cX4_kind 61 = .ok (.iastore, 1) := by decide +kernel
theorem dX4_kind_62 : decode cX4_kind 62 = .ok (.aload_n 0, 1) := by decide +kernel
theorem dX4_kind_63 : decode cX4_kind 63 = .ok (.iload_n 2, 1) := by decide +kernel
theorem dX4_kind_64 : decode cX4_kind 64 = .ok (.invokevirtual 155, 3) := by decide +kernel
theorem dX4_kind_67 : decode cX4_kind 67 = .ok (.istore 7, 2) := by decide +kernel
theorem dX4_kind_69 : decode cX4_kind 69 = .ok (.iload 7, 2) := by decide +kernel
theorem dX4_kind_71 : decode cX4_kind 71 = .ok (.iload 5, 2) := by decide +kernel
theorem dX4_kind_73 : decode cX4_kind 73 = .ok (.if_icmp .ge 8, 3) := by decide +kernel
theorem dX4_kind_76 : decode cX4_kind 76 = .ok (.iload 6, 2) := by decide +kernel
theorem dX4_kind_78 : decode cX4_kind 78 = .ok (.goto 5, 3) := by decide +kernel
theorem dX4_kind_81 : decode cX4_kind 81 = .ok (.iload 4, 2) := by decide +kernel
theorem dX4_kind_83 : decode cX4_kind 83 = .ok (.istore 4, 2) := by decide +kernel
theorem dX4_kind_85 : decode cX4_kind 85 = .ok (.iload 7, 2) := by decide +kernel
theorem dX4_kind_87 : decode cX4_kind 87 = .ok (.iload 5, 2) := by decide +kernel
theorem dX4_kind_89 : decode cX4_kind 89 = .ok (.if_icmp .ge 8, 3) := by decide +kernel
theorem dX4_kind_92 : decode cX4_kind 92 = .ok (.iload 7, 2) := by decide +kernel
theorem dX4_kind_94 : decode cX4_kind 94 = .ok (.goto 5, 3) := by decide +kernel
theorem dX4_kind_97 : decode cX4_kind 97 = .ok (.iload 5, 2) := by decide +kernel
theorem dX4_kind_99 : decode cX4_kind 99 = .ok (.istore 5, 2) := by decide +kernel
theorem dX4_kind_101 : decode cX4_kind 101 = .ok (.iinc 6 1, 3) := by decide +kernel
theorem dX4_kind_104 : decode cX4_kind 104 = .ok (.goto (-60), 3) := by decide +kernel
theorem dX4_kind_107 : decode cX4_kind 107 = .ok (.aload_n 0, 1) := by decide +kernel
theorem dX4_kind_108 : decode cX4_kind 108 = .ok (.getfield 7, 3) := by decide +kernel
theorem dX4_kind_111 : decode cX4_kind 111 = .ok (.iload_n 1, 1) := by decide +kernel
theorem dX4_kind_112 : decode cX4_kind 112 = .ok (.iconst 0, 1) := by decide +kernel
theorem dX4_kind_113 : decode cX4_kind 113 = .ok (.invokestatic 57, 3) := by decide +kernel
theorem dX4_kind_116 : decode cX4_kind 116 = .ok (.iload_n 3, 1) := by decide +kernel
theorem dX4_kind_117 : decode cX4_kind 117 = .ok (.iastore, 1) := by decide +kernel
theorem dX4_kind_118 : decode cX4_kind 118 = .ok (.iload 4, 2) := by decide +kernel
theorem dX4_kind_120 : decode cX4_kind 120 = .ok (.ireturn, 1) := by decide +kernel
theorem dX4_purse_0 : decode cX4_purse 0 = .ok (.aload_n 0, 1) := by decide +kernel
theorem dX4_purse_1 : decode cX4_purse 1 = .ok (.iload_n 1, 1) := by decide +kernel
theorem dX4_purse_2 : decode cX4_purse 2 = .ok (.invokevirtual 109, 3) := by decide +kernel
theorem dX4_purse_5 : decode cX4_purse 5 = .ok (.ifCond .eq 15, 3) := by decide +kernel
theorem dX4_purse_8 : decode cX4_purse 8 = .ok (.iload_n 2, 1) := by decide +kernel
theorem dX4_purse_9 : decode cX4_purse 9 = .ok (.i2l, 1) := by decide +kernel
theorem dX4_purse_10 : decode cX4_purse 10 = .ok (.lconst 0, 1) := by decide +kernel
theorem dX4_purse_11 : decode cX4_purse 11 = .ok (.ldc2_w 91, 3) := by decide +kernel
theorem dX4_purse_14 : decode cX4_purse 14 = .ok (.invokestatic 51, 3) := by decide +kernel
theorem dX4_purse_17 : decode cX4_purse 17 = .ok (.ifCond .ne 10, 3) := by decide +kernel
theorem dX4_purse_20 : decode cX4_purse 20 = .ok (.aload_n 0, 1) := by decide +kernel
theorem dX4_purse_21 : decode cX4_purse 21 = .ok (.ldc 48, 2) := by decide +kernel
theorem dX4_purse_23 : decode cX4_purse 23 = .ok (.invokevirtual 74, 3) := by decide +kernel
theorem dX4_purse_26 : decode cX4_purse 26 = .ok (.ireturn, 1) := by decide +kernel
theorem dX4_purse_27 : decode cX4_purse 27 = .ok (.aload_n 0, 1) := by decide +kernel
theorem dX4_purse_28 : decode cX4_purse 28 = .ok (.iload_n 1, 1) := by decide +kernel
theorem dX4_purse_29 : decode cX4_purse 29 = .ok (.iconst 2, 1) := by decide +kernel
theorem dX4_purse_30 : decode cX4_purse 30 = .ok (.invokevirtual 86, 3) := by decide +kernel
theorem dX4_purse_33 : decode cX4_purse 33 = .ok (.istore_n 3, 1) := by decide +kernel
theorem dX4_purse_34 : decode cX4_purse 34 = .ok (.aload_n 0, 1) := by decide +kernel
theorem dX4_purse_35 : decode cX4_purse 35 = .ok (.getfield 7, 3) := by decide +kernel
theorem dX4_purse_38 : decode cX4_purse 38 = .ok (.iload_n 1, 1) := by decide +kernel
theorem dX4_purse_39 : decode cX4_purse 39 = .ok (.iconst 2, 1) := by decide +kernel
theorem dX4_purse_40 : decode cX4_purse 40 = .ok (.invokestatic 57, 3) := by decide +kernel
theorem dX4_purse_43 : decode cX4_purse 43 = .ok (.sipush 255, 3) := by decide +kernel
theorem dX4_purse_46 : decode cX4_purse 46 = .ok (.iastore, 1) := by decide +kernel
theorem dX4_purse_47 : decode cX4_purse 47 = .ok (.aload_n 0, 1) := by decide +kernel
theorem dX4_purse_48 : decode cX4_purse 48 = .ok (.iload_n 2, 1) := by decide +kernel
theorem dX4_purse_49 : decode cX4_purse 49 = .ok (.invokevirtual 155, 3) := by decide +kernel
theorem dX4_purse_52 : decode cX4_purse 52 = .ok (.istore 4, 2) := by decide +kernel
theorem dX4_purse_54 : decode cX4_purse 54 = .ok (.iconst 0, 1) := by decide +kernel
theorem dX4_purse_55 : decode cX4_purse 55 = .ok (.istore 5, 2) := by decide +kernel
theorem dX4_purse_57 : decode cX4_purse 57 = .ok (.aload_n 0, 1) := by decide +kernel
theorem dX4_purse_58 : decode cX4_purse 58 = .ok (.getfield 7, 3) := by decide +kernel
theorem dX4_purse_61 : decode cX4_purse 61 = .ok (.iload_n 1, 1) := by decide +kernel
theorem dX4_purse_62 : decode cX4_purse 62 = .ok (.iconst 2, 1) := by decide +kernel
theorem dX4_purse_63 : decode cX4_purse 63 = .ok (.invokestatic 57, 3) := by decide +kernel
theorem dX4_purse_66 : decode cX4_purse 66 = .ok (.iconst 0, 1) := by decide +kernel
theorem dX4_purse_67 : decode cX4_purse 67 = .ok (.iastore, 1) := by decide +kernel
theorem dX4_purse_68 : decode cX4_purse 68 = .ok (.aload_n 0, 1) := by decide +kernel
theorem dX4_purse_69 : decode cX4_purse 69 = .ok (.iload_n 2, 1) := by decide +kernel
theorem dX4_purse_70 : decode cX4_purse 70 = .ok (.invokevirtual 155, 3) := by decide +kernel
theorem dX4_purse_73 : decode cX4_purse 73 = .ok (.iload 4, 2) := by decide +kernel
theorem dX4_purse_75 : decode cX4_purse 75 = .ok (.if_icmp .le 21, 3) := by decide +kernel
theorem dX4_purse_78 : decode cX4_purse 78 = .ok (.iinc 5 1, 3) := by decide +kernel
theorem dX4_purse_81 : decode cX4_purse 81 = .ok (.aload_n 0, 1) := by decide +kernel
theorem dX4_purse_82 : decode cX4_purse 82 = .ok (.getfield 7, 3) := by decide +kernel
theorem dX4_purse_85 : decode cX4_purse 85 = .ok (.iload_n 1, 1) := by decide +kernel
theorem dX4_purse_86 : decode cX4_purse 86 = .ok (.iconst 2, 1) := by decide +kernel
theorem dX4_purse_87 : decode cX4_purse 87 = .ok (.invokestatic 57, 3) := by decide +kernel
theorem dX4_purse_90 : decode cX4_purse 90 = .ok (.iload 5, 2) := by decide +kernel
theorem dX4_purse_92 : decode cX4_purse 92 = .ok (.iastore, 1) := by decide +kernel
theorem dX4_purse_93 : decode cX4_purse 93 = .ok (.goto (-25), 3) := by decide +kernel
theorem dX4_purse_96 : decode cX4_purse 96 = .ok (.aload_n 0, 1) := by decide +kernel
theorem dX4_purse_97 : decode cX4_purse 97 = .ok (.getfield 7, 3) := by decide +kernel
theorem dX4_purse_100 : decode cX4_purse 100 = .ok (.iload_n 1, 1) := by decide +kernel
theorem dX4_purse_101 : decode cX4_purse 101 = .ok (.iconst 2, 1) := by decide +kernel
theorem dX4_purse_102 : decode cX4_purse 102 = .ok (.invokestatic 57, 3) := by decide +kernel
theorem dX4_purse_105 : decode cX4_purse 105 = .ok (.iload_n 3, 1) := by decide +kernel
theorem dX4_purse_106 : decode cX4_purse 106 = .ok (.iastore, 1) := by decide +kernel
theorem dX4_purse_107 : decode cX4_purse 107 = .ok (.iload 5, 2) := by decide +kernel
theorem dX4_purse_109 : decode cX4_purse 109 = .ok (.ireturn, 1) := by decide +kernel
theorem dX4_needed_0 : decode cX4_needed 0 = .ok (.iload_n 1, 1) := by decide +kernel
theorem dX4_needed_1 : decode cX4_needed 1 = .ok (.i2l, 1) := by decide +kernel
theorem dX4_needed_2 : decode cX4_needed 2 = .ok (.lconst 0, 1) := by decide +kernel
theorem dX4_needed_3 : decode cX4_needed 3 = .ok (.ldc2_w 138, 3) := by decide +kernel
theorem dX4_needed_6 : decode cX4_needed 6 = .ok (.invokestatic 51, 3) := by decide +kernel
theorem dX4_needed_9 : decode cX4_needed 9 = .ok (.ifCond .ne 10, 3) := by decide +kernel
theorem dX4_needed_12 : decode cX4_needed 12 = .ok (.aload_n 0, 1) := by decide +kernel
theorem dX4_needed_13 : decode cX4_needed 13 = .ok (.ldc 48, 2) := by decide +kernel
theorem dX4_needed_15 : decode cX4_needed 15 = .ok (.invokevirtual 74, 3) := by decide +kernel
theorem dX4_needed_18 : decode cX4_needed 18 = .ok (.ireturn, 1) := by decide +kernel
theorem dX4_needed_19 : decode cX4_needed 19 = .ok (.iconst (-1), 1) := by decide +kernel
theorem dX4_needed_20 : decode cX4_needed 20 = .ok (.istore_n 2, 1) := by decide +kernel
theorem dX4_needed_21 : decode cX4_needed 21 = .ok (.iconst (-1), 1) := by decide +kernel
theorem dX4_needed_22 : decode cX4_needed 22 = .ok (.istore_n 3, 1) := by decide +kernel
theorem dX4_needed_23 : decode cX4_needed 23 = .ok (.aload_n 0, 1) := by decide +kernel
theorem dX4_needed_24 : decode cX4_needed 24 = .ok (.iconst 0, 1) := by decide +kernel
theorem dX4_needed_25 : decode cX4_needed 25 = .ok (.putfield 25, 3) := by decide +kernel
theorem dX4_needed_28 : decode cX4_needed 28 = .ok (.aload_n 0, 1) := by decide +kernel
theorem dX4_needed_29 : decode cX4_needed 29 = .ok (.getfield 25, 3) := by decide +kernel
theorem dX4_needed_32 : decode cX4_needed 32 = .ok (.aload_n 0, 1) := by decide +kernel
theorem dX4_needed_33 : decode cX4_needed 33 = .ok (.getfield 7, 3) := by decide +kernel
theorem dX4_needed_36 : decode cX4_needed 36 = .ok (.iconst 0, 1) := by decide +kernel
theorem dX4_needed_37 : decode cX4_needed 37 = .ok (.iaload, 1) := by decide +kernel
theorem dX4_needed_38 : decode cX4_needed 38 = .ok (.if_icmp .ge 51, 3) := by decide +kernel
theorem dX4_needed_41 : decode cX4_needed 41 = .ok (.aload_n 0, 1) := by decide +kernel
theorem dX4_needed_42 : decode cX4_needed 42 = .ok (.iload_n 1, 1) := by decide +kernel
theorem dX4_needed_43 : decode cX4_needed 43 = .ok (.invokevirtual 155, 3) := by decide +kernel
theorem dX4_needed_46 : decode cX4_needed 46 = .ok (.istore 4, 2) := by decide +kernel
theorem dX4_needed_48 : decode cX4_needed 48 = .ok (.iload 4, 2) := by decide +kernel
theorem dX4_needed_50 : decode cX4_needed 50 = .ok (.iload_n 3, 1) := by decide +kernel
theorem dX4_needed_51 : decode cX4_needed 51 = .ok (.if_icmp .le 10, 3) := by decide +kernel
theorem dX4_needed_54 : decode cX4_needed 54 = .ok (.aload_n 0, 1) := by decide +kernel
theorem dX4_needed_55 : decode cX4_needed 55 = .ok (.getfield 25, 3) := by decide +kernel
theorem dX4_needed_58 : decode cX4_needed 58 = .ok (.goto 4, 3) := by decide +kernel
theorem dX4_needed_61 : decode cX4_needed 61 = .ok (.iload_n 2, 1) := by decide +kernel
theorem dX4_needed_62 : decode cX4_needed 62 = .ok (.istore_n 2, 1) := by decide +kernel
theorem dX4_needed_63 : decode cX4_needed 63 = .ok (.iload 4, 2) := by decide +kernel
theorem dX4_needed_65 : decode cX4_needed 65 = .ok (.iload_n 3, 1) := by decide +kernel
theorem dX4_needed_66 : decode cX4_needed 66 = .ok (.if_icmp .le 8, 3) := by decide +kernel
theorem dX4_needed_69 : decode cX4_needed 69 = .ok (.iload 4, 2) := by decide +kernel
theorem dX4_needed_71 : decode cX4_needed 71 = .ok (.goto 4, 3) := by decide +kernel
theorem dX4_needed_74 : decode cX4_needed 74 = .ok (.iload_n 3, 1) := by decide +kernel
theorem dX4_needed_75 : decode cX4_needed 75 = .ok (.istore_n 3, 1) := by decide +kernel
theorem dX4_needed_76 : decode cX4_needed 76 = .ok (.aload_n 0, 1) := by decide +kernel
theorem dX4_needed_77 : decode cX4_needed 77 = .ok (.dup, 1) := by decide +kernel
theorem dX4_needed_78 : decode cX4_needed 78 = .ok (.getfield 25, 3) := by decide +kernel
theorem dX4_needed_81 : decode cX4_needed 81 = .ok (.iconst 1, 1) := by decide +kernel
theorem dX4_needed_82 : decode cX4_needed 82 = .ok (.iadd, 1) := by decide +kernel
theorem dX4_needed_83 : decode cX4_needed 83 = .ok (.putfield 25, 3) := by decide +kernel
theorem dX4_needed_86 : decode cX4_needed 86 = .ok (.goto (-58), 3) := by decide +kernel
theorem dX4_needed_89 : decode cX4_needed 89 = .ok (.aload_n 0, 1) := by decide +kernel
theorem dX4_needed_90 : decode cX4_needed 90 = .ok (.iconst (-1), 1) := by decide +kernel
theorem dX4_needed_91 : decode cX4_needed 91 = .ok (.putfield 25, 3) := by decide +kernel
theorem dX4_needed_94 : decode cX4_needed 94 = .ok (.iload_n 2, 1) := by decide +kernel
theorem dX4_needed_95 : decode cX4_needed 95 = .ok (.ifCond .ge 12, 3) := by decide +kernel
theorem dX4_needed_98 : decode cX4_needed 98 = .ok (.aload_n 0, 1) := by decide +kernel
theorem dX4_needed_99 : decode cX4_needed 99 = .ok (.ldc 158, 2) := by decide +kernel
theorem dX4_needed_101 : decode cX4_needed 101 = .ok (.invokevirtual 74, 3) := by decide +kernel
theorem dX4_needed_104 : decode cX4_needed 104 = .ok (.goto 4, 3) := by decide +kernel
theorem dX4_needed_107 : decode cX4_needed 107 = .ok (.iload_n 2, 1) := by decide +kernel
theorem dX4_needed_108 : decode cX4_needed 108 = .ok (.ireturn, 1) := by decide +kernel
theorem dX4_isOpen_0 : decode cX4_isOpen 0 = .ok (.aload_n 0, 1) := by decide +kernel
theorem dX4_isOpen_1 : decode cX4_isOpen 1 = .ok (.getfield 7, 3) := by decide +kernel
theorem dX4_isOpen_4 : decode cX4_isOpen 4 = .ok (.iconst 3, 1) := by decide +kernel
theorem dX4_isOpen_5 : decode cX4_isOpen 5 = .ok (.iload_n 1, 1) := by decide +kernel
theorem dX4_isOpen_6 : decode cX4_isOpen 6 = .ok (.iadd, 1) := by decide +kernel
theorem dX4_isOpen_7 : decode cX4_isOpen 7 = .ok (.iaload, 1) := by decide +kernel
theorem dX4_isOpen_8 : decode cX4_isOpen 8 = .ok (.istore_n 3, 1) := by decide +kernel
theorem dX4_isOpen_9 : decode cX4_isOpen 9 = .ok (.iload_n 2, 1) := by decide +kernel
theorem dX4_isOpen_10 : decode cX4_isOpen 10 = .ok (.ifCond .ne 16, 3) := by decide +kernel
theorem dX4_isOpen_13 : decode cX4_isOpen 13 = .ok (.iload_n 3, 1) := by decide +kernel
theorem dX4_isOpen_14 : decode cX4_isOpen 14 = .ok (.iconst 1, 1) := by decide +kernel
theorem dX4_isOpen_15 : decode cX4_isOpen 15 = .ok (.if_icmp .eq 7, 3) := by decide +kernel
theorem dX4_isOpen_18 : decode cX4_isOpen 18 = .ok (.iconst 1, 1) := by decide +kernel
theorem dX4_isOpen_19 : decode cX4_isOpen 19 = .ok (.goto 22, 3) := by decide +kernel
theorem dX4_isOpen_22 : decode cX4_isOpen 22 = .ok (.iconst 0, 1) := by decide +kernel
theorem dX4_isOpen_23 : decode cX4_isOpen 23 = .ok (.goto 18, 3) := by decide +kernel
theorem dX4_isOpen_26 : decode cX4_isOpen 26 = .ok (.iload_n 3, 1) := by decide +kernel
theorem dX4_isOpen_27 : decode cX4_isOpen 27 = .ok (.iconst 5, 1) := by decide +kernel
theorem dX4_isOpen_28 : decode cX4_isOpen 28 = .ok (.if_icmp .eq 8, 3) := by decide +kernel
theorem dX4_isOpen_31 : decode cX4_isOpen 31 = .ok (.iload_n 3, 1) := by decide +kernel
theorem dX4_isOpen_32 : decode cX4_isOpen 32 = .ok (.iconst 3, 1) := by decide +kernel
theorem dX4_isOpen_33 : decode cX4_isOpen 33 = .ok (.if_icmp .ne 7, 3) := by decide +kernel
theorem dX4_isOpen_36 : decode cX4_isOpen 36 = .ok (.iconst 1, 1) := by decide +kernel
theorem dX4_isOpen_37 : decode cX4_isOpen 37 = .ok (.goto 4, 3) := by decide +kernel
theorem dX4_isOpen_40 : decode cX4_isOpen 40 = .ok (.iconst 0, 1) := by decide +kernel
theorem dX4_isOpen_41 : decode cX4_isOpen 41 = .ok (.ireturn, 1) := by decide +kernel
theorem dX4_way_0 : decode cX4_way 0 = .ok (.iload_n 1, 1) := by decide +kernel
theorem dX4_way_1 : decode cX4_way 1 = .ok (.invokestatic 68, 3) := by decide +kernel
theorem dX4_way_4 : decode cX4_way 4 = .ok (.ifCond .eq 20, 3) := by decide +kernel
theorem dX4_way_7 : decode cX4_way 7 = .ok (.iload_n 2, 1) := by decide +kernel
theorem dX4_way_8 : decode cX4_way 8 = .ok (.invokestatic 68, 3) := by decide +kernel
theorem dX4_way_11 : decode cX4_way 11 = .ok (.ifCond .eq 13, 3) := by decide +kernel
theorem dX4_way_14 : decode cX4_way 14 = .ok (.iload_n 3, 1) := by decide +kernel
theorem dX4_way_15 : decode cX4_way 15 = .ok (.i2l, 1) := by decide +kernel
theorem dX4_way_16 : decode cX4_way 16 = .ok (.lconst 0, 1) := by decide +kernel
theorem dX4_way_17 : decode cX4_way 17 = .ok (.lconst 1, 1) := by decide +kernel
theorem dX4_way_18 : decode cX4_way 18 = .ok (.invokestatic 51, 3) := by decide +kernel
theorem dX4_way_21 : decode cX4_way 21 = .ok (.ifCond .ne 10, 3) := by decide +kernel
theorem dX4_way_24 : decode cX4_way 24 = .ok (.aload_n 0, 1) := by decide +kernel
theorem dX4_way_25 : decode cX4_way 25 = .ok (.ldc 48, 2) := by decide +kernel
theorem dX4_way_27 : decode cX4_way 27 = .ok (.invokevirtual 74, 3) := by decide +kernel
theorem dX4_way_30 : decode cX4_way 30 = .ok (.ireturn, 1) := by decide +kernel
theorem dX4_way_31 : decode cX4_way 31 = .ok (.iconst 0, 1) := by decide +kernel
theorem dX4_way_32 : decode cX4_way 32 = .ok (.istore 4, 2) := by decide +kernel
theorem dX4_way_34 : decode cX4_way 34 = .ok (.iload 4, 2) := by decide +kernel
theorem dX4_way_36 : decode cX4_way 36 = .ok (.bipush 48, 2) := by decide +kernel
theorem dX4_way_38 : decode cX4_way 38 = .ok (.if_icmp .ge 38, 3) := by decide +kernel
theorem dX4_way_41 : decode cX4_way 41 = .ok (.aload_n 0, 1) := by decide +kernel
theorem dX4_way_42 : decode cX4_way 42 = .ok (.getfield 29, 3) := by decide +kernel
theorem dX4_way_45 : decode cX4_way 45 = .ok (.iload 4, 2) := by decide +kernel
theorem dX4_way_47 : decode cX4_way 47 = .ok (.iload 4, 2) := by decide +kernel
theorem dX4_way_49 : decode cX4_way 49 = .ok (.iload_n 1, 1) := by decide +kernel
theorem dX4_way_50 : decode cX4_way 50 = .ok (.if_icmp .ne 17, 3) := by decide +kernel
theorem dX4_way_53 : decode cX4_way 53 = .ok (.aload_n 0, 1) := by decide +kernel
theorem dX4_way_54 : decode cX4_way 54 = .ok (.iload 4, 2) := by decide +kernel
theorem dX4_way_56 : decode cX4_way 56 = .ok (.iload_n 3, 1) := by decide +kernel
theorem dX4_way_57 : decode cX4_way 57 = .ok (.invokevirtual 171, 3) := by decide +kernel
theorem dX4_way_60 : decode cX4_way 60 = .ok (.ifCond .eq 7, 3) := by decide +kernel
theorem dX4_way_63 : decode cX4_way 63 = .ok (.iconst 0, 1) := by decide +kernel
theorem dX4_way_64 : decode cX4_way 64 = .ok (.goto 5, 3) := by decide +kernel
theorem dX4_way_67 : decode cX4_way 67 = .ok (.bipush 48, 2) := by decide +kernel
theorem dX4_way_69 : decode cX4_way 69 = .ok (.iastore, 1) := by decide +kernel
theorem dX4_way_70 : decode cX4_way 70 = .ok (.iinc 4 1, 3) := by decide +kernel
theorem dX4_way_73 : decode cX4_way 73 = .ok (.goto (-39), 3) := by decide +kernel
theorem dX4_way_76 : decode cX4_way 76 = .ok (.iconst 0, 1) := by decide +kernel
theorem dX4_way_77 : decode cX4_way 77 = .ok (.istore 4, 2) := by decide +kernel
theorem dX4_way_79 : decode cX4_way 79 = .ok (.iload 4, 2) := by decide +kernel
theorem dX4_way_81 : decode cX4_way 81 = .ok (.sipush 2304, 3) := by decide +kernel
theorem dX4_way_84 : decode cX4_way 84 = .ok (.if_icmp .ge 100, 3) := by decide +kernel
theorem dX4_way_87 : decode cX4_way 87 = .ok (.iload 4, 2) := by decide +kernel
theorem dX4_way_89 : decode cX4_way 89 = .ok (.bipush 48, 2) := by decide +kernel
theorem dX4_way_91 : decode cX4_way 91 = .ok (.irem, 1) := by decide +kernel
theorem dX4_way_92 : decode cX4_way 92 = .ok (.istore 5, 2) := by decide +kernel
theorem dX4_way_94 : decode cX4_way 94 = .ok (.iconst 0, 1) := by decide +kernel
theorem dX4_way_95 : decode cX4_way 95 = .ok (.istore 6, 2) := by decide +kernel
theorem dX4_way_97 : decode cX4_way 97 = .ok (.iload 6, 2) := by decide +kernel
theorem dX4_way_99 : decode cX4_way 99 = .ok (.iconst 4, 1) := by decide +kernel
theorem dX4_way_100 : decode cX4_way 100 = .ok (.if_icmp .ge 78, 3) := by decide +kernel
theorem dX4_way_103 : decode cX4_way 103 = .ok (.aload_n 0, 1) := by decide +kernel
theorem dX4_way_104 : decode cX4_way 104 = .ok (.iload 5, 2) := by decide +kernel
theorem dX4_way_106 : decode cX4_way 106 = .ok (.iload_n 3, 1) := by decide +kernel
theorem dX4_way_107 : decode cX4_way 107 = .ok (.invokevirtual 171, 3) := by decide +kernel
theorem dX4_way_110 : decode cX4_way 110 = .ok (.ifCond .eq 68, 3) := by decide +kernel
theorem dX4_way_113 : decode cX4_way 113 = .ok (.iload 5, 2) := by decide +kernel
theorem dX4_way_115 : decode cX4_way 115 = .ok (.iload 6, 2) := by decide +kernel
theorem dX4_way_117 : decode cX4_way 117 = .ok (.invokestatic 65, 3) := by decide +kernel
theorem dX4_way_120 : decode cX4_way 120 = .ok (.istore 7, 2) := by decide +kernel
theorem dX4_way_122 : decode cX4_way 122 = .ok (.aload_n 0, 1) := by decide +kernel
theorem dX4_way_123 : decode cX4_way 123 = .ok (.getfield 29, 3) := by decide +kernel
theorem dX4_way_126 : decode cX4_way 126 = .ok (.iload 5, 2) := by decide +kernel
theorem dX4_way_128 : decode cX4_way 128 = .ok (.iload 7, 2) := by decide +kernel
theorem dX4_way_130 : decode cX4_way 130 = .ok (.ifCond .lt 34, 3) := by decide +kernel
theorem dX4_way_133 : decode cX4_way 133 = .ok (.aload_n 0, 1) := by decide +kernel
theorem dX4_way_134 : decode cX4_way 134 = .ok (.getfield 29, 3) := by decide +kernel
theorem dX4_way_137 : decode cX4_way 137 = .ok (.iload 7, 2) := by decide +kernel
theorem dX4_way_139 : decode cX4_way 139 = .ok (.iaload, 1) := by decide +kernel
theorem dX4_way_140 : decode cX4_way 140 = .ok (.iconst 1, 1) := by decide +kernel
theorem dX4_way_141 : decode cX4_way 141 = .ok (.iadd, 1) := by decide +kernel
theorem dX4_way_142 : decode cX4_way 142 = .ok (.aload_n 0, 1) := by decide +kernel
theorem dX4_way_143 : decode cX4_way 143 = .ok (.getfield 29, 3) := by decide +kernel
theorem dX4_way_146 : decode cX4_way 146 = .ok (.iload 5, 2) := by decide +kernel
theorem dX4_way_148 : decode cX4_way 148 = .ok (.iaload, 1) := by decide +kernel
theorem dX4_way_149 : decode cX4_way 149 = .ok (.if_icmp .ge 15, 3) := by decide +kernel
theorem dX4_way_152 : decode cX4_way 152 = .ok (.aload_n 0, 1) := by decide +kernel
theorem dX4_way_153 : decode cX4_way 153 = .ok (.getfield 29, 3) := by decide +kernel
theorem dX4_way_156 : decode cX4_way 156 = .ok (.iload 7, 2) := by decide +kernel
theorem dX4_way_158 : decode cX4_way 158 = .ok (.iaload, 1) := by decide +kernel
theorem dX4_way_159 : decode cX4_way 159 = .ok (.iconst 1, 1) := by decide +kernel
theorem dX4_way_160 : decode cX4_way 160 = .ok (.iadd, 1) := by decide +kernel
theorem dX4_way_161 : decode cX4_way 161 = .ok (.goto 10, 3) := by decide +kernel
theorem dX4_way_164 : decode cX4_way 164 = .ok (.aload_n 0, 1) := by decide +kernel
theorem dX4_way_165 : decode cX4_way 165 = .ok (.getfield 29, 3) := by decide +kernel
theorem dX4_way_168 : decode cX4_way 168 = .ok (.iload 5, 2) := by decide +kernel
theorem dX4_way_170 : decode cX4_way 170 = .ok (.iaload, 1) := by decide +kernel
theorem dX4_way_171 : decode cX4_way 171 = .ok (.iastore, 1) := by decide +kernel
theorem dX4_way_172 : decode cX4_way 172 = .ok (.iinc 6 1, 3) := by decide +kernel
theorem dX4_way_175 : decode cX4_way 175 = .ok (.goto (-78), 3) := by decide +kernel
theorem dX4_way_178 : decode cX4_way 178 = .ok (.iinc 4 1, 3) := by decide +kernel
theorem dX4_way_181 : decode cX4_way 181 = .ok (.goto (-102), 3) := by decide +kernel
theorem dX4_way_184 : decode cX4_way 184 = .ok (.aload_n 0, 1) := by decide +kernel
theorem dX4_way_185 : decode cX4_way 185 = .ok (.getfield 29, 3) := by decide +kernel
theorem dX4_way_188 : decode cX4_way 188 = .ok (.iload_n 2, 1) := by decide +kernel
theorem dX4_way_189 : decode cX4_way 189 = .ok (.iaload, 1) := by decide +kernel
theorem dX4_way_190 : decode cX4_way 190 = .ok (.bipush 48, 2) := by decide +kernel
theorem dX4_way_192 : decode cX4_way 192 = .ok (.if_icmp .ge 12, 3) := by decide +kernel
theorem dX4_way_195 : decode cX4_way 195 = .ok (.aload_n 0, 1) := by decide +kernel
theorem dX4_way_196 : decode cX4_way 196 = .ok (.getfield 29, 3) := by decide +kernel
theorem dX4_way_199 : decode cX4_way 199 = .ok (.iload_n 2, 1) := by decide +kernel
theorem dX4_way_200 : decode cX4_way 200 = .ok (.iaload, 1) := by decide +kernel
theorem dX4_way_201 : decode cX4_way 201 = .ok (.goto 9, 3) := by decide +kernel
theorem dX4_way_204 : decode cX4_way 204 = .ok (.aload_n 0, 1) := by decide +kernel
theorem dX4_way_205 : decode cX4_way 205 = .ok (.ldc 158, 2) := by decide +kernel
theorem dX4_way_207 : decode cX4_way 207 = .ok (.invokevirtual 74, 3) := by decide +kernel
theorem dX4_way_210 : decode cX4_way 210 = .ok (.ireturn, 1) := by decide +kernel
theorem dX4_feed_0 : decode cX4_feed 0 = .ok (.iload_n 2, 1) := by decide +kernel
theorem dX4_feed_1 : decode cX4_feed 1 = .ok (.i2l, 1) := by decide +kernel
theorem dX4_feed_2 : decode cX4_feed 2 = .ok (.lconst 1, 1) := by decide +kernel
theorem dX4_feed_3 : decode cX4_feed 3 = .ok (.ldc2_w 78, 3) := by decide +kernel
theorem dX4_feed_6 : decode cX4_feed 6 = .ok (.invokestatic 51, 3) := by decide +kernel
theorem dX4_feed_9 : decode cX4_feed 9 = .ok (.ifCond .ne 10, 3) := by decide +kernel
theorem dX4_feed_12 : decode cX4_feed 12 = .ok (.aload_n 0, 1) := by decide +kernel
theorem dX4_feed_13 : decode cX4_feed 13 = .ok (.ldc 48, 2) := by decide +kernel
theorem dX4_feed_15 : decode cX4_feed 15 = .ok (.invokevirtual 74, 3) := by decide +kernel
theorem dX4_feed_18 : decode cX4_feed 18 = .ok (.ireturn, 1) := by decide +kernel
theorem dX4_feed_19 : decode cX4_feed 19 = .ok (.aload_n 0, 1) := by decide +kernel
theorem dX4_feed_20 : decode cX4_feed 20 = .ok (.getfield 174, 3) := by decide +kernel
theorem dX4_feed_23 : decode cX4_feed 23 = .ok (.iload_n 2, 1) := by decide +kernel
theorem dX4_feed_24 : decode cX4_feed 24 = .ok (.iadd, 1) := by decide +kernel
theorem dX4_feed_25 : decode cX4_feed 25 = .ok (.bipush 120, 2) := by decide +kernel
theorem dX4_feed_27 : decode cX4_feed 27 = .ok (.if_icmp .le 10, 3) := by decide +kernel
theorem dX4_feed_30 : decode cX4_feed 30 = .ok (.aload_n 0, 1) := by decide +kernel
theorem dX4_feed_31 : decode cX4_feed 31 = .ok (.ldc 96, 2) := by decide +kernel
theorem dX4_feed_33 : decode cX4_feed 33 = .ok (.invokevirtual 74, 3) := by decide +kernel
theorem dX4_feed_36 : decode cX4_feed 36 = .ok (.ireturn, 1) := by decide +kernel
theorem dX4_feed_37 : decode cX4_feed 37 = .ok (.iload_n 2, 1) := by decide +kernel
theorem dX4_feed_38 : decode cX4_feed 38 = .ok (.iconst 1, 1) := by decide +kernel
theorem dX4_feed_39 : decode cX4_feed 39 = .ok (.isub, 1) := by decide +kernel
theorem dX4_feed_40 : decode cX4_feed 40 = .ok (.istore_n 3, 1) := by decide +kernel
theorem dX4_feed_41 : decode cX4_feed 41 = .ok (.iload_n 3, 1) := by decide +kernel
theorem dX4_feed_42 : decode cX4_feed 42 = .ok (.ifCond .lt 38, 3) := by decide +kernel
theorem dX4_feed_45 : decode cX4_feed 45 = .ok (.aload_n 0, 1) := by decide +kernel
theorem dX4_feed_46 : decode cX4_feed 46 = .ok (.getfield 32, 3) := by decide +kernel
theorem dX4_feed_49 : decode cX4_feed 49 = .ok (.aload_n 0, 1) := by decide +kernel
theorem dX4_feed_50 : decode cX4_feed 50 = .ok (.getfield 174, 3) := by decide +kernel
theorem dX4_feed_53 : decode cX4_feed 53 = .ok (.iload_n 1, 1) := by decide +kernel
theorem dX4_feed_54 : decode cX4_feed 54 = .ok (.bipush 8, 2) := by decide +kernel
theorem dX4_feed_56 : decode cX4_feed 56 = .ok (.iload_n 3, 1) := by decide +kernel
theorem dX4_feed_57 : decode cX4_feed 57 = .ok (.imul, 1) := by decide +kernel
theorem dX4_feed_58 : decode cX4_feed 58 = .ok (.ishr, 1) := by decide +kernel
theorem dX4_feed_59 : decode cX4_feed 59 = .ok (.sipush 255, 3) := by decide +kernel
theorem dX4_feed_62 : decode cX4_feed 62 = .ok (.iand, 1) := by decide +kernel
theorem dX4_feed_63 : decode cX4_feed 63 = .ok (.iastore, 1) := by decide +kernel
theorem dX4_feed_64 : decode cX4_feed 64 = .ok (.aload_n 0, 1) := by decide +kernel
theorem dX4_feed_65 : decode cX4_feed 65 = .ok (.dup, 1) := by decide +kernel
theorem dX4_feed_66 : decode cX4_feed 66 = .ok (.getfield 174, 3) := by decide +kernel
theorem dX4_feed_69 : decode cX4_feed 69 = .ok (.iconst 1, 1) := by decide +kernel
theorem dX4_feed_70 : decode cX4_feed 70 = .ok (.iadd, 1) := by decide +kernel
theorem dX4_feed_71 : decode cX4_feed 71 = .ok (.putfield 174, 3) := by decide +kernel
theorem dX4_feed_74 : decode cX4_feed 74 = .ok (.iinc 3 (-1), 3) := by decide +kernel
theorem dX4_feed_77 : decode cX4_feed 77 = .ok (.goto (-36), 3) := by decide +kernel
theorem dX4_feed_80 : decode cX4_feed 80 = .ok (.aload_n 0, 1) := by decide +kernel
theorem dX4_feed_81 : decode cX4_feed 81 = .ok (.getfield 174, 3) := by decide +kernel
theorem dX4_feed_84 : decode cX4_feed 84 = .ok (.ireturn, 1) := by decide +kernel
theorem dX4_wipe_0 : decode cX4_wipe 0 = .ok (.aload_n 0, 1) := by decide +kernel
theorem dX4_wipe_1 : decode cX4_wipe 1 = .ok (.getfield 174, 3) := by decide +kernel
theorem dX4_wipe_4 : decode cX4_wipe 4 = .ok (.istore_n 1, 1) := by decide +kernel
theorem dX4_wipe_5 : decode cX4_wipe 5 = .ok (.aload_n 0, 1) := by decide +kernel
theorem dX4_wipe_6 : decode cX4_wipe 6 = .ok (.iconst 0, 1) := by decide +kernel
theorem dX4_wipe_7 : decode cX4_wipe 7 = .ok (.putfield 174, 3) := by decide +kernel
theorem dX4_wipe_10 : decode cX4_wipe 10 = .ok (.iload_n 1, 1) := by decide +kernel
theorem dX4_wipe_11 : decode cX4_wipe 11 = .ok (.ireturn, 1) := by decide +kernel
theorem dX4_byteAt_0 : decode cX4_byteAt 0 = .ok (.iload_n 1, 1) := by decide +kernel
theorem dX4_byteAt_1 : decode cX4_byteAt 1 = .ok (.aload_n 0, 1) := by decide +kernel
theorem dX4_byteAt_2 : decode cX4_byteAt 2 = .ok (.getfield 174, 3) := by decide +kernel
theorem dX4_byteAt_5 : decode cX4_byteAt 5 = .ok (.if_icmp .ge 12, 3) := by decide +kernel
theorem dX4_byteAt_8 : decode cX4_byteAt 8 = .ok (.aload_n 0, 1) := by decide +kernel
theorem dX4_byteAt_9 : decode cX4_byteAt 9 = .ok (.getfield 32, 3) := by decide +kernel
theorem dX4_byteAt_12 : decode cX4_byteAt 12 = .ok (.iload_n 1, 1) := by decide +kernel
theorem dX4_byteAt_13 : decode cX4_byteAt 13 = .ok (.iaload, 1) := by decide +kernel
theorem dX4_byteAt_14 : decode cX4_byteAt 14 = .ok (.goto 4, 3) := by decide +kernel
theorem dX4_byteAt_17 : decode cX4_byteAt 17 = .ok (.iconst (-1), 1) := by decide +kernel
theorem dX4_byteAt_18 : decode cX4_byteAt 18 = .ok (.ireturn, 1) := by decide +kernel
theorem dX4_isLetter_0 : decode cX4_isLetter 0 = .ok (.iload_n 0, 1) := by decide +kernel
theorem dX4_isLetter_1 : decode cX4_isLetter 1 = .ok (.i2l, 1) := by decide +kernel
theorem dX4_isLetter_2 : decode cX4_isLetter 2 = .ok (.ldc2_w 177, 3) := by decide +kernel
theorem dX4_isLetter_5 : decode cX4_isLetter 5 = .ok (.ldc2_w 179, 3) := by decide +kernel
theorem dX4_isLetter_8 : decode cX4_isLetter 8 = .ok (.invokestatic 51, 3) := by decide +kernel
theorem dX4_isLetter_11 : decode cX4_isLetter 11 = .ok (.ireturn, 1) := by decide +kernel
theorem dX4_isDigit_0 : decode cX4_isDigit 0 = .ok (.iload_n 0, 1) := by decide +kernel
theorem dX4_isDigit_1 : decode cX4_isDigit 1 = .ok (.i2l, 1) := by decide +kernel
theorem dX4_isDigit_2 : decode cX4_isDigit 2 = .ok (.ldc2_w 181, 3) := by decide +kernel
theorem dX4_isDigit_5 : decode cX4_isDigit 5 = .ok (.ldc2_w 183, 3) := by decide +kernel
theorem dX4_isDigit_8 : decode cX4_isDigit 8 = .ok (.invokestatic 51, 3) := by decide +kernel
theorem dX4_isDigit_11 : decode cX4_isDigit 11 = .ok (.ireturn, 1) := by decide +kernel
theorem dX4_token_0 : decode cX4_token 0 = .ok (.aload_n 0, 1) := by decide +kernel
theorem dX4_token_1 : decode cX4_token 1 = .ok (.aload_n 0, 1) := by decide +kernel
theorem dX4_token_2 : decode cX4_token 2 = .ok (.getfield 185, 3) := by decide +kernel
theorem dX4_token_5 : decode cX4_token 5 = .ok (.putfield 188, 3) := by decide +kernel
theorem dX4_token_8 : decode cX4_token 8 = .ok (.aload_n 0, 1) := by decide +kernel
theorem dX4_token_9 : decode cX4_token 9 = .ok (.aload_n 0, 1) := by decide +kernel
theorem dX4_token_10 : decode cX4_token 10 = .ok (.getfield 188, 3) := by decide +kernel
theorem dX4_token_13 : decode cX4_token 13 = .ok (.invokevirtual 191, 3) := by decide +kernel
theorem dX4_token_16 : decode cX4_token 16 = .ok (.bipush 32, 2) := by decide +kernel
theorem dX4_token_18 : decode cX4_token 18 = .ok (.if_icmp .ne 16, 3) := by decide +kernel
theorem dX4_token_21 : decode cX4_token 21 = .ok (.aload_n 0, 1) := by decide +kernel
theorem dX4_token_22 : decode cX4_token 22 = .ok (.dup, 1) := by decide +kernel
theorem dX4_token_23 : decode cX4_token 23 = .ok (.getfield 188, 3) := by decide +kernel
theorem dX4_token_26 : decode cX4_token 26 = .ok (.iconst 1, 1) := by decide +kernel
theorem dX4_token_27 : decode cX4_token 27 = .ok (.iadd, 1) := by decide +kernel
theorem dX4_token_28 : decode cX4_token 28 = .ok (.putfield 188, 3) := by decide +kernel
theorem dX4_token_31 : decode cX4_token 31 = .ok (.goto (-23), 3) := by decide +kernel
theorem dX4_token_34 : decode cX4_token 34 = .ok (.aload_n 0, 1) := by decide +kernel
theorem dX4_token_35 : decode cX4_token 35 = .ok (.aload_n 0, 1) := by decide +kernel
theorem dX4_token_36 : decode cX4_token 36 = .ok (.getfield 188, 3) := by decide +kernel
theorem dX4_token_39 : decode cX4_token 39 = .ok (.invokevirtual 191, 3) := by decide +kernel
theorem dX4_token_42 : decode cX4_token 42 = .ok (.invokestatic 194, 3) := by decide +kernel
theorem dX4_token_45 : decode cX4_token 45 = .ok (.istore_n 1, 1) := by decide +kernel
theorem dX4_token_46 : decode cX4_token 46 = .ok (.aload_n 0, 1) := by decide +kernel
theorem dX4_token_47 : decode cX4_token 47 = .ok (.aload_n 0, 1) := by decide +kernel
theorem dX4_token_48 : decode cX4_token 48 = .ok (.getfield 188, 3) := by decide +kernel
theorem dX4_token_51 : decode cX4_token 51 = .ok (.invokevirtual 191, 3) := by decide +kernel
theorem dX4_token_54 : decode cX4_token 54 = .ok (.invokestatic 197, 3) := by decide +kernel
theorem dX4_token_57 : decode cX4_token 57 = .ok (.istore_n 2, 1) := by decide +kernel
theorem dX4_token_58 : decode cX4_token 58 = .ok (.aload_n 0, 1) := by decide +kernel
theorem dX4_token_59 : decode cX4_token 59 = .ok (.aload_n 0, 1) := by decide +kernel
theorem dX4_token_60 : decode cX4_token 60 = .ok (.getfield 188, 3) := by decide +kernel
theorem dX4_token_63 : decode cX4_token 63 = .ok (.aload_n 0, 1) := by decide +kernel
theorem dX4_token_64 : decode cX4_token 64 = .ok (.getfield 174, 3) := by decide +kernel
theorem dX4_token_67 : decode cX4_token 67 = .ok (.if_icmp .ge 12, 3) := by decide +kernel
theorem dX4_token_70 : decode cX4_token 70 = .ok (.aload_n 0, 1) := by decide +kernel
theorem dX4_token_71 : decode cX4_token 71 = .ok (.getfield 188, 3) := by decide +kernel
theorem dX4_token_74 : decode cX4_token 74 = .ok (.iconst 1, 1) := by decide +kernel
theorem dX4_token_75 : decode cX4_token 75 = .ok (.iadd, 1) := by decide +kernel
theorem dX4_token_76 : decode cX4_token 76 = .ok (.goto 7, 3) := by decide +kernel
theorem dX4_token_79 : decode cX4_token 79 = .ok (.aload_n 0, 1) := by decide +kernel
theorem dX4_token_80 : decode cX4_token 80 = .ok (.getfield 188, 3) := by decide +kernel
theorem dX4_token_83 : decode cX4_token 83 = .ok (.putfield 185, 3) := by decide +kernel
theorem dX4_token_86 : decode cX4_token 86 = .ok (.iload_n 1, 1) := by decide +kernel
theorem dX4_token_87 : decode cX4_token 87 = .ok (.ifCond .eq 17, 3) := by decide +kernel
theorem dX4_token_90 : decode cX4_token 90 = .ok (.aload_n 0, 1) := by decide +kernel
theorem dX4_token_91 : decode cX4_token 91 = .ok (.aload_n 0, 1) := by decide +kernel
theorem dX4_token_92 : decode cX4_token 92 = .ok (.getfield 185, 3) := by decide +kernel
theorem dX4_token_95 : decode cX4_token 95 = .ok (.invokevirtual 191, 3) := by decide +kernel
theorem dX4_token_98 : decode cX4_token 98 = .ok (.invokestatic 194, 3) := by decide +kernel
theorem dX4_token_101 : decode cX4_token 101 = .ok (.ifCond .ne 21, 3) := by decide +kernel
theorem dX4_token_104 : decode cX4_token 104 = .ok (.iload_n 2, 1) := by decide +kernel
theorem dX4_token_105 : decode cX4_token 105 = .ok (.ifCond .eq 30, 3) := by decide +kernel
theorem dX4_token_108 : decode cX4_token 108 = .ok (.aload_n 0, 1) := by decide +kernel
theorem dX4_token_109 : decode cX4_token 109 = .ok (.aload_n 0, 1) := by decide +kernel
theorem dX4_token_110 : decode cX4_token 110 = .ok (.getfield 185, 3) := by decide +kernel
theorem dX4_token_113 : decode cX4_token 113 = .ok (.invokevirtual 191, 3) := by decide +kernel
theorem dX4_token_116 : decode cX4_token 116 = .ok (.invokestatic 197, 3) := by decide +kernel
theorem dX4_token_119 : decode cX4_token 119 = .ok (.ifCond .eq 16, 3) := by decide +kernel
theorem dX4_token_122 : decode cX4_token 122 = .ok (.aload_n 0, 1) := by decide +kernel
theorem dX4_token_123 : decode cX4_token 123 = .ok (.dup, 1) := by decide +kernel
theorem dX4_token_124 : decode cX4_token 124 = .ok (.getfield 185, 3) := by decide +kernel
theorem dX4_token_127 : decode cX4_token 127 = .ok (.iconst 1, 1) := by decide +kernel
theorem dX4_token_128 : decode cX4_token 128 = .ok (.iadd, 1) := by decide +kernel
theorem dX4_token_129 : decode cX4_token 129 = .ok (.putfield 185, 3) := by decide +kernel
theorem dX4_token_132 : decode cX4_token 132 = .ok (.goto (-46), 3) := by decide +kernel
theorem dX4_token_135 : decode cX4_token 135 = .ok (.return_, 1) := by decide +kernel
theorem dX4_must_0 : decode cX4_must 0 = .ok (.aload_n 0, 1) := by decide +kernel
theorem dX4_must_1 : decode cX4_must 1 = .ok (.aload_n 0, 1) := by decide +kernel
theorem dX4_must_2 : decode cX4_must 2 = .ok (.getfield 200, 3) := by decide +kernel
theorem dX4_must_5 : decode cX4_must 5 = .ok (.ifCond .ne 7, 3) := by decide +kernel
theorem dX4_must_8 : decode cX4_must 8 = .ok (.iload_n 1, 1) := by decide +kernel
theorem dX4_must_9 : decode cX4_must 9 = .ok (.ifCond .ne 7, 3) := by decide +kernel
theorem dX4_must_12 : decode cX4_must 12 = .ok (.iconst 1, 1) := by decide +kernel
theorem dX4_must_13 : decode cX4_must 13 = .ok (.goto 4, 3) := by decide +kernel
theorem dX4_must_16 : decode cX4_must 16 = .ok (.iconst 0, 1) := by decide +kernel
theorem dX4_must_17 : decode cX4_must 17 = .ok (.putfield 200, 3) := by decide +kernel
theorem dX4_must_20 : decode cX4_must 20 = .ok (.aload_n 0, 1) := by decide +kernel
theorem dX4_must_21 : decode cX4_must 21 = .ok (.getfield 200, 3) := by decide +kernel
theorem dX4_must_24 : decode cX4_must 24 = .ok (.ifCond .ne 7, 3) := by decide +kernel
theorem dX4_must_27 : decode cX4_must 27 = .ok (.aload_n 0, 1) := by decide +kernel
theorem dX4_must_28 : decode cX4_must 28 = .ok (.invokevirtual 204, 3) := by decide +kernel
theorem dX4_must_31 : decode cX4_must 31 = .ok (.return_, 1) := by decide +kernel
theorem dX4_word_0 : decode cX4_word 0 = .ok (.lconst 0, 1) := by decide +kernel
theorem dX4_word_1 : decode cX4_word 1 = .ok (.lstore_n 1, 1) := by decide +kernel
theorem dX4_word_2 : decode cX4_word 2 = .ok (.aload_n 0, 1) := by decide +kernel
theorem dX4_word_3 : decode cX4_word 3 = .ok (.getfield 188, 3) := by decide +kernel
theorem dX4_word_6 : decode cX4_word 6 = .ok (.istore_n 3, 1) := by decide +kernel
theorem dX4_word_7 : decode cX4_word 7 = .ok (.iload_n 3, 1) := by decide +kernel
theorem dX4_word_8 : decode cX4_word 8 = .ok (.aload_n 0, 1) := by decide +kernel
theorem dX4_word_9 : decode cX4_word 9 = .ok (.getfield 185, 3) := by decide +kernel
theorem dX4_word_12 : decode cX4_word 12 = .ok (.if_icmp .ge 38, 3) := by decide +kernel
theorem dX4_word_15 : decode cX4_word 15 = .ok (.lload_n 1, 1) := by decide +kernel
theorem dX4_word_16 : decode cX4_word 16 = .ok (.ldc2_w 207, 3) := by decide +kernel
theorem dX4_word_19 : decode cX4_word 19 = .ok (.lcmp, 1) := by decide +kernel
theorem dX4_word_20 : decode cX4_word 20 = .ok (.ifCond .le 7, 3) := by decide +kernel
theorem dX4_word_23 : decode cX4_word 23 = .ok (.lload_n 1, 1) := by decide +kernel
theorem dX4_word_24 : decode cX4_word 24 = .ok (.goto 19, 3) := by decide +kernel
theorem dX4_word_27 : decode cX4_word 27 = .ok (.ldc2_w 209, 3) := by decide +kernel
theorem dX4_word_30 : decode cX4_word 30 = .ok (.lload_n 1, 1) := by decide +kernel
theorem dX4_word_31 : decode cX4_word 31 = .ok (.lmul, 1) := by decide +kernel
theorem dX4_word_32 : decode cX4_word 32 = .ok (.aload_n 0, 1) := by decide +kernel
theorem dX4_word_33 : decode cX4_word 33 = .ok (.getfield 32, 3) := by decide +kernel
theorem dX4_word_36 : decode cX4_word 36 = .ok (.iload_n 3, 1) := by decide +kernel
theorem dX4_word_37 : decode cX4_word 37 = .ok (.iaload, 1) := by decide +kernel
theorem dX4_word_38 : decode cX4_word 38 = .ok (.bipush 96, 2) := by decide +kernel
theorem dX4_word_40 : decode cX4_word 40 = .ok (.isub, 1) := by decide +kernel
theorem dX4_word_41 : decode cX4_word 41 = .ok (.i2l, 1) := by decide +kernel
theorem dX4_word_42 : decode cX4_word 42 = .ok (.ladd, 1) := by decide +kernel
theorem dX4_word_43 : decode cX4_word 43 = .ok (.lstore_n 1, 1) := by decide +kernel
theorem dX4_word_44 : decode cX4_word 44 = .ok (.iinc 3 1, 3) := by decide +kernel
theorem dX4_word_47 : decode cX4_word 47 = .ok (.goto (-40), 3) := by decide +kernel
theorem dX4_word_50 : decode cX4_word 50 = .ok (.aload_n 0, 1) := by decide +kernel
theorem dX4_word_51 : decode cX4_word 51 = .ok (.getfield 200, 3) := by decide +kernel
theorem dX4_word_54 : decode cX4_word 54 = .ok (.ifCond .ne 17, 3) := by decide +kernel
theorem dX4_word_57 : decode cX4_word 57 = .ok (.aload_n 0, 1) := by decide +kernel
theorem dX4_word_58 : decode cX4_word 58 = .ok (.aload_n 0, 1) := by decide +kernel
theorem dX4_word_59 : decode cX4_word 59 = .ok (.getfield 188, 3) := by decide +kernel
theorem dX4_word_62 : decode cX4_word 62 = .ok (.invokevirtual 191, 3) := by decide +kernel
theorem dX4_word_65 : decode cX4_word 65 = .ok (.invokestatic 194, 3) := by decide +kernel
theorem dX4_word_68 : decode cX4_word 68 = .ok (.ifCond .ne 7, 3) := by decide +kernel
theorem dX4_word_71 : decode cX4_word 71 = .ok (.lconst 0, 1) := by decide +kernel
theorem dX4_word_72 : decode cX4_word 72 = .ok (.goto 4, 3) := by decide +kernel
theorem dX4_word_75 : decode cX4_word 75 = .ok (.lload_n 1, 1) := by decide +kernel
theorem dX4_word_76 : decode cX4_word 76 = .ok (.lreturn, 1) := by decide +kernel
theorem dX4_number_0 : decode cX4_number 0 = .ok (.aload_n 0, 1) := by decide +kernel
theorem dX4_number_1 : decode cX4_number 1 = .ok (.getfield 200, 3) := by decide +kernel
theorem dX4_number_4 : decode cX4_number 4 = .ok (.ifCond .eq 4, 3) := by decide +kernel
theorem dX4_number_7 : decode cX4_number 7 = .ok (.return_, 1) := by decide +kernel
theorem dX4_number_8 : decode cX4_number 8 = .ok (.aload_n 0, 1) := by decide +kernel
theorem dX4_number_9 : decode cX4_number 9 = .ok (.aload_n 0, 1) := by decide +kernel
theorem dX4_number_10 : decode cX4_number 10 = .ok (.getfield 188, 3) := by decide +kernel
theorem dX4_number_13 : decode cX4_number 13 = .ok (.invokevirtual 191, 3) := by decide +kernel
theorem dX4_number_16 : decode cX4_number 16 = .ok (.invokestatic 197, 3) := by decide +kernel
theorem dX4_number_19 : decode cX4_number 19 = .ok (.istore_n 3, 1) := by decide +kernel
theorem dX4_number_20 : decode cX4_number 20 = .ok (.iconst 0, 1) := by decide +kernel
theorem dX4_number_21 : decode cX4_number 21 = .ok (.istore 4, 2) := by decide +kernel
theorem dX4_number_23 : decode cX4_number 23 = .ok (.aload_n 0, 1) := by decide +kernel
theorem dX4_number_24 : decode cX4_number 24 = .ok (.getfield 188, 3) := by decide +kernel
theorem dX4_number_27 : decode cX4_number 27 = .ok (.istore 5, 2) := by decide +kernel
theorem dX4_number_29 : decode cX4_number 29 = .ok (.iload 5, 2) := by decide +kernel
theorem dX4_number_31 : decode cX4_number 31 = .ok (.aload_n 0, 1) := by decide +kernel
theorem dX4_number_32 : decode cX4_number 32 = .ok (.getfield 185, 3) := by decide +kernel
theorem dX4_number_35 : decode cX4_number 35 = .ok (.if_icmp .ge 44, 3) := by decide +kernel
theorem dX4_number_38 : decode cX4_number 38 = .ok (.iload_n 3, 1) := by decide +kernel
theorem dX4_number_39 : decode cX4_number 39 = .ok (.ifCond .eq 40, 3) := by decide +kernel
theorem dX4_number_42 : decode cX4_number 42 = .ok (.iload 4, 2) := by decide +kernel
theorem dX4_number_44 : decode cX4_number 44 = .ok (.sipush 9999, 3) := by decide +kernel
theorem dX4_number_47 : decode cX4_number 47 = .ok (.if_icmp .le 8, 3) := by decide +kernel
theorem dX4_number_50 : decode cX4_number 50 = .ok (.iload 4, 2) := by decide +kernel
theorem dX4_number_52 : decode cX4_number 52 = .ok (.goto 19, 3) := by decide +kernel
theorem dX4_number_55 : decode cX4_number 55 = .ok (.bipush 10, 2) := by decide +kernel
theorem dX4_number_57 : decode cX4_number 57 = .ok (.iload 4, 2) := by decide +kernel
theorem dX4_number_59 : decode cX4_number 59 = .ok (.imul, 1) := by decide +kernel
theorem dX4_number_60 : decode cX4_number 60 = .ok (.aload_n 0, 1) := by decide +kernel
theorem dX4_number_61 : decode cX4_number 61 = .ok (.getfield 32, 3) := by decide +kernel
theorem dX4_number_64 : decode cX4_number 64 = .ok (.iload 5, 2) := by decide +kernel
theorem dX4_number_66 : decode cX4_number 66 = .ok (.iaload, 1) := by decide +kernel
theorem dX4_number_67 : decode cX4_number 67 = .ok (.iadd, 1) := by decide +kernel
theorem dX4_number_68 : decode cX4_number 68 = .ok (.bipush 48, 2) := by decide +kernel
theorem dX4_number_70 : decode cX4_number 70 = .ok (.isub, 1) := by decide +kernel
theorem dX4_number_71 : decode cX4_number 71 = .ok (.istore 4, 2) := by decide +kernel
theorem dX4_number_73 : decode cX4_number 73 = .ok (.iinc 5 1, 3) := by decide +kernel
theorem dX4_number_76 : decode cX4_number 76 = .ok (.goto (-47), 3) := by decide +kernel
theorem dX4_number_79 : decode cX4_number 79 = .ok (.aload_n 0, 1) := by decide +kernel
theorem dX4_number_80 : decode cX4_number 80 = .ok (.iload 4, 2) := by decide +kernel
theorem dX4_number_82 : decode cX4_number 82 = .ok (.putfield 211, 3) := by decide +kernel
theorem dX4_number_85 : decode cX4_number 85 = .ok (.aload_n 0, 1) := by decide +kernel
theorem dX4_number_86 : decode cX4_number 86 = .ok (.iload_n 3, 1) := by decide +kernel
theorem dX4_number_87 : decode cX4_number 87 = .ok (.ifCond .eq 20, 3) := by decide +kernel
theorem dX4_number_90 : decode cX4_number 90 = .ok (.iload 4, 2) := by decide +kernel
theorem dX4_number_92 : decode cX4_number 92 = .ok (.i2l, 1) := by decide +kernel
theorem dX4_number_93 : decode cX4_number 93 = .ok (.iload_n 1, 1) := by decide +kernel
theorem dX4_number_94 : decode cX4_number 94 = .ok (.i2l, 1) := by decide +kernel
theorem dX4_number_95 : decode cX4_number 95 = .ok (.iload_n 2, 1) := by decide +kernel
theorem dX4_number_96 : decode cX4_number 96 = .ok (.i2l, 1) := by decide +kernel
theorem dX4_number_97 : decode cX4_number 97 = .ok (.invokestatic 51, 3) := by decide +kernel
theorem dX4_number_100 : decode cX4_number 100 = .ok (.ifCond .eq 7, 3) := by decide +kernel
theorem dX4_number_103 : decode cX4_number 103 = .ok (.iconst 1, 1) := by decide +kernel
theorem dX4_number_104 : decode cX4_number 104 = .ok (.goto 4, 3) := by decide +kernel
theorem dX4_number_107 : decode cX4_number 107 = .ok (.iconst 0, 1) := by decide +kernel
theorem dX4_number_108 : decode cX4_number 108 = .ok (.invokevirtual 214, 3) := by decide +kernel
theorem dX4_number_111 : decode cX4_number 111 = .ok (.return_, 1) := by decide +kernel
theorem dX4_kindHere_0 : decode cX4_kindHere 0 = .ok (.aload_n 0, 1) := by decide +kernel
theorem dX4_kindHere_1 : decode cX4_kindHere 1 = .ok (.invokevirtual 218, 3) := by decide +kernel
theorem dX4_kindHere_4 : decode cX4_kindHere 4 = .ok (.lstore_n 1, 1) := by decide +kernel
theorem dX4_kindHere_5 : decode cX4_kindHere 5 = .ok (.lload_n 1, 1) := by decide +kernel
theorem dX4_kindHere_6 : decode cX4_kindHere 6 = .ok (.ldc2_w 222, 3) := by decide +kernel
theorem dX4_kindHere_9 : decode cX4_kindHere 9 = .ok (.lcmp, 1) := by decide +kernel
theorem dX4_kindHere_10 : decode cX4_kindHere 10 = .ok (.ifCond .ne 7, 3) := by decide +kernel
theorem dX4_kindHere_13 : decode cX4_kindHere 13 = .ok (.iconst 0, 1) := by decide +kernel
theorem dX4_kindHere_14 : decode cX4_kindHere 14 = .ok (.goto 64, 3) := by decide +kernel
theorem dX4_kindHere_17 : decode cX4_kindHere 17 = .ok (.lload_n 1, 1) := by decide +kernel
theorem dX4_kindHere_18 : decode cX4_kindHere 18 = .ok (.ldc2_w 224, 3) := by decide +kernel
theorem dX4_kindHere_21 : decode cX4_kindHere 21 = .ok (.lcmp, 1) := by decide +kernel
theorem dX4_kindHere_22 : decode cX4_kindHere 22 = .ok (.ifCond .ne 7, 3) := by decide +kernel
theorem dX4_kindHere_25 : decode cX4_kindHere 25 = .ok (.iconst 1, 1) := by decide +kernel
theorem dX4_kindHere_26 : decode cX4_kindHere 26 = .ok (.goto 52, 3) := by decide +kernel
theorem dX4_kindHere_29 : decode cX4_kindHere 29 = .ok (.lload_n 1, 1) := by decide +kernel
theorem dX4_kindHere_30 : decode cX4_kindHere 30 = .ok (.ldc2_w 226, 3) := by decide +kernel
theorem dX4_kindHere_33 : decode cX4_kindHere 33 = .ok (.lcmp, 1) := by decide +kernel
theorem dX4_kindHere_34 : decode cX4_kindHere 34 = .ok (.ifCond .ne 7, 3) := by decide +kernel
theorem dX4_kindHere_37 : decode cX4_kindHere 37 = .ok (.iconst 2, 1) := by decide +kernel
theorem dX4_kindHere_38 : decode cX4_kindHere 38 = .ok (.goto 40, 3) := by decide +kernel
theorem dX4_kindHere_41 : decode cX4_kindHere 41 = .ok (.lload_n 1, 1) := by decide +kernel
theorem dX4_kindHere_42 : decode cX4_kindHere 42 = .ok (.ldc2_w 228, 3) := by decide +kernel
theorem dX4_kindHere_45 : decode cX4_kindHere 45 = .ok (.lcmp, 1) := by decide +kernel
theorem dX4_kindHere_46 : decode cX4_kindHere 46 = .ok (.ifCond .ne 7, 3) := by decide +kernel
theorem dX4_kindHere_49 : decode cX4_kindHere 49 = .ok (.iconst 3, 1) := by decide +kernel
theorem dX4_kindHere_50 : decode cX4_kindHere 50 = .ok (.goto 28, 3) := by decide +kernel
theorem dX4_kindHere_53 : decode cX4_kindHere 53 = .ok (.lload_n 1, 1) := by decide +kernel
theorem dX4_kindHere_54 : decode cX4_kindHere 54 = .ok (.ldc2_w 230, 3) := by decide +kernel
theorem dX4_kindHere_57 : decode cX4_kindHere 57 = .ok (.lcmp, 1) := by decide +kernel
theorem dX4_kindHere_58 : decode cX4_kindHere 58 = .ok (.ifCond .ne 7, 3) := by decide +kernel
theorem dX4_kindHere_61 : decode cX4_kindHere 61 = .ok (.iconst 4, 1) := by decide +kernel
theorem dX4_kindHere_62 : decode cX4_kindHere 62 = .ok (.goto 16, 3) := by decide +kernel
theorem dX4_kindHere_65 : decode cX4_kindHere 65 = .ok (.lload_n 1, 1) := by decide +kernel
theorem dX4_kindHere_66 : decode cX4_kindHere 66 = .ok (.ldc2_w 232, 3) := by decide +kernel
theorem dX4_kindHere_69 : decode cX4_kindHere 69 = .ok (.lcmp, 1) := by decide +kernel
theorem dX4_kindHere_70 : decode cX4_kindHere 70 = .ok (.ifCond .ne 7, 3) := by decide +kernel
theorem dX4_kindHere_73 : decode cX4_kindHere 73 = .ok (.iconst 5, 1) := by decide +kernel
theorem dX4_kindHere_74 : decode cX4_kindHere 74 = .ok (.goto 4, 3) := by decide +kernel
theorem dX4_kindHere_77 : decode cX4_kindHere 77 = .ok (.iconst (-1), 1) := by decide +kernel
theorem dX4_kindHere_78 : decode cX4_kindHere 78 = .ok (.ireturn, 1) := by decide +kernel
theorem dX4_sortHere_0 : decode cX4_sortHere 0 = .ok (.aload_n 0, 1) := by decide +kernel
theorem dX4_sortHere_1 : decode cX4_sortHere 1 = .ok (.invokevirtual 218, 3) := by decide +kernel
theorem dX4_sortHere_4 : decode cX4_sortHere 4 = .ok (.lstore_n 1, 1) := by decide +kernel
theorem dX4_sortHere_5 : decode cX4_sortHere 5 = .ok (.lload_n 1, 1) := by decide +kernel
theorem dX4_sortHere_6 : decode cX4_sortHere 6 = .ok (.ldc2_w 234, 3) := by decide +kernel
theorem dX4_sortHere_9 : decode cX4_sortHere 9 = .ok (.lcmp, 1) := by decide +kernel
theorem dX4_sortHere_10 : decode cX4_sortHere 10 = .ok (.ifCond .ne 7, 3) := by decide +kernel
theorem dX4_sortHere_13 : decode cX4_sortHere 13 = .ok (.iconst 0, 1) := by decide +kernel
theorem dX4_sortHere_14 : decode cX4_sortHere 14 = .ok (.goto 64, 3) := by decide +kernel
theorem dX4_sortHere_17 : decode cX4_sortHere 17 = .ok (.lload_n 1, 1) := by decide +kernel
theorem dX4_sortHere_18 : decode cX4_sortHere 18 = .ok (.ldc2_w 236, 3) := by decide +kernel
theorem dX4_sortHere_21 : decode cX4_sortHere 21 = .ok (.lcmp, 1) := by decide +kernel
theorem dX4_sortHere_22 : decode cX4_sortHere 22 = .ok (.ifCond .ne 7, 3) := by decide +kernel
theorem dX4_sortHere_25 : decode cX4_sortHere 25 = .ok (.iconst 1, 1) := by decide +kernel
theorem dX4_sortHere_26 : decode cX4_sortHere 26 = .ok (.goto 52, 3) := by decide +kernel
theorem dX4_sortHere_29 : decode cX4_sortHere 29 = .ok (.lload_n 1, 1) := by decide +kernel
theorem dX4_sortHere_30 : decode cX4_sortHere 30 = .ok (.ldc2_w 238, 3) := by decide +kernel
theorem dX4_sortHere_33 : decode cX4_sortHere 33 = .ok (.lcmp, 1) := by decide +kernel
theorem dX4_sortHere_34 : decode cX4_sortHere 34 = .ok (.ifCond .ne 7, 3) := by decide +kernel
theorem dX4_sortHere_37 : decode cX4_sortHere 37 = .ok (.iconst 2, 1) := by decide +kernel
theorem dX4_sortHere_38 : decode cX4_sortHere 38 = .ok (.goto 40, 3) := by decide +kernel
theorem dX4_sortHere_41 : decode cX4_sortHere 41 = .ok (.lload_n 1, 1) := by decide +kernel
theorem dX4_sortHere_42 : decode cX4_sortHere 42 = .ok (.ldc2_w 240, 3) := by decide +kernel
theorem dX4_sortHere_45 : decode cX4_sortHere 45 = .ok (.lcmp, 1) := by decide +kernel
theorem dX4_sortHere_46 : decode cX4_sortHere 46 = .ok (.ifCond .ne 7, 3) := by decide +kernel
theorem dX4_sortHere_49 : decode cX4_sortHere 49 = .ok (.iconst 3, 1) := by decide +kernel
theorem dX4_sortHere_50 : decode cX4_sortHere 50 = .ok (.goto 28, 3) := by decide +kernel
theorem dX4_sortHere_53 : decode cX4_sortHere 53 = .ok (.lload_n 1, 1) := by decide +kernel
theorem dX4_sortHere_54 : decode cX4_sortHere 54 = .ok (.ldc2_w 242, 3) := by decide +kernel
theorem dX4_sortHere_57 : decode cX4_sortHere 57 = .ok (.lcmp, 1) := by decide +kernel
theorem dX4_sortHere_58 : decode cX4_sortHere 58 = .ok (.ifCond .ne 7, 3) := by decide +kernel
theorem dX4_sortHere_61 : decode cX4_sortHere 61 = .ok (.iconst 4, 1) := by decide +kernel
theorem dX4_sortHere_62 : decode cX4_sortHere 62 = .ok (.goto 16, 3) := by decide +kernel
theorem dX4_sortHere_65 : decode cX4_sortHere 65 = .ok (.lload_n 1, 1) := by decide +kernel
theorem dX4_sortHere_66 : decode cX4_sortHere 66 = .ok (.ldc2_w 244, 3) := by decide +kernel
theorem dX4_sortHere_69 : decode cX4_sortHere 69 = .ok (.lcmp, 1) := by decide +kernel
theorem dX4_sortHere_70 : decode cX4_sortHere 70 = .ok (.ifCond .ne 7, 3) := by decide +kernel
theorem dX4_sortHere_73 : decode cX4_sortHere 73 = .ok (.iconst 5, 1) := by decide +kernel
theorem dX4_sortHere_74 : decode cX4_sortHere 74 = .ok (.goto 4, 3) := by decide +kernel
theorem dX4_sortHere_77 : decode cX4_sortHere 77 = .ok (.iconst (-1), 1) := by decide +kernel
theorem dX4_sortHere_78 : decode cX4_sortHere 78 = .ok (.ireturn, 1) := by decide +kernel
theorem dX4_menderItem_0 : decode cX4_menderItem 0 = .ok (.aload_n 0, 1) := by decide +kernel
theorem dX4_menderItem_1 : decode cX4_menderItem 1 = .ok (.aload_n 0, 1) := by decide +kernel
theorem dX4_menderItem_2 : decode cX4_menderItem 2 = .ok (.getfield 7, 3) := by decide +kernel
theorem dX4_menderItem_5 : decode cX4_menderItem 5 = .ok (.iconst 0, 1) := by decide +kernel
theorem dX4_menderItem_6 : decode cX4_menderItem 6 = .ok (.iaload, 1) := by decide +kernel
theorem dX4_menderItem_7 : decode cX4_menderItem 7 = .ok (.bipush 6, 2) := by decide +kernel
theorem dX4_menderItem_9 : decode cX4_menderItem 9 = .ok (.if_icmp .ge 7, 3) := by decide +kernel
theorem dX4_menderItem_12 : decode cX4_menderItem 12 = .ok (.iconst 1, 1) := by decide +kernel
theorem dX4_menderItem_13 : decode cX4_menderItem 13 = .ok (.goto 4, 3) := by decide +kernel
theorem dX4_menderItem_16 : decode cX4_menderItem 16 = .ok (.iconst 0, 1) := by decide +kernel
theorem dX4_menderItem_17 : decode cX4_menderItem 17 = .ok (.invokevirtual 214, 3) := by decide +kernel
theorem dX4_menderItem_20 : decode cX4_menderItem 20 = .ok (.aload_n 0, 1) := by decide +kernel
theorem dX4_menderItem_21 : decode cX4_menderItem 21 = .ok (.aload_n 0, 1) := by decide +kernel
theorem dX4_menderItem_22 : decode cX4_menderItem 22 = .ok (.invokevirtual 218, 3) := by decide +kernel
theorem dX4_menderItem_25 : decode cX4_menderItem 25 = .ok (.ldc2_w 246, 3) := by decide +kernel
theorem dX4_menderItem_28 : decode cX4_menderItem 28 = .ok (.lcmp, 1) := by decide +kernel
theorem dX4_menderItem_29 : decode cX4_menderItem 29 = .ok (.ifCond .ne 7, 3) := by decide +kernel
theorem dX4_menderItem_32 : decode cX4_menderItem 32 = .ok (.iconst 1, 1) := by decide +kernel
theorem dX4_menderItem_33 : decode cX4_menderItem 33 = .ok (.goto 4, 3) := by decide +kernel
theorem dX4_menderItem_36 : decode cX4_menderItem 36 = .ok (.iconst 0, 1) := by decide +kernel
theorem dX4_menderItem_37 : decode cX4_menderItem 37 = .ok (.invokevirtual 214, 3) := by decide +kernel
theorem dX4_menderItem_40 : decode cX4_menderItem 40 = .ok (.aload_n 0, 1) := by decide +kernel
theorem dX4_menderItem_41 : decode cX4_menderItem 41 = .ok (.iconst 0, 1) := by decide +kernel
theorem dX4_menderItem_42 : decode cX4_menderItem 42 = .ok (.bipush 47, 2) := by decide +kernel
theorem dX4_menderItem_44 : decode cX4_menderItem 44 = .ok (.invokevirtual 248, 3) := by decide +kernel
theorem dX4_menderItem_47 : decode cX4_menderItem 47 = .ok (.aload_n 0, 1) := by decide +kernel
theorem dX4_menderItem_48 : decode cX4_menderItem 48 = .ok (.getfield 200, 3) := by decide +kernel
theorem dX4_menderItem_51 : decode cX4_menderItem 51 = .ok (.ifCond .eq 4, 3) := by decide +kernel
theorem dX4_menderItem_54 : decode cX4_menderItem 54 = .ok (.return_, 1) := by decide +kernel
theorem dX4_menderItem_55 : decode cX4_menderItem 55 = .ok (.aload_n 0, 1) := by decide +kernel
theorem dX4_menderItem_56 : decode cX4_menderItem 56 = .ok (.iload_n 1, 1) := by decide +kernel
theorem dX4_menderItem_57 : decode cX4_menderItem 57 = .ok (.aload_n 0, 1) := by decide +kernel
theorem dX4_menderItem_58 : decode cX4_menderItem 58 = .ok (.getfield 211, 3) := by decide +kernel
theorem dX4_menderItem_61 : decode cX4_menderItem 61 = .ok (.invokevirtual 97, 3) := by decide +kernel
theorem dX4_menderItem_64 : decode cX4_menderItem 64 = .ok (.istore_n 2, 1) := by decide +kernel
theorem dX4_menderItem_65 : decode cX4_menderItem 65 = .ok (.aload_n 0, 1) := by decide +kernel
theorem dX4_menderItem_66 : decode cX4_menderItem 66 = .ok (.invokevirtual 218, 3) := by decide +kernel
theorem dX4_menderItem_69 : decode cX4_menderItem 69 = .ok (.ldc2_w 251, 3) := by decide +kernel
theorem dX4_menderItem_72 : decode cX4_menderItem 72 = .ok (.lcmp, 1) := by decide +kernel
theorem dX4_menderItem_73 : decode cX4_menderItem 73 = .ok (.ifCond .ne 30, 3) := by decide +kernel
theorem dX4_menderItem_76 : decode cX4_menderItem 76 = .ok (.aload_n 0, 1) := by decide +kernel
theorem dX4_menderItem_77 : decode cX4_menderItem 77 = .ok (.iconst 1, 1) := by decide +kernel
theorem dX4_menderItem_78 : decode cX4_menderItem 78 = .ok (.invokevirtual 214, 3) := by decide +kernel
theorem dX4_menderItem_81 : decode cX4_menderItem 81 = .ok (.aload_n 0, 1) := by decide +kernel
theorem dX4_menderItem_82 : decode cX4_menderItem 82 = .ok (.iconst 0, 1) := by decide +kernel
theorem dX4_menderItem_83 : decode cX4_menderItem 83 = .ok (.sipush 9999, 3) := by decide +kernel
theorem dX4_menderItem_86 : decode cX4_menderItem 86 = .ok (.invokevirtual 248, 3) := by decide +kernel
theorem dX4_menderItem_89 : decode cX4_menderItem 89 = .ok (.aload_n 0, 1) := by decide +kernel
theorem dX4_menderItem_90 : decode cX4_menderItem 90 = .ok (.getfield 7, 3) := by decide +kernel
theorem dX4_menderItem_93 : decode cX4_menderItem 93 = .ok (.iload_n 2, 1) := by decide +kernel
theorem dX4_menderItem_94 : decode cX4_menderItem 94 = .ok (.iconst 2, 1) := by decide +kernel
theorem dX4_menderItem_95 : decode cX4_menderItem 95 = .ok (.invokestatic 57, 3) := by decide +kernel
theorem dX4_menderItem_98 : decode cX4_menderItem 98 = .ok (.aload_n 0, 1) := by decide +kernel
theorem dX4_menderItem_99 : decode cX4_menderItem 99 = .ok (.getfield 211, 3) := by decide +kernel
theorem dX4_menderItem_102 : decode cX4_menderItem 102 = .ok (.iastore, 1) := by decide +kernel
theorem dX4_menderItem_103 : decode cX4_menderItem 103 = .ok (.return_, 1) := by decide +kernel
theorem dX4_cellsItem_0 : decode cX4_cellsItem 0 = .ok (.aload_n 0, 1) := by decide +kernel
theorem dX4_cellsItem_1 : decode cX4_cellsItem 1 = .ok (.iconst 1, 1) := by decide +kernel
theorem dX4_cellsItem_2 : decode cX4_cellsItem 2 = .ok (.invokevirtual 214, 3) := by decide +kernel
theorem dX4_cellsItem_5 : decode cX4_cellsItem 5 = .ok (.aload_n 0, 1) := by decide +kernel
theorem dX4_cellsItem_6 : decode cX4_cellsItem 6 = .ok (.iconst 0, 1) := by decide +kernel
theorem dX4_cellsItem_7 : decode cX4_cellsItem 7 = .ok (.bipush 47, 2) := by decide +kernel
theorem dX4_cellsItem_9 : decode cX4_cellsItem 9 = .ok (.invokevirtual 248, 3) := by decide +kernel
theorem dX4_cellsItem_12 : decode cX4_cellsItem 12 = .ok (.aload_n 0, 1) := by decide +kernel
theorem dX4_cellsItem_13 : decode cX4_cellsItem 13 = .ok (.getfield 211, 3) := by decide +kernel
theorem dX4_cellsItem_16 : decode cX4_cellsItem 16 = .ok (.istore_n 2, 1) := by decide +kernel
theorem dX4_cellsItem_17 : decode cX4_cellsItem 17 = .ok (.aload_n 0, 1) := by decide +kernel
theorem dX4_cellsItem_18 : decode cX4_cellsItem 18 = .ok (.invokevirtual 253, 3) := by decide +kernel
theorem dX4_cellsItem_21 : decode cX4_cellsItem 21 = .ok (.istore_n 3, 1) := by decide +kernel
theorem dX4_cellsItem_22 : decode cX4_cellsItem 22 = .ok (.aload_n 0, 1) := by decide +kernel
theorem dX4_cellsItem_23 : decode cX4_cellsItem 23 = .ok (.iload_n 3, 1) := by decide +kernel
theorem dX4_cellsItem_24 : decode cX4_cellsItem 24 = .ok (.ifCond .lt 7, 3) := by decide +kernel
theorem dX4_cellsItem_27 : decode cX4_cellsItem 27 = .ok (.iconst 1, 1) := by decide +kernel
theorem dX4_cellsItem_28 : decode cX4_cellsItem 28 = .ok (.goto 4, 3) := by decide +kernel
theorem dX4_cellsItem_31 : decode cX4_cellsItem 31 = .ok (.iconst 0, 1) := by decide +kernel
theorem dX4_cellsItem_32 : decode cX4_cellsItem 32 = .ok (.invokevirtual 214, 3) := by decide +kernel
theorem dX4_cellsItem_35 : decode cX4_cellsItem 35 = .ok (.iload_n 2, 1) := by decide +kernel
theorem dX4_cellsItem_36 : decode cX4_cellsItem 36 = .ok (.istore 4, 2) := by decide +kernel
theorem dX4_cellsItem_38 : decode cX4_cellsItem 38 = .ok (.aload_n 0, 1) := by decide +kernel
theorem dX4_cellsItem_39 : decode cX4_cellsItem 39 = .ok (.invokevirtual 218, 3) := by decide +kernel
theorem dX4_cellsItem_42 : decode cX4_cellsItem 42 = .ok (.ldc2_w 256, 3) := by decide +kernel
theorem dX4_cellsItem_45 : decode cX4_cellsItem 45 = .ok (.lcmp, 1) := by decide +kernel
theorem dX4_cellsItem_46 : decode cX4_cellsItem 46 = .ok (.ifCond .ne 21, 3) := by decide +kernel
theorem dX4_cellsItem_49 : decode cX4_cellsItem 49 = .ok (.aload_n 0, 1) := by decide +kernel
theorem dX4_cellsItem_50 : decode cX4_cellsItem 50 = .ok (.iconst 1, 1) := by decide +kernel
theorem dX4_cellsItem_51 : decode cX4_cellsItem 51 = .ok (.invokevirtual 214, 3) := by decide +kernel
theorem dX4_cellsItem_54 : decode cX4_cellsItem 54 = .ok (.aload_n 0, 1) := by decide +kernel
theorem dX4_cellsItem_55 : decode cX4_cellsItem 55 = .ok (.iload_n 2, 1) := by decide +kernel
theorem dX4_cellsItem_56 : decode cX4_cellsItem 56 = .ok (.bipush 47, 2) := by decide +kernel
theorem dX4_cellsItem_58 : decode cX4_cellsItem 58 = .ok (.invokevirtual 248, 3) := by decide +kernel
theorem dX4_cellsItem_61 : decode cX4_cellsItem 61 = .ok (.aload_n 0, 1) := by decide +kernel
theorem dX4_cellsItem_62 : decode cX4_cellsItem 62 = .ok (.getfield 211, 3) := by decide +kernel
theorem dX4_cellsItem_65 : decode cX4_cellsItem 65 = .ok (.istore 4, 2) := by decide +kernel
theorem dX4_cellsItem_67 : decode cX4_cellsItem 67 = .ok (.iload_n 2, 1) := by decide +kernel
theorem dX4_cellsItem_68 : decode cX4_cellsItem 68 = .ok (.istore 5, 2) := by decide +kernel
theorem dX4_cellsItem_70 : decode cX4_cellsItem 70 = .ok (.iload 5, 2) := by decide +kernel
theorem dX4_cellsItem_72 : decode cX4_cellsItem 72 = .ok (.iload 4, 2) := by decide +kernel
theorem dX4_cellsItem_74 : decode cX4_cellsItem 74 = .ok (.if_icmp .gt 26, 3) := by decide +kernel
theorem dX4_cellsItem_77 : decode cX4_cellsItem 77 = .ok (.aload_n 0, 1) := by decide +kernel
theorem dX4_cellsItem_78 : decode cX4_cellsItem 78 = .ok (.getfield 200, 3) := by decide +kernel
theorem dX4_cellsItem_81 : decode cX4_cellsItem 81 = .ok (.ifCond .ne 19, 3) := by decide +kernel
theorem dX4_cellsItem_84 : decode cX4_cellsItem 84 = .ok (.aload_n 0, 1) := by decide +kernel
theorem dX4_cellsItem_85 : decode cX4_cellsItem 85 = .ok (.getfield 7, 3) := by decide +kernel
theorem dX4_cellsItem_88 : decode cX4_cellsItem 88 = .ok (.iload_n 1, 1) := by decide +kernel
theorem dX4_cellsItem_89 : decode cX4_cellsItem 89 = .ok (.iload 5, 2) := by decide +kernel
theorem dX4_cellsItem_91 : decode cX4_cellsItem 91 = .ok (.iadd, 1) := by decide +kernel
theorem dX4_cellsItem_92 : decode cX4_cellsItem 92 = .ok (.iload_n 3, 1) := by decide +kernel
theorem dX4_cellsItem_93 : decode cX4_cellsItem 93 = .ok (.iastore, 1) := by decide +kernel
theorem dX4_cellsItem_94 : decode cX4_cellsItem 94 = .ok (.iinc 5 1, 3) := by decide +kernel
theorem dX4_cellsItem_97 : decode cX4_cellsItem 97 = .ok (.goto (-27), 3) := by decide +kernel
theorem dX4_cellsItem_100 : decode cX4_cellsItem 100 = .ok (.return_, 1) := by decide +kernel
theorem dX4_item_0 : decode cX4_item 0 = .ok (.aload_n 0, 1) := by decide +kernel
theorem dX4_item_1 : decode cX4_item 1 = .ok (.invokevirtual 258, 3) := by decide +kernel
theorem dX4_item_4 : decode cX4_item 4 = .ok (.istore_n 1, 1) := by decide +kernel
theorem dX4_item_5 : decode cX4_item 5 = .ok (.aload_n 0, 1) := by decide +kernel
theorem dX4_item_6 : decode cX4_item 6 = .ok (.invokevirtual 218, 3) := by decide +kernel
theorem dX4_item_9 : decode cX4_item 9 = .ok (.lstore_n 2, 1) := by decide +kernel
theorem dX4_item_10 : decode cX4_item 10 = .ok (.iload_n 1, 1) := by decide +kernel
theorem dX4_item_11 : decode cX4_item 11 = .ok (.ifCond .lt 11, 3) := by decide +kernel
theorem dX4_item_14 : decode cX4_item 14 = .ok (.aload_n 0, 1) := by decide +kernel
theorem dX4_item_15 : decode cX4_item 15 = .ok (.iload_n 1, 1) := by decide +kernel
theorem dX4_item_16 : decode cX4_item 16 = .ok (.invokevirtual 261, 3) := by decide +kernel
theorem dX4_item_19 : decode cX4_item 19 = .ok (.goto 90, 3) := by decide +kernel
theorem dX4_item_22 : decode cX4_item 22 = .ok (.lload_n 2, 1) := by decide +kernel
theorem dX4_item_23 : decode cX4_item 23 = .ok (.ldc2_w 264, 3) := by decide +kernel
theorem dX4_item_26 : decode cX4_item 26 = .ok (.lcmp, 1) := by decide +kernel
theorem dX4_item_27 : decode cX4_item 27 = .ok (.ifCond .eq 11, 3) := by decide +kernel
theorem dX4_item_30 : decode cX4_item 30 = .ok (.lload_n 2, 1) := by decide +kernel
theorem dX4_item_31 : decode cX4_item 31 = .ok (.ldc2_w 266, 3) := by decide +kernel
theorem dX4_item_34 : decode cX4_item 34 = .ok (.lcmp, 1) := by decide +kernel
theorem dX4_item_35 : decode cX4_item 35 = .ok (.ifCond .ne 24, 3) := by decide +kernel
theorem dX4_item_38 : decode cX4_item 38 = .ok (.aload_n 0, 1) := by decide +kernel
theorem dX4_item_39 : decode cX4_item 39 = .ok (.lload_n 2, 1) := by decide +kernel
theorem dX4_item_40 : decode cX4_item 40 = .ok (.ldc2_w 264, 3) := by decide +kernel
theorem dX4_item_43 : decode cX4_item 43 = .ok (.lcmp, 1) := by decide +kernel
theorem dX4_item_44 : decode cX4_item 44 = .ok (.ifCond .ne 7, 3) := by decide +kernel
theorem dX4_item_47 : decode cX4_item 47 = .ok (.iconst 3, 1) := by decide +kernel
theorem dX4_item_48 : decode cX4_item 48 = .ok (.goto 5, 3) := by decide +kernel
theorem dX4_item_51 : decode cX4_item 51 = .ok (.bipush 51, 2) := by decide +kernel
theorem dX4_item_53 : decode cX4_item 53 = .ok (.invokevirtual 268, 3) := by decide +kernel
theorem dX4_item_56 : decode cX4_item 56 = .ok (.goto 53, 3) := by decide +kernel
theorem dX4_item_59 : decode cX4_item 59 = .ok (.aload_n 0, 1) := by decide +kernel
theorem dX4_item_60 : decode cX4_item 60 = .ok (.lload_n 2, 1) := by decide +kernel
theorem dX4_item_61 : decode cX4_item 61 = .ok (.ldc2_w 271, 3) := by decide +kernel
theorem dX4_item_64 : decode cX4_item 64 = .ok (.lcmp, 1) := by decide +kernel
theorem dX4_item_65 : decode cX4_item 65 = .ok (.ifCond .ne 7, 3) := by decide +kernel
theorem dX4_item_68 : decode cX4_item 68 = .ok (.iconst 1, 1) := by decide +kernel
theorem dX4_item_69 : decode cX4_item 69 = .ok (.goto 4, 3) := by decide +kernel
theorem dX4_item_72 : decode cX4_item 72 = .ok (.iconst 0, 1) := by decide +kernel
theorem dX4_item_73 : decode cX4_item 73 = .ok (.invokevirtual 214, 3) := by decide +kernel
theorem dX4_item_76 : decode cX4_item 76 = .ok (.aload_n 0, 1) := by decide +kernel
theorem dX4_item_77 : decode cX4_item 77 = .ok (.iconst 0, 1) := by decide +kernel
theorem dX4_item_78 : decode cX4_item 78 = .ok (.bipush 20, 2) := by decide +kernel
theorem dX4_item_80 : decode cX4_item 80 = .ok (.invokevirtual 248, 3) := by decide +kernel
theorem dX4_item_83 : decode cX4_item 83 = .ok (.aload_n 0, 1) := by decide +kernel
theorem dX4_item_84 : decode cX4_item 84 = .ok (.getfield 7, 3) := by decide +kernel
theorem dX4_item_87 : decode cX4_item 87 = .ok (.iconst 2, 1) := by decide +kernel
theorem dX4_item_88 : decode cX4_item 88 = .ok (.aload_n 0, 1) := by decide +kernel
theorem dX4_item_89 : decode cX4_item 89 = .ok (.getfield 200, 3) := by decide +kernel
theorem dX4_item_92 : decode cX4_item 92 = .ok (.ifCond .eq 12, 3) := by decide +kernel
theorem dX4_item_95 : decode cX4_item 95 = .ok (.aload_n 0, 1) := by decide +kernel
theorem dX4_item_96 : decode cX4_item 96 = .ok (.getfield 7, 3) := by decide +kernel
theorem dX4_item_99 : decode cX4_item 99 = .ok (.iconst 2, 1) := by decide +kernel
theorem dX4_item_100 : decode cX4_item 100 = .ok (.iaload, 1) := by decide +kernel
theorem dX4_item_101 : decode cX4_item 101 = .ok (.goto 7, 3) := by decide +kernel
theorem dX4_item_104 : decode cX4_item 104 = .ok (.aload_n 0, 1) := by decide +kernel
theorem dX4_item_105 : decode cX4_item 105 = .ok (.getfield 211, 3) := by decide +kernel
theorem dX4_item_108 : decode cX4_item 108 = .ok (.iastore, 1) := by decide +kernel
theorem dX4_item_109 : decode cX4_item 109 = .ok (.return_, 1) := by decide +kernel
theorem dX4_map_0 : decode cX4_map 0 = .ok (.aload_n 0, 1) := by decide +kernel
theorem dX4_map_1 : decode cX4_map 1 = .ok (.invokevirtual 162, 3) := by decide +kernel
theorem dX4_map_4 : decode cX4_map 4 = .ok (.aload_n 0, 1) := by decide +kernel
theorem dX4_map_5 : decode cX4_map 5 = .ok (.iconst 0, 1) := by decide +kernel
theorem dX4_map_6 : decode cX4_map 6 = .ok (.putfield 200, 3) := by decide +kernel
theorem dX4_map_9 : decode cX4_map 9 = .ok (.aload_n 0, 1) := by decide +kernel
theorem dX4_map_10 : decode cX4_map 10 = .ok (.iconst 0, 1) := by decide +kernel
theorem dX4_map_11 : decode cX4_map 11 = .ok (.putfield 185, 3) := by decide +kernel
theorem dX4_map_14 : decode cX4_map 14 = .ok (.aload_n 0, 1) := by decide +kernel
theorem dX4_map_15 : decode cX4_map 15 = .ok (.invokevirtual 204, 3) := by decide +kernel
theorem dX4_map_18 : decode cX4_map 18 = .ok (.iconst 1, 1) := by decide +kernel
theorem dX4_map_19 : decode cX4_map 19 = .ok (.istore_n 1, 1) := by decide +kernel
theorem dX4_map_20 : decode cX4_map 20 = .ok (.aload_n 0, 1) := by decide +kernel
theorem dX4_map_21 : decode cX4_map 21 = .ok (.invokevirtual 273, 3) := by decide +kernel
theorem dX4_map_24 : decode cX4_map 24 = .ok (.aload_n 0, 1) := by decide +kernel
theorem dX4_map_25 : decode cX4_map 25 = .ok (.getfield 200, 3) := by decide +kernel
theorem dX4_map_28 : decode cX4_map 28 = .ok (.ifCond .ne 31, 3) := by decide +kernel
theorem dX4_map_31 : decode cX4_map 31 = .ok (.aload_n 0, 1) := by decide +kernel
theorem dX4_map_32 : decode cX4_map 32 = .ok (.aload_n 0, 1) := by decide +kernel
theorem dX4_map_33 : decode cX4_map 33 = .ok (.getfield 188, 3) := by decide +kernel
theorem dX4_map_36 : decode cX4_map 36 = .ok (.invokevirtual 191, 3) := by decide +kernel
theorem dX4_map_39 : decode cX4_map 39 = .ok (.bipush 59, 2) := by decide +kernel
theorem dX4_map_41 : decode cX4_map 41 = .ok (.if_icmp .ne 18, 3) := by decide +kernel
theorem dX4_map_44 : decode cX4_map 44 = .ok (.aload_n 0, 1) := by decide +kernel
theorem dX4_map_45 : decode cX4_map 45 = .ok (.iconst 1, 1) := by decide +kernel
theorem dX4_map_46 : decode cX4_map 46 = .ok (.invokevirtual 214, 3) := by decide +kernel
theorem dX4_map_49 : decode cX4_map 49 = .ok (.aload_n 0, 1) := by decide +kernel
theorem dX4_map_50 : decode cX4_map 50 = .ok (.invokevirtual 273, 3) := by decide +kernel
theorem dX4_map_53 : decode cX4_map 53 = .ok (.iinc 1 1, 3) := by decide +kernel
theorem dX4_map_56 : decode cX4_map 56 = .ok (.goto (-32), 3) := by decide +kernel
theorem dX4_map_59 : decode cX4_map 59 = .ok (.aload_n 0, 1) := by decide +kernel
theorem dX4_map_60 : decode cX4_map 60 = .ok (.aload_n 0, 1) := by decide +kernel
theorem dX4_map_61 : decode cX4_map 61 = .ok (.getfield 200, 3) := by decide +kernel
theorem dX4_map_64 : decode cX4_map 64 = .ok (.ifCond .ne 14, 3) := by decide +kernel
theorem dX4_map_67 : decode cX4_map 67 = .ok (.aload_n 0, 1) := by decide +kernel
theorem dX4_map_68 : decode cX4_map 68 = .ok (.getfield 188, 3) := by decide +kernel
theorem dX4_map_71 : decode cX4_map 71 = .ok (.aload_n 0, 1) := by decide +kernel
theorem dX4_map_72 : decode cX4_map 72 = .ok (.getfield 174, 3) := by decide +kernel
theorem dX4_map_75 : decode cX4_map 75 = .ok (.if_icmp .ge 7, 3) := by decide +kernel
theorem dX4_map_78 : decode cX4_map 78 = .ok (.iconst 1, 1) := by decide +kernel
theorem dX4_map_79 : decode cX4_map 79 = .ok (.goto 4, 3) := by decide +kernel
theorem dX4_map_82 : decode cX4_map 82 = .ok (.iconst 0, 1) := by decide +kernel
theorem dX4_map_83 : decode cX4_map 83 = .ok (.putfield 200, 3) := by decide +kernel
theorem dX4_map_86 : decode cX4_map 86 = .ok (.aload_n 0, 1) := by decide +kernel
theorem dX4_map_87 : decode cX4_map 87 = .ok (.getfield 200, 3) := by decide +kernel
theorem dX4_map_90 : decode cX4_map 90 = .ok (.ifCond .eq 7, 3) := by decide +kernel
theorem dX4_map_93 : decode cX4_map 93 = .ok (.aload_n 0, 1) := by decide +kernel
theorem dX4_map_94 : decode cX4_map 94 = .ok (.invokevirtual 165, 3) := by decide +kernel
theorem dX4_map_97 : decode cX4_map 97 = .ok (.aload_n 0, 1) := by decide +kernel
theorem dX4_map_98 : decode cX4_map 98 = .ok (.iconst 0, 1) := by decide +kernel
theorem dX4_map_99 : decode cX4_map 99 = .ok (.putfield 174, 3) := by decide +kernel
theorem dX4_map_102 : decode cX4_map 102 = .ok (.aload_n 0, 1) := by decide +kernel
theorem dX4_map_103 : decode cX4_map 103 = .ok (.getfield 200, 3) := by decide +kernel
theorem dX4_map_106 : decode cX4_map 106 = .ok (.ifCond .eq 12, 3) := by decide +kernel
theorem dX4_map_109 : decode cX4_map 109 = .ok (.iconst (-1), 1) := by decide +kernel
theorem dX4_map_110 : decode cX4_map 110 = .ok (.aload_n 0, 1) := by decide +kernel
theorem dX4_map_111 : decode cX4_map 111 = .ok (.getfield 188, 3) := by decide +kernel
theorem dX4_map_114 : decode cX4_map 114 = .ok (.isub, 1) := by decide +kernel
theorem dX4_map_115 : decode cX4_map 115 = .ok (.goto 4, 3) := by decide +kernel
theorem dX4_map_118 : decode cX4_map 118 = .ok (.iload_n 1, 1) := by decide +kernel
theorem dX4_map_119 : decode cX4_map 119 = .ok (.ireturn, 1) := by decide +kernel
theorem dX4_isOne_0 : decode cX4_isOne 0 = .ok (.iload_n 0, 1) := by decide +kernel
theorem dX4_isOne_1 : decode cX4_isOne 1 = .ok (.i2l, 1) := by decide +kernel
theorem dX4_isOne_2 : decode cX4_isOne 2 = .ok (.lconst 0, 1) := by decide +kernel
theorem dX4_isOne_3 : decode cX4_isOne 3 = .ok (.ldc2_w 276, 3) := by decide +kernel
theorem dX4_isOne_6 : decode cX4_isOne 6 = .ok (.invokestatic 51, 3) := by decide +kernel
theorem dX4_isOne_9 : decode cX4_isOne 9 = .ok (.ireturn, 1) := by decide +kernel
theorem dX4_sheet_0 : decode cX4_sheet 0 = .ok (.iload_n 1, 1) := by decide +kernel
theorem dX4_sheet_1 : decode cX4_sheet 1 = .ok (.invokestatic 278, 3) := by decide +kernel
theorem dX4_sheet_4 : decode cX4_sheet 4 = .ok (.ifCond .eq 25, 3) := by decide +kernel
theorem dX4_sheet_7 : decode cX4_sheet 7 = .ok (.iload_n 2, 1) := by decide +kernel
theorem dX4_sheet_8 : decode cX4_sheet 8 = .ok (.ifCond .eq 28, 3) := by decide +kernel
theorem dX4_sheet_11 : decode cX4_sheet 11 = .ok (.iload_n 2, 1) := by decide +kernel
theorem dX4_sheet_12 : decode cX4_sheet 12 = .ok (.bipush 8, 2) := by decide +kernel
theorem dX4_sheet_14 : decode cX4_sheet 14 = .ok (.if_icmp .eq 22, 3) := by decide +kernel
theorem dX4_sheet_17 : decode cX4_sheet 17 = .ok (.iload_n 2, 1) := by decide +kernel
theorem dX4_sheet_18 : decode cX4_sheet 18 = .ok (.bipush 16, 2) := by decide +kernel
theorem dX4_sheet_20 : decode cX4_sheet 20 = .ok (.if_icmp .eq 16, 3) := by decide +kernel
theorem dX4_sheet_23 : decode cX4_sheet 23 = .ok (.iload_n 2, 1) := by decide +kernel
theorem dX4_sheet_24 : decode cX4_sheet 24 = .ok (.bipush 64, 2) := by decide +kernel
theorem dX4_sheet_26 : decode cX4_sheet 26 = .ok (.if_icmp .eq 10, 3) := by decide +kernel
theorem dX4_sheet_29 : decode cX4_sheet 29 = .ok (.aload_n 0, 1) := by decide +kernel
theorem dX4_sheet_30 : decode cX4_sheet 30 = .ok (.ldc 48, 2) := by decide +kernel
theorem dX4_sheet_32 : decode cX4_sheet 32 = .ok (.invokevirtual 74, 3) := by decide +kernel
theorem dX4_sheet_35 : decode cX4_sheet 35 = .ok (.ireturn, 1) := by decide +kernel
theorem dX4_sheet_36 : decode cX4_sheet 36 = .ok (.iload_n 3, 1) := by decide +kernel
theorem dX4_sheet_37 : decode cX4_sheet 37 = .ok (.ifCond .ge 11, 3) := by decide +kernel
theorem dX4_sheet_40 : decode cX4_sheet 40 = .ok (.aload_n 0, 1) := by decide +kernel
theorem dX4_sheet_41 : decode cX4_sheet 41 = .ok (.ldc_w 281, 3) := by decide +kernel
theorem dX4_sheet_44 : decode cX4_sheet 44 = .ok (.invokevirtual 74, 3) := by decide +kernel
theorem dX4_sheet_47 : decode cX4_sheet 47 = .ok (.ireturn, 1) := by decide +kernel
theorem dX4_sheet_48 : decode cX4_sheet 48 = .ok (.iload_n 3, 1) := by decide +kernel
theorem dX4_sheet_49 : decode cX4_sheet 49 = .ok (.bipush 40, 2) := by decide +kernel
theorem dX4_sheet_51 : decode cX4_sheet 51 = .ok (.if_icmp .le 10, 3) := by decide +kernel
theorem dX4_sheet_54 : decode cX4_sheet 54 = .ok (.aload_n 0, 1) := by decide +kernel
theorem dX4_sheet_55 : decode cX4_sheet 55 = .ok (.ldc 48, 2) := by decide +kernel
theorem dX4_sheet_57 : decode cX4_sheet 57 = .ok (.invokevirtual 74, 3) := by decide +kernel
theorem dX4_sheet_60 : decode cX4_sheet 60 = .ok (.ireturn, 1) := by decide +kernel
theorem dX4_sheet_61 : decode cX4_sheet 61 = .ok (.aload_n 0, 1) := by decide +kernel
theorem dX4_sheet_62 : decode cX4_sheet 62 = .ok (.getfield 35, 3) := by decide +kernel
theorem dX4_sheet_65 : decode cX4_sheet 65 = .ok (.iload_n 1, 1) := by decide +kernel
theorem dX4_sheet_66 : decode cX4_sheet 66 = .ok (.iload_n 2, 1) := by decide +kernel
theorem dX4_sheet_67 : decode cX4_sheet 67 = .ok (.iastore, 1) := by decide +kernel
theorem dX4_sheet_68 : decode cX4_sheet 68 = .ok (.aload_n 0, 1) := by decide +kernel
theorem dX4_sheet_69 : decode cX4_sheet 69 = .ok (.getfield 38, 3) := by decide +kernel
theorem dX4_sheet_72 : decode cX4_sheet 72 = .ok (.iload_n 1, 1) := by decide +kernel
theorem dX4_sheet_73 : decode cX4_sheet 73 = .ok (.iload_n 2, 1) := by decide +kernel
theorem dX4_sheet_74 : decode cX4_sheet 74 = .ok (.ifCond .ne 7, 3) := by decide +kernel
theorem dX4_sheet_77 : decode cX4_sheet 77 = .ok (.iconst 0, 1) := by decide +kernel
theorem dX4_sheet_78 : decode cX4_sheet 78 = .ok (.goto 4, 3) := by decide +kernel
theorem dX4_sheet_81 : decode cX4_sheet 81 = .ok (.iload_n 3, 1) := by decide +kernel
theorem dX4_sheet_82 : decode cX4_sheet 82 = .ok (.iastore, 1) := by decide +kernel
theorem dX4_sheet_83 : decode cX4_sheet 83 = .ok (.iconst 0, 1) := by decide +kernel
theorem dX4_sheet_84 : decode cX4_sheet 84 = .ok (.istore 4, 2) := by decide +kernel
theorem dX4_sheet_86 : decode cX4_sheet 86 = .ok (.iload 4, 2) := by decide +kernel
theorem dX4_sheet_88 : decode cX4_sheet 88 = .ok (.bipush 40, 2) := by decide +kernel
theorem dX4_sheet_90 : decode cX4_sheet 90 = .ok (.if_icmp .ge 22, 3) := by decide +kernel
theorem dX4_sheet_93 : decode cX4_sheet 93 = .ok (.aload_n 0, 1) := by decide +kernel
theorem dX4_sheet_94 : decode cX4_sheet 94 = .ok (.getfield 41, 3) := by decide +kernel
theorem dX4_sheet_97 : decode cX4_sheet 97 = .ok (.bipush 40, 2) := by decide +kernel
theorem dX4_sheet_99 : decode cX4_sheet 99 = .ok (.iload_n 1, 1) := by decide +kernel
theorem dX4_sheet_100 : decode cX4_sheet 100 = .ok (.imul, 1) := by decide +kernel
theorem dX4_sheet_101 : decode cX4_sheet 101 = .ok (.iload 4, 2) := by decide +kernel
theorem dX4_sheet_103 : decode cX4_sheet 103 = .ok (.iadd, 1) := by decide +kernel
theorem dX4_sheet_104 : decode cX4_sheet 104 = .ok (.lconst 0, 1) := by decide +kernel
theorem dX4_sheet_105 : decode cX4_sheet 105 = .ok (.lastore, 1) := by decide +kernel
theorem dX4_sheet_106 : decode cX4_sheet 106 = .ok (.iinc 4 1, 3) := by decide +kernel
theorem dX4_sheet_109 : decode cX4_sheet 109 = .ok (.goto (-23), 3) := by decide +kernel
theorem dX4_sheet_112 : decode cX4_sheet 112 = .ok (.aload_n 0, 1) := by decide +kernel
theorem dX4_sheet_113 : decode cX4_sheet 113 = .ok (.getfield 38, 3) := by decide +kernel
theorem dX4_sheet_116 : decode cX4_sheet 116 = .ok (.iload_n 1, 1) := by decide +kernel
theorem dX4_sheet_117 : decode cX4_sheet 117 = .ok (.iaload, 1) := by decide +kernel
theorem dX4_sheet_118 : decode cX4_sheet 118 = .ok (.ireturn, 1) := by decide +kernel
theorem dX4_narrowed_0 : decode cX4_narrowed 0 = .ok (.iload_n 0, 1) := by decide +kernel
theorem dX4_narrowed_1 : decode cX4_narrowed 1 = .ok (.bipush 8, 2) := by decide +kernel
theorem dX4_narrowed_3 : decode cX4_narrowed 3 = .ok (.if_icmp .ne 10, 3) := by decide +kernel
theorem dX4_narrowed_6 : decode cX4_narrowed 6 = .ok (.lload_n 1, 1) := by decide +kernel
theorem dX4_narrowed_7 : decode cX4_narrowed 7 = .ok (.l2i, 1) := by decide +kernel
theorem dX4_narrowed_8 : decode cX4_narrowed 8 = .ok (.i2b, 1) := by decide +kernel
theorem dX4_narrowed_9 : decode cX4_narrowed 9 = .ok (.i2l, 1) := by decide +kernel
theorem dX4_narrowed_10 : decode cX4_narrowed 10 = .ok (.goto 17, 3) := by decide +kernel
theorem dX4_narrowed_13 : decode cX4_narrowed 13 = .ok (.iload_n 0, 1) := by decide +kernel
theorem dX4_narrowed_14 : decode cX4_narrowed 14 = .ok (.bipush 16, 2) := by decide +kernel
theorem dX4_narrowed_16 : decode cX4_narrowed 16 = .ok (.if_icmp .ne 10, 3) := by decide +kernel
theorem dX4_narrowed_19 : decode cX4_narrowed 19 = .ok (.lload_n 1, 1) := by decide +kernel
theorem dX4_narrowed_20 : decode cX4_narrowed 20 = .ok (.l2i, 1) := by decide +kernel
theorem dX4_narrowed_21 : decode cX4_narrowed 21 = .ok (.i2s, 1) := by decide +kernel
theorem dX4_narrowed_22 : decode cX4_narrowed 22 = .ok (.i2l, 1) := by decide +kernel
theorem dX4_narrowed_23 : decode cX4_narrowed 23 = .ok (.goto 4, 3) := by decide +kernel
theorem dX4_narrowed_26 : decode cX4_narrowed 26 = .ok (.lload_n 1, 1) := by decide +kernel
theorem dX4_narrowed_27 : decode cX4_narrowed 27 = .ok (.lreturn, 1) := by decide +kernel
theorem dX4_wrongSheet_0 : decode cX4_wrongSheet 0 = .ok (.iload_n 1, 1) := by decide +kernel
theorem dX4_wrongSheet_1 : decode cX4_wrongSheet 1 = .ok (.invokestatic 278, 3) := by decide +kernel
theorem dX4_wrongSheet_4 : decode cX4_wrongSheet 4 = .ok (.ifCond .ne 8, 3) := by decide +kernel
theorem dX4_wrongSheet_7 : decode cX4_wrongSheet 7 = .ok (.ldc 48, 2) := by decide +kernel
theorem dX4_wrongSheet_9 : decode cX4_wrongSheet 9 = .ok (.goto 19, 3) := by decide +kernel
theorem dX4_wrongSheet_12 : decode cX4_wrongSheet 12 = .ok (.aload_n 0, 1) := by decide +kernel
theorem dX4_wrongSheet_13 : decode cX4_wrongSheet 13 = .ok (.getfield 35, 3) := by decide +kernel
theorem dX4_wrongSheet_16 : decode cX4_wrongSheet 16 = .ok (.iload_n 1, 1) := by decide +kernel
theorem dX4_wrongSheet_17 : decode cX4_wrongSheet 17 = .ok (.iaload, 1) := by decide +kernel
theorem dX4_wrongSheet_18 : decode cX4_wrongSheet 18 = .ok (.ifCond .ne 9, 3) := by decide +kernel
theorem dX4_wrongSheet_21 : decode cX4_wrongSheet 21 = .ok (.ldc_w 282, 3) := by decide +kernel
theorem dX4_wrongSheet_24 : decode cX4_wrongSheet 24 = .ok (.goto 4, 3) := by decide +kernel
theorem dX4_wrongSheet_27 : decode cX4_wrongSheet 27 = .ok (.iconst 0, 1) := by decide +kernel
theorem dX4_wrongSheet_28 : decode cX4_wrongSheet 28 = .ok (.ireturn, 1) := by decide +kernel
theorem dX4_write_0 : decode cX4_write 0 = .ok (.aload_n 0, 1) := by decide +kernel
theorem dX4_write_1 : decode cX4_write 1 = .ok (.iload_n 1, 1) := by decide +kernel
theorem dX4_write_2 : decode cX4_write 2 = .ok (.invokevirtual 283, 3) := by decide +kernel
theorem dX4_write_5 : decode cX4_write 5 = .ok (.istore 5, 2) := by decide +kernel
theorem dX4_write_7 : decode cX4_write 7 = .ok (.iload 5, 2) := by decide +kernel
theorem dX4_write_9 : decode cX4_write 9 = .ok (.ifCond .eq 11, 3) := by decide +kernel
theorem dX4_write_12 : decode cX4_write 12 = .ok (.aload_n 0, 1) := by decide +kernel
theorem dX4_write_13 : decode cX4_write 13 = .ok (.iload 5, 2) := by decide +kernel
theorem dX4_write_15 : decode cX4_write 15 = .ok (.invokevirtual 74, 3) := by decide +kernel
theorem dX4_write_18 : decode cX4_write 18 = .ok (.i2l, 1) := by decide +kernel
theorem dX4_write_19 : decode cX4_write 19 = .ok (.lreturn, 1) := by decide +kernel
theorem dX4_write_20 : decode cX4_write 20 = .ok (.iload_n 2, 1) := by decide +kernel
theorem dX4_write_21 : decode cX4_write 21 = .ok (.i2l, 1) := by decide +kernel
theorem dX4_write_22 : decode cX4_write 22 = .ok (.lconst 0, 1) := by decide +kernel
theorem dX4_write_23 : decode cX4_write 23 = .ok (.aload_n 0, 1) := by decide +kernel
theorem dX4_write_24 : decode cX4_write 24 = .ok (.getfield 38, 3) := by decide +kernel
theorem dX4_write_27 : decode cX4_write 27 = .ok (.iload_n 1, 1) := by decide +kernel
theorem dX4_write_28 : decode cX4_write 28 = .ok (.iaload, 1) := by decide +kernel
theorem dX4_write_29 : decode cX4_write 29 = .ok (.iconst 1, 1) := by decide +kernel
theorem dX4_write_30 : decode cX4_write 30 = .ok (.isub, 1) := by decide +kernel
theorem dX4_write_31 : decode cX4_write 31 = .ok (.i2l, 1) := by decide +kernel
theorem dX4_write_32 : decode cX4_write 32 = .ok (.invokestatic 51, 3) := by decide +kernel
theorem dX4_write_35 : decode cX4_write 35 = .ok (.ifCond .ne 11, 3) := by decide +kernel
theorem dX4_write_38 : decode cX4_write 38 = .ok (.aload_n 0, 1) := by decide +kernel
theorem dX4_write_39 : decode cX4_write 39 = .ok (.ldc 48, 2) := by decide +kernel
theorem dX4_write_41 : decode cX4_write 41 = .ok (.invokevirtual 74, 3) := by decide +kernel
theorem dX4_write_44 : decode cX4_write 44 = .ok (.i2l, 1) := by decide +kernel
theorem dX4_write_45 : decode cX4_write 45 = .ok (.lreturn, 1) := by decide +kernel
theorem dX4_write_46 : decode cX4_write 46 = .ok (.aload_n 0, 1) := by decide +kernel
theorem dX4_write_47 : decode cX4_write 47 = .ok (.getfield 41, 3) := by decide +kernel
theorem dX4_write_50 : decode cX4_write 50 = .ok (.bipush 40, 2) := by decide +kernel
theorem dX4_write_52 : decode cX4_write 52 = .ok (.iload_n 1, 1) := by decide +kernel
theorem dX4_write_53 : decode cX4_write 53 = .ok (.imul, 1) := by decide +kernel
theorem dX4_write_54 : decode cX4_write 54 = .ok (.iload_n 2, 1) := by decide +kernel
theorem dX4_write_55 : decode cX4_write 55 = .ok (.iadd, 1) := by decide +kernel
theorem dX4_write_56 : decode cX4_write 56 = .ok (.laload, 1) := by decide +kernel
theorem dX4_write_57 : decode cX4_write 57 = .ok (.lstore 6, 2) := by decide +kernel
theorem dX4_write_59 : decode cX4_write 59 = .ok (.aload_n 0, 1) := by decide +kernel
theorem dX4_write_60 : decode cX4_write 60 = .ok (.getfield 41, 3) := by decide +kernel
theorem dX4_write_63 : decode cX4_write 63 = .ok (.bipush 40, 2) := by decide +kernel
theorem dX4_write_65 : decode cX4_write 65 = .ok (.iload_n 1, 1) := by decide +kernel
theorem dX4_write_66 : decode cX4_write 66 = .ok (.imul, 1) := by decide +kernel
theorem dX4_write_67 : decode cX4_write 67 = .ok (.iload_n 2, 1) := by decide +kernel
theorem dX4_write_68 : decode cX4_write 68 = .ok (.iadd, 1) := by decide +kernel
theorem dX4_write_69 : decode cX4_write 69 = .ok (.aload_n 0, 1) := by decide +kernel
theorem dX4_write_70 : decode cX4_write 70 = .ok (.getfield 35, 3) := by decide +kernel
theorem dX4_write_73 : decode cX4_write 73 = .ok (.iload_n 1, 1) := by decide +kernel
theorem dX4_write_74 : decode cX4_write 74 = .ok (.iaload, 1) := by decide +kernel
theorem dX4_write_75 : decode cX4_write 75 = .ok (.lload_n 3, 1) := by decide +kernel
theorem dX4_write_76 : decode cX4_write 76 = .ok (.invokestatic 286, 3) := by decide +kernel
theorem dX4_write_79 : decode cX4_write 79 = .ok (.lastore, 1) := by decide +kernel
theorem dX4_write_80 : decode cX4_write 80 = .ok (.lload 6, 2) := by decide +kernel
theorem dX4_write_82 : decode cX4_write 82 = .ok (.lreturn, 1) := by decide +kernel
theorem dX4_copy_0 : decode cX4_copy 0 = .ok (.iload_n 1, 1) := by decide +kernel
theorem dX4_copy_1 : decode cX4_copy 1 = .ok (.invokestatic 278, 3) := by decide +kernel
theorem dX4_copy_4 : decode cX4_copy 4 = .ok (.ifCond .eq 10, 3) := by decide +kernel
theorem dX4_copy_7 : decode cX4_copy 7 = .ok (.iload_n 3, 1) := by decide +kernel
theorem dX4_copy_8 : decode cX4_copy 8 = .ok (.invokestatic 278, 3) := by decide +kernel
theorem dX4_copy_11 : decode cX4_copy 11 = .ok (.ifCond .ne 10, 3) := by decide +kernel
theorem dX4_copy_14 : decode cX4_copy 14 = .ok (.aload_n 0, 1) := by decide +kernel
theorem dX4_copy_15 : decode cX4_copy 15 = .ok (.ldc 48, 2) := by decide +kernel
theorem dX4_copy_17 : decode cX4_copy 17 = .ok (.invokevirtual 74, 3) := by decide +kernel
theorem dX4_copy_20 : decode cX4_copy 20 = .ok (.ireturn, 1) := by decide +kernel
theorem dX4_copy_21 : decode cX4_copy 21 = .ok (.aload_n 0, 1) := by decide +kernel
theorem dX4_copy_22 : decode cX4_copy 22 = .ok (.getfield 35, 3) := by decide +kernel
theorem dX4_copy_25 : decode cX4_copy 25 = .ok (.iload_n 1, 1) := by decide +kernel
theorem dX4_copy_26 : decode cX4_copy 26 = .ok (.iaload, 1) := by decide +kernel
theorem dX4_copy_27 : decode cX4_copy 27 = .ok (.ifCond .eq 12, 3) := by decide +kernel
theorem dX4_copy_30 : decode cX4_copy 30 = .ok (.aload_n 0, 1) := by decide +kernel
theorem dX4_copy_31 : decode cX4_copy 31 = .ok (.getfield 35, 3) := by decide +kernel
theorem dX4_copy_34 : decode cX4_copy 34 = .ok (.iload_n 3, 1) := by decide +kernel
theorem dX4_copy_35 : decode cX4_copy 35 = .ok (.iaload, 1) := by decide +kernel
theorem dX4_copy_36 : decode cX4_copy 36 = .ok (.ifCond .ne 11, 3) := by decide +kernel
theorem dX4_copy_39 : decode cX4_copy 39 = .ok (.aload_n 0, 1) := by decide +kernel
theorem dX4_copy_40 : decode cX4_copy 40 = .ok (.ldc_w 282, 3) := by decide +kernel
theorem dX4_copy_43 : decode cX4_copy 43 = .ok (.invokevirtual 74, 3) := by decide +kernel
theorem dX4_copy_46 : decode cX4_copy 46 = .ok (.ireturn, 1) := by decide +kernel
theorem dX4_copy_47 : decode cX4_copy 47 = .ok (.aload_n 0, 1) := by decide +kernel
theorem dX4_copy_48 : decode cX4_copy 48 = .ok (.getfield 35, 3) := by decide +kernel
theorem dX4_copy_51 : decode cX4_copy 51 = .ok (.iload_n 1, 1) := by decide +kernel
theorem dX4_copy_52 : decode cX4_copy 52 = .ok (.iaload, 1) := by decide +kernel
theorem dX4_copy_53 : decode cX4_copy 53 = .ok (.aload_n 0, 1) := by decide +kernel
theorem dX4_copy_54 : decode cX4_copy 54 = .ok (.getfield 35, 3) := by decide +kernel
theorem dX4_copy_57 : decode cX4_copy 57 = .ok (.iload_n 3, 1) := by decide +kernel
theorem dX4_copy_58 : decode cX4_copy 58 = .ok (.iaload, 1) := by decide +kernel
theorem dX4_copy_59 : decode cX4_copy 59 = .ok (.if_icmp .eq 10, 3) := by decide +kernel
theorem dX4_copy_62 : decode cX4_copy 62 = .ok (.aload_n 0, 1) := by decide +kernel
theorem dX4_copy_63 : decode cX4_copy 63 = .ok (.ldc 121, 2) := by decide +kernel
theorem dX4_copy_65 : decode cX4_copy 65 = .ok (.invokevirtual 74, 3) := by decide +kernel
theorem dX4_copy_68 : decode cX4_copy 68 = .ok (.ireturn, 1) := by decide +kernel
theorem dX4_copy_69 : decode cX4_copy 69 = .ok (.iload_n 2, 1) := by decide +kernel
theorem dX4_copy_70 : decode cX4_copy 70 = .ok (.ifCond .lt 40, 3) := by decide +kernel
theorem dX4_copy_73 : decode cX4_copy 73 = .ok (.iload 4, 2) := by decide +kernel
theorem dX4_copy_75 : decode cX4_copy 75 = .ok (.ifCond .lt 35, 3) := by decide +kernel
theorem dX4_copy_78 : decode cX4_copy 78 = .ok (.iload 5, 2) := by decide +kernel
theorem dX4_copy_80 : decode cX4_copy 80 = .ok (.ifCond .lt 30, 3) := by decide +kernel
theorem dX4_copy_83 : decode cX4_copy 83 = .ok (.iload 5, 2) := by decide +kernel
theorem dX4_copy_85 : decode cX4_copy 85 = .ok (.aload_n 0, 1) := by decide +kernel
theorem dX4_copy_86 : decode cX4_copy 86 = .ok (.getfield 38, 3) := by decide +kernel
theorem dX4_copy_89 : decode cX4_copy 89 = .ok (.iload_n 1, 1) := by decide +kernel
theorem dX4_copy_90 : decode cX4_copy 90 = .ok (.iaload, 1) := by decide +kernel
theorem dX4_copy_91 : decode cX4_copy 91 = .ok (.iload_n 2, 1) := by decide +kernel
theorem dX4_copy_92 : decode cX4_copy 92 = .ok (.isub, 1) := by decide +kernel
theorem dX4_copy_93 : decode cX4_copy 93 = .ok (.if_icmp .gt 17, 3) := by decide +kernel
theorem dX4_copy_96 : decode cX4_copy 96 = .ok (.iload 5, 2) := by decide +kernel
theorem dX4_copy_98 : decode cX4_copy 98 = .ok (.aload_n 0, 1) := by decide +kernel
theorem dX4_copy_99 : decode cX4_copy 99 = .ok (.getfield 38, 3) := by decide +kernel
theorem dX4_copy_102 : decode cX4_copy 102 = .ok (.iload_n 3, 1) := by decide +kernel
theorem dX4_copy_103 : decode cX4_copy 103 = .ok (.iaload, 1) := by decide +kernel
theorem dX4_copy_104 : decode cX4_copy 104 = .ok (.iload 4, 2) := by decide +kernel
theorem dX4_copy_106 : decode cX4_copy 106 = .ok (.isub, 1) := by decide +kernel
theorem dX4_copy_107 : decode cX4_copy 107 = .ok (.if_icmp .le 10, 3) := by decide +kernel
theorem dX4_copy_110 : decode cX4_copy 110 = .ok (.aload_n 0, 1) := by decide +kernel
theorem dX4_copy_111 : decode cX4_copy 111 = .ok (.ldc 48, 2) := by decide +kernel
theorem dX4_copy_113 : decode cX4_copy 113 = .ok (.invokevirtual 74, 3) := by decide +kernel
theorem dX4_copy_116 : decode cX4_copy 116 = .ok (.ireturn, 1) := by decide +kernel
theorem dX4_copy_117 : decode cX4_copy 117 = .ok (.iconst 0, 1) := by decide +kernel
theorem dX4_copy_118 : decode cX4_copy 118 = .ok (.istore 6, 2) := by decide +kernel
theorem dX4_copy_120 : decode cX4_copy 120 = .ok (.iload 6, 2) := by decide +kernel
theorem dX4_copy_122 : decode cX4_copy 122 = .ok (.iload 5, 2) := by decide +kernel
theorem dX4_copy_124 : decode cX4_copy 124 = .ok (.if_icmp .ge 30, 3) := by decide +kernel
theorem dX4_copy_127 : decode cX4_copy 127 = .ok (.aload_n 0, 1) := by decide +kernel
theorem dX4_copy_128 : decode cX4_copy 128 = .ok (.getfield 45, 3) := by decide +kernel
theorem dX4_copy_131 : decode cX4_copy 131 = .ok (.iload 6, 2) := by decide +kernel
theorem dX4_copy_133 : decode cX4_copy 133 = .ok (.aload_n 0, 1) := by decide +kernel
theorem dX4_copy_134 : decode cX4_copy 134 = .ok (.getfield 41, 3) := by decide +kernel
theorem dX4_copy_137 : decode cX4_copy 137 = .ok (.bipush 40, 2) := by decide +kernel
theorem dX4_copy_139 : decode cX4_copy 139 = .ok (.iload_n 1, 1) := by decide +kernel
theorem dX4_copy_140 : decode cX4_copy 140 = .ok (.imul, 1) := by decide +kernel
theorem dX4_copy_141 : decode cX4_copy 141 = .ok (.iload_n 2, 1) := by decide +kernel
theorem dX4_copy_142 : decode cX4_copy 142 = .ok (.iadd, 1) := by decide +kernel
theorem dX4_copy_143 : decode cX4_copy 143 = .ok (.iload 6, 2) := by decide +kernel
theorem dX4_copy_145 : decode cX4_copy 145 = .ok (.iadd, 1) := by decide +kernel
theorem dX4_copy_146 : decode cX4_copy 146 = .ok (.laload, 1) := by decide +kernel
theorem dX4_copy_147 : decode cX4_copy 147 = .ok (.lastore, 1) := by decide +kernel
theorem dX4_copy_148 : decode cX4_copy 148 = .ok (.iinc 6 1, 3) := by decide +kernel
theorem dX4_copy_151 : decode cX4_copy 151 = .ok (.goto (-31), 3) := by decide +kernel
theorem dX4_copy_154 : decode cX4_copy 154 = .ok (.iconst 0, 1) := by decide +kernel
theorem dX4_copy_155 : decode cX4_copy 155 = .ok (.istore 6, 2) := by decide +kernel
theorem dX4_copy_157 : decode cX4_copy 157 = .ok (.iload 6, 2) := by decide +kernel
theorem dX4_copy_159 : decode cX4_copy 159 = .ok (.iload 5, 2) := by decide +kernel
theorem dX4_copy_161 : decode cX4_copy 161 = .ok (.if_icmp .ge 31, 3) := by decide +kernel
theorem dX4_copy_164 : decode cX4_copy 164 = .ok (.aload_n 0, 1) := by decide +kernel
theorem dX4_copy_165 : decode cX4_copy 165 = .ok (.getfield 41, 3) := by decide +kernel
theorem dX4_copy_168 : decode cX4_copy 168 = .ok (.bipush 40, 2) := by decide +kernel
theorem dX4_copy_170 : decode cX4_copy 170 = .ok (.iload_n 3, 1) := by decide +kernel
theorem dX4_copy_171 : decode cX4_copy 171 = .ok (.imul, 1) := by decide +kernel
theorem dX4_copy_172 : decode cX4_copy 172 = .ok (.iload 4, 2) := by decide +kernel
theorem dX4_copy_174 : decode cX4_copy 174 = .ok (.iadd, 1) := by decide +kernel
theorem dX4_copy_175 : decode cX4_copy 175 = .ok (.iload 6, 2) := by decide +kernel
theorem dX4_copy_177 : decode cX4_copy 177 = .ok (.iadd, 1) := by decide +kernel
theorem dX4_copy_178 : decode cX4_copy 178 = .ok (.aload_n 0, 1) := by decide +kernel
theorem dX4_copy_179 : decode cX4_copy 179 = .ok (.getfield 45, 3) := by decide +kernel
theorem dX4_copy_182 : decode cX4_copy 182 = .ok (.iload 6, 2) := by decide +kernel
theorem dX4_copy_184 : decode cX4_copy 184 = .ok (.laload, 1) := by decide +kernel
theorem dX4_copy_185 : decode cX4_copy 185 = .ok (.lastore, 1) := by decide +kernel
theorem dX4_copy_186 : decode cX4_copy 186 = .ok (.iinc 6 1, 3) := by decide +kernel
theorem dX4_copy_189 : decode cX4_copy 189 = .ok (.goto (-32), 3) := by decide +kernel
theorem dX4_copy_192 : decode cX4_copy 192 = .ok (.iload 5, 2) := by decide +kernel
theorem dX4_copy_194 : decode cX4_copy 194 = .ok (.ireturn, 1) := by decide +kernel
theorem dX4_lays_0 : decode cX4_lays 0 = .ok (.aload_n 0, 1) := by decide +kernel
theorem dX4_lays_1 : decode cX4_lays 1 = .ok (.iload_n 1, 1) := by decide +kernel
theorem dX4_lays_2 : decode cX4_lays 2 = .ok (.invokevirtual 283, 3) := by decide +kernel
theorem dX4_lays_5 : decode cX4_lays 5 = .ok (.istore_n 2, 1) := by decide +kernel
theorem dX4_lays_6 : decode cX4_lays 6 = .ok (.iload_n 2, 1) := by decide +kernel
theorem dX4_lays_7 : decode cX4_lays 7 = .ok (.ifCond .eq 9, 3) := by decide +kernel
theorem dX4_lays_10 : decode cX4_lays 10 = .ok (.aload_n 0, 1) := by decide +kernel
theorem dX4_lays_11 : decode cX4_lays 11 = .ok (.iload_n 2, 1) := by decide +kernel
theorem dX4_lays_12 : decode cX4_lays 12 = .ok (.invokevirtual 74, 3) := by decide +kernel
theorem dX4_lays_15 : decode cX4_lays 15 = .ok (.ireturn, 1) := by decide +kernel
theorem dX4_lays_16 : decode cX4_lays 16 = .ok (.iconst 0, 1) := by decide +kernel
theorem dX4_lays_17 : decode cX4_lays 17 = .ok (.istore_n 3, 1) := by decide +kernel
theorem dX4_lays_18 : decode cX4_lays 18 = .ok (.iconst 0, 1) := by decide +kernel
theorem dX4_lays_19 : decode cX4_lays 19 = .ok (.istore 4, 2) := by decide +kernel
theorem dX4_lays_21 : decode cX4_lays 21 = .ok (.iload 4, 2) := by decide +kernel
theorem dX4_lays_23 : decode cX4_lays 23 = .ok (.aload_n 0, 1) := by decide +kernel
theorem dX4_lays_24 : decode cX4_lays 24 = .ok (.getfield 38, 3) := by decide +kernel
theorem dX4_lays_27 : decode cX4_lays 27 = .ok (.iload_n 1, 1) := by decide +kernel
theorem dX4_lays_28 : decode cX4_lays 28 = .ok (.iaload, 1) := by decide +kernel
theorem dX4_lays_29 : decode cX4_lays 29 = .ok (.if_icmp .ge 84, 3) := by decide +kernel
theorem dX4_lays_32 : decode cX4_lays 32 = .ok (.aload_n 0, 1) := by decide +kernel
theorem dX4_lays_33 : decode cX4_lays 33 = .ok (.getfield 41, 3) := by decide +kernel
theorem dX4_lays_36 : decode cX4_lays 36 = .ok (.bipush 40, 2) := by decide +kernel
theorem dX4_lays_38 : decode cX4_lays 38 = .ok (.iload_n 1, 1) := by decide +kernel
theorem dX4_lays_39 : decode cX4_lays 39 = .ok (.imul, 1) := by decide +kernel
theorem dX4_lays_40 : decode cX4_lays 40 = .ok (.iload 4, 2) := by decide +kernel
theorem dX4_lays_42 : decode cX4_lays 42 = .ok (.iadd, 1) := by decide +kernel
theorem dX4_lays_43 : decode cX4_lays 43 = .ok (.laload, 1) := by decide +kernel
theorem dX4_lays_44 : decode cX4_lays 44 = .ok (.lconst 0, 1) := by decide +kernel
theorem dX4_lays_45 : decode cX4_lays 45 = .ok (.ldc2_w 55, 3) := by decide +kernel
theorem dX4_lays_48 : decode cX4_lays 48 = .ok (.invokestatic 51, 3) := by decide +kernel
theorem dX4_lays_51 : decode cX4_lays 51 = .ok (.istore 5, 2) := by decide +kernel
theorem dX4_lays_53 : decode cX4_lays 53 = .ok (.aload_n 0, 1) := by decide +kernel
theorem dX4_lays_54 : decode cX4_lays 54 = .ok (.getfield 7, 3) := by decide +kernel
theorem dX4_lays_57 : decode cX4_lays 57 = .ok (.bipush 51, 2) := by decide +kernel
theorem dX4_lays_59 : decode cX4_lays 59 = .ok (.iload 4, 2) := by decide +kernel
theorem dX4_lays_61 : decode cX4_lays 61 = .ok (.iadd, 1) := by decide +kernel
theorem dX4_lays_62 : decode cX4_lays 62 = .ok (.iload 5, 2) := by decide +kernel
theorem dX4_lays_64 : decode cX4_lays 64 = .ok (.ifCond .eq 19, 3) := by decide +kernel
theorem dX4_lays_67 : decode cX4_lays 67 = .ok (.aload_n 0, 1) := by decide +kernel
theorem dX4_lays_68 : decode cX4_lays 68 = .ok (.getfield 41, 3) := by decide +kernel
theorem dX4_lays_71 : decode cX4_lays 71 = .ok (.bipush 40, 2) := by decide +kernel
theorem dX4_lays_73 : decode cX4_lays 73 = .ok (.iload_n 1, 1) := by decide +kernel
theorem dX4_lays_74 : decode cX4_lays 74 = .ok (.imul, 1) := by decide +kernel
theorem dX4_lays_75 : decode cX4_lays 75 = .ok (.iload 4, 2) := by decide +kernel
theorem dX4_lays_77 : decode cX4_lays 77 = .ok (.iadd, 1) := by decide +kernel
theorem dX4_lays_78 : decode cX4_lays 78 = .ok (.laload, 1) := by decide +kernel
theorem dX4_lays_79 : decode cX4_lays 79 = .ok (.l2i, 1) := by decide +kernel
theorem dX4_lays_80 : decode cX4_lays 80 = .ok (.goto 13, 3) := by decide +kernel
theorem dX4_lays_83 : decode cX4_lays 83 = .ok (.aload_n 0, 1) := by decide +kernel
theorem dX4_lays_84 : decode cX4_lays 84 = .ok (.getfield 7, 3) := by decide +kernel
theorem dX4_lays_87 : decode cX4_lays 87 = .ok (.bipush 51, 2) := by decide +kernel
theorem dX4_lays_89 : decode cX4_lays 89 = .ok (.iload 4, 2) := by decide +kernel
theorem dX4_lays_91 : decode cX4_lays 91 = .ok (.iadd, 1) := by decide +kernel
theorem dX4_lays_92 : decode cX4_lays 92 = .ok (.iaload, 1) := by decide +kernel
theorem dX4_lays_93 : decode cX4_lays 93 = .ok (.iastore, 1) := by decide +kernel
theorem dX4_lays_94 : decode cX4_lays 94 = .ok (.iload_n 3, 1) := by decide +kernel
theorem dX4_lays_95 : decode cX4_lays 95 = .ok (.iload 5, 2) := by decide +kernel
theorem dX4_lays_97 : decode cX4_lays 97 = .ok (.ifCond .eq 7, 3) := by decide +kernel
theorem dX4_lays_100 : decode cX4_lays 100 = .ok (.iconst 1, 1) := by decide +kernel
theorem dX4_lays_101 : decode cX4_lays 101 = .ok (.goto 4, 3) := by decide +kernel
theorem dX4_lays_104 : decode cX4_lays 104 = .ok (.iconst 0, 1) := by decide +kernel
theorem dX4_lays_105 : decode cX4_lays 105 = .ok (.iadd, 1) := by decide +kernel
theorem dX4_lays_106 : decode cX4_lays 106 = .ok (.istore_n 3, 1) := by decide +kernel
theorem dX4_lays_107 : decode cX4_lays 107 = .ok (.iinc 4 1, 3) := by decide +kernel
theorem dX4_lays_110 : decode cX4_lays 110 = .ok (.goto (-89), 3) := by decide +kernel
theorem dX4_lays_113 : decode cX4_lays 113 = .ok (.iload_n 3, 1) := by decide +kernel
theorem dX4_lays_114 : decode cX4_lays 114 = .ok (.ireturn, 1) := by decide +kernel
theorem dX4_book_0 : decode cX4_book 0 = .ok (.aload_n 0, 1) := by decide +kernel
theorem dX4_book_1 : decode cX4_book 1 = .ok (.iload_n 1, 1) := by decide +kernel
theorem dX4_book_2 : decode cX4_book 2 = .ok (.invokevirtual 283, 3) := by decide +kernel
theorem dX4_book_5 : decode cX4_book 5 = .ok (.istore_n 2, 1) := by decide +kernel
theorem dX4_book_6 : decode cX4_book 6 = .ok (.iload_n 2, 1) := by decide +kernel
theorem dX4_book_7 : decode cX4_book 7 = .ok (.ifCond .eq 9, 3) := by decide +kernel
theorem dX4_book_10 : decode cX4_book 10 = .ok (.aload_n 0, 1) := by decide +kernel
theorem dX4_book_11 : decode cX4_book 11 = .ok (.iload_n 2, 1) := by decide +kernel
theorem dX4_book_12 : decode cX4_book 12 = .ok (.invokevirtual 74, 3) := by decide +kernel
theorem dX4_book_15 : decode cX4_book 15 = .ok (.ireturn, 1) := by decide +kernel
theorem dX4_book_16 : decode cX4_book 16 = .ok (.aload_n 0, 1) := by decide +kernel
theorem dX4_book_17 : decode cX4_book 17 = .ok (.invokevirtual 149, 3) := by decide +kernel
theorem dX4_book_20 : decode cX4_book 20 = .ok (.iconst 0, 1) := by decide +kernel
theorem dX4_book_21 : decode cX4_book 21 = .ok (.istore_n 3, 1) := by decide +kernel
theorem dX4_book_22 : decode cX4_book 22 = .ok (.iload_n 3, 1) := by decide +kernel
theorem dX4_book_23 : decode cX4_book 23 = .ok (.aload_n 0, 1) := by decide +kernel
theorem dX4_book_24 : decode cX4_book 24 = .ok (.getfield 38, 3) := by decide +kernel
theorem dX4_book_27 : decode cX4_book 27 = .ok (.iload_n 1, 1) := by decide +kernel
theorem dX4_book_28 : decode cX4_book 28 = .ok (.iaload, 1) := by decide +kernel
theorem dX4_book_29 : decode cX4_book 29 = .ok (.if_icmp .ge 38, 3) := by decide +kernel
theorem dX4_book_32 : decode cX4_book 32 = .ok (.aload_n 0, 1) := by decide +kernel
theorem dX4_book_33 : decode cX4_book 33 = .ok (.getfield 41, 3) := by decide +kernel
theorem dX4_book_36 : decode cX4_book 36 = .ok (.bipush 40, 2) := by decide +kernel
theorem dX4_book_38 : decode cX4_book 38 = .ok (.iload_n 1, 1) := by decide +kernel
theorem dX4_book_39 : decode cX4_book 39 = .ok (.imul, 1) := by decide +kernel
