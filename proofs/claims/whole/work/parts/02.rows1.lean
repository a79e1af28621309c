theorem dX3_cells_16 : decode cX3_cells 16 = .ok (.i2l, 1) := by decide +kernel
theorem dX3_cells_17 : decode cX3_cells 17 = .ok (.lreturn, 1) := by decide +kernel
theorem dX3_cells_18 : decode cX3_cells 18 = .ok (.iload_n 1, 1) := by decide +kernel
theorem dX3_cells_19 : decode cX3_cells 19 = .ok (.ifCond .ne 13, 3) := by decide +kernel
theorem dX3_cells_22 : decode cX3_cells 22 = .ok (.aload_n 0, 1) := by decide +kernel
theorem dX3_cells_23 : decode cX3_cells 23 = .ok (.getfield 10, 3) := by decide +kernel
theorem dX3_cells_26 : decode cX3_cells 26 = .ok (.getfield 66, 3) := by decide +kernel
theorem dX3_cells_29 : decode cX3_cells 29 = .ok (.goto 13, 3) := by decide +kernel
theorem dX3_cells_32 : decode cX3_cells 32 = .ok (.aload_n 0, 1) := by decide +kernel
theorem dX3_cells_33 : decode cX3_cells 33 = .ok (.getfield 10, 3) := by decide +kernel
theorem dX3_cells_36 : decode cX3_cells 36 = .ok (.iload_n 1, 1) := by decide +kernel
theorem dX3_cells_37 : decode cX3_cells 37 = .ok (.iconst 1, 1) := by decide +kernel
theorem dX3_cells_38 : decode cX3_cells 38 = .ok (.isub, 1) := by decide +kernel
theorem dX3_cells_39 : decode cX3_cells 39 = .ok (.invokevirtual 83, 3) := by decide +kernel
theorem dX3_cells_42 : decode cX3_cells 42 = .ok (.lreturn, 1) := by decide +kernel
theorem dX3_income_0 : decode cX3_income 0 = .ok (.iload_n 1, 1) := by decide +kernel
theorem dX3_income_1 : decode cX3_income 1 = .ok (.iconst 0, 1) := by decide +kernel
theorem dX3_income_2 : decode cX3_income 2 = .ok (.bipush 20, 2) := by decide +kernel
theorem dX3_income_4 : decode cX3_income 4 = .ok (.invokestatic 44, 3) := by decide +kernel
theorem dX3_income_7 : decode cX3_income 7 = .ok (.ifCond .eq 10, 3) := by decide +kernel
theorem dX3_income_10 : decode cX3_income 10 = .ok (.aload_n 0, 1) := by decide +kernel
theorem dX3_income_11 : decode cX3_income 11 = .ok (.ldc 48, 2) := by decide +kernel
theorem dX3_income_13 : decode cX3_income 13 = .ok (.invokevirtual 49, 3) := by decide +kernel
theorem dX3_income_16 : decode cX3_income 16 = .ok (.ireturn, 1) := by decide +kernel
theorem dX3_income_17 : decode cX3_income 17 = .ok (.aload_n 0, 1) := by decide +kernel
theorem dX3_income_18 : decode cX3_income 18 = .ok (.getfield 10, 3) := by decide +kernel
theorem dX3_income_21 : decode cX3_income 21 = .ok (.getfield 87, 3) := by decide +kernel
theorem dX3_income_24 : decode cX3_income 24 = .ok (.istore_n 2, 1) := by decide +kernel
theorem dX3_income_25 : decode cX3_income 25 = .ok (.aload_n 0, 1) := by decide +kernel
theorem dX3_income_26 : decode cX3_income 26 = .ok (.getfield 10, 3) := by decide +kernel
theorem dX3_income_29 : decode cX3_income 29 = .ok (.iload_n 1, 1) := by decide +kernel
theorem dX3_income_30 : decode cX3_income 30 = .ok (.putfield 87, 3) := by decide +kernel
theorem dX3_income_33 : decode cX3_income 33 = .ok (.iload_n 2, 1) := by decide +kernel
theorem dX3_income_34 : decode cX3_income 34 = .ok (.ireturn, 1) := by decide +kernel
theorem dX3_mender_0 : decode cX3_mender 0 = .ok (.iload_n 1, 1) := by decide +kernel
theorem dX3_mender_1 : decode cX3_mender 1 = .ok (.invokestatic 91, 3) := by decide +kernel
theorem dX3_mender_4 : decode cX3_mender 4 = .ok (.ifCond .ne 10, 3) := by decide +kernel
theorem dX3_mender_7 : decode cX3_mender 7 = .ok (.iload_n 2, 1) := by decide +kernel
theorem dX3_mender_8 : decode cX3_mender 8 = .ok (.invokestatic 40, 3) := by decide +kernel
theorem dX3_mender_11 : decode cX3_mender 11 = .ok (.ifCond .eq 10, 3) := by decide +kernel
theorem dX3_mender_14 : decode cX3_mender 14 = .ok (.aload_n 0, 1) := by decide +kernel
theorem dX3_mender_15 : decode cX3_mender 15 = .ok (.ldc 48, 2) := by decide +kernel
theorem dX3_mender_17 : decode cX3_mender 17 = .ok (.invokevirtual 49, 3) := by decide +kernel
theorem dX3_mender_20 : decode cX3_mender 20 = .ok (.ireturn, 1) := by decide +kernel
theorem dX3_mender_21 : decode cX3_mender 21 = .ok (.aload_n 0, 1) := by decide +kernel
theorem dX3_mender_22 : decode cX3_mender 22 = .ok (.getfield 10, 3) := by decide +kernel
theorem dX3_mender_25 : decode cX3_mender 25 = .ok (.getfield 94, 3) := by decide +kernel
theorem dX3_mender_28 : decode cX3_mender 28 = .ok (.bipush 6, 2) := by decide +kernel
theorem dX3_mender_30 : decode cX3_mender 30 = .ok (.if_icmp .lt 10, 3) := by decide +kernel
theorem dX3_mender_33 : decode cX3_mender 33 = .ok (.aload_n 0, 1) := by decide +kernel
theorem dX3_mender_34 : decode cX3_mender 34 = .ok (.ldc 97, 2) := by decide +kernel
theorem dX3_mender_36 : decode cX3_mender 36 = .ok (.invokevirtual 49, 3) := by decide +kernel
theorem dX3_mender_39 : decode cX3_mender 39 = .ok (.ireturn, 1) := by decide +kernel
theorem dX3_mender_40 : decode cX3_mender 40 = .ok (.aload_n 0, 1) := by decide +kernel
theorem dX3_mender_41 : decode cX3_mender 41 = .ok (.getfield 10, 3) := by decide +kernel
theorem dX3_mender_44 : decode cX3_mender 44 = .ok (.iload_n 1, 1) := by decide +kernel
theorem dX3_mender_45 : decode cX3_mender 45 = .ok (.iload_n 2, 1) := by decide +kernel
theorem dX3_mender_46 : decode cX3_mender 46 = .ok (.bipush 50, 2) := by decide +kernel
theorem dX3_mender_48 : decode cX3_mender 48 = .ok (.invokevirtual 98, 3) := by decide +kernel
theorem dX3_mender_51 : decode cX3_mender 51 = .ok (.ireturn, 1) := by decide +kernel
theorem dX3_of_0 : decode cX3_of 0 = .ok (.aload_n 0, 1) := by decide +kernel
theorem dX3_of_1 : decode cX3_of 1 = .ok (.iload_n 1, 1) := by decide +kernel
theorem dX3_of_2 : decode cX3_of 2 = .ok (.invokevirtual 101, 3) := by decide +kernel
theorem dX3_of_5 : decode cX3_of 5 = .ok (.ifCond .ne 12, 3) := by decide +kernel
theorem dX3_of_8 : decode cX3_of 8 = .ok (.iload_n 2, 1) := by decide +kernel
theorem dX3_of_9 : decode cX3_of 9 = .ok (.iconst 0, 1) := by decide +kernel
theorem dX3_of_10 : decode cX3_of 10 = .ok (.iconst 5, 1) := by decide +kernel
theorem dX3_of_11 : decode cX3_of 11 = .ok (.invokestatic 44, 3) := by decide +kernel
theorem dX3_of_14 : decode cX3_of 14 = .ok (.ifCond .eq 10, 3) := by decide +kernel
theorem dX3_of_17 : decode cX3_of 17 = .ok (.aload_n 0, 1) := by decide +kernel
theorem dX3_of_18 : decode cX3_of 18 = .ok (.ldc 48, 2) := by decide +kernel
theorem dX3_of_20 : decode cX3_of 20 = .ok (.invokevirtual 49, 3) := by decide +kernel
theorem dX3_of_23 : decode cX3_of 23 = .ok (.ireturn, 1) := by decide +kernel
theorem dX3_of_24 : decode cX3_of 24 = .ok (.iload_n 2, 1) := by decide +kernel
theorem dX3_of_25 : decode cX3_of 25 = .ok (.tableswitch 84 0 4 #[35, 45, 55, 65, 75], 35) := by decide +kernel
theorem dX3_of_60 : decode cX3_of 60 = .ok (.aload_n 0, 1) := by decide +kernel
theorem dX3_of_61 : decode cX3_of 61 = .ok (.getfield 10, 3) := by decide +kernel
theorem dX3_of_64 : decode cX3_of 64 = .ok (.getfield 104, 3) := by decide +kernel
theorem dX3_of_67 : decode cX3_of 67 = .ok (.iload_n 1, 1) := by decide +kernel
theorem dX3_of_68 : decode cX3_of 68 = .ok (.iaload, 1) := by decide +kernel
theorem dX3_of_69 : decode cX3_of 69 = .ok (.ireturn, 1) := by decide +kernel
theorem dX3_of_70 : decode cX3_of 70 = .ok (.aload_n 0, 1) := by decide +kernel
theorem dX3_of_71 : decode cX3_of 71 = .ok (.getfield 10, 3) := by decide +kernel
theorem dX3_of_74 : decode cX3_of 74 = .ok (.getfield 107, 3) := by decide +kernel
theorem dX3_of_77 : decode cX3_of 77 = .ok (.iload_n 1, 1) := by decide +kernel
theorem dX3_of_78 : decode cX3_of 78 = .ok (.iaload, 1) := by decide +kernel
theorem dX3_of_79 : decode cX3_of 79 = .ok (.ireturn, 1) := by decide +kernel
theorem dX3_of_80 : decode cX3_of 80 = .ok (.aload_n 0, 1) := by decide +kernel
theorem dX3_of_81 : decode cX3_of 81 = .ok (.getfield 10, 3) := by decide +kernel
theorem dX3_of_84 : decode cX3_of 84 = .ok (.getfield 110, 3) := by decide +kernel
theorem dX3_of_87 : decode cX3_of 87 = .ok (.iload_n 1, 1) := by decide +kernel
theorem dX3_of_88 : decode cX3_of 88 = .ok (.iaload, 1) := by decide +kernel
theorem dX3_of_89 : decode cX3_of 89 = .ok (.ireturn, 1) := by decide +kernel
theorem dX3_of_90 : decode cX3_of 90 = .ok (.aload_n 0, 1) := by decide +kernel
theorem dX3_of_91 : decode cX3_of 91 = .ok (.getfield 10, 3) := by decide +kernel
theorem dX3_of_94 : decode cX3_of 94 = .ok (.getfield 113, 3) := by decide +kernel
theorem dX3_of_97 : decode cX3_of 97 = .ok (.iload_n 1, 1) := by decide +kernel
theorem dX3_of_98 : decode cX3_of 98 = .ok (.iaload, 1) := by decide +kernel
theorem dX3_of_99 : decode cX3_of 99 = .ok (.ireturn, 1) := by decide +kernel
theorem dX3_of_100 : decode cX3_of 100 = .ok (.aload_n 0, 1) := by decide +kernel
theorem dX3_of_101 : decode cX3_of 101 = .ok (.getfield 10, 3) := by decide +kernel
theorem dX3_of_104 : decode cX3_of 104 = .ok (.iload_n 1, 1) := by decide +kernel
theorem dX3_of_105 : decode cX3_of 105 = .ok (.invokevirtual 116, 3) := by decide +kernel
theorem dX3_of_108 : decode cX3_of 108 = .ok (.ireturn, 1) := by decide +kernel
theorem dX3_of_109 : decode cX3_of 109 = .ok (.aload_n 0, 1) := by decide +kernel
theorem dX3_of_110 : decode cX3_of 110 = .ok (.getfield 10, 3) := by decide +kernel
theorem dX3_of_113 : decode cX3_of 113 = .ok (.iload_n 1, 1) := by decide +kernel
theorem dX3_of_114 : decode cX3_of 114 = .ok (.invokevirtual 119, 3) := by decide +kernel
theorem dX3_of_117 : decode cX3_of 117 = .ok (.ireturn, 1) := by decide +kernel
theorem dX3_set_0 : decode cX3_set 0 = .ok (.aload_n 0, 1) := by decide +kernel
theorem dX3_set_1 : decode cX3_set 1 = .ok (.iload_n 1, 1) := by decide +kernel
theorem dX3_set_2 : decode cX3_set 2 = .ok (.invokevirtual 101, 3) := by decide +kernel
theorem dX3_set_5 : decode cX3_set 5 = .ok (.ifCond .ne 12, 3) := by decide +kernel
theorem dX3_set_8 : decode cX3_set 8 = .ok (.iload_n 2, 1) := by decide +kernel
theorem dX3_set_9 : decode cX3_set 9 = .ok (.iconst 1, 1) := by decide +kernel
theorem dX3_set_10 : decode cX3_set 10 = .ok (.iconst 2, 1) := by decide +kernel
theorem dX3_set_11 : decode cX3_set 11 = .ok (.invokestatic 44, 3) := by decide +kernel
theorem dX3_set_14 : decode cX3_set 14 = .ok (.ifCond .eq 10, 3) := by decide +kernel
theorem dX3_set_17 : decode cX3_set 17 = .ok (.aload_n 0, 1) := by decide +kernel
theorem dX3_set_18 : decode cX3_set 18 = .ok (.ldc 48, 2) := by decide +kernel
theorem dX3_set_20 : decode cX3_set 20 = .ok (.invokevirtual 49, 3) := by decide +kernel
theorem dX3_set_23 : decode cX3_set 23 = .ok (.ireturn, 1) := by decide +kernel
theorem dX3_set_24 : decode cX3_set 24 = .ok (.iload_n 2, 1) := by decide +kernel
theorem dX3_set_25 : decode cX3_set 25 = .ok (.iconst 1, 1) := by decide +kernel
theorem dX3_set_26 : decode cX3_set 26 = .ok (.if_icmp .ne 8, 3) := by decide +kernel
theorem dX3_set_29 : decode cX3_set 29 = .ok (.bipush 47, 2) := by decide +kernel
theorem dX3_set_31 : decode cX3_set 31 = .ok (.goto 6, 3) := by decide +kernel
theorem dX3_set_34 : decode cX3_set 34 = .ok (.sipush 9999, 3) := by decide +kernel
theorem dX3_set_37 : decode cX3_set 37 = .ok (.istore 4, 2) := by decide +kernel
theorem dX3_set_39 : decode cX3_set 39 = .ok (.iload_n 3, 1) := by decide +kernel
theorem dX3_set_40 : decode cX3_set 40 = .ok (.iconst 0, 1) := by decide +kernel
theorem dX3_set_41 : decode cX3_set 41 = .ok (.iload 4, 2) := by decide +kernel
theorem dX3_set_43 : decode cX3_set 43 = .ok (.invokestatic 44, 3) := by decide +kernel
theorem dX3_set_46 : decode cX3_set 46 = .ok (.ifCond .eq 10, 3) := by decide +kernel
theorem dX3_set_49 : decode cX3_set 49 = .ok (.aload_n 0, 1) := by decide +kernel
theorem dX3_set_50 : decode cX3_set 50 = .ok (.ldc 48, 2) := by decide +kernel
theorem dX3_set_52 : decode cX3_set 52 = .ok (.invokevirtual 49, 3) := by decide +kernel
theorem dX3_set_55 : decode cX3_set 55 = .ok (.ireturn, 1) := by decide +kernel
theorem dX3_set_56 : decode cX3_set 56 = .ok (.iload_n 2, 1) := by decide +kernel
theorem dX3_set_57 : decode cX3_set 57 = .ok (.iconst 1, 1) := by decide +kernel
theorem dX3_set_58 : decode cX3_set 58 = .ok (.if_icmp .ne 13, 3) := by decide +kernel
theorem dX3_set_61 : decode cX3_set 61 = .ok (.aload_n 0, 1) := by decide +kernel
theorem dX3_set_62 : decode cX3_set 62 = .ok (.getfield 10, 3) := by decide +kernel
theorem dX3_set_65 : decode cX3_set 65 = .ok (.getfield 107, 3) := by decide +kernel
theorem dX3_set_68 : decode cX3_set 68 = .ok (.goto 10, 3) := by decide +kernel
theorem dX3_set_71 : decode cX3_set 71 = .ok (.aload_n 0, 1) := by decide +kernel
theorem dX3_set_72 : decode cX3_set 72 = .ok (.getfield 10, 3) := by decide +kernel
theorem dX3_set_75 : decode cX3_set 75 = .ok (.getfield 110, 3) := by decide +kernel
theorem dX3_set_78 : decode cX3_set 78 = .ok (.astore 5, 2) := by decide +kernel
theorem dX3_set_80 : decode cX3_set 80 = .ok (.aload 5, 2) := by decide +kernel
theorem dX3_set_82 : decode cX3_set 82 = .ok (.iload_n 1, 1) := by decide +kernel
theorem dX3_set_83 : decode cX3_set 83 = .ok (.iaload, 1) := by decide +kernel
theorem dX3_set_84 : decode cX3_set 84 = .ok (.istore 6, 2) := by decide +kernel
theorem dX3_set_86 : decode cX3_set 86 = .ok (.aload 5, 2) := by decide +kernel
theorem dX3_set_88 : decode cX3_set 88 = .ok (.iload_n 1, 1) := by decide +kernel
theorem dX3_set_89 : decode cX3_set 89 = .ok (.iload_n 3, 1) := by decide +kernel
theorem dX3_set_90 : decode cX3_set 90 = .ok (.iastore, 1) := by decide +kernel
theorem dX3_set_91 : decode cX3_set 91 = .ok (.iload 6, 2) := by decide +kernel
theorem dX3_set_93 : decode cX3_set 93 = .ok (.ireturn, 1) := by decide +kernel
theorem dX3_turn_0 : decode cX3_turn 0 = .ok (.aload_n 0, 1) := by decide +kernel
theorem dX3_turn_1 : decode cX3_turn 1 = .ok (.iload_n 1, 1) := by decide +kernel
theorem dX3_turn_2 : decode cX3_turn 2 = .ok (.invokevirtual 101, 3) := by decide +kernel
theorem dX3_turn_5 : decode cX3_turn 5 = .ok (.ifCond .ne 10, 3) := by decide +kernel
theorem dX3_turn_8 : decode cX3_turn 8 = .ok (.iload_n 2, 1) := by decide +kernel
theorem dX3_turn_9 : decode cX3_turn 9 = .ok (.invokestatic 91, 3) := by decide +kernel
theorem dX3_turn_12 : decode cX3_turn 12 = .ok (.ifCond .eq 10, 3) := by decide +kernel
theorem dX3_turn_15 : decode cX3_turn 15 = .ok (.aload_n 0, 1) := by decide +kernel
theorem dX3_turn_16 : decode cX3_turn 16 = .ok (.ldc 48, 2) := by decide +kernel
theorem dX3_turn_18 : decode cX3_turn 18 = .ok (.invokevirtual 49, 3) := by decide +kernel
theorem dX3_turn_21 : decode cX3_turn 21 = .ok (.ireturn, 1) := by decide +kernel
theorem dX3_turn_22 : decode cX3_turn 22 = .ok (.aload_n 0, 1) := by decide +kernel
theorem dX3_turn_23 : decode cX3_turn 23 = .ok (.getfield 10, 3) := by decide +kernel
theorem dX3_turn_26 : decode cX3_turn 26 = .ok (.getfield 104, 3) := by decide +kernel
theorem dX3_turn_29 : decode cX3_turn 29 = .ok (.iload_n 1, 1) := by decide +kernel
theorem dX3_turn_30 : decode cX3_turn 30 = .ok (.iaload, 1) := by decide +kernel
theorem dX3_turn_31 : decode cX3_turn 31 = .ok (.istore_n 3, 1) := by decide +kernel
theorem dX3_turn_32 : decode cX3_turn 32 = .ok (.aload_n 0, 1) := by decide +kernel
theorem dX3_turn_33 : decode cX3_turn 33 = .ok (.getfield 10, 3) := by decide +kernel
theorem dX3_turn_36 : decode cX3_turn 36 = .ok (.getfield 104, 3) := by decide +kernel
theorem dX3_turn_39 : decode cX3_turn 39 = .ok (.iload_n 1, 1) := by decide +kernel
theorem dX3_turn_40 : decode cX3_turn 40 = .ok (.iload_n 2, 1) := by decide +kernel
theorem dX3_turn_41 : decode cX3_turn 41 = .ok (.iastore, 1) := by decide +kernel
theorem dX3_turn_42 : decode cX3_turn 42 = .ok (.iload_n 3, 1) := by decide +kernel
theorem dX3_turn_43 : decode cX3_turn 43 = .ok (.ireturn, 1) := by decide +kernel
theorem dX3_as_0 : decode cX3_as 0 = .ok (.aload_n 0, 1) := by decide +kernel
theorem dX3_as_1 : decode cX3_as 1 = .ok (.iload_n 1, 1) := by decide +kernel
theorem dX3_as_2 : decode cX3_as 2 = .ok (.invokevirtual 101, 3) := by decide +kernel
theorem dX3_as_5 : decode cX3_as 5 = .ok (.ifCond .ne 10, 3) := by decide +kernel
theorem dX3_as_8 : decode cX3_as 8 = .ok (.iload_n 2, 1) := by decide +kernel
theorem dX3_as_9 : decode cX3_as 9 = .ok (.invokestatic 91, 3) := by decide +kernel
theorem dX3_as_12 : decode cX3_as 12 = .ok (.ifCond .eq 10, 3) := by decide +kernel
theorem dX3_as_15 : decode cX3_as 15 = .ok (.aload_n 0, 1) := by decide +kernel
theorem dX3_as_16 : decode cX3_as 16 = .ok (.ldc 48, 2) := by decide +kernel
theorem dX3_as_18 : decode cX3_as 18 = .ok (.invokevirtual 49, 3) := by decide +kernel
theorem dX3_as_21 : decode cX3_as 21 = .ok (.ireturn, 1) := by decide +kernel
theorem dX3_as_22 : decode cX3_as 22 = .ok (.aload_n 0, 1) := by decide +kernel
theorem dX3_as_23 : decode cX3_as 23 = .ok (.getfield 10, 3) := by decide +kernel
theorem dX3_as_26 : decode cX3_as 26 = .ok (.getfield 104, 3) := by decide +kernel
theorem dX3_as_29 : decode cX3_as 29 = .ok (.iload_n 1, 1) := by decide +kernel
theorem dX3_as_30 : decode cX3_as 30 = .ok (.iaload, 1) := by decide +kernel
theorem dX3_as_31 : decode cX3_as 31 = .ok (.iload_n 2, 1) := by decide +kernel
theorem dX3_as_32 : decode cX3_as 32 = .ok (.invokestatic 122, 3) := by decide +kernel
theorem dX3_as_35 : decode cX3_as 35 = .ok (.ifCond .ne 10, 3) := by decide +kernel
theorem dX3_as_38 : decode cX3_as 38 = .ok (.aload_n 0, 1) := by decide +kernel
theorem dX3_as_39 : decode cX3_as 39 = .ok (.ldc 126, 2) := by decide +kernel
theorem dX3_as_41 : decode cX3_as 41 = .ok (.invokevirtual 49, 3) := by decide +kernel
theorem dX3_as_44 : decode cX3_as 44 = .ok (.ireturn, 1) := by decide +kernel
theorem dX3_as_45 : decode cX3_as 45 = .ok (.aload_n 0, 1) := by decide +kernel
theorem dX3_as_46 : decode cX3_as 46 = .ok (.getfield 10, 3) := by decide +kernel
theorem dX3_as_49 : decode cX3_as 49 = .ok (.getfield 110, 3) := by decide +kernel
theorem dX3_as_52 : decode cX3_as 52 = .ok (.iload_n 1, 1) := by decide +kernel
theorem dX3_as_53 : decode cX3_as 53 = .ok (.iaload, 1) := by decide +kernel
theorem dX3_as_54 : decode cX3_as 54 = .ok (.ireturn, 1) := by decide +kernel
theorem dX3_cost_0 : decode cX3_cost 0 = .ok (.aload_n 0, 1) := by decide +kernel
theorem dX3_cost_1 : decode cX3_cost 1 = .ok (.iload_n 1, 1) := by decide +kernel
theorem dX3_cost_2 : decode cX3_cost 2 = .ok (.invokevirtual 101, 3) := by decide +kernel
theorem dX3_cost_5 : decode cX3_cost 5 = .ok (.ifCond .ne 10, 3) := by decide +kernel
theorem dX3_cost_8 : decode cX3_cost 8 = .ok (.iload_n 2, 1) := by decide +kernel
theorem dX3_cost_9 : decode cX3_cost 9 = .ok (.invokestatic 40, 3) := by decide +kernel
theorem dX3_cost_12 : decode cX3_cost 12 = .ok (.ifCond .eq 10, 3) := by decide +kernel
theorem dX3_cost_15 : decode cX3_cost 15 = .ok (.aload_n 0, 1) := by decide +kernel
theorem dX3_cost_16 : decode cX3_cost 16 = .ok (.ldc 48, 2) := by decide +kernel
theorem dX3_cost_18 : decode cX3_cost 18 = .ok (.invokevirtual 49, 3) := by decide +kernel
theorem dX3_cost_21 : decode cX3_cost 21 = .ok (.ireturn, 1) := by decide +kernel
theorem dX3_cost_22 : decode cX3_cost 22 = .ok (.aload_n 0, 1) := by decide +kernel
theorem dX3_cost_23 : decode cX3_cost 23 = .ok (.getfield 10, 3) := by decide +kernel
theorem dX3_cost_26 : decode cX3_cost 26 = .ok (.iload_n 2, 1) := by decide +kernel
theorem dX3_cost_27 : decode cX3_cost 27 = .ok (.invokevirtual 63, 3) := by decide +kernel
theorem dX3_cost_30 : decode cX3_cost 30 = .ok (.ifCond .ne 10, 3) := by decide +kernel
theorem dX3_cost_33 : decode cX3_cost 33 = .ok (.aload_n 0, 1) := by decide +kernel
theorem dX3_cost_34 : decode cX3_cost 34 = .ok (.ldc 127, 2) := by decide +kernel
theorem dX3_cost_36 : decode cX3_cost 36 = .ok (.invokevirtual 49, 3) := by decide +kernel
theorem dX3_cost_39 : decode cX3_cost 39 = .ok (.ireturn, 1) := by decide +kernel
theorem dX3_cost_40 : decode cX3_cost 40 = .ok (.aload_n 0, 1) := by decide +kernel
theorem dX3_cost_41 : decode cX3_cost 41 = .ok (.getfield 10, 3) := by decide +kernel
theorem dX3_cost_44 : decode cX3_cost 44 = .ok (.iload_n 1, 1) := by decide +kernel
theorem dX3_cost_45 : decode cX3_cost 45 = .ok (.iload_n 2, 1) := by decide +kernel
theorem dX3_cost_46 : decode cX3_cost 46 = .ok (.invokevirtual 128, 3) := by decide +kernel
theorem dX3_cost_49 : decode cX3_cost 49 = .ok (.ireturn, 1) := by decide +kernel
theorem dX3_mend_0 : decode cX3_mend 0 = .ok (.aload_n 0, 1) := by decide +kernel
theorem dX3_mend_1 : decode cX3_mend 1 = .ok (.iload_n 1, 1) := by decide +kernel
theorem dX3_mend_2 : decode cX3_mend 2 = .ok (.invokevirtual 101, 3) := by decide +kernel
theorem dX3_mend_5 : decode cX3_mend 5 = .ok (.ifCond .ne 10, 3) := by decide +kernel
theorem dX3_mend_8 : decode cX3_mend 8 = .ok (.iload_n 2, 1) := by decide +kernel
theorem dX3_mend_9 : decode cX3_mend 9 = .ok (.invokestatic 40, 3) := by decide +kernel
theorem dX3_mend_12 : decode cX3_mend 12 = .ok (.ifCond .eq 10, 3) := by decide +kernel
theorem dX3_mend_15 : decode cX3_mend 15 = .ok (.aload_n 0, 1) := by decide +kernel
theorem dX3_mend_16 : decode cX3_mend 16 = .ok (.ldc 48, 2) := by decide +kernel
theorem dX3_mend_18 : decode cX3_mend 18 = .ok (.invokevirtual 49, 3) := by decide +kernel
theorem dX3_mend_21 : decode cX3_mend 21 = .ok (.ireturn, 1) := by decide +kernel
theorem dX3_mend_22 : decode cX3_mend 22 = .ok (.aload_n 0, 1) := by decide +kernel
theorem dX3_mend_23 : decode cX3_mend 23 = .ok (.getfield 10, 3) := by decide +kernel
theorem dX3_mend_26 : decode cX3_mend 26 = .ok (.iload_n 1, 1) := by decide +kernel
theorem dX3_mend_27 : decode cX3_mend 27 = .ok (.iload_n 2, 1) := by decide +kernel
theorem dX3_mend_28 : decode cX3_mend 28 = .ok (.invokevirtual 128, 3) := by decide +kernel
theorem dX3_mend_31 : decode cX3_mend 31 = .ok (.istore_n 3, 1) := by decide +kernel
theorem dX3_mend_32 : decode cX3_mend 32 = .ok (.aload_n 0, 1) := by decide +kernel
theorem dX3_mend_33 : decode cX3_mend 33 = .ok (.getfield 10, 3) := by decide +kernel
theorem dX3_mend_36 : decode cX3_mend 36 = .ok (.iload_n 2, 1) := by decide +kernel
theorem dX3_mend_37 : decode cX3_mend 37 = .ok (.invokevirtual 63, 3) := by decide +kernel
theorem dX3_mend_40 : decode cX3_mend 40 = .ok (.ifCond .eq 16, 3) := by decide +kernel
theorem dX3_mend_43 : decode cX3_mend 43 = .ok (.aload_n 0, 1) := by decide +kernel
theorem dX3_mend_44 : decode cX3_mend 44 = .ok (.getfield 10, 3) := by decide +kernel
theorem dX3_mend_47 : decode cX3_mend 47 = .ok (.getfield 110, 3) := by decide +kernel
theorem dX3_mend_50 : decode cX3_mend 50 = .ok (.iload_n 1, 1) := by decide +kernel
theorem dX3_mend_51 : decode cX3_mend 51 = .ok (.iaload, 1) := by decide +kernel
theorem dX3_mend_52 : decode cX3_mend 52 = .ok (.iload_n 3, 1) := by decide +kernel
theorem dX3_mend_53 : decode cX3_mend 53 = .ok (.if_icmp .ge 10, 3) := by decide +kernel
theorem dX3_mend_56 : decode cX3_mend 56 = .ok (.aload_n 0, 1) := by decide +kernel
theorem dX3_mend_57 : decode cX3_mend 57 = .ok (.ldc 127, 2) := by decide +kernel
theorem dX3_mend_59 : decode cX3_mend 59 = .ok (.invokevirtual 49, 3) := by decide +kernel
theorem dX3_mend_62 : decode cX3_mend 62 = .ok (.ireturn, 1) := by decide +kernel
theorem dX3_mend_63 : decode cX3_mend 63 = .ok (.aload_n 0, 1) := by decide +kernel
theorem dX3_mend_64 : decode cX3_mend 64 = .ok (.getfield 10, 3) := by decide +kernel
theorem dX3_mend_67 : decode cX3_mend 67 = .ok (.iload_n 1, 1) := by decide +kernel
theorem dX3_mend_68 : decode cX3_mend 68 = .ok (.iload_n 2, 1) := by decide +kernel
theorem dX3_mend_69 : decode cX3_mend 69 = .ok (.iload_n 3, 1) := by decide +kernel
theorem dX3_mend_70 : decode cX3_mend 70 = .ok (.invokevirtual 132, 3) := by decide +kernel
theorem dX3_mend_73 : decode cX3_mend 73 = .ok (.aload_n 0, 1) := by decide +kernel
theorem dX3_mend_74 : decode cX3_mend 74 = .ok (.getfield 10, 3) := by decide +kernel
theorem dX3_mend_77 : decode cX3_mend 77 = .ok (.invokevirtual 136, 3) := by decide +kernel
theorem dX3_mend_80 : decode cX3_mend 80 = .ok (.ireturn, 1) := by decide +kernel
theorem dX3_years_0 : decode cX3_years 0 = .ok (.iload_n 1, 1) := by decide +kernel
theorem dX3_years_1 : decode cX3_years 1 = .ok (.iconst 1, 1) := by decide +kernel
theorem dX3_years_2 : decode cX3_years 2 = .ok (.bipush 60, 2) := by decide +kernel
theorem dX3_years_4 : decode cX3_years 4 = .ok (.invokestatic 44, 3) := by decide +kernel
theorem dX3_years_7 : decode cX3_years 7 = .ok (.ifCond .eq 10, 3) := by decide +kernel
theorem dX3_years_10 : decode cX3_years 10 = .ok (.aload_n 0, 1) := by decide +kernel
theorem dX3_years_11 : decode cX3_years 11 = .ok (.ldc 48, 2) := by decide +kernel
theorem dX3_years_13 : decode cX3_years 13 = .ok (.invokevirtual 49, 3) := by decide +kernel
theorem dX3_years_16 : decode cX3_years 16 = .ok (.ireturn, 1) := by decide +kernel
theorem dX3_years_17 : decode cX3_years 17 = .ok (.aload_n 0, 1) := by decide +kernel
theorem dX3_years_18 : decode cX3_years 18 = .ok (.getfield 10, 3) := by decide +kernel
theorem dX3_years_21 : decode cX3_years 21 = .ok (.getfield 140, 3) := by decide +kernel
theorem dX3_years_24 : decode cX3_years 24 = .ok (.iload_n 1, 1) := by decide +kernel
theorem dX3_years_25 : decode cX3_years 25 = .ok (.iadd, 1) := by decide +kernel
theorem dX3_years_26 : decode cX3_years 26 = .ok (.sipush 9999, 3) := by decide +kernel
theorem dX3_years_29 : decode cX3_years 29 = .ok (.if_icmp .le 10, 3) := by decide +kernel
theorem dX3_years_32 : decode cX3_years 32 = .ok (.aload_n 0, 1) := by decide +kernel
theorem dX3_years_33 : decode cX3_years 33 = .ok (.ldc 127, 2) := by decide +kernel
theorem dX3_years_35 : decode cX3_years 35 = .ok (.invokevirtual 49, 3) := by decide +kernel
theorem dX3_years_38 : decode cX3_years 38 = .ok (.ireturn, 1) := by decide +kernel
theorem dX3_years_39 : decode cX3_years 39 = .ok (.aload_n 0, 1) := by decide +kernel
theorem dX3_years_40 : decode cX3_years 40 = .ok (.getfield 10, 3) := by decide +kernel
theorem dX3_years_43 : decode cX3_years 43 = .ok (.dup, 1) := by decide +kernel
theorem dX3_years_44 : decode cX3_years 44 = .ok (.getfield 140, 3) := by decide +kernel
theorem dX3_years_47 : decode cX3_years 47 = .ok (.iload_n 1, 1) := by decide +kernel
theorem dX3_years_48 : decode cX3_years 48 = .ok (.iadd, 1) := by decide +kernel
theorem dX3_years_49 : decode cX3_years 49 = .ok (.putfield 140, 3) := by decide +kernel
theorem dX3_years_52 : decode cX3_years 52 = .ok (.aload_n 0, 1) := by decide +kernel
theorem dX3_years_53 : decode cX3_years 53 = .ok (.getfield 10, 3) := by decide +kernel
theorem dX3_years_56 : decode cX3_years 56 = .ok (.iload_n 1, 1) := by decide +kernel
theorem dX3_years_57 : decode cX3_years 57 = .ok (.iconst (-1), 1) := by decide +kernel
theorem dX3_years_58 : decode cX3_years 58 = .ok (.invokevirtual 143, 3) := by decide +kernel
theorem dX3_years_61 : decode cX3_years 61 = .ok (.ireturn, 1) := by decide +kernel
theorem dX3_now_0 : decode cX3_now 0 = .ok (.iload_n 1, 1) := by decide +kernel
theorem dX3_now_1 : decode cX3_now 1 = .ok (.iconst 0, 1) := by decide +kernel
theorem dX3_now_2 : decode cX3_now 2 = .ok (.iconst 4, 1) := by decide +kernel
theorem dX3_now_3 : decode cX3_now 3 = .ok (.invokestatic 44, 3) := by decide +kernel
theorem dX3_now_6 : decode cX3_now 6 = .ok (.ifCond .eq 10, 3) := by decide +kernel
theorem dX3_now_9 : decode cX3_now 9 = .ok (.aload_n 0, 1) := by decide +kernel
theorem dX3_now_10 : decode cX3_now 10 = .ok (.ldc 48, 2) := by decide +kernel
theorem dX3_now_12 : decode cX3_now 12 = .ok (.invokevirtual 49, 3) := by decide +kernel
theorem dX3_now_15 : decode cX3_now 15 = .ok (.ireturn, 1) := by decide +kernel
theorem dX3_now_16 : decode cX3_now 16 = .ok (.iload_n 1, 1) := by decide +kernel
theorem dX3_now_17 : decode cX3_now 17 = .ok (.tableswitch 77 0 3 #[31, 39, 47, 62], 31) := by decide +kernel
theorem dX3_now_48 : decode cX3_now 48 = .ok (.aload_n 0, 1) := by decide +kernel
theorem dX3_now_49 : decode cX3_now 49 = .ok (.getfield 10, 3) := by decide +kernel
theorem dX3_now_52 : decode cX3_now 52 = .ok (.getfield 140, 3) := by decide +kernel
theorem dX3_now_55 : decode cX3_now 55 = .ok (.ireturn, 1) := by decide +kernel
theorem dX3_now_56 : decode cX3_now 56 = .ok (.aload_n 0, 1) := by decide +kernel
theorem dX3_now_57 : decode cX3_now 57 = .ok (.getfield 10, 3) := by decide +kernel
theorem dX3_now_60 : decode cX3_now 60 = .ok (.invokevirtual 136, 3) := by decide +kernel
theorem dX3_now_63 : decode cX3_now 63 = .ok (.ireturn, 1) := by decide +kernel
theorem dX3_now_64 : decode cX3_now 64 = .ok (.aload_n 0, 1) := by decide +kernel
theorem dX3_now_65 : decode cX3_now 65 = .ok (.getfield 10, 3) := by decide +kernel
theorem dX3_now_68 : decode cX3_now 68 = .ok (.aload_n 0, 1) := by decide +kernel
theorem dX3_now_69 : decode cX3_now 69 = .ok (.getfield 10, 3) := by decide +kernel
theorem dX3_now_72 : decode cX3_now 72 = .ok (.getfield 110, 3) := by decide +kernel
theorem dX3_now_75 : decode cX3_now 75 = .ok (.invokevirtual 146, 3) := by decide +kernel
theorem dX3_now_78 : decode cX3_now 78 = .ok (.ireturn, 1) := by decide +kernel
theorem dX3_now_79 : decode cX3_now 79 = .ok (.aload_n 0, 1) := by decide +kernel
theorem dX3_now_80 : decode cX3_now 80 = .ok (.getfield 10, 3) := by decide +kernel
theorem dX3_now_83 : decode cX3_now 83 = .ok (.aload_n 0, 1) := by decide +kernel
theorem dX3_now_84 : decode cX3_now 84 = .ok (.getfield 10, 3) := by decide +kernel
theorem dX3_now_87 : decode cX3_now 87 = .ok (.getfield 113, 3) := by decide +kernel
theorem dX3_now_90 : decode cX3_now 90 = .ok (.invokevirtual 146, 3) := by decide +kernel
theorem dX3_now_93 : decode cX3_now 93 = .ok (.ireturn, 1) := by decide +kernel
theorem dX3_now_94 : decode cX3_now 94 = .ok (.aload_n 0, 1) := by decide +kernel
theorem dX3_now_95 : decode cX3_now 95 = .ok (.getfield 10, 3) := by decide +kernel
theorem dX3_now_98 : decode cX3_now 98 = .ok (.getfield 87, 3) := by decide +kernel
theorem dX3_now_101 : decode cX3_now 101 = .ok (.ireturn, 1) := by decide +kernel
theorem dX3_on_0 : decode cX3_on 0 = .ok (.aload_n 0, 1) := by decide +kernel
theorem dX3_on_1 : decode cX3_on 1 = .ok (.iload_n 1, 1) := by decide +kernel
theorem dX3_on_2 : decode cX3_on 2 = .ok (.invokevirtual 101, 3) := by decide +kernel
theorem dX3_on_5 : decode cX3_on 5 = .ok (.ifCond .ne 22, 3) := by decide +kernel
theorem dX3_on_8 : decode cX3_on 8 = .ok (.iload_n 2, 1) := by decide +kernel
theorem dX3_on_9 : decode cX3_on 9 = .ok (.iconst 0, 1) := by decide +kernel
theorem dX3_on_10 : decode cX3_on 10 = .ok (.bipush 60, 2) := by decide +kernel
theorem dX3_on_12 : decode cX3_on 12 = .ok (.invokestatic 44, 3) := by decide +kernel
theorem dX3_on_15 : decode cX3_on 15 = .ok (.ifCond .ne 12, 3) := by decide +kernel
theorem dX3_on_18 : decode cX3_on 18 = .ok (.iload_n 3, 1) := by decide +kernel
theorem dX3_on_19 : decode cX3_on 19 = .ok (.iconst 0, 1) := by decide +kernel
theorem dX3_on_20 : decode cX3_on 20 = .ok (.iconst 2, 1) := by decide +kernel
theorem dX3_on_21 : decode cX3_on 21 = .ok (.invokestatic 44, 3) := by decide +kernel
theorem dX3_on_24 : decode cX3_on 24 = .ok (.ifCond .eq 10, 3) := by decide +kernel
theorem dX3_on_27 : decode cX3_on 27 = .ok (.aload_n 0, 1) := by decide +kernel
theorem dX3_on_28 : decode cX3_on 28 = .ok (.ldc 48, 2) := by decide +kernel
theorem dX3_on_30 : decode cX3_on 30 = .ok (.invokevirtual 49, 3) := by decide +kernel
theorem dX3_on_33 : decode cX3_on 33 = .ok (.ireturn, 1) := by decide +kernel
theorem dX3_on_34 : decode cX3_on 34 = .ok (.aload_n 0, 1) := by decide +kernel
theorem dX3_on_35 : decode cX3_on 35 = .ok (.getfield 16, 3) := by decide +kernel
theorem dX3_on_38 : decode cX3_on 38 = .ok (.aload_n 0, 1) := by decide +kernel
theorem dX3_on_39 : decode cX3_on 39 = .ok (.getfield 10, 3) := by decide +kernel
theorem dX3_on_42 : decode cX3_on 42 = .ok (.invokevirtual 150, 3) := by decide +kernel
theorem dX3_on_45 : decode cX3_on 45 = .ok (.aload_n 0, 1) := by decide +kernel
theorem dX3_on_46 : decode cX3_on 46 = .ok (.getfield 16, 3) := by decide +kernel
theorem dX3_on_49 : decode cX3_on 49 = .ok (.iload_n 2, 1) := by decide +kernel
theorem dX3_on_50 : decode cX3_on 50 = .ok (.iconst (-1), 1) := by decide +kernel
theorem dX3_on_51 : decode cX3_on 51 = .ok (.invokevirtual 143, 3) := by decide +kernel
theorem dX3_on_54 : decode cX3_on 54 = .ok (.pop, 1) := by decide +kernel
theorem dX3_on_55 : decode cX3_on 55 = .ok (.iload_n 3, 1) := by decide +kernel
theorem dX3_on_56 : decode cX3_on 56 = .ok (.lookupswitch 48 #[(0, 28), (1, 38)], 28) := by decide +kernel
theorem dX3_on_84 : decode cX3_on 84 = .ok (.aload_n 0, 1) := by decide +kernel
theorem dX3_on_85 : decode cX3_on 85 = .ok (.getfield 16, 3) := by decide +kernel
theorem dX3_on_88 : decode cX3_on 88 = .ok (.getfield 107, 3) := by decide +kernel
theorem dX3_on_91 : decode cX3_on 91 = .ok (.iload_n 1, 1) := by decide +kernel
theorem dX3_on_92 : decode cX3_on 92 = .ok (.iaload, 1) := by decide +kernel
theorem dX3_on_93 : decode cX3_on 93 = .ok (.ireturn, 1) := by decide +kernel
theorem dX3_on_94 : decode cX3_on 94 = .ok (.aload_n 0, 1) := by decide +kernel
theorem dX3_on_95 : decode cX3_on 95 = .ok (.getfield 16, 3) := by decide +kernel
theorem dX3_on_98 : decode cX3_on 98 = .ok (.getfield 110, 3) := by decide +kernel
theorem dX3_on_101 : decode cX3_on 101 = .ok (.iload_n 1, 1) := by decide +kernel
theorem dX3_on_102 : decode cX3_on 102 = .ok (.iaload, 1) := by decide +kernel
theorem dX3_on_103 : decode cX3_on 103 = .ok (.ireturn, 1) := by decide +kernel
theorem dX3_on_104 : decode cX3_on 104 = .ok (.aload_n 0, 1) := by decide +kernel
theorem dX3_on_105 : decode cX3_on 105 = .ok (.getfield 16, 3) := by decide +kernel
theorem dX3_on_108 : decode cX3_on 108 = .ok (.getfield 113, 3) := by decide +kernel
theorem dX3_on_111 : decode cX3_on 111 = .ok (.iload_n 1, 1) := by decide +kernel
theorem dX3_on_112 : decode cX3_on 112 = .ok (.iaload, 1) := by decide +kernel
theorem dX3_on_113 : decode cX3_on 113 = .ok (.ireturn, 1) := by decide +kernel
theorem dX3_wrong_0 : decode cX3_wrong 0 = .ok (.iload_n 1, 1) := by decide +kernel
theorem dX3_wrong_1 : decode cX3_wrong 1 = .ok (.iconst 0, 1) := by decide +kernel
theorem dX3_wrong_2 : decode cX3_wrong 2 = .ok (.bipush 60, 2) := by decide +kernel
theorem dX3_wrong_4 : decode cX3_wrong 4 = .ok (.invokestatic 44, 3) := by decide +kernel
theorem dX3_wrong_7 : decode cX3_wrong 7 = .ok (.ifCond .eq 10, 3) := by decide +kernel
theorem dX3_wrong_10 : decode cX3_wrong 10 = .ok (.aload_n 0, 1) := by decide +kernel
theorem dX3_wrong_11 : decode cX3_wrong 11 = .ok (.ldc 48, 2) := by decide +kernel
theorem dX3_wrong_13 : decode cX3_wrong 13 = .ok (.invokevirtual 49, 3) := by decide +kernel
theorem dX3_wrong_16 : decode cX3_wrong 16 = .ok (.ireturn, 1) := by decide +kernel
theorem dX3_wrong_17 : decode cX3_wrong 17 = .ok (.aload_n 0, 1) := by decide +kernel
theorem dX3_wrong_18 : decode cX3_wrong 18 = .ok (.getfield 16, 3) := by decide +kernel
theorem dX3_wrong_21 : decode cX3_wrong 21 = .ok (.aload_n 0, 1) := by decide +kernel
theorem dX3_wrong_22 : decode cX3_wrong 22 = .ok (.getfield 10, 3) := by decide +kernel
theorem dX3_wrong_25 : decode cX3_wrong 25 = .ok (.invokevirtual 150, 3) := by decide +kernel
theorem dX3_wrong_28 : decode cX3_wrong 28 = .ok (.aload_n 0, 1) := by decide +kernel
theorem dX3_wrong_29 : decode cX3_wrong 29 = .ok (.getfield 16, 3) := by decide +kernel
theorem dX3_wrong_32 : decode cX3_wrong 32 = .ok (.iload_n 1, 1) := by decide +kernel
theorem dX3_wrong_33 : decode cX3_wrong 33 = .ok (.iconst (-1), 1) := by decide +kernel
theorem dX3_wrong_34 : decode cX3_wrong 34 = .ok (.invokevirtual 143, 3) := by decide +kernel
theorem dX3_wrong_37 : decode cX3_wrong 37 = .ok (.ireturn, 1) := by decide +kernel
theorem dX3_done_0 : decode cX3_done 0 = .ok (.aload_n 0, 1) := by decide +kernel
theorem dX3_done_1 : decode cX3_done 1 = .ok (.ldc2_w 154, 3) := by decide +kernel
theorem dX3_done_4 : decode cX3_done 4 = .ok (.invokevirtual 156, 3) := by decide +kernel
theorem dX3_done_7 : decode cX3_done 7 = .ok (.istore_n 1, 1) := by decide +kernel
theorem dX3_done_8 : decode cX3_done 8 = .ok (.iload_n 1, 1) := by decide +kernel
theorem dX3_done_9 : decode cX3_done 9 = .ok (.ifCond .ge 12, 3) := by decide +kernel
theorem dX3_done_12 : decode cX3_done 12 = .ok (.aload_n 0, 1) := by decide +kernel
theorem dX3_done_13 : decode cX3_done 13 = .ok (.ldc 159, 2) := by decide +kernel
theorem dX3_done_15 : decode cX3_done 15 = .ok (.invokevirtual 49, 3) := by decide +kernel
theorem dX3_done_18 : decode cX3_done 18 = .ok (.goto 4, 3) := by decide +kernel
theorem dX3_done_21 : decode cX3_done 21 = .ok (.iload_n 1, 1) := by decide +kernel
theorem dX3_done_22 : decode cX3_done 22 = .ok (.ireturn, 1) := by decide +kernel
theorem dX3_when_0 : decode cX3_when 0 = .ok (.iload_n 1, 1) := by decide +kernel
theorem dX3_when_1 : decode cX3_when 1 = .ok (.invokestatic 40, 3) := by decide +kernel
theorem dX3_when_4 : decode cX3_when 4 = .ok (.ifCond .eq 10, 3) := by decide +kernel
theorem dX3_when_7 : decode cX3_when 7 = .ok (.aload_n 0, 1) := by decide +kernel
theorem dX3_when_8 : decode cX3_when 8 = .ok (.ldc 48, 2) := by decide +kernel
theorem dX3_when_10 : decode cX3_when 10 = .ok (.invokevirtual 49, 3) := by decide +kernel
theorem dX3_when_13 : decode cX3_when 13 = .ok (.ireturn, 1) := by decide +kernel
theorem dX3_when_14 : decode cX3_when 14 = .ok (.aload_n 0, 1) := by decide +kernel
theorem dX3_when_15 : decode cX3_when 15 = .ok (.lconst 1, 1) := by decide +kernel
theorem dX3_when_16 : decode cX3_when 16 = .ok (.iload_n 1, 1) := by decide +kernel
theorem dX3_when_17 : decode cX3_when 17 = .ok (.lshl, 1) := by decide +kernel
theorem dX3_when_18 : decode cX3_when 18 = .ok (.invokevirtual 156, 3) := by decide +kernel
theorem dX3_when_21 : decode cX3_when 21 = .ok (.istore_n 2, 1) := by decide +kernel
theorem dX3_when_22 : decode cX3_when 22 = .ok (.iload_n 2, 1) := by decide +kernel
theorem dX3_when_23 : decode cX3_when 23 = .ok (.ifCond .ge 12, 3) := by decide +kernel
theorem dX3_when_26 : decode cX3_when 26 = .ok (.aload_n 0, 1) := by decide +kernel
theorem dX3_when_27 : decode cX3_when 27 = .ok (.ldc 159, 2) := by decide +kernel
theorem dX3_when_29 : decode cX3_when 29 = .ok (.invokevirtual 49, 3) := by decide +kernel
theorem dX3_when_32 : decode cX3_when 32 = .ok (.goto 4, 3) := by decide +kernel
theorem dX3_when_35 : decode cX3_when 35 = .ok (.iload_n 2, 1) := by decide +kernel
theorem dX3_when_36 : decode cX3_when 36 = .ok (.ireturn, 1) := by decide +kernel
theorem dX3_cheapest_0 : decode cX3_cheapest 0 = .ok (.aload_n 0, 1) := by decide +kernel
theorem dX3_cheapest_1 : decode cX3_cheapest 1 = .ok (.iload_n 1, 1) := by decide +kernel
theorem dX3_cheapest_2 : decode cX3_cheapest 2 = .ok (.invokevirtual 101, 3) := by decide +kernel
theorem dX3_cheapest_5 : decode cX3_cheapest 5 = .ok (.ifCond .eq 10, 3) := by decide +kernel
theorem dX3_cheapest_8 : decode cX3_cheapest 8 = .ok (.aload_n 0, 1) := by decide +kernel
theorem dX3_cheapest_9 : decode cX3_cheapest 9 = .ok (.ldc 48, 2) := by decide +kernel
theorem dX3_cheapest_11 : decode cX3_cheapest 11 = .ok (.invokevirtual 49, 3) := by decide +kernel
theorem dX3_cheapest_14 : decode cX3_cheapest 14 = .ok (.ireturn, 1) := by decide +kernel
theorem dX3_cheapest_15 : decode cX3_cheapest 15 = .ok (.iconst (-1), 1) := by decide +kernel
theorem dX3_cheapest_16 : decode cX3_cheapest 16 = .ok (.istore_n 2, 1) := by decide +kernel
theorem dX3_cheapest_17 : decode cX3_cheapest 17 = .ok (.iconst 0, 1) := by decide +kernel
theorem dX3_cheapest_18 : decode cX3_cheapest 18 = .ok (.istore_n 3, 1) := by decide +kernel
theorem dX3_cheapest_19 : decode cX3_cheapest 19 = .ok (.iconst 0, 1) := by decide +kernel
theorem dX3_cheapest_20 : decode cX3_cheapest 20 = .ok (.istore 4, 2) := by decide +kernel
theorem dX3_cheapest_22 : decode cX3_cheapest 22 = .ok (.iload 4, 2) := by decide +kernel
theorem dX3_cheapest_24 : decode cX3_cheapest 24 = .ok (.bipush 48, 2) := by decide +kernel
theorem dX3_cheapest_26 : decode cX3_cheapest 26 = .ok (.if_icmp .ge 49, 3) := by decide +kernel
theorem dX3_cheapest_29 : decode cX3_cheapest 29 = .ok (.aload_n 0, 1) := by decide +kernel
theorem dX3_cheapest_30 : decode cX3_cheapest 30 = .ok (.getfield 10, 3) := by decide +kernel
theorem dX3_cheapest_33 : decode cX3_cheapest 33 = .ok (.iload 4, 2) := by decide +kernel
theorem dX3_cheapest_35 : decode cX3_cheapest 35 = .ok (.invokevirtual 63, 3) := by decide +kernel
theorem dX3_cheapest_38 : decode cX3_cheapest 38 = .ok (.ifCond .eq 31, 3) := by decide +kernel
theorem dX3_cheapest_41 : decode cX3_cheapest 41 = .ok (.aload_n 0, 1) := by decide +kernel
theorem dX3_cheapest_42 : decode cX3_cheapest 42 = .ok (.getfield 10, 3) := by decide +kernel
theorem dX3_cheapest_45 : decode cX3_cheapest 45 = .ok (.iload_n 1, 1) := by decide +kernel
theorem dX3_cheapest_46 : decode cX3_cheapest 46 = .ok (.iload 4, 2) := by decide +kernel
theorem dX3_cheapest_48 : decode cX3_cheapest 48 = .ok (.invokevirtual 128, 3) := by decide +kernel
theorem dX3_cheapest_51 : decode cX3_cheapest 51 = .ok (.istore 5, 2) := by decide +kernel
theorem dX3_cheapest_53 : decode cX3_cheapest 53 = .ok (.iload_n 2, 1) := by decide +kernel
theorem dX3_cheapest_54 : decode cX3_cheapest 54 = .ok (.ifCond .lt 9, 3) := by decide +kernel
theorem dX3_cheapest_57 : decode cX3_cheapest 57 = .ok (.iload 5, 2) := by decide +kernel
theorem dX3_cheapest_59 : decode cX3_cheapest 59 = .ok (.iload_n 3, 1) := by decide +kernel
theorem dX3_cheapest_60 : decode cX3_cheapest 60 = .ok (.if_icmp .ge 9, 3) := by decide +kernel
theorem dX3_cheapest_63 : decode cX3_cheapest 63 = .ok (.iload 5, 2) := by decide +kernel
theorem dX3_cheapest_65 : decode cX3_cheapest 65 = .ok (.istore_n 3, 1) := by decide +kernel
theorem dX3_cheapest_66 : decode cX3_cheapest 66 = .ok (.iload 4, 2) := by decide +kernel
theorem dX3_cheapest_68 : decode cX3_cheapest 68 = .ok (.istore_n 2, 1) := by decide +kernel
theorem dX3_cheapest_69 : decode cX3_cheapest 69 = .ok (.iinc 4 1, 3) := by decide +kernel
theorem dX3_cheapest_72 : decode cX3_cheapest 72 = .ok (.goto (-50), 3) := by decide +kernel
theorem dX3_cheapest_75 : decode cX3_cheapest 75 = .ok (.iload_n 2, 1) := by decide +kernel
theorem dX3_cheapest_76 : decode cX3_cheapest 76 = .ok (.ifCond .ge 12, 3) := by decide +kernel
theorem dX3_cheapest_79 : decode cX3_cheapest 79 = .ok (.aload_n 0, 1) := by decide +kernel
theorem dX3_cheapest_80 : decode cX3_cheapest 80 = .ok (.ldc 159, 2) := by decide +kernel
theorem dX3_cheapest_82 : decode cX3_cheapest 82 = .ok (.invokevirtual 49, 3) := by decide +kernel
theorem dX3_cheapest_85 : decode cX3_cheapest 85 = .ok (.goto 4, 3) := by decide +kernel
theorem dX3_cheapest_88 : decode cX3_cheapest 88 = .ok (.iload_n 2, 1) := by decide +kernel
theorem dX3_cheapest_89 : decode cX3_cheapest 89 = .ok (.ireturn, 1) := by decide +kernel
theorem dX3_best_0 : decode cX3_best 0 = .ok (.aload_n 0, 1) := by decide +kernel
theorem dX3_best_1 : decode cX3_best 1 = .ok (.iload_n 1, 1) := by decide +kernel
theorem dX3_best_2 : decode cX3_best 2 = .ok (.invokevirtual 101, 3) := by decide +kernel
theorem dX3_best_5 : decode cX3_best 5 = .ok (.ifCond .eq 10, 3) := by decide +kernel
theorem dX3_best_8 : decode cX3_best 8 = .ok (.aload_n 0, 1) := by decide +kernel
theorem dX3_best_9 : decode cX3_best 9 = .ok (.ldc 48, 2) := by decide +kernel
theorem dX3_best_11 : decode cX3_best 11 = .ok (.invokevirtual 49, 3) := by decide +kernel
theorem dX3_best_14 : decode cX3_best 14 = .ok (.ireturn, 1) := by decide +kernel
theorem dX3_best_15 : decode cX3_best 15 = .ok (.aload_n 0, 1) := by decide +kernel
theorem dX3_best_16 : decode cX3_best 16 = .ok (.getfield 10, 3) := by decide +kernel
theorem dX3_best_19 : decode cX3_best 19 = .ok (.iload_n 1, 1) := by decide +kernel
theorem dX3_best_20 : decode cX3_best 20 = .ok (.invokevirtual 160, 3) := by decide +kernel
theorem dX3_best_23 : decode cX3_best 23 = .ok (.istore_n 2, 1) := by decide +kernel
theorem dX3_best_24 : decode cX3_best 24 = .ok (.iload_n 2, 1) := by decide +kernel
theorem dX3_best_25 : decode cX3_best 25 = .ok (.ifCond .ge 12, 3) := by decide +kernel
theorem dX3_best_28 : decode cX3_best 28 = .ok (.aload_n 0, 1) := by decide +kernel
theorem dX3_best_29 : decode cX3_best 29 = .ok (.ldc 159, 2) := by decide +kernel
theorem dX3_best_31 : decode cX3_best 31 = .ok (.invokevirtual 49, 3) := by decide +kernel
theorem dX3_best_34 : decode cX3_best 34 = .ok (.goto 4, 3) := by decide +kernel
theorem dX3_best_37 : decode cX3_best 37 = .ok (.iload_n 2, 1) := by decide +kernel
theorem dX3_best_38 : decode cX3_best 38 = .ok (.ireturn, 1) := by decide +kernel
theorem dX3_two_0 : decode cX3_two 0 = .ok (.aload_n 0, 1) := by decide +kernel
theorem dX3_two_1 : decode cX3_two 1 = .ok (.iload_n 1, 1) := by decide +kernel
theorem dX3_two_2 : decode cX3_two 2 = .ok (.invokevirtual 101, 3) := by decide +kernel
theorem dX3_two_5 : decode cX3_two 5 = .ok (.ifCond .eq 10, 3) := by decide +kernel
theorem dX3_two_8 : decode cX3_two 8 = .ok (.aload_n 0, 1) := by decide +kernel
theorem dX3_two_9 : decode cX3_two 9 = .ok (.ldc 48, 2) := by decide +kernel
theorem dX3_two_11 : decode cX3_two 11 = .ok (.invokevirtual 49, 3) := by decide +kernel
theorem dX3_two_14 : decode cX3_two 14 = .ok (.ireturn, 1) := by decide +kernel
theorem dX3_two_15 : decode cX3_two 15 = .ok (.aload_n 0, 1) := by decide +kernel
theorem dX3_two_16 : decode cX3_two 16 = .ok (.iload_n 1, 1) := by decide +kernel
theorem dX3_two_17 : decode cX3_two 17 = .ok (.invokevirtual 163, 3) := by decide +kernel
theorem dX3_two_20 : decode cX3_two 20 = .ok (.istore_n 2, 1) := by decide +kernel
theorem dX3_two_21 : decode cX3_two 21 = .ok (.iload_n 2, 1) := by decide +kernel
theorem dX3_two_22 : decode cX3_two 22 = .ok (.ifCond .ge 12, 3) := by decide +kernel
theorem dX3_two_25 : decode cX3_two 25 = .ok (.aload_n 0, 1) := by decide +kernel
theorem dX3_two_26 : decode cX3_two 26 = .ok (.ldc 159, 2) := by decide +kernel
theorem dX3_two_28 : decode cX3_two 28 = .ok (.invokevirtual 49, 3) := by decide +kernel
theorem dX3_two_31 : decode cX3_two 31 = .ok (.goto 4, 3) := by decide +kernel
theorem dX3_two_34 : decode cX3_two 34 = .ok (.iload_n 2, 1) := by decide +kernel
theorem dX3_two_35 : decode cX3_two 35 = .ok (.ireturn, 1) := by decide +kernel
theorem dX3_left_0 : decode cX3_left 0 = .ok (.aload_n 0, 1) := by decide +kernel
theorem dX3_left_1 : decode cX3_left 1 = .ok (.iload_n 1, 1) := by decide +kernel
theorem dX3_left_2 : decode cX3_left 2 = .ok (.invokevirtual 101, 3) := by decide +kernel
theorem dX3_left_5 : decode cX3_left 5 = .ok (.ifCond .eq 10, 3) := by decide +kernel
theorem dX3_left_8 : decode cX3_left 8 = .ok (.aload_n 0, 1) := by decide +kernel
theorem dX3_left_9 : decode cX3_left 9 = .ok (.ldc 48, 2) := by decide +kernel
theorem dX3_left_11 : decode cX3_left 11 = .ok (.invokevirtual 49, 3) := by decide +kernel
theorem dX3_left_14 : decode cX3_left 14 = .ok (.ireturn, 1) := by decide +kernel
theorem dX3_left_15 : decode cX3_left 15 = .ok (.aload_n 0, 1) := by decide +kernel
theorem dX3_left_16 : decode cX3_left 16 = .ok (.iload_n 1, 1) := by decide +kernel
theorem dX3_left_17 : decode cX3_left 17 = .ok (.invokevirtual 163, 3) := by decide +kernel
theorem dX3_left_20 : decode cX3_left 20 = .ok (.istore_n 2, 1) := by decide +kernel
theorem dX3_left_21 : decode cX3_left 21 = .ok (.iload_n 2, 1) := by decide +kernel
theorem dX3_left_22 : decode cX3_left 22 = .ok (.ifCond .ge 10, 3) := by decide +kernel
theorem dX3_left_25 : decode cX3_left 25 = .ok (.aload_n 0, 1) := by decide +kernel
theorem dX3_left_26 : decode cX3_left 26 = .ok (.ldc 159, 2) := by decide +kernel
theorem dX3_left_28 : decode cX3_left 28 = .ok (.invokevirtual 49, 3) := by decide +kernel
theorem dX3_left_31 : decode cX3_left 31 = .ok (.ireturn, 1) := by decide +kernel
theorem dX3_left_32 : decode cX3_left 32 = .ok (.aload_n 0, 1) := by decide +kernel
theorem dX3_left_33 : decode cX3_left 33 = .ok (.getfield 16, 3) := by decide +kernel
theorem dX3_left_36 : decode cX3_left 36 = .ok (.aload_n 0, 1) := by decide +kernel
theorem dX3_left_37 : decode cX3_left 37 = .ok (.getfield 10, 3) := by decide +kernel
theorem dX3_left_40 : decode cX3_left 40 = .ok (.invokevirtual 150, 3) := by decide +kernel
theorem dX3_left_43 : decode cX3_left 43 = .ok (.aload_n 0, 1) := by decide +kernel
theorem dX3_left_44 : decode cX3_left 44 = .ok (.getfield 16, 3) := by decide +kernel
theorem dX3_left_47 : decode cX3_left 47 = .ok (.iload_n 1, 1) := by decide +kernel
theorem dX3_left_48 : decode cX3_left 48 = .ok (.iload_n 2, 1) := by decide +kernel
theorem dX3_left_49 : decode cX3_left 49 = .ok (.bipush 100, 2) := by decide +kernel
theorem dX3_left_51 : decode cX3_left 51 = .ok (.idiv, 1) := by decide +kernel
theorem dX3_left_52 : decode cX3_left 52 = .ok (.invokevirtual 166, 3) := by decide +kernel
theorem dX3_left_55 : decode cX3_left 55 = .ok (.aload_n 0, 1) := by decide +kernel
theorem dX3_left_56 : decode cX3_left 56 = .ok (.getfield 16, 3) := by decide +kernel
theorem dX3_left_59 : decode cX3_left 59 = .ok (.iload_n 1, 1) := by decide +kernel
theorem dX3_left_60 : decode cX3_left 60 = .ok (.iload_n 2, 1) := by decide +kernel
theorem dX3_left_61 : decode cX3_left 61 = .ok (.bipush 100, 2) := by decide +kernel
theorem dX3_left_63 : decode cX3_left 63 = .ok (.irem, 1) := by decide +kernel
theorem dX3_left_64 : decode cX3_left 64 = .ok (.invokevirtual 170, 3) := by decide +kernel
theorem dX3_left_67 : decode cX3_left 67 = .ok (.invokestatic 74, 3) := by decide +kernel
theorem dX3_left_70 : decode cX3_left 70 = .ok (.ireturn, 1) := by decide +kernel
theorem dX3_kind_0 : decode cX3_kind 0 = .ok (.aload_n 0, 1) := by decide +kernel
theorem dX3_kind_1 : decode cX3_kind 1 = .ok (.iload_n 1, 1) := by decide +kernel
theorem dX3_kind_2 : decode cX3_kind 2 = .ok (.invokevirtual 101, 3) := by decide +kernel
theorem dX3_kind_5 : decode cX3_kind 5 = .ok (.ifCond .ne 13, 3) := by decide +kernel
theorem dX3_kind_8 : decode cX3_kind 8 = .ok (.iload_n 2, 1) := by decide +kernel
theorem dX3_kind_9 : decode cX3_kind 9 = .ok (.iconst 0, 1) := by decide +kernel
theorem dX3_kind_10 : decode cX3_kind 10 = .ok (.bipush 60, 2) := by decide +kernel
theorem dX3_kind_12 : decode cX3_kind 12 = .ok (.invokestatic 44, 3) := by decide +kernel
theorem dX3_kind_15 : decode cX3_kind 15 = .ok (.ifCond .eq 10, 3) := by decide +kernel
theorem dX3_kind_18 : decode cX3_kind 18 = .ok (.aload_n 0, 1) := by decide +kernel
theorem dX3_kind_19 : decode cX3_kind 19 = .ok (.ldc 48, 2) := by decide +kernel
theorem dX3_kind_21 : decode cX3_kind 21 = .ok (.invokevirtual 49, 3) := by decide +kernel
theorem dX3_kind_24 : decode cX3_kind 24 = .ok (.ireturn, 1) := by decide +kernel
theorem dX3_kind_25 : decode cX3_kind 25 = .ok (.iconst 0, 1) := by decide +kernel
theorem dX3_kind_26 : decode cX3_kind 26 = .ok (.istore_n 3, 1) := by decide +kernel
theorem dX3_kind_27 : decode cX3_kind 27 = .ok (.bipush 49, 2) := by decide +kernel
theorem dX3_kind_29 : decode cX3_kind 29 = .ok (.istore 4, 2) := by decide +kernel
theorem dX3_kind_31 : decode cX3_kind 31 = .ok (.iconst 0, 1) := by decide +kernel
theorem dX3_kind_32 : decode cX3_kind 32 = .ok (.istore 5, 2) := by decide +kernel
theorem dX3_kind_34 : decode cX3_kind 34 = .ok (.iload 5, 2) := by decide +kernel
theorem dX3_kind_36 : decode cX3_kind 36 = .ok (.bipush 6, 2) := by decide +kernel
theorem dX3_kind_38 : decode cX3_kind 38 = .ok (.if_icmp .ge 56, 3) := by decide +kernel
theorem dX3_kind_41 : decode cX3_kind 41 = .ok (.aload_n 0, 1) := by decide +kernel
theorem dX3_kind_42 : decode cX3_kind 42 = .ok (.getfield 16, 3) := by decide +kernel
theorem dX3_kind_45 : decode cX3_kind 45 = .ok (.aload_n 0, 1) := by decide +kernel
theorem dX3_kind_46 : decode cX3_kind 46 = .ok (.getfield 10, 3) := by decide +kernel
theorem dX3_kind_49 : decode cX3_kind 49 = .ok (.invokevirtual 150, 3) := by decide +kernel
theorem dX3_kind_52 : decode cX3_kind 52 = .ok (.aload_n 0, 1) := by decide +kernel
theorem dX3_kind_53 : decode cX3_kind 53 = .ok (.getfield 16, 3) := by decide +kernel
theorem dX3_kind_56 : decode cX3_kind 56 = .ok (.getfield 104, 3) := by decide +kernel
theorem dX3_kind_59 : decode cX3_kind 59 = .ok (.iload_n 1, 1) := by decide +kernel
theorem dX3_kind_60 : decode cX3_kind 60 = .ok (.iload 5, 2) := by decide +kernel
theorem dX3_kind_62 : decode cX3_kind 62 = .ok (.iastore, 1) := by decide +kernel
theorem dX3_kind_63 : decode cX3_kind 63 = .ok (.aload_n 0, 1) := by decide +kernel
theorem dX3_kind_64 : decode cX3_kind 64 = .ok (.getfield 16, 3) := by decide +kernel
theorem dX3_kind_67 : decode cX3_kind 67 = .ok (.iload_n 2, 1) := by decide +kernel
theorem dX3_kind_68 : decode cX3_kind 68 = .ok (.iconst (-1), 1) := by decide +kernel
theorem dX3_kind_69 : decode cX3_kind 69 = .ok (.invokevirtual 143, 3) := by decide +kernel
theorem dX3_kind_72 : decode cX3_kind 72 = .ok (.istore 6, 2) := by decide +kernel
theorem dX3_kind_74 : decode cX3_kind 74 = .ok (.iload 6, 2) := by decide +kernel
theorem dX3_kind_76 : decode cX3_kind 76 = .ok (.iload 4, 2) := by decide +kernel
theorem dX3_kind_78 : decode cX3_kind 78 = .ok (.if_icmp .ge 10, 3) := by decide +kernel
theorem dX3_kind_81 : decode cX3_kind 81 = .ok (.iload 6, 2) := by decide +kernel
theorem dX3_kind_83 : decode cX3_kind 83 = .ok (.istore 4, 2) := by decide +kernel
theorem dX3_kind_85 : decode cX3_kind 85 = .ok (.iload 5, 2) := by decide +kernel
theorem dX3_kind_87 : decode cX3_kind 87 = .ok (.istore_n 3, 1) := by decide +kernel
theorem dX3_kind_88 : decode cX3_kind 88 = .ok (.iinc 5 1, 3) := by decide +kernel
theorem dX3_kind_91 : decode cX3_kind 91 = .ok (.goto (-57), 3) := by decide +kernel
theorem dX3_kind_94 : decode cX3_kind 94 = .ok (.iload_n 3, 1) := by decide +kernel
theorem dX3_kind_95 : decode cX3_kind 95 = .ok (.ireturn, 1) := by decide +kernel
theorem dX3_purse_0 : decode cX3_purse 0 = .ok (.aload_n 0, 1) := by decide +kernel
theorem dX3_purse_1 : decode cX3_purse 1 = .ok (.iload_n 1, 1) := by decide +kernel
theorem dX3_purse_2 : decode cX3_purse 2 = .ok (.invokevirtual 101, 3) := by decide +kernel
theorem dX3_purse_5 : decode cX3_purse 5 = .ok (.ifCond .ne 13, 3) := by decide +kernel
theorem dX3_purse_8 : decode cX3_purse 8 = .ok (.iload_n 2, 1) := by decide +kernel
theorem dX3_purse_9 : decode cX3_purse 9 = .ok (.iconst 0, 1) := by decide +kernel
theorem dX3_purse_10 : decode cX3_purse 10 = .ok (.bipush 20, 2) := by decide +kernel
theorem dX3_purse_12 : decode cX3_purse 12 = .ok (.invokestatic 44, 3) := by decide +kernel
theorem dX3_purse_15 : decode cX3_purse 15 = .ok (.ifCond .eq 10, 3) := by decide +kernel
theorem dX3_purse_18 : decode cX3_purse 18 = .ok (.aload_n 0, 1) := by decide +kernel
theorem dX3_purse_19 : decode cX3_purse 19 = .ok (.ldc 48, 2) := by decide +kernel
theorem dX3_purse_21 : decode cX3_purse 21 = .ok (.invokevirtual 49, 3) := by decide +kernel
theorem dX3_purse_24 : decode cX3_purse 24 = .ok (.ireturn, 1) := by decide +kernel
theorem dX3_purse_25 : decode cX3_purse 25 = .ok (.aload_n 0, 1) := by decide +kernel
theorem dX3_purse_26 : decode cX3_purse 26 = .ok (.iload_n 1, 1) := by decide +kernel
theorem dX3_purse_27 : decode cX3_purse 27 = .ok (.sipush 255, 3) := by decide +kernel
theorem dX3_purse_30 : decode cX3_purse 30 = .ok (.invokevirtual 174, 3) := by decide +kernel
theorem dX3_purse_33 : decode cX3_purse 33 = .ok (.aload_n 0, 1) := by decide +kernel
theorem dX3_purse_34 : decode cX3_purse 34 = .ok (.getfield 16, 3) := by decide +kernel
theorem dX3_purse_37 : decode cX3_purse 37 = .ok (.iload_n 2, 1) := by decide +kernel
theorem dX3_purse_38 : decode cX3_purse 38 = .ok (.iconst (-1), 1) := by decide +kernel
theorem dX3_purse_39 : decode cX3_purse 39 = .ok (.invokevirtual 143, 3) := by decide +kernel
theorem dX3_purse_42 : decode cX3_purse 42 = .ok (.istore_n 3, 1) := by decide +kernel
theorem dX3_purse_43 : decode cX3_purse 43 = .ok (.iconst 0, 1) := by decide +kernel
theorem dX3_purse_44 : decode cX3_purse 44 = .ok (.istore 4, 2) := by decide +kernel
theorem dX3_purse_46 : decode cX3_purse 46 = .ok (.iload 4, 2) := by decide +kernel
theorem dX3_purse_48 : decode cX3_purse 48 = .ok (.sipush 255, 3) := by decide +kernel
theorem dX3_purse_51 : decode cX3_purse 51 = .ok (.if_icmp .ge 32, 3) := by decide +kernel
theorem dX3_purse_54 : decode cX3_purse 54 = .ok (.aload_n 0, 1) := by decide +kernel
theorem dX3_purse_55 : decode cX3_purse 55 = .ok (.iload_n 1, 1) := by decide +kernel
theorem dX3_purse_56 : decode cX3_purse 56 = .ok (.iload 4, 2) := by decide +kernel
theorem dX3_purse_58 : decode cX3_purse 58 = .ok (.invokevirtual 174, 3) := by decide +kernel
theorem dX3_purse_61 : decode cX3_purse 61 = .ok (.aload_n 0, 1) := by decide +kernel
theorem dX3_purse_62 : decode cX3_purse 62 = .ok (.getfield 16, 3) := by decide +kernel
theorem dX3_purse_65 : decode cX3_purse 65 = .ok (.iload_n 2, 1) := by decide +kernel
theorem dX3_purse_66 : decode cX3_purse 66 = .ok (.iconst (-1), 1) := by decide +kernel
theorem dX3_purse_67 : decode cX3_purse 67 = .ok (.invokevirtual 143, 3) := by decide +kernel
theorem dX3_purse_70 : decode cX3_purse 70 = .ok (.iload_n 3, 1) := by decide +kernel
theorem dX3_purse_71 : decode cX3_purse 71 = .ok (.if_icmp .gt 6, 3) := by decide +kernel
theorem dX3_purse_74 : decode cX3_purse 74 = .ok (.iload 4, 2) := by decide +kernel
theorem dX3_purse_76 : decode cX3_purse 76 = .ok (.ireturn, 1) := by decide +kernel
theorem dX3_purse_77 : decode cX3_purse 77 = .ok (.iinc 4 1, 3) := by decide +kernel
theorem dX3_purse_80 : decode cX3_purse 80 = .ok (.goto (-34), 3) := by decide +kernel
theorem dX3_purse_83 : decode cX3_purse 83 = .ok (.sipush 255, 3) := by decide +kernel
theorem dX3_purse_86 : decode cX3_purse 86 = .ok (.ireturn, 1) := by decide +kernel
theorem dX3_needed_0 : decode cX3_needed 0 = .ok (.iload_n 1, 1) := by decide +kernel
theorem dX3_needed_1 : decode cX3_needed 1 = .ok (.iconst 0, 1) := by decide +kernel
theorem dX3_needed_2 : decode cX3_needed 2 = .ok (.bipush 60, 2) := by decide +kernel
theorem dX3_needed_4 : decode cX3_needed 4 = .ok (.invokestatic 44, 3) := by decide +kernel
theorem dX3_needed_7 : decode cX3_needed 7 = .ok (.ifCond .eq 10, 3) := by decide +kernel
theorem dX3_needed_10 : decode cX3_needed 10 = .ok (.aload_n 0, 1) := by decide +kernel
theorem dX3_needed_11 : decode cX3_needed 11 = .ok (.ldc 48, 2) := by decide +kernel
theorem dX3_needed_13 : decode cX3_needed 13 = .ok (.invokevirtual 49, 3) := by decide +kernel
theorem dX3_needed_16 : decode cX3_needed 16 = .ok (.ireturn, 1) := by decide +kernel
theorem dX3_needed_17 : decode cX3_needed 17 = .ok (.iconst (-1), 1) := by decide +kernel
theorem dX3_needed_18 : decode cX3_needed 18 = .ok (.istore_n 2, 1) := by decide +kernel
theorem dX3_needed_19 : decode cX3_needed 19 = .ok (.iconst (-1), 1) := by decide +kernel
theorem dX3_needed_20 : decode cX3_needed 20 = .ok (.istore_n 3, 1) := by decide +kernel
theorem dX3_needed_21 : decode cX3_needed 21 = .ok (.iconst 0, 1) := by decide +kernel
theorem dX3_needed_22 : decode cX3_needed 22 = .ok (.istore 4, 2) := by decide +kernel
theorem dX3_needed_24 : decode cX3_needed 24 = .ok (.iload 4, 2) := by decide +kernel
theorem dX3_needed_26 : decode cX3_needed 26 = .ok (.aload_n 0, 1) := by decide +kernel
theorem dX3_needed_27 : decode cX3_needed 27 = .ok (.getfield 10, 3) := by decide +kernel
theorem dX3_needed_30 : decode cX3_needed 30 = .ok (.getfield 94, 3) := by decide +kernel
theorem dX3_needed_33 : decode cX3_needed 33 = .ok (.if_icmp .ge 44, 3) := by decide +kernel
theorem dX3_needed_36 : decode cX3_needed 36 = .ok (.aload_n 0, 1) := by decide +kernel
theorem dX3_needed_37 : decode cX3_needed 37 = .ok (.getfield 16, 3) := by decide +kernel
theorem dX3_needed_40 : decode cX3_needed 40 = .ok (.aload_n 0, 1) := by decide +kernel
theorem dX3_needed_41 : decode cX3_needed 41 = .ok (.getfield 10, 3) := by decide +kernel
theorem dX3_needed_44 : decode cX3_needed 44 = .ok (.invokevirtual 150, 3) := by decide +kernel
theorem dX3_needed_47 : decode cX3_needed 47 = .ok (.aload_n 0, 1) := by decide +kernel
theorem dX3_needed_48 : decode cX3_needed 48 = .ok (.getfield 16, 3) := by decide +kernel
theorem dX3_needed_51 : decode cX3_needed 51 = .ok (.iload_n 1, 1) := by decide +kernel
theorem dX3_needed_52 : decode cX3_needed 52 = .ok (.iload 4, 2) := by decide +kernel
theorem dX3_needed_54 : decode cX3_needed 54 = .ok (.invokevirtual 143, 3) := by decide +kernel
theorem dX3_needed_57 : decode cX3_needed 57 = .ok (.istore 5, 2) := by decide +kernel
theorem dX3_needed_59 : decode cX3_needed 59 = .ok (.iload 5, 2) := by decide +kernel
theorem dX3_needed_61 : decode cX3_needed 61 = .ok (.iload_n 3, 1) := by decide +kernel
theorem dX3_needed_62 : decode cX3_needed 62 = .ok (.if_icmp .le 9, 3) := by decide +kernel
theorem dX3_needed_65 : decode cX3_needed 65 = .ok (.iload 5, 2) := by decide +kernel
theorem dX3_needed_67 : decode cX3_needed 67 = .ok (.istore_n 3, 1) := by decide +kernel
theorem dX3_needed_68 : decode cX3_needed 68 = .ok (.iload 4, 2) := by decide +kernel
theorem dX3_needed_70 : decode cX3_needed 70 = .ok (.istore_n 2, 1) := by decide +kernel
theorem dX3_needed_71 : decode cX3_needed 71 = .ok (.iinc 4 1, 3) := by decide +kernel
theorem dX3_needed_74 : decode cX3_needed 74 = .ok (.goto (-50), 3) := by decide +kernel
theorem dX3_needed_77 : decode cX3_needed 77 = .ok (.iload_n 2, 1) := by decide +kernel
theorem dX3_needed_78 : decode cX3_needed 78 = .ok (.iconst (-1), 1) := by decide +kernel
theorem dX3_needed_79 : decode cX3_needed 79 = .ok (.if_icmp .ne 12, 3) := by decide +kernel
theorem dX3_needed_82 : decode cX3_needed 82 = .ok (.aload_n 0, 1) := by decide +kernel
theorem dX3_needed_83 : decode cX3_needed 83 = .ok (.ldc 159, 2) := by decide +kernel
theorem dX3_needed_85 : decode cX3_needed 85 = .ok (.invokevirtual 49, 3) := by decide +kernel
theorem dX3_needed_88 : decode cX3_needed 88 = .ok (.goto 4, 3) := by decide +kernel
theorem dX3_needed_91 : decode cX3_needed 91 = .ok (.iload_n 2, 1) := by decide +kernel
theorem dX3_needed_92 : decode cX3_needed 92 = .ok (.ireturn, 1) := by decide +kernel
theorem dX3_way_0 : decode cX3_way 0 = .ok (.iload_n 1, 1) := by decide +kernel
theorem dX3_way_1 : decode cX3_way 1 = .ok (.invokestatic 40, 3) := by decide +kernel
theorem dX3_way_4 : decode cX3_way 4 = .ok (.ifCond .ne 19, 3) := by decide +kernel
theorem dX3_way_7 : decode cX3_way 7 = .ok (.iload_n 2, 1) := by decide +kernel
theorem dX3_way_8 : decode cX3_way 8 = .ok (.invokestatic 40, 3) := by decide +kernel
theorem dX3_way_11 : decode cX3_way 11 = .ok (.ifCond .ne 12, 3) := by decide +kernel
theorem dX3_way_14 : decode cX3_way 14 = .ok (.iload_n 3, 1) := by decide +kernel
theorem dX3_way_15 : decode cX3_way 15 = .ok (.iconst 0, 1) := by decide +kernel
theorem dX3_way_16 : decode cX3_way 16 = .ok (.iconst 1, 1) := by decide +kernel
theorem dX3_way_17 : decode cX3_way 17 = .ok (.invokestatic 44, 3) := by decide +kernel
theorem dX3_way_20 : decode cX3_way 20 = .ok (.ifCond .eq 10, 3) := by decide +kernel
theorem dX3_way_23 : decode cX3_way 23 = .ok (.aload_n 0, 1) := by decide +kernel
theorem dX3_way_24 : decode cX3_way 24 = .ok (.ldc 48, 2) := by decide +kernel
theorem dX3_way_26 : decode cX3_way 26 = .ok (.invokevirtual 49, 3) := by decide +kernel
theorem dX3_way_29 : decode cX3_way 29 = .ok (.ireturn, 1) := by decide +kernel
theorem dX3_way_30 : decode cX3_way 30 = .ok (.iload_n 3, 1) := by decide +kernel
theorem dX3_way_31 : decode cX3_way 31 = .ok (.ifCond .ne 22, 3) := by decide +kernel
theorem dX3_way_34 : decode cX3_way 34 = .ok (.ldc2_w 154, 3) := by decide +kernel
theorem dX3_way_37 : decode cX3_way 37 = .ok (.aload_n 0, 1) := by decide +kernel
theorem dX3_way_38 : decode cX3_way 38 = .ok (.getfield 10, 3) := by decide +kernel
theorem dX3_way_41 : decode cX3_way 41 = .ok (.iconst 1, 1) := by decide +kernel
theorem dX3_way_42 : decode cX3_way 42 = .ok (.invokevirtual 83, 3) := by decide +kernel
theorem dX3_way_45 : decode cX3_way 45 = .ok (.ldc2_w 177, 3) := by decide +kernel
theorem dX3_way_48 : decode cX3_way 48 = .ok (.lxor, 1) := by decide +kernel
theorem dX3_way_49 : decode cX3_way 49 = .ok (.land, 1) := by decide +kernel
theorem dX3_way_50 : decode cX3_way 50 = .ok (.goto 20, 3) := by decide +kernel
theorem dX3_way_53 : decode cX3_way 53 = .ok (.aload_n 0, 1) := by decide +kernel
theorem dX3_way_54 : decode cX3_way 54 = .ok (.getfield 10, 3) := by decide +kernel
theorem dX3_way_57 : decode cX3_way 57 = .ok (.iconst 5, 1) := by decide +kernel
theorem dX3_way_58 : decode cX3_way 58 = .ok (.invokevirtual 83, 3) := by decide +kernel
theorem dX3_way_61 : decode cX3_way 61 = .ok (.aload_n 0, 1) := by decide +kernel
theorem dX3_way_62 : decode cX3_way 62 = .ok (.getfield 10, 3) := by decide +kernel
theorem dX3_way_65 : decode cX3_way 65 = .ok (.iconst 3, 1) := by decide +kernel
theorem dX3_way_66 : decode cX3_way 66 = .ok (.invokevirtual 83, 3) := by decide +kernel
theorem dX3_way_69 : decode cX3_way 69 = .ok (.lor, 1) := by decide +kernel
theorem dX3_way_70 : decode cX3_way 70 = .ok (.lstore 4, 2) := by decide +kernel
theorem dX3_way_72 : decode cX3_way 72 = .ok (.lconst 1, 1) := by decide +kernel
theorem dX3_way_73 : decode cX3_way 73 = .ok (.iload_n 2, 1) := by decide +kernel
theorem dX3_way_74 : decode cX3_way 74 = .ok (.lshl, 1) := by decide +kernel
theorem dX3_way_75 : decode cX3_way 75 = .ok (.lstore 6, 2) := by decide +kernel
theorem dX3_way_77 : decode cX3_way 77 = .ok (.lconst 1, 1) := by decide +kernel
theorem dX3_way_78 : decode cX3_way 78 = .ok (.iload_n 1, 1) := by decide +kernel
theorem dX3_way_79 : decode cX3_way 79 = .ok (.lshl, 1) := by decide +kernel
theorem dX3_way_80 : decode cX3_way 80 = .ok (.lload 4, 2) := by decide +kernel
theorem dX3_way_82 : decode cX3_way 82 = .ok (.land, 1) := by decide +kernel
theorem dX3_way_83 : decode cX3_way 83 = .ok (.lstore 8, 2) := by decide +kernel
theorem dX3_way_85 : decode cX3_way 85 = .ok (.iconst 0, 1) := by decide +kernel
theorem dX3_way_86 : decode cX3_way 86 = .ok (.istore 10, 2) := by decide +kernel
theorem dX3_way_88 : decode cX3_way 88 = .ok (.iload 10, 2) := by decide +kernel
theorem dX3_way_90 : decode cX3_way 90 = .ok (.bipush 48, 2) := by decide +kernel
theorem dX3_way_92 : decode cX3_way 92 = .ok (.if_icmp .ge 35, 3) := by decide +kernel
theorem dX3_way_95 : decode cX3_way 95 = .ok (.lload 8, 2) := by decide +kernel
theorem dX3_way_97 : decode cX3_way 97 = .ok (.lload 6, 2) := by decide +kernel
theorem dX3_way_99 : decode cX3_way 99 = .ok (.land, 1) := by decide +kernel
theorem dX3_way_100 : decode cX3_way 100 = .ok (.lconst 0, 1) := by decide +kernel
theorem dX3_way_101 : decode cX3_way 101 = .ok (.lcmp, 1) := by decide +kernel
theorem dX3_way_102 : decode cX3_way 102 = .ok (.ifCond .eq 6, 3) := by decide +kernel
theorem dX3_way_105 : decode cX3_way 105 = .ok (.iload 10, 2) := by decide +kernel
theorem dX3_way_107 : decode cX3_way 107 = .ok (.ireturn, 1) := by decide +kernel
theorem dX3_way_108 : decode cX3_way 108 = .ok (.lload 8, 2) := by decide +kernel
theorem dX3_way_110 : decode cX3_way 110 = .ok (.lload 8, 2) := by decide +kernel
theorem dX3_way_112 : decode cX3_way 112 = .ok (.invokestatic 70, 3) := by decide +kernel
theorem dX3_way_115 : decode cX3_way 115 = .ok (.lload 4, 2) := by decide +kernel
theorem dX3_way_117 : decode cX3_way 117 = .ok (.land, 1) := by decide +kernel
theorem dX3_way_118 : decode cX3_way 118 = .ok (.lor, 1) := by decide +kernel
theorem dX3_way_119 : decode cX3_way 119 = .ok (.lstore 8, 2) := by decide +kernel
theorem dX3_way_121 : decode cX3_way 121 = .ok (.iinc 10 1, 3) := by decide +kernel
theorem dX3_way_124 : decode cX3_way 124 = .ok (.goto (-36), 3) := by decide +kernel
theorem dX3_way_127 : decode cX3_way 127 = .ok (.aload_n 0, 1) := by decide +kernel
theorem dX3_way_128 : decode cX3_way 128 = .ok (.ldc 159, 2) := by decide +kernel
theorem dX3_way_130 : decode cX3_way 130 = .ok (.invokevirtual 49, 3) := by decide +kernel
theorem dX3_way_133 : decode cX3_way 133 = .ok (.ireturn, 1) := by decide +kernel
theorem dX3_feed_0 : decode cX3_feed 0 = .ok (.iload_n 2, 1) := by decide +kernel
theorem dX3_feed_1 : decode cX3_feed 1 = .ok (.iconst 1, 1) := by decide +kernel
theorem dX3_feed_2 : decode cX3_feed 2 = .ok (.iconst 4, 1) := by decide +kernel
theorem dX3_feed_3 : decode cX3_feed 3 = .ok (.invokestatic 44, 3) := by decide +kernel
theorem dX3_feed_6 : decode cX3_feed 6 = .ok (.ifCond .eq 10, 3) := by decide +kernel
theorem dX3_feed_9 : decode cX3_feed 9 = .ok (.aload_n 0, 1) := by decide +kernel
theorem dX3_feed_10 : decode cX3_feed 10 = .ok (.ldc 48, 2) := by decide +kernel
theorem dX3_feed_12 : decode cX3_feed 12 = .ok (.invokevirtual 49, 3) := by decide +kernel
theorem dX3_feed_15 : decode cX3_feed 15 = .ok (.ireturn, 1) := by decide +kernel
theorem dX3_feed_16 : decode cX3_feed 16 = .ok (.aload_n 0, 1) := by decide +kernel
theorem dX3_feed_17 : decode cX3_feed 17 = .ok (.getfield 25, 3) := by decide +kernel
theorem dX3_feed_20 : decode cX3_feed 20 = .ok (.getfield 179, 3) := by decide +kernel
theorem dX3_feed_23 : decode cX3_feed 23 = .ok (.iload_n 2, 1) := by decide +kernel
theorem dX3_feed_24 : decode cX3_feed 24 = .ok (.iadd, 1) := by decide +kernel
theorem dX3_feed_25 : decode cX3_feed 25 = .ok (.bipush 120, 2) := by decide +kernel
theorem dX3_feed_27 : decode cX3_feed 27 = .ok (.if_icmp .le 10, 3) := by decide +kernel
theorem dX3_feed_30 : decode cX3_feed 30 = .ok (.aload_n 0, 1) := by decide +kernel
theorem dX3_feed_31 : decode cX3_feed 31 = .ok (.ldc 97, 2) := by decide +kernel
theorem dX3_feed_33 : decode cX3_feed 33 = .ok (.invokevirtual 49, 3) := by decide +kernel
theorem dX3_feed_36 : decode cX3_feed 36 = .ok (.ireturn, 1) := by decide +kernel
theorem dX3_feed_37 : decode cX3_feed 37 = .ok (.iload_n 2, 1) := by decide +kernel
theorem dX3_feed_38 : decode cX3_feed 38 = .ok (.iconst 1, 1) := by decide +kernel
theorem dX3_feed_39 : decode cX3_feed 39 = .ok (.isub, 1) := by decide +kernel
theorem dX3_feed_40 : decode cX3_feed 40 = .ok (.istore_n 3, 1) := by decide +kernel
theorem dX3_feed_41 : decode cX3_feed 41 = .ok (.iload_n 3, 1) := by decide +kernel
theorem dX3_feed_42 : decode cX3_feed 42 = .ok (.ifCond .lt 47, 3) := by decide +kernel
theorem dX3_feed_45 : decode cX3_feed 45 = .ok (.aload_n 0, 1) := by decide +kernel
theorem dX3_feed_46 : decode cX3_feed 46 = .ok (.getfield 25, 3) := by decide +kernel
theorem dX3_feed_49 : decode cX3_feed 49 = .ok (.getfield 182, 3) := by decide +kernel
theorem dX3_feed_52 : decode cX3_feed 52 = .ok (.aload_n 0, 1) := by decide +kernel
theorem dX3_feed_53 : decode cX3_feed 53 = .ok (.getfield 25, 3) := by decide +kernel
theorem dX3_feed_56 : decode cX3_feed 56 = .ok (.getfield 179, 3) := by decide +kernel
theorem dX3_feed_59 : decode cX3_feed 59 = .ok (.iload_n 1, 1) := by decide +kernel
theorem dX3_feed_60 : decode cX3_feed 60 = .ok (.bipush 8, 2) := by decide +kernel
theorem dX3_feed_62 : decode cX3_feed 62 = .ok (.iload_n 3, 1) := by decide +kernel
theorem dX3_feed_63 : decode cX3_feed 63 = .ok (.imul, 1) := by decide +kernel
theorem dX3_feed_64 : decode cX3_feed 64 = .ok (.iushr, 1) := by decide +kernel
theorem dX3_feed_65 : decode cX3_feed 65 = .ok (.sipush 255, 3) := by decide +kernel
theorem dX3_feed_68 : decode cX3_feed 68 = .ok (.iand, 1) := by decide +kernel
theorem dX3_feed_69 : decode cX3_feed 69 = .ok (.iastore, 1) := by decide +kernel
theorem dX3_feed_70 : decode cX3_feed 70 = .ok (.aload_n 0, 1) := by decide +kernel
theorem dX3_feed_71 : decode cX3_feed 71 = .ok (.getfield 25, 3) := by decide +kernel
theorem dX3_feed_74 : decode cX3_feed 74 = .ok (.dup, 1) := by decide +kernel
theorem dX3_feed_75 : decode cX3_feed 75 = .ok (.getfield 179, 3) := by decide +kernel
theorem dX3_feed_78 : decode cX3_feed 78 = .ok (.iconst 1, 1) := by decide +kernel
theorem dX3_feed_79 : decode cX3_feed 79 = .ok (.iadd, 1) := by decide +kernel
theorem dX3_feed_80 : decode cX3_feed 80 = .ok (.putfield 179, 3) := by decide +kernel
theorem dX3_feed_83 : decode cX3_feed 83 = .ok (.iinc 3 (-1), 3) := by decide +kernel
theorem dX3_feed_86 : decode cX3_feed 86 = .ok (.goto (-45), 3) := by decide +kernel
theorem dX3_feed_89 : decode cX3_feed 89 = .ok (.aload_n 0, 1) := by decide +kernel
theorem dX3_feed_90 : decode cX3_feed 90 = .ok (.getfield 25, 3) := by decide +kernel
theorem dX3_feed_93 : decode cX3_feed 93 = .ok (.getfield 179, 3) := by decide +kernel
theorem dX3_feed_96 : decode cX3_feed 96 = .ok (.ireturn, 1) := by decide +kernel
theorem dX3_wipe_0 : decode cX3_wipe 0 = .ok (.aload_n 0, 1) := by decide +kernel
theorem dX3_wipe_1 : decode cX3_wipe 1 = .ok (.getfield 25, 3) := by decide +kernel
theorem dX3_wipe_4 : decode cX3_wipe 4 = .ok (.getfield 179, 3) := by decide +kernel
theorem dX3_wipe_7 : decode cX3_wipe 7 = .ok (.istore_n 1, 1) := by decide +kernel
theorem dX3_wipe_8 : decode cX3_wipe 8 = .ok (.aload_n 0, 1) := by decide +kernel
theorem dX3_wipe_9 : decode cX3_wipe 9 = .ok (.getfield 25, 3) := by decide +kernel
theorem dX3_wipe_12 : decode cX3_wipe 12 = .ok (.iconst 0, 1) := by decide +kernel
theorem dX3_wipe_13 : decode cX3_wipe 13 = .ok (.putfield 179, 3) := by decide +kernel
theorem dX3_wipe_16 : decode cX3_wipe 16 = .ok (.iload_n 1, 1) := by decide +kernel
theorem dX3_wipe_17 : decode cX3_wipe 17 = .ok (.ireturn, 1) := by decide +kernel
theorem dX3_map_0 : decode cX3_map 0 = .ok (.aload_n 0, 1) := by decide +kernel
theorem dX3_map_1 : decode cX3_map 1 = .ok (.getfield 16, 3) := by decide +kernel
theorem dX3_map_4 : decode cX3_map 4 = .ok (.aload_n 0, 1) := by decide +kernel
theorem dX3_map_5 : decode cX3_map 5 = .ok (.getfield 10, 3) := by decide +kernel
theorem dX3_map_8 : decode cX3_map 8 = .ok (.invokevirtual 150, 3) := by decide +kernel
theorem dX3_map_11 : decode cX3_map 11 = .ok (.aload_n 0, 1) := by decide +kernel
theorem dX3_map_12 : decode cX3_map 12 = .ok (.getfield 25, 3) := by decide +kernel
theorem dX3_map_15 : decode cX3_map 15 = .ok (.aload_n 0, 1) := by decide +kernel
theorem dX3_map_16 : decode cX3_map 16 = .ok (.getfield 16, 3) := by decide +kernel
theorem dX3_map_19 : decode cX3_map 19 = .ok (.invokevirtual 185, 3) := by decide +kernel
theorem dX3_map_22 : decode cX3_map 22 = .ok (.istore_n 1, 1) := by decide +kernel
theorem dX3_map_23 : decode cX3_map 23 = .ok (.iload_n 1, 1) := by decide +kernel
theorem dX3_map_24 : decode cX3_map 24 = .ok (.ifCond .le 14, 3) := by decide +kernel
theorem dX3_map_27 : decode cX3_map 27 = .ok (.aload_n 0, 1) := by decide +kernel
theorem dX3_map_28 : decode cX3_map 28 = .ok (.getfield 10, 3) := by decide +kernel
theorem dX3_map_31 : decode cX3_map 31 = .ok (.aload_n 0, 1) := by decide +kernel
theorem dX3_map_32 : decode cX3_map 32 = .ok (.getfield 16, 3) := by decide +kernel
theorem dX3_map_35 : decode cX3_map 35 = .ok (.invokevirtual 150, 3) := by decide +kernel
theorem dX3_map_38 : decode cX3_map 38 = .ok (.aload_n 0, 1) := by decide +kernel
theorem dX3_map_39 : decode cX3_map 39 = .ok (.getfield 25, 3) := by decide +kernel
theorem dX3_map_42 : decode cX3_map 42 = .ok (.iconst 0, 1) := by decide +kernel
theorem dX3_map_43 : decode cX3_map 43 = .ok (.putfield 179, 3) := by decide +kernel
theorem dX3_map_46 : decode cX3_map 46 = .ok (.iload_n 1, 1) := by decide +kernel
theorem dX3_map_47 : decode cX3_map 47 = .ok (.ireturn, 1) := by decide +kernel
theorem dX3_sheet_0 : decode cX3_sheet 0 = .ok (.iload_n 1, 1) := by decide +kernel
theorem dX3_sheet_1 : decode cX3_sheet 1 = .ok (.invokestatic 189, 3) := by decide +kernel
theorem dX3_sheet_4 : decode cX3_sheet 4 = .ok (.ifCond .ne 25, 3) := by decide +kernel
theorem dX3_sheet_7 : decode cX3_sheet 7 = .ok (.iload_n 2, 1) := by decide +kernel
theorem dX3_sheet_8 : decode cX3_sheet 8 = .ok (.ifCond .eq 28, 3) := by decide +kernel
theorem dX3_sheet_11 : decode cX3_sheet 11 = .ok (.iload_n 2, 1) := by decide +kernel
theorem dX3_sheet_12 : decode cX3_sheet 12 = .ok (.bipush 8, 2) := by decide +kernel
theorem dX3_sheet_14 : decode cX3_sheet 14 = .ok (.if_icmp .eq 22, 3) := by decide +kernel
theorem dX3_sheet_17 : decode cX3_sheet 17 = .ok (.iload_n 2, 1) := by decide +kernel
theorem dX3_sheet_18 : decode cX3_sheet 18 = .ok (.bipush 16, 2) := by decide +kernel
theorem dX3_sheet_20 : decode cX3_sheet 20 = .ok (.if_icmp .eq 16, 3) := by decide +kernel
theorem dX3_sheet_23 : decode cX3_sheet 23 = .ok (.iload_n 2, 1) := by decide +kernel
theorem dX3_sheet_24 : decode cX3_sheet 24 = .ok (.bipush 64, 2) := by decide +kernel
theorem dX3_sheet_26 : decode cX3_sheet 26 = .ok (.if_icmp .eq 10, 3) := by decide +kernel
theorem dX3_sheet_29 : decode cX3_sheet 29 = .ok (.aload_n 0, 1) := by decide +kernel
theorem dX3_sheet_30 : decode cX3_sheet 30 = .ok (.ldc 48, 2) := by decide +kernel
theorem dX3_sheet_32 : decode cX3_sheet 32 = .ok (.invokevirtual 49, 3) := by decide +kernel
theorem dX3_sheet_35 : decode cX3_sheet 35 = .ok (.ireturn, 1) := by decide +kernel
theorem dX3_sheet_36 : decode cX3_sheet 36 = .ok (.iload_n 3, 1) := by decide +kernel
theorem dX3_sheet_37 : decode cX3_sheet 37 = .ok (.ifCond .ge 10, 3) := by decide +kernel
theorem dX3_sheet_40 : decode cX3_sheet 40 = .ok (.aload_n 0, 1) := by decide +kernel
theorem dX3_sheet_41 : decode cX3_sheet 41 = .ok (.ldc 192, 2) := by decide +kernel
theorem dX3_sheet_43 : decode cX3_sheet 43 = .ok (.invokevirtual 49, 3) := by decide +kernel
theorem dX3_sheet_46 : decode cX3_sheet 46 = .ok (.ireturn, 1) := by decide +kernel
theorem dX3_sheet_47 : decode cX3_sheet 47 = .ok (.iload_n 3, 1) := by decide +kernel
theorem dX3_sheet_48 : decode cX3_sheet 48 = .ok (.bipush 40, 2) := by decide +kernel
theorem dX3_sheet_50 : decode cX3_sheet 50 = .ok (.if_icmp .le 10, 3) := by decide +kernel
theorem dX3_sheet_53 : decode cX3_sheet 53 = .ok (.aload_n 0, 1) := by decide +kernel
theorem dX3_sheet_54 : decode cX3_sheet 54 = .ok (.ldc 48, 2) := by decide +kernel
theorem dX3_sheet_56 : decode cX3_sheet 56 = .ok (.invokevirtual 49, 3) := by decide +kernel
theorem dX3_sheet_59 : decode cX3_sheet 59 = .ok (.ireturn, 1) := by decide +kernel
theorem dX3_sheet_60 : decode cX3_sheet 60 = .ok (.aload_n 0, 1) := by decide +kernel
theorem dX3_sheet_61 : decode cX3_sheet 61 = .ok (.getfield 31, 3) := by decide +kernel
theorem dX3_sheet_64 : decode cX3_sheet 64 = .ok (.iload_n 1, 1) := by decide +kernel
theorem dX3_sheet_65 : decode cX3_sheet 65 = .ok (.aaload, 1) := by decide +kernel
theorem dX3_sheet_66 : decode cX3_sheet 66 = .ok (.iload_n 2, 1) := by decide +kernel
theorem dX3_sheet_67 : decode cX3_sheet 67 = .ok (.iload_n 3, 1) := by decide +kernel
theorem dX3_sheet_68 : decode cX3_sheet 68 = .ok (.invokevirtual 193, 3) := by decide +kernel
theorem dX3_sheet_71 : decode cX3_sheet 71 = .ok (.aload_n 0, 1) := by decide +kernel
theorem dX3_sheet_72 : decode cX3_sheet 72 = .ok (.getfield 31, 3) := by decide +kernel
theorem dX3_sheet_75 : decode cX3_sheet 75 = .ok (.iload_n 1, 1) := by decide +kernel
theorem dX3_sheet_76 : decode cX3_sheet 76 = .ok (.aaload, 1) := by decide +kernel
theorem dX3_sheet_77 : decode cX3_sheet 77 = .ok (.getfield 196, 3) := by decide +kernel
theorem dX3_sheet_80 : decode cX3_sheet 80 = .ok (.ireturn, 1) := by decide +kernel
theorem dX3_write_0 : decode cX3_write 0 = .ok (.iload_n 1, 1) := by decide +kernel
theorem dX3_write_1 : decode cX3_write 1 = .ok (.invokestatic 189, 3) := by decide +kernel
theorem dX3_write_4 : decode cX3_write 4 = .ok (.ifCond .eq 11, 3) := by decide +kernel
theorem dX3_write_7 : decode cX3_write 7 = .ok (.aload_n 0, 1) := by decide +kernel
theorem dX3_write_8 : decode cX3_write 8 = .ok (.ldc 48, 2) := by decide +kernel
theorem dX3_write_10 : decode cX3_write 10 = .ok (.invokevirtual 49, 3) := by decide +kernel
theorem dX3_write_13 : decode cX3_write 13 = .ok (.i2l, 1) := by decide +kernel
theorem dX3_write_14 : decode cX3_write 14 = .ok (.lreturn, 1) := by decide +kernel
theorem dX3_write_15 : decode cX3_write 15 = .ok (.aload_n 0, 1) := by decide +kernel
theorem dX3_write_16 : decode cX3_write 16 = .ok (.getfield 31, 3) := by decide +kernel
theorem dX3_write_19 : decode cX3_write 19 = .ok (.iload_n 1, 1) := by decide +kernel
theorem dX3_write_20 : decode cX3_write 20 = .ok (.aaload, 1) := by decide +kernel
theorem dX3_write_21 : decode cX3_write 21 = .ok (.invokevirtual 199, 3) := by decide +kernel
theorem dX3_write_24 : decode cX3_write 24 = .ok (.ifCond .eq 11, 3) := by decide +kernel
theorem dX3_write_27 : decode cX3_write 27 = .ok (.aload_n 0, 1) := by decide +kernel
theorem dX3_write_28 : decode cX3_write 28 = .ok (.ldc 203, 2) := by decide +kernel
theorem dX3_write_30 : decode cX3_write 30 = .ok (.invokevirtual 49, 3) := by decide +kernel
theorem dX3_write_33 : decode cX3_write 33 = .ok (.i2l, 1) := by decide +kernel
theorem dX3_write_34 : decode cX3_write 34 = .ok (.lreturn, 1) := by decide +kernel
theorem dX3_write_35 : decode cX3_write 35 = .ok (.iload_n 2, 1) := by decide +kernel
theorem dX3_write_36 : decode cX3_write 36 = .ok (.iconst 0, 1) := by decide +kernel
theorem dX3_write_37 : decode cX3_write 37 = .ok (.aload_n 0, 1) := by decide +kernel
theorem dX3_write_38 : decode cX3_write 38 = .ok (.getfield 31, 3) := by decide +kernel
theorem dX3_write_41 : decode cX3_write 41 = .ok (.iload_n 1, 1) := by decide +kernel
theorem dX3_write_42 : decode cX3_write 42 = .ok (.aaload, 1) := by decide +kernel
theorem dX3_write_43 : decode cX3_write 43 = .ok (.getfield 196, 3) := by decide +kernel
theorem dX3_write_46 : decode cX3_write 46 = .ok (.iconst 1, 1) := by decide +kernel
theorem dX3_write_47 : decode cX3_write 47 = .ok (.isub, 1) := by decide +kernel
theorem dX3_write_48 : decode cX3_write 48 = .ok (.invokestatic 44, 3) := by decide +kernel
theorem dX3_write_51 : decode cX3_write 51 = .ok (.ifCond .eq 11, 3) := by decide +kernel
theorem dX3_write_54 : decode cX3_write 54 = .ok (.aload_n 0, 1) := by decide +kernel
theorem dX3_write_55 : decode cX3_write 55 = .ok (.ldc 48, 2) := by decide +kernel
theorem dX3_write_57 : decode cX3_write 57 = .ok (.invokevirtual 49, 3) := by decide +kernel
theorem dX3_write_60 : decode cX3_write 60 = .ok (.i2l, 1) := by decide +kernel
theorem dX3_write_61 : decode cX3_write 61 = .ok (.lreturn, 1) := by decide +kernel
theorem dX3_write_62 : decode cX3_write 62 = .ok (.aload_n 0, 1) := by decide +kernel
theorem dX3_write_63 : decode cX3_write 63 = .ok (.getfield 31, 3) := by decide +kernel
theorem dX3_write_66 : decode cX3_write 66 = .ok (.iload_n 1, 1) := by decide +kernel
theorem dX3_write_67 : decode cX3_write 67 = .ok (.aaload, 1) := by decide +kernel
theorem dX3_write_68 : decode cX3_write 68 = .ok (.iload_n 2, 1) := by decide +kernel
theorem dX3_write_69 : decode cX3_write 69 = .ok (.lload_n 3, 1) := by decide +kernel
theorem dX3_write_70 : decode cX3_write 70 = .ok (.invokevirtual 204, 3) := by decide +kernel
theorem dX3_write_73 : decode cX3_write 73 = .ok (.lreturn, 1) := by decide +kernel
theorem dX3_copy_0 : decode cX3_copy 0 = .ok (.iload_n 1, 1) := by decide +kernel
theorem dX3_copy_1 : decode cX3_copy 1 = .ok (.invokestatic 189, 3) := by decide +kernel
theorem dX3_copy_4 : decode cX3_copy 4 = .ok (.ifCond .ne 10, 3) := by decide +kernel
theorem dX3_copy_7 : decode cX3_copy 7 = .ok (.iload_n 3, 1) := by decide +kernel
theorem dX3_copy_8 : decode cX3_copy 8 = .ok (.invokestatic 189, 3) := by decide +kernel
theorem dX3_copy_11 : decode cX3_copy 11 = .ok (.ifCond .eq 10, 3) := by decide +kernel
theorem dX3_copy_14 : decode cX3_copy 14 = .ok (.aload_n 0, 1) := by decide +kernel
theorem dX3_copy_15 : decode cX3_copy 15 = .ok (.ldc 48, 2) := by decide +kernel
theorem dX3_copy_17 : decode cX3_copy 17 = .ok (.invokevirtual 49, 3) := by decide +kernel
theorem dX3_copy_20 : decode cX3_copy 20 = .ok (.ireturn, 1) := by decide +kernel
theorem dX3_copy_21 : decode cX3_copy 21 = .ok (.aload_n 0, 1) := by decide +kernel
theorem dX3_copy_22 : decode cX3_copy 22 = .ok (.getfield 31, 3) := by decide +kernel
theorem dX3_copy_25 : decode cX3_copy 25 = .ok (.iload_n 1, 1) := by decide +kernel
theorem dX3_copy_26 : decode cX3_copy 26 = .ok (.aaload, 1) := by decide +kernel
theorem dX3_copy_27 : decode cX3_copy 27 = .ok (.astore 6, 2) := by decide +kernel
theorem dX3_copy_29 : decode cX3_copy 29 = .ok (.aload_n 0, 1) := by decide +kernel
theorem dX3_copy_30 : decode cX3_copy 30 = .ok (.getfield 31, 3) := by decide +kernel
theorem dX3_copy_33 : decode cX3_copy 33 = .ok (.iload_n 3, 1) := by decide +kernel
theorem dX3_copy_34 : decode cX3_copy 34 = .ok (.aaload, 1) := by decide +kernel
theorem dX3_copy_35 : decode cX3_copy 35 = .ok (.astore 7, 2) := by decide +kernel
theorem dX3_copy_37 : decode cX3_copy 37 = .ok (.aload 6, 2) := by decide +kernel
theorem dX3_copy_39 : decode cX3_copy 39 = .ok (.invokevirtual 199, 3) := by decide +kernel
theorem dX3_copy_42 : decode cX3_copy 42 = .ok (.ifCond .ne 11, 3) := by decide +kernel
theorem dX3_copy_45 : decode cX3_copy 45 = .ok (.aload 7, 2) := by decide +kernel
theorem dX3_copy_47 : decode cX3_copy 47 = .ok (.invokevirtual 199, 3) := by decide +kernel
theorem dX3_copy_50 : decode cX3_copy 50 = .ok (.ifCond .eq 10, 3) := by decide +kernel
theorem dX3_copy_53 : decode cX3_copy 53 = .ok (.aload_n 0, 1) := by decide +kernel
theorem dX3_copy_54 : decode cX3_copy 54 = .ok (.ldc 203, 2) := by decide +kernel
theorem dX3_copy_56 : decode cX3_copy 56 = .ok (.invokevirtual 49, 3) := by decide +kernel
theorem dX3_copy_59 : decode cX3_copy 59 = .ok (.ireturn, 1) := by decide +kernel
theorem dX3_copy_60 : decode cX3_copy 60 = .ok (.aload 6, 2) := by decide +kernel
theorem dX3_copy_62 : decode cX3_copy 62 = .ok (.getfield 208, 3) := by decide +kernel
theorem dX3_copy_65 : decode cX3_copy 65 = .ok (.aload 7, 2) := by decide +kernel
theorem dX3_copy_67 : decode cX3_copy 67 = .ok (.getfield 208, 3) := by decide +kernel
theorem dX3_copy_70 : decode cX3_copy 70 = .ok (.if_icmp .eq 10, 3) := by decide +kernel
theorem dX3_copy_73 : decode cX3_copy 73 = .ok (.aload_n 0, 1) := by decide +kernel
theorem dX3_copy_74 : decode cX3_copy 74 = .ok (.ldc 126, 2) := by decide +kernel
theorem dX3_copy_76 : decode cX3_copy 76 = .ok (.invokevirtual 49, 3) := by decide +kernel
theorem dX3_copy_79 : decode cX3_copy 79 = .ok (.ireturn, 1) := by decide +kernel
theorem dX3_copy_80 : decode cX3_copy 80 = .ok (.aload 6, 2) := by decide +kernel
theorem dX3_copy_82 : decode cX3_copy 82 = .ok (.iload_n 2, 1) := by decide +kernel
theorem dX3_copy_83 : decode cX3_copy 83 = .ok (.iload 5, 2) := by decide +kernel
theorem dX3_copy_85 : decode cX3_copy 85 = .ok (.invokevirtual 211, 3) := by decide +kernel
theorem dX3_copy_88 : decode cX3_copy 88 = .ok (.ifCond .eq 15, 3) := by decide +kernel
theorem dX3_copy_91 : decode cX3_copy 91 = .ok (.aload 7, 2) := by decide +kernel
theorem dX3_copy_93 : decode cX3_copy 93 = .ok (.iload 4, 2) := by decide +kernel
theorem dX3_copy_95 : decode cX3_copy 95 = .ok (.iload 5, 2) := by decide +kernel
theorem dX3_copy_97 : decode cX3_copy 97 = .ok (.invokevirtual 211, 3) := by decide +kernel
theorem dX3_copy_100 : decode cX3_copy 100 = .ok (.ifCond .ne 10, 3) := by decide +kernel
theorem dX3_copy_103 : decode cX3_copy 103 = .ok (.aload_n 0, 1) := by decide +kernel
theorem dX3_copy_104 : decode cX3_copy 104 = .ok (.ldc 48, 2) := by decide +kernel
theorem dX3_copy_106 : decode cX3_copy 106 = .ok (.invokevirtual 49, 3) := by decide +kernel
theorem dX3_copy_109 : decode cX3_copy 109 = .ok (.ireturn, 1) := by decide +kernel
theorem dX3_copy_110 : decode cX3_copy 110 = .ok (.aload 6, 2) := by decide +kernel
theorem dX3_copy_112 : decode cX3_copy 112 = .ok (.getfield 214, 3) := by decide +kernel
theorem dX3_copy_115 : decode cX3_copy 115 = .ok (.iload_n 2, 1) := by decide +kernel
theorem dX3_copy_116 : decode cX3_copy 116 = .ok (.aload 7, 2) := by decide +kernel
theorem dX3_copy_118 : decode cX3_copy 118 = .ok (.getfield 214, 3) := by decide +kernel
theorem dX3_copy_121 : decode cX3_copy 121 = .ok (.iload 4, 2) := by decide +kernel
theorem dX3_copy_123 : decode cX3_copy 123 = .ok (.iload 5, 2) := by decide +kernel
theorem dX3_copy_125 : decode cX3_copy 125 = .ok (.invokestatic 218, 3) := by decide +kernel
theorem dX3_copy_128 : decode cX3_copy 128 = .ok (.iload 5, 2) := by decide +kernel
theorem dX3_copy_130 : decode cX3_copy 130 = .ok (.ireturn, 1) := by decide +kernel
theorem dX3_lays_0 : decode cX3_lays 0 = .ok (.iload_n 1, 1) := by decide +kernel
theorem dX3_lays_1 : decode cX3_lays 1 = .ok (.invokestatic 189, 3) := by decide +kernel
theorem dX3_lays_4 : decode cX3_lays 4 = .ok (.ifCond .eq 10, 3) := by decide +kernel
theorem dX3_lays_7 : decode cX3_lays 7 = .ok (.aload_n 0, 1) := by decide +kernel
theorem dX3_lays_8 : decode cX3_lays 8 = .ok (.ldc 48, 2) := by decide +kernel
theorem dX3_lays_10 : decode cX3_lays 10 = .ok (.invokevirtual 49, 3) := by decide +kernel
theorem dX3_lays_13 : decode cX3_lays 13 = .ok (.ireturn, 1) := by decide +kernel
theorem dX3_lays_14 : decode cX3_lays 14 = .ok (.aload_n 0, 1) := by decide +kernel
theorem dX3_lays_15 : decode cX3_lays 15 = .ok (.getfield 31, 3) := by decide +kernel
theorem dX3_lays_18 : decode cX3_lays 18 = .ok (.iload_n 1, 1) := by decide +kernel
theorem dX3_lays_19 : decode cX3_lays 19 = .ok (.aaload, 1) := by decide +kernel
theorem dX3_lays_20 : decode cX3_lays 20 = .ok (.astore_n 2, 1) := by decide +kernel
theorem dX3_lays_21 : decode cX3_lays 21 = .ok (.aload_n 2, 1) := by decide +kernel
theorem dX3_lays_22 : decode cX3_lays 22 = .ok (.invokevirtual 199, 3) := by decide +kernel
theorem dX3_lays_25 : decode cX3_lays 25 = .ok (.ifCond .eq 10, 3) := by decide +kernel
theorem dX3_lays_28 : decode cX3_lays 28 = .ok (.aload_n 0, 1) := by decide +kernel
theorem dX3_lays_29 : decode cX3_lays 29 = .ok (.ldc 203, 2) := by decide +kernel
theorem dX3_lays_31 : decode cX3_lays 31 = .ok (.invokevirtual 49, 3) := by decide +kernel
theorem dX3_lays_34 : decode cX3_lays 34 = .ok (.ireturn, 1) := by decide +kernel
theorem dX3_lays_35 : decode cX3_lays 35 = .ok (.iconst 0, 1) := by decide +kernel
theorem dX3_lays_36 : decode cX3_lays 36 = .ok (.istore_n 3, 1) := by decide +kernel
theorem dX3_lays_37 : decode cX3_lays 37 = .ok (.iconst 0, 1) := by decide +kernel
theorem dX3_lays_38 : decode cX3_lays 38 = .ok (.istore 4, 2) := by decide +kernel
theorem dX3_lays_40 : decode cX3_lays 40 = .ok (.iload 4, 2) := by decide +kernel
theorem dX3_lays_42 : decode cX3_lays 42 = .ok (.aload_n 2, 1) := by decide +kernel
theorem dX3_lays_43 : decode cX3_lays 43 = .ok (.getfield 196, 3) := by decide +kernel
theorem dX3_lays_46 : decode cX3_lays 46 = .ok (.if_icmp .ge 51, 3) := by decide +kernel
theorem dX3_lays_49 : decode cX3_lays 49 = .ok (.aload_n 2, 1) := by decide +kernel
theorem dX3_lays_50 : decode cX3_lays 50 = .ok (.getfield 214, 3) := by decide +kernel
theorem dX3_lays_53 : decode cX3_lays 53 = .ok (.iload 4, 2) := by decide +kernel
theorem dX3_lays_55 : decode cX3_lays 55 = .ok (.laload, 1) := by decide +kernel
theorem dX3_lays_56 : decode cX3_lays 56 = .ok (.lstore 5, 2) := by decide +kernel
theorem dX3_lays_58 : decode cX3_lays 58 = .ok (.lload 5, 2) := by decide +kernel
theorem dX3_lays_60 : decode cX3_lays 60 = .ok (.lconst 0, 1) := by decide +kernel
theorem dX3_lays_61 : decode cX3_lays 61 = .ok (.lcmp, 1) := by decide +kernel
theorem dX3_lays_62 : decode cX3_lays 62 = .ok (.ifCond .lt 29, 3) := by decide +kernel
theorem dX3_lays_65 : decode cX3_lays 65 = .ok (.lload 5, 2) := by decide +kernel
theorem dX3_lays_67 : decode cX3_lays 67 = .ok (.ldc2_w 224, 3) := by decide +kernel
theorem dX3_lays_70 : decode cX3_lays 70 = .ok (.lcmp, 1) := by decide +kernel
theorem dX3_lays_71 : decode cX3_lays 71 = .ok (.ifCond .ge 20, 3) := by decide +kernel
theorem dX3_lays_74 : decode cX3_lays 74 = .ok (.aload_n 0, 1) := by decide +kernel
theorem dX3_lays_75 : decode cX3_lays 75 = .ok (.getfield 10, 3) := by decide +kernel
theorem dX3_lays_78 : decode cX3_lays 78 = .ok (.iconst 1, 1) := by decide +kernel
theorem dX3_lays_79 : decode cX3_lays 79 = .ok (.iload 4, 2) := by decide +kernel
theorem dX3_lays_81 : decode cX3_lays 81 = .ok (.lload 5, 2) := by decide +kernel
theorem dX3_lays_83 : decode cX3_lays 83 = .ok (.l2i, 1) := by decide +kernel
theorem dX3_lays_84 : decode cX3_lays 84 = .ok (.invokevirtual 53, 3) := by decide +kernel
theorem dX3_lays_87 : decode cX3_lays 87 = .ok (.pop, 1) := by decide +kernel
theorem dX3_lays_88 : decode cX3_lays 88 = .ok (.iinc 3 1, 3) := by decide +kernel
theorem dX3_lays_91 : decode cX3_lays 91 = .ok (.iinc 4 1, 3) := by decide +kernel
theorem dX3_lays_94 : decode cX3_lays 94 = .ok (.goto (-54), 3) := by decide +kernel
theorem dX3_lays_97 : decode cX3_lays 97 = .ok (.iload_n 3, 1) := by decide +kernel
theorem dX3_lays_98 : decode cX3_lays 98 = .ok (.ireturn, 1) := by decide +kernel
theorem dX3_book_0 : decode cX3_book 0 = .ok (.iload_n 1, 1) := by decide +kernel
theorem dX3_book_1 : decode cX3_book 1 = .ok (.invokestatic 189, 3) := by decide +kernel
theorem dX3_book_4 : decode cX3_book 4 = .ok (.ifCond .eq 10, 3) := by decide +kernel
theorem dX3_book_7 : decode cX3_book 7 = .ok (.aload_n 0, 1) := by decide +kernel
theorem dX3_book_8 : decode cX3_book 8 = .ok (.ldc 48, 2) := by decide +kernel
theorem dX3_book_10 : decode cX3_book 10 = .ok (.invokevirtual 49, 3) := by decide +kernel
theorem dX3_book_13 : decode cX3_book 13 = .ok (.ireturn, 1) := by decide +kernel
theorem dX3_book_14 : decode cX3_book 14 = .ok (.aload_n 0, 1) := by decide +kernel
theorem dX3_book_15 : decode cX3_book 15 = .ok (.getfield 31, 3) := by decide +kernel
theorem dX3_book_18 : decode cX3_book 18 = .ok (.iload_n 1, 1) := by decide +kernel
theorem dX3_book_19 : decode cX3_book 19 = .ok (.aaload, 1) := by decide +kernel
theorem dX3_book_20 : decode cX3_book 20 = .ok (.astore_n 2, 1) := by decide +kernel
theorem dX3_book_21 : decode cX3_book 21 = .ok (.aload_n 2, 1) := by decide +kernel
theorem dX3_book_22 : decode cX3_book 22 = .ok (.invokevirtual 199, 3) := by decide +kernel
theorem dX3_book_25 : decode cX3_book 25 = .ok (.ifCond .eq 10, 3) := by decide +kernel
theorem dX3_book_28 : decode cX3_book 28 = .ok (.aload_n 0, 1) := by decide +kernel
theorem dX3_book_29 : decode cX3_book 29 = .ok (.ldc 203, 2) := by decide +kernel
theorem dX3_book_31 : decode cX3_book 31 = .ok (.invokevirtual 49, 3) := by decide +kernel
theorem dX3_book_34 : decode cX3_book 34 = .ok (.ireturn, 1) := by decide +kernel
theorem dX3_book_35 : decode cX3_book 35 = .ok (.aload_n 0, 1) := by decide +kernel
theorem dX3_book_36 : decode cX3_book 36 = .ok (.getfield 16, 3) := by decide +kernel
theorem dX3_book_39 : decode cX3_book 39 = .ok (.aload_n 0, 1) := by decide +kernel
theorem dX3_book_40 : decode cX3_book 40 = .ok (.getfield 10, 3) := by decide +kernel
theorem dX3_book_43 : decode cX3_book 43 = .ok (.invokevirtual 150, 3) := by decide +kernel
theorem dX3_book_46 : decode cX3_book 46 = .ok (.iconst 0, 1) := by decide +kernel
theorem dX3_book_47 : decode cX3_book 47 = .ok (.istore_n 3, 1) := by decide +kernel
theorem dX3_book_48 : decode cX3_book 48 = .ok (.iload_n 3, 1) := by decide +kernel
theorem dX3_book_49 : decode cX3_book 49 = .ok (.aload_n 2, 1) := by decide +kernel
theorem dX3_book_50 : decode cX3_book 50 = .ok (.getfield 196, 3) := by decide +kernel
theorem dX3_book_53 : decode cX3_book 53 = .ok (.if_icmp .ge 33, 3) := by decide +kernel
theorem dX3_book_56 : decode cX3_book 56 = .ok (.aload_n 2, 1) := by decide +kernel
theorem dX3_book_57 : decode cX3_book 57 = .ok (.iload_n 3, 1) := by decide +kernel
theorem dX3_book_58 : decode cX3_book 58 = .ok (.aload_n 0, 1) := by decide +kernel
theorem dX3_book_59 : decode cX3_book 59 = .ok (.getfield 16, 3) := by decide +kernel
theorem dX3_book_62 : decode cX3_book 62 = .ok (.invokevirtual 136, 3) := by decide +kernel
theorem dX3_book_65 : decode cX3_book 65 = .ok (.i2l, 1) := by decide +kernel
theorem dX3_book_66 : decode cX3_book 66 = .ok (.invokevirtual 204, 3) := by decide +kernel
theorem dX3_book_69 : decode cX3_book 69 = .ok (.pop2, 1) := by decide +kernel
theorem dX3_book_70 : decode cX3_book 70 = .ok (.aload_n 0, 1) := by decide +kernel
theorem dX3_book_71 : decode cX3_book 71 = .ok (.getfield 16, 3) := by decide +kernel
theorem dX3_book_74 : decode cX3_book 74 = .ok (.iconst 1, 1) := by decide +kernel
theorem dX3_book_75 : decode cX3_book 75 = .ok (.iconst (-1), 1) := by decide +kernel
theorem dX3_book_76 : decode cX3_book 76 = .ok (.invokevirtual 143, 3) := by decide +kernel
theorem dX3_book_79 : decode cX3_book 79 = .ok (.pop, 1) := by decide +kernel
theorem dX3_book_80 : decode cX3_book 80 = .ok (.iinc 3 1, 3) := by decide +kernel
theorem dX3_book_83 : decode cX3_book 83 = .ok (.goto (-35), 3) := by decide +kernel
theorem dX3_book_86 : decode cX3_book 86 = .ok (.aload_n 2, 1) := by decide +kernel
theorem dX3_book_87 : decode cX3_book 87 = .ok (.getfield 196, 3) := by decide +kernel
theorem dX3_book_90 : decode cX3_book 90 = .ok (.ireturn, 1) := by decide +kernel
theorem dX3_read_0 : decode cX3_read 0 = .ok (.iload_n 1, 1) := by decide +kernel
theorem dX3_read_1 : decode cX3_read 1 = .ok (.invokestatic 189, 3) := by decide +kernel
theorem dX3_read_4 : decode cX3_read 4 = .ok (.ifCond .eq 10, 3) := by decide +kernel
theorem dX3_read_7 : decode cX3_read 7 = .ok (.aload_n 0, 1) := by decide +kernel
theorem dX3_read_8 : decode cX3_read 8 = .ok (.ldc 48, 2) := by decide +kernel
theorem dX3_read_10 : decode cX3_read 10 = .ok (.invokevirtual 49, 3) := by decide +kernel
theorem dX3_read_13 : decode cX3_read 13 = .ok (.ireturn, 1) := by decide +kernel
theorem dX3_read_14 : decode cX3_read 14 = .ok (.aload_n 0, 1) := by decide +kernel
theorem dX3_read_15 : decode cX3_read 15 = .ok (.getfield 31, 3) := by decide +kernel
theorem dX3_read_18 : decode cX3_read 18 = .ok (.iload_n 1, 1) := by decide +kernel
theorem dX3_read_19 : decode cX3_read 19 = .ok (.aaload, 1) := by decide +kernel
theorem dX3_read_20 : decode cX3_read 20 = .ok (.invokevirtual 199, 3) := by decide +kernel
theorem dX3_read_23 : decode cX3_read 23 = .ok (.ifCond .eq 10, 3) := by decide +kernel
theorem dX3_read_26 : decode cX3_read 26 = .ok (.aload_n 0, 1) := by decide +kernel
theorem dX3_read_27 : decode cX3_read 27 = .ok (.ldc 203, 2) := by decide +kernel
theorem dX3_read_29 : decode cX3_read 29 = .ok (.invokevirtual 49, 3) := by decide +kernel
theorem dX3_read_32 : decode cX3_read 32 = .ok (.ireturn, 1) := by decide +kernel
theorem dX3_read_33 : decode cX3_read 33 = .ok (.aload_n 0, 1) := by decide +kernel
theorem dX3_read_34 : decode cX3_read 34 = .ok (.iload_n 2, 1) := by decide +kernel
theorem dX3_read_35 : decode cX3_read 35 = .ok (.invokevirtual 101, 3) := by decide +kernel
theorem dX3_read_38 : decode cX3_read 38 = .ok (.ifCond .eq 10, 3) := by decide +kernel
theorem dX3_read_41 : decode cX3_read 41 = .ok (.aload_n 0, 1) := by decide +kernel
theorem dX3_read_42 : decode cX3_read 42 = .ok (.ldc 48, 2) := by decide +kernel
theorem dX3_read_44 : decode cX3_read 44 = .ok (.invokevirtual 49, 3) := by decide +kernel
theorem dX3_read_47 : decode cX3_read 47 = .ok (.ireturn, 1) := by decide +kernel
theorem dX3_read_48 : decode cX3_read 48 = .ok (.iconst 0, 1) := by decide +kernel
theorem dX3_read_49 : decode cX3_read 49 = .ok (.istore_n 3, 1) := by decide +kernel
theorem dX3_read_50 : decode cX3_read 50 = .ok (.iconst 0, 1) := by decide +kernel
theorem dX3_read_51 : decode cX3_read 51 = .ok (.istore 4, 2) := by decide +kernel
theorem dX3_read_53 : decode cX3_read 53 = .ok (.iload 4, 2) := by decide +kernel
theorem dX3_read_55 : decode cX3_read 55 = .ok (.bipush 6, 2) := by decide +kernel
theorem dX3_read_57 : decode cX3_read 57 = .ok (.if_icmp .ge 74, 3) := by decide +kernel
theorem dX3_read_60 : decode cX3_read 60 = .ok (.iconst 0, 1) := by decide +kernel
theorem dX3_read_61 : decode cX3_read 61 = .ok (.istore 5, 2) := by decide +kernel
theorem dX3_read_63 : decode cX3_read 63 = .ok (.iload 5, 2) := by decide +kernel
theorem dX3_read_65 : decode cX3_read 65 = .ok (.bipush 48, 2) := by decide +kernel
theorem dX3_read_67 : decode cX3_read 67 = .ok (.if_icmp .ge 58, 3) := by decide +kernel
theorem dX3_read_70 : decode cX3_read 70 = .ok (.aload_n 0, 1) := by decide +kernel
theorem dX3_read_71 : decode cX3_read 71 = .ok (.getfield 16, 3) := by decide +kernel
theorem dX3_read_74 : decode cX3_read 74 = .ok (.aload_n 0, 1) := by decide +kernel
theorem dX3_read_75 : decode cX3_read 75 = .ok (.getfield 10, 3) := by decide +kernel
theorem dX3_read_78 : decode cX3_read 78 = .ok (.invokevirtual 150, 3) := by decide +kernel
theorem dX3_read_81 : decode cX3_read 81 = .ok (.aload_n 0, 1) := by decide +kernel
theorem dX3_read_82 : decode cX3_read 82 = .ok (.getfield 16, 3) := by decide +kernel
theorem dX3_read_85 : decode cX3_read 85 = .ok (.getfield 104, 3) := by decide +kernel
theorem dX3_read_88 : decode cX3_read 88 = .ok (.iload_n 2, 1) := by decide +kernel
theorem dX3_read_89 : decode cX3_read 89 = .ok (.iload 4, 2) := by decide +kernel
theorem dX3_read_91 : decode cX3_read 91 = .ok (.iastore, 1) := by decide +kernel
theorem dX3_read_92 : decode cX3_read 92 = .ok (.aload_n 0, 1) := by decide +kernel
theorem dX3_read_93 : decode cX3_read 93 = .ok (.getfield 16, 3) := by decide +kernel
theorem dX3_read_96 : decode cX3_read 96 = .ok (.getfield 107, 3) := by decide +kernel
theorem dX3_read_99 : decode cX3_read 99 = .ok (.iload_n 2, 1) := by decide +kernel
theorem dX3_read_100 : decode cX3_read 100 = .ok (.iload 5, 2) := by decide +kernel
theorem dX3_read_102 : decode cX3_read 102 = .ok (.iastore, 1) := by decide +kernel
theorem dX3_read_103 : decode cX3_read 103 = .ok (.aload_n 0, 1) := by decide +kernel
theorem dX3_read_104 : decode cX3_read 104 = .ok (.aload_n 0, 1) := by decide +kernel
theorem dX3_read_105 : decode cX3_read 105 = .ok (.getfield 31, 3) := by decide +kernel
theorem dX3_read_108 : decode cX3_read 108 = .ok (.iload_n 1, 1) := by decide +kernel
theorem dX3_read_109 : decode cX3_read 109 = .ok (.aaload, 1) := by decide +kernel
theorem dX3_read_110 : decode cX3_read 110 = .ok (.invokevirtual 226, 3) := by decide +kernel
theorem dX3_read_113 : decode cX3_read 113 = .ok (.ifCond .eq 6, 3) := by decide +kernel
theorem dX3_read_116 : decode cX3_read 116 = .ok (.iinc 3 1, 3) := by decide +kernel
theorem dX3_read_119 : decode cX3_read 119 = .ok (.iinc 5 1, 3) := by decide +kernel
theorem dX3_read_122 : decode cX3_read 122 = .ok (.goto (-59), 3) := by decide +kernel
theorem dX3_read_125 : decode cX3_read 125 = .ok (.iinc 4 1, 3) := by decide +kernel
theorem dX3_read_128 : decode cX3_read 128 = .ok (.goto (-75), 3) := by decide +kernel
theorem dX3_read_131 : decode cX3_read 131 = .ok (.iload_n 3, 1) := by decide +kernel
theorem dX3_read_132 : decode cX3_read 132 = .ok (.ireturn, 1) := by decide +kernel
theorem dX3_image_0 : decode cX3_image 0 = .ok (.aload_n 0, 1) := by decide +kernel
theorem dX3_image_1 : decode cX3_image 1 = .ok (.getfield 19, 3) := by decide +kernel
theorem dX3_image_4 : decode cX3_image 4 = .ok (.aload_n 0, 1) := by decide +kernel
theorem dX3_image_5 : decode cX3_image 5 = .ok (.getfield 10, 3) := by decide +kernel
theorem dX3_image_8 : decode cX3_image 8 = .ok (.invokevirtual 150, 3) := by decide +kernel
theorem dX3_image_11 : decode cX3_image 11 = .ok (.aload_n 0, 1) := by decide +kernel
theorem dX3_image_12 : decode cX3_image 12 = .ok (.iconst 1, 1) := by decide +kernel
theorem dX3_image_13 : decode cX3_image 13 = .ok (.putfield 230, 3) := by decide +kernel
theorem dX3_image_16 : decode cX3_image 16 = .ok (.iconst 1, 1) := by decide +kernel
theorem dX3_image_17 : decode cX3_image 17 = .ok (.ireturn, 1) := by decide +kernel
theorem dX3_undo_0 : decode cX3_undo 0 = .ok (.aload_n 0, 1) := by decide +kernel
theorem dX3_undo_1 : decode cX3_undo 1 = .ok (.getfield 230, 3) := by decide +kernel
theorem dX3_undo_4 : decode cX3_undo 4 = .ok (.ifCond .ne 10, 3) := by decide +kernel
theorem dX3_undo_7 : decode cX3_undo 7 = .ok (.aload_n 0, 1) := by decide +kernel
theorem dX3_undo_8 : decode cX3_undo 8 = .ok (.ldc 159, 2) := by decide +kernel
theorem dX3_undo_10 : decode cX3_undo 10 = .ok (.invokevirtual 49, 3) := by decide +kernel
theorem dX3_undo_13 : decode cX3_undo 13 = .ok (.ireturn, 1) := by decide +kernel
theorem dX3_undo_14 : decode cX3_undo 14 = .ok (.aload_n 0, 1) := by decide +kernel
theorem dX3_undo_15 : decode cX3_undo 15 = .ok (.getfield 10, 3) := by decide +kernel
theorem dX3_undo_18 : decode cX3_undo 18 = .ok (.aload_n 0, 1) := by decide +kernel
theorem dX3_undo_19 : decode cX3_undo 19 = .ok (.getfield 19, 3) := by decide +kernel
theorem dX3_undo_22 : decode cX3_undo 22 = .ok (.invokevirtual 150, 3) := by decide +kernel
theorem dX3_undo_25 : decode cX3_undo 25 = .ok (.aload_n 0, 1) := by decide +kernel
theorem dX3_undo_26 : decode cX3_undo 26 = .ok (.getfield 10, 3) := by decide +kernel
theorem dX3_undo_29 : decode cX3_undo 29 = .ok (.getfield 94, 3) := by decide +kernel
theorem dX3_undo_32 : decode cX3_undo 32 = .ok (.ireturn, 1) := by decide +kernel
theorem dX3_tear_0 : decode cX3_tear 0 = .ok (.aload_n 0, 1) := by decide +kernel
theorem dX3_tear_1 : decode cX3_tear 1 = .ok (.getfield 230, 3) := by decide +kernel
theorem dX3_tear_4 : decode cX3_tear 4 = .ok (.ifCond .eq 7, 3) := by decide +kernel
theorem dX3_tear_7 : decode cX3_tear 7 = .ok (.iconst 1, 1) := by decide +kernel
theorem dX3_tear_8 : decode cX3_tear 8 = .ok (.goto 4, 3) := by decide +kernel
theorem dX3_tear_11 : decode cX3_tear 11 = .ok (.iconst 0, 1) := by decide +kernel
theorem dX3_tear_12 : decode cX3_tear 12 = .ok (.istore_n 1, 1) := by decide +kernel
theorem dX3_tear_13 : decode cX3_tear 13 = .ok (.aload_n 0, 1) := by decide +kernel
theorem dX3_tear_14 : decode cX3_tear 14 = .ok (.iconst 0, 1) := by decide +kernel
theorem dX3_tear_15 : decode cX3_tear 15 = .ok (.putfield 230, 3) := by decide +kernel
theorem dX3_tear_18 : decode cX3_tear 18 = .ok (.iload_n 1, 1) := by decide +kernel
theorem dX3_tear_19 : decode cX3_tear 19 = .ok (.ireturn, 1) := by decide +kernel
theorem dX3_count_0 : decode cX3_count 0 = .ok (.iload_n 1, 1) := by decide +kernel
theorem dX3_count_1 : decode cX3_count 1 = .ok (.iconst 0, 1) := by decide +kernel
theorem dX3_count_2 : decode cX3_count 2 = .ok (.iconst 3, 1) := by decide +kernel
theorem dX3_count_3 : decode cX3_count 3 = .ok (.invokestatic 44, 3) := by decide +kernel
theorem dX3_count_6 : decode cX3_count 6 = .ok (.ifCond .eq 10, 3) := by decide +kernel
theorem dX3_count_9 : decode cX3_count 9 = .ok (.aload_n 0, 1) := by decide +kernel
theorem dX3_count_10 : decode cX3_count 10 = .ok (.ldc 48, 2) := by decide +kernel
theorem dX3_count_12 : decode cX3_count 12 = .ok (.invokevirtual 49, 3) := by decide +kernel
theorem dX3_count_15 : decode cX3_count 15 = .ok (.ireturn, 1) := by decide +kernel
theorem dX3_count_16 : decode cX3_count 16 = .ok (.iload_n 1, 1) := by decide +kernel
theorem dX3_count_17 : decode cX3_count 17 = .ok (.tableswitch 54 0 2 #[27, 35, 43], 27) := by decide +kernel
theorem dX3_count_44 : decode cX3_count 44 = .ok (.aload_n 0, 1) := by decide +kernel
theorem dX3_count_45 : decode cX3_count 45 = .ok (.getfield 10, 3) := by decide +kernel
theorem dX3_count_48 : decode cX3_count 48 = .ok (.getfield 94, 3) := by decide +kernel
theorem dX3_count_51 : decode cX3_count 51 = .ok (.ireturn, 1) := by decide +kernel
theorem dX3_count_52 : decode cX3_count 52 = .ok (.aload_n 0, 1) := by decide +kernel
theorem dX3_count_53 : decode cX3_count 53 = .ok (.getfield 25, 3) := by decide +kernel
theorem dX3_count_56 : decode cX3_count 56 = .ok (.getfield 179, 3) := by decide +kernel
theorem dX3_count_59 : decode cX3_count 59 = .ok (.ireturn, 1) := by decide +kernel
theorem dX3_count_60 : decode cX3_count 60 = .ok (.aload_n 0, 1) := by decide +kernel
theorem dX3_count_61 : decode cX3_count 61 = .ok (.getfield 10, 3) := by decide +kernel
theorem dX3_count_64 : decode cX3_count 64 = .ok (.getfield 57, 3) := by decide +kernel
theorem dX3_count_67 : decode cX3_count 67 = .ok (.invokestatic 234, 3) := by decide +kernel
theorem dX3_count_70 : decode cX3_count 70 = .ok (.ireturn, 1) := by decide +kernel
theorem dX3_count_71 : decode cX3_count 71 = .ok (.aload_n 0, 1) := by decide +kernel
theorem dX3_count_72 : decode cX3_count 72 = .ok (.getfield 10, 3) := by decide +kernel
theorem dX3_count_75 : decode cX3_count 75 = .ok (.getfield 60, 3) := by decide +kernel
theorem dX3_count_78 : decode cX3_count 78 = .ok (.invokestatic 234, 3) := by decide +kernel
theorem dX3_count_81 : decode cX3_count 81 = .ok (.ireturn, 1) := by decide +kernel
theorem dX3_status_0 : decode cX3_status 0 = .ok (.iload_n 1, 1) := by decide +kernel
theorem dX3_status_1 : decode cX3_status 1 = .ok (.iconst (-1), 1) := by decide +kernel
theorem dX3_status_2 : decode cX3_status 2 = .ok (.bipush 6, 2) := by decide +kernel
theorem dX3_status_4 : decode cX3_status 4 = .ok (.invokestatic 44, 3) := by decide +kernel
theorem dX3_status_7 : decode cX3_status 7 = .ok (.ifCond .eq 10, 3) := by decide +kernel
theorem dX3_status_10 : decode cX3_status 10 = .ok (.aload_n 0, 1) := by decide +kernel
theorem dX3_status_11 : decode cX3_status 11 = .ok (.ldc 48, 2) := by decide +kernel
theorem dX3_status_13 : decode cX3_status 13 = .ok (.invokevirtual 49, 3) := by decide +kernel
theorem dX3_status_16 : decode cX3_status 16 = .ok (.ireturn, 1) := by decide +kernel
theorem dX3_status_17 : decode cX3_status 17 = .ok (.iload_n 1, 1) := by decide +kernel
theorem dX3_status_18 : decode cX3_status 18 = .ok (.ifCond .lt 10, 3) := by decide +kernel
theorem dX3_status_21 : decode cX3_status 21 = .ok (.aload_n 0, 1) := by decide +kernel
theorem dX3_status_22 : decode cX3_status 22 = .ok (.getfield 35, 3) := by decide +kernel
theorem dX3_status_25 : decode cX3_status 25 = .ok (.iload_n 1, 1) := by decide +kernel
theorem dX3_status_26 : decode cX3_status 26 = .ok (.iaload, 1) := by decide +kernel
theorem dX3_status_27 : decode cX3_status 27 = .ok (.ireturn, 1) := by decide +kernel
theorem dX3_status_28 : decode cX3_status 28 = .ok (.iconst 0, 1) := by decide +kernel
theorem dX3_status_29 : decode cX3_status 29 = .ok (.istore_n 2, 1) := by decide +kernel
theorem dX3_status_30 : decode cX3_status 30 = .ok (.iconst 0, 1) := by decide +kernel
theorem dX3_status_31 : decode cX3_status 31 = .ok (.istore_n 3, 1) := by decide +kernel
theorem dX3_status_32 : decode cX3_status 32 = .ok (.iload_n 3, 1) := by decide +kernel
theorem dX3_status_33 : decode cX3_status 33 = .ok (.bipush 7, 2) := by decide +kernel
theorem dX3_status_35 : decode cX3_status 35 = .ok (.if_icmp .ge 18, 3) := by decide +kernel
theorem dX3_status_38 : decode cX3_status 38 = .ok (.iload_n 2, 1) := by decide +kernel
theorem dX3_status_39 : decode cX3_status 39 = .ok (.aload_n 0, 1) := by decide +kernel
theorem dX3_status_40 : decode cX3_status 40 = .ok (.getfield 35, 3) := by decide +kernel
theorem dX3_status_43 : decode cX3_status 43 = .ok (.iload_n 3, 1) := by decide +kernel
theorem dX3_status_44 : decode cX3_status 44 = .ok (.iaload, 1) := by decide +kernel
theorem dX3_status_45 : decode cX3_status 45 = .ok (.iadd, 1) := by decide +kernel
theorem dX3_status_46 : decode cX3_status 46 = .ok (.istore_n 2, 1) := by decide +kernel
theorem dX3_status_47 : decode cX3_status 47 = .ok (.iinc 3 1, 3) := by decide +kernel
theorem dX3_status_50 : decode cX3_status 50 = .ok (.goto (-18), 3) := by decide +kernel
theorem dX3_status_53 : decode cX3_status 53 = .ok (.iload_n 2, 1) := by decide +kernel
theorem dX3_status_54 : decode cX3_status 54 = .ok (.ireturn, 1) := by decide +kernel
theorem dX3_finding_0 : decode cX3_finding 0 = .ok (.aload_n 0, 1) := by decide +kernel
theorem dX3_finding_1 : decode cX3_finding 1 = .ok (.getfield 35, 3) := by decide +kernel
theorem dX3_finding_4 : decode cX3_finding 4 = .ok (.ldc 48, 2) := by decide +kernel
theorem dX3_finding_6 : decode cX3_finding 6 = .ok (.iload_n 1, 1) := by decide +kernel
theorem dX3_finding_7 : decode cX3_finding 7 = .ok (.isub, 1) := by decide +kernel
theorem dX3_finding_8 : decode cX3_finding 8 = .ok (.dup2, 1) := by decide +kernel
theorem dX3_finding_9 : decode cX3_finding 9 = .ok (.iaload, 1) := by decide +kernel
theorem dX3_finding_10 : decode cX3_finding 10 = .ok (.iconst 1, 1) := by decide +kernel
theorem dX3_finding_11 : decode cX3_finding 11 = .ok (.iadd, 1) := by decide +kernel
theorem dX3_finding_12 : decode cX3_finding 12 = .ok (.iastore, 1) := by decide +kernel
theorem dX3_finding_13 : decode cX3_finding 13 = .ok (.iload_n 1, 1) := by decide +kernel
theorem dX3_finding_14 : decode cX3_finding 14 = .ok (.ireturn, 1) := by decide +kernel
theorem dX3_noMender_0 : decode cX3_noMender 0 = .ok (.iload_n 1, 1) := by decide +kernel
theorem dX3_noMender_1 : decode cX3_noMender 1 = .ok (.iconst 0, 1) := by decide +kernel
theorem dX3_noMender_2 : decode cX3_noMender 2 = .ok (.aload_n 0, 1) := by decide +kernel
theorem dX3_noMender_3 : decode cX3_noMender 3 = .ok (.getfield 10, 3) := by decide +kernel
theorem dX3_noMender_6 : decode cX3_noMender 6 = .ok (.getfield 94, 3) := by decide +kernel
theorem dX3_noMender_9 : decode cX3_noMender 9 = .ok (.iconst 1, 1) := by decide +kernel
theorem dX3_noMender_10 : decode cX3_noMender 10 = .ok (.isub, 1) := by decide +kernel
theorem dX3_noMender_11 : decode cX3_noMender 11 = .ok (.invokestatic 44, 3) := by decide +kernel
theorem dX3_noMender_14 : decode cX3_noMender 14 = .ok (.ireturn, 1) := by decide +kernel
theorem dX3_noCell_0 : decode cX3_noCell 0 = .ok (.iload_n 0, 1) := by decide +kernel
theorem dX3_noCell_1 : decode cX3_noCell 1 = .ok (.iconst 0, 1) := by decide +kernel
theorem dX3_noCell_2 : decode cX3_noCell 2 = .ok (.bipush 47, 2) := by decide +kernel
theorem dX3_noCell_4 : decode cX3_noCell 4 = .ok (.invokestatic 44, 3) := by decide +kernel
theorem dX3_noCell_7 : decode cX3_noCell 7 = .ok (.ireturn, 1) := by decide +kernel
theorem dX3_noKind_0 : decode cX3_noKind 0 = .ok (.iload_n 0, 1) := by decide +kernel
theorem dX3_noKind_1 : decode cX3_noKind 1 = .ok (.iconst 0, 1) := by decide +kernel
theorem dX3_noKind_2 : decode cX3_noKind 2 = .ok (.iconst 5, 1) := by decide +kernel
theorem dX3_noKind_3 : decode cX3_noKind 3 = .ok (.invokestatic 44, 3) := by decide +kernel
theorem dX3_noKind_6 : decode cX3_noKind 6 = .ok (.ireturn, 1) := by decide +kernel
theorem dX3_noSheet_0 : decode cX3_noSheet 0 = .ok (.iload_n 0, 1) := by decide +kernel
theorem dX3_noSheet_1 : decode cX3_noSheet 1 = .ok (.iconst 0, 1) := by decide +kernel
theorem dX3_noSheet_2 : decode cX3_noSheet 2 = .ok (.iconst 3, 1) := by decide +kernel
theorem dX3_noSheet_3 : decode cX3_noSheet 3 = .ok (.invokestatic 44, 3) := by decide +kernel
theorem dX3_noSheet_6 : decode cX3_noSheet 6 = .ok (.ireturn, 1) := by decide +kernel
theorem dX3_outside_0 : decode cX3_outside 0 = .ok (.iload_n 0, 1) := by decide +kernel
theorem dX3_outside_1 : decode cX3_outside 1 = .ok (.iload_n 1, 1) := by decide +kernel
theorem dX3_outside_2 : decode cX3_outside 2 = .ok (.if_icmp .lt 8, 3) := by decide +kernel
theorem dX3_outside_5 : decode cX3_outside 5 = .ok (.iload_n 0, 1) := by decide +kernel
theorem dX3_outside_6 : decode cX3_outside 6 = .ok (.iload_n 2, 1) := by decide +kernel
theorem dX3_outside_7 : decode cX3_outside 7 = .ok (.if_icmp .le 7, 3) := by decide +kernel
theorem dX3_outside_10 : decode cX3_outside 10 = .ok (.iconst 1, 1) := by decide +kernel
theorem dX3_outside_11 : decode cX3_outside 11 = .ok (.goto 4, 3) := by decide +kernel
theorem dX3_outside_14 : decode cX3_outside 14 = .ok (.iconst 0, 1) := by decide +kernel
theorem dX3_outside_15 : decode cX3_outside 15 = .ok (.ireturn, 1) := by decide +kernel
theorem dX3_isUnder_0 : decode cX3_isUnder 0 = .ok (.iload_n 0, 1) := by decide +kernel
theorem dX3_isUnder_1 : decode cX3_isUnder 1 = .ok (.iload_n 1, 1) := by decide +kernel
theorem dX3_isUnder_2 : decode cX3_isUnder 2 = .ok (.if_icmp .eq 7, 3) := by decide +kernel
theorem dX3_isUnder_5 : decode cX3_isUnder 5 = .ok (.iload_n 1, 1) := by decide +kernel
theorem dX3_isUnder_6 : decode cX3_isUnder 6 = .ok (.ifCond .ne 5, 3) := by decide +kernel
theorem dX3_isUnder_9 : decode cX3_isUnder 9 = .ok (.iconst 1, 1) := by decide +kernel
theorem dX3_isUnder_10 : decode cX3_isUnder 10 = .ok (.ireturn, 1) := by decide +kernel
theorem dX3_isUnder_11 : decode cX3_isUnder 11 = .ok (.iload_n 0, 1) := by decide +kernel
theorem dX3_isUnder_12 : decode cX3_isUnder 12 = .ok (.iconst 4, 1) := by decide +kernel
theorem dX3_isUnder_13 : decode cX3_isUnder 13 = .ok (.if_icmp .ne 8, 3) := by decide +kernel
theorem dX3_isUnder_16 : decode cX3_isUnder 16 = .ok (.iload_n 1, 1) := by decide +kernel
theorem dX3_isUnder_17 : decode cX3_isUnder 17 = .ok (.iconst 1, 1) := by decide +kernel
theorem dX3_isUnder_18 : decode cX3_isUnder 18 = .ok (.if_icmp .eq 13, 3) := by decide +kernel
theorem dX3_isUnder_21 : decode cX3_isUnder 21 = .ok (.iload_n 0, 1) := by decide +kernel
theorem dX3_isUnder_22 : decode cX3_isUnder 22 = .ok (.iconst 5, 1) := by decide +kernel
theorem dX3_isUnder_23 : decode cX3_isUnder 23 = .ok (.if_icmp .ne 12, 3) := by decide +kernel
theorem dX3_isUnder_26 : decode cX3_isUnder 26 = .ok (.iload_n 1, 1) := by decide +kernel
theorem dX3_isUnder_27 : decode cX3_isUnder 27 = .ok (.iconst 2, 1) := by decide +kernel
theorem dX3_isUnder_28 : decode cX3_isUnder 28 = .ok (.if_icmp .ne 7, 3) := by decide +kernel
theorem dX3_isUnder_31 : decode cX3_isUnder 31 = .ok (.iconst 1, 1) := by decide +kernel
theorem dX3_isUnder_32 : decode cX3_isUnder 32 = .ok (.goto 4, 3) := by decide +kernel
theorem dX3_isUnder_35 : decode cX3_isUnder 35 = .ok (.iconst 0, 1) := by decide +kernel
theorem dX3_isUnder_36 : decode cX3_isUnder 36 = .ok (.ireturn, 1) := by decide +kernel
theorem dX3_notPlain_0 : decode cX3_notPlain 0 = .ok (.iconst 0, 1) := by decide +kernel
theorem dX3_notPlain_1 : decode cX3_notPlain 1 = .ok (.istore_n 1, 1) := by decide +kernel
theorem dX3_notPlain_2 : decode cX3_notPlain 2 = .ok (.iconst 0, 1) := by decide +kernel
theorem dX3_notPlain_3 : decode cX3_notPlain 3 = .ok (.istore_n 2, 1) := by decide +kernel
theorem dX3_notPlain_4 : decode cX3_notPlain 4 = .ok (.iload_n 2, 1) := by decide +kernel
theorem dX3_notPlain_5 : decode cX3_notPlain 5 = .ok (.bipush 48, 2) := by decide +kernel
theorem dX3_notPlain_7 : decode cX3_notPlain 7 = .ok (.if_icmp .ge 18, 3) := by decide +kernel
theorem dX3_notPlain_10 : decode cX3_notPlain 10 = .ok (.aload_n 0, 1) := by decide +kernel
theorem dX3_notPlain_11 : decode cX3_notPlain 11 = .ok (.iload_n 2, 1) := by decide +kernel
theorem dX3_notPlain_12 : decode cX3_notPlain 12 = .ok (.iaload, 1) := by decide +kernel
theorem dX3_notPlain_13 : decode cX3_notPlain 13 = .ok (.ifCond .eq 6, 3) := by decide +kernel
theorem dX3_notPlain_16 : decode cX3_notPlain 16 = .ok (.iinc 1 1, 3) := by decide +kernel
theorem dX3_notPlain_19 : decode cX3_notPlain 19 = .ok (.iinc 2 1, 3) := by decide +kernel
theorem dX3_notPlain_22 : decode cX3_notPlain 22 = .ok (.goto (-18), 3) := by decide +kernel
theorem dX3_notPlain_25 : decode cX3_notPlain 25 = .ok (.iload_n 1, 1) := by decide +kernel
theorem dX3_notPlain_26 : decode cX3_notPlain 26 = .ok (.ireturn, 1) := by decide +kernel
theorem dX3_firstYearWithout_0 : decode cX3_firstYearWithout 0 = .ok (.aload_n 0, 1) := by decide +kernel
theorem dX3_firstYearWithout_1 : decode cX3_firstYearWithout 1 = .ok (.getfield 16, 3) := by decide +kernel
theorem dX3_firstYearWithout_4 : decode cX3_firstYearWithout 4 = .ok (.aload_n 0, 1) := by decide +kernel
theorem dX3_firstYearWithout_5 : decode cX3_firstYearWithout 5 = .ok (.getfield 10, 3) := by decide +kernel
theorem dX3_firstYearWithout_8 : decode cX3_firstYearWithout 8 = .ok (.invokevirtual 150, 3) := by decide +kernel
theorem dX3_firstYearWithout_11 : decode cX3_firstYearWithout 11 = .ok (.iconst 0, 1) := by decide +kernel
theorem dX3_firstYearWithout_12 : decode cX3_firstYearWithout 12 = .ok (.istore_n 3, 1) := by decide +kernel
theorem dX3_firstYearWithout_13 : decode cX3_firstYearWithout 13 = .ok (.iload_n 3, 1) := by decide +kernel
theorem dX3_firstYearWithout_14 : decode cX3_firstYearWithout 14 = .ok (.bipush 60, 2) := by decide +kernel
theorem dX3_firstYearWithout_16 : decode cX3_firstYearWithout 16 = .ok (.if_icmp .ge 35, 3) := by decide +kernel
theorem dX3_firstYearWithout_19 : decode cX3_firstYearWithout 19 = .ok (.aload_n 0, 1) := by decide +kernel
theorem dX3_firstYearWithout_20 : decode cX3_firstYearWithout 20 = .ok (.getfield 16, 3) := by decide +kernel
theorem dX3_firstYearWithout_23 : decode cX3_firstYearWithout 23 = .ok (.getfield 66, 3) := by decide +kernel
theorem dX3_firstYearWithout_26 : decode cX3_firstYearWithout 26 = .ok (.lload_n 1, 1) := by decide +kernel
theorem dX3_firstYearWithout_27 : decode cX3_firstYearWithout 27 = .ok (.land, 1) := by decide +kernel
theorem dX3_firstYearWithout_28 : decode cX3_firstYearWithout 28 = .ok (.lconst 0, 1) := by decide +kernel
theorem dX3_firstYearWithout_29 : decode cX3_firstYearWithout 29 = .ok (.lcmp, 1) := by decide +kernel
theorem dX3_firstYearWithout_30 : decode cX3_firstYearWithout 30 = .ok (.ifCond .ne 5, 3) := by decide +kernel
theorem dX3_firstYearWithout_33 : decode cX3_firstYearWithout 33 = .ok (.iload_n 3, 1) := by decide +kernel
theorem dX3_firstYearWithout_34 : decode cX3_firstYearWithout 34 = .ok (.ireturn, 1) := by decide +kernel
theorem dX3_firstYearWithout_35 : decode cX3_firstYearWithout 35 = .ok (.aload_n 0, 1) := by decide +kernel
theorem dX3_firstYearWithout_36 : decode cX3_firstYearWithout 36 = .ok (.getfield 16, 3) := by decide +kernel
theorem dX3_firstYearWithout_39 : decode cX3_firstYearWithout 39 = .ok (.iconst 1, 1) := by decide +kernel
theorem dX3_firstYearWithout_40 : decode cX3_firstYearWithout 40 = .ok (.iconst (-1), 1) := by decide +kernel
theorem dX3_firstYearWithout_41 : decode cX3_firstYearWithout 41 = .ok (.invokevirtual 143, 3) := by decide +kernel
theorem dX3_firstYearWithout_44 : decode cX3_firstYearWithout 44 = .ok (.pop, 1) := by decide +kernel
theorem dX3_firstYearWithout_45 : decode cX3_firstYearWithout 45 = .ok (.iinc 3 1, 3) := by decide +kernel
theorem dX3_firstYearWithout_48 : decode cX3_firstYearWithout 48 = .ok (.goto (-35), 3) := by decide +kernel
theorem dX3_firstYearWithout_51 : decode cX3_firstYearWithout 51 = .ok (.aload_n 0, 1) := by decide +kernel
theorem dX3_firstYearWithout_52 : decode cX3_firstYearWithout 52 = .ok (.getfield 16, 3) := by decide +kernel
theorem dX3_firstYearWithout_55 : decode cX3_firstYearWithout 55 = .ok (.getfield 66, 3) := by decide +kernel
theorem dX3_firstYearWithout_58 : decode cX3_firstYearWithout 58 = .ok (.lload_n 1, 1) := by decide +kernel
theorem dX3_firstYearWithout_59 : decode cX3_firstYearWithout 59 = .ok (.land, 1) := by decide +kernel
theorem dX3_firstYearWithout_60 : decode cX3_firstYearWithout 60 = .ok (.lconst 0, 1) := by decide +kernel
theorem dX3_firstYearWithout_61 : decode cX3_firstYearWithout 61 = .ok (.lcmp, 1) := by decide +kernel
theorem dX3_firstYearWithout_62 : decode cX3_firstYearWithout 62 = .ok (.ifCond .ne 8, 3) := by decide +kernel
theorem dX3_firstYearWithout_65 : decode cX3_firstYearWithout 65 = .ok (.bipush 60, 2) := by decide +kernel
theorem dX3_firstYearWithout_67 : decode cX3_firstYearWithout 67 = .ok (.goto 4, 3) := by decide +kernel
theorem dX3_firstYearWithout_70 : decode cX3_firstYearWithout 70 = .ok (.iconst (-1), 1) := by decide +kernel
theorem dX3_firstYearWithout_71 : decode cX3_firstYearWithout 71 = .ok (.ireturn, 1) := by decide +kernel
theorem dX3_bestPair_0 : decode cX3_bestPair 0 = .ok (.iconst (-1), 1) := by decide +kernel
theorem dX3_bestPair_1 : decode cX3_bestPair 1 = .ok (.istore_n 2, 1) := by decide +kernel
theorem dX3_bestPair_2 : decode cX3_bestPair 2 = .ok (.bipush 49, 2) := by decide +kernel
theorem dX3_bestPair_4 : decode cX3_bestPair 4 = .ok (.istore_n 3, 1) := by decide +kernel
theorem dX3_bestPair_5 : decode cX3_bestPair 5 = .ok (.iconst 0, 1) := by decide +kernel
theorem dX3_bestPair_6 : decode cX3_bestPair 6 = .ok (.istore 4, 2) := by decide +kernel
theorem dX3_bestPair_8 : decode cX3_bestPair 8 = .ok (.iload 4, 2) := by decide +kernel
theorem dX3_bestPair_10 : decode cX3_bestPair 10 = .ok (.bipush 48, 2) := by decide +kernel
theorem dX3_bestPair_12 : decode cX3_bestPair 12 = .ok (.if_icmp .ge 90, 3) := by decide +kernel
theorem dX3_bestPair_15 : decode cX3_bestPair 15 = .ok (.aload_n 0, 1) := by decide +kernel
theorem dX3_bestPair_16 : decode cX3_bestPair 16 = .ok (.getfield 10, 3) := by decide +kernel
theorem dX3_bestPair_19 : decode cX3_bestPair 19 = .ok (.iload 4, 2) := by decide +kernel
theorem dX3_bestPair_21 : decode cX3_bestPair 21 = .ok (.invokevirtual 63, 3) := by decide +kernel
theorem dX3_bestPair_24 : decode cX3_bestPair 24 = .ok (.ifCond .eq 72, 3) := by decide +kernel
theorem dX3_bestPair_27 : decode cX3_bestPair 27 = .ok (.aload_n 0, 1) := by decide +kernel
theorem dX3_bestPair_28 : decode cX3_bestPair 28 = .ok (.getfield 16, 3) := by decide +kernel
theorem dX3_bestPair_31 : decode cX3_bestPair 31 = .ok (.aload_n 0, 1) := by decide +kernel
theorem dX3_bestPair_32 : decode cX3_bestPair 32 = .ok (.getfield 10, 3) := by decide +kernel
theorem dX3_bestPair_35 : decode cX3_bestPair 35 = .ok (.invokevirtual 150, 3) := by decide +kernel
theorem dX3_bestPair_38 : decode cX3_bestPair 38 = .ok (.aload_n 0, 1) := by decide +kernel
