theorem dX3_bestPair_39 : decode cX3_bestPair 39 = .ok (.getfield 16, 3) := by decide +kernel
theorem dX3_bestPair_42 : decode cX3_bestPair 42 = .ok (.iload_n 1, 1) := by decide +kernel
theorem dX3_bestPair_43 : decode cX3_bestPair 43 = .ok (.iload 4, 2) := by decide +kernel
theorem dX3_bestPair_45 : decode cX3_bestPair 45 = .ok (.invokevirtual 166, 3) := by decide +kernel
theorem dX3_bestPair_48 : decode cX3_bestPair 48 = .ok (.aload_n 0, 1) := by decide +kernel
theorem dX3_bestPair_49 : decode cX3_bestPair 49 = .ok (.getfield 16, 3) := by decide +kernel
theorem dX3_bestPair_52 : decode cX3_bestPair 52 = .ok (.iload_n 1, 1) := by decide +kernel
theorem dX3_bestPair_53 : decode cX3_bestPair 53 = .ok (.invokevirtual 160, 3) := by decide +kernel
theorem dX3_bestPair_56 : decode cX3_bestPair 56 = .ok (.istore 5, 2) := by decide +kernel
theorem dX3_bestPair_58 : decode cX3_bestPair 58 = .ok (.iload 5, 2) := by decide +kernel
theorem dX3_bestPair_60 : decode cX3_bestPair 60 = .ok (.ifCond .lt 36, 3) := by decide +kernel
theorem dX3_bestPair_63 : decode cX3_bestPair 63 = .ok (.aload_n 0, 1) := by decide +kernel
theorem dX3_bestPair_64 : decode cX3_bestPair 64 = .ok (.getfield 16, 3) := by decide +kernel
theorem dX3_bestPair_67 : decode cX3_bestPair 67 = .ok (.iload_n 1, 1) := by decide +kernel
theorem dX3_bestPair_68 : decode cX3_bestPair 68 = .ok (.iload 5, 2) := by decide +kernel
theorem dX3_bestPair_70 : decode cX3_bestPair 70 = .ok (.invokevirtual 170, 3) := by decide +kernel
theorem dX3_bestPair_73 : decode cX3_bestPair 73 = .ok (.invokestatic 74, 3) := by decide +kernel
theorem dX3_bestPair_76 : decode cX3_bestPair 76 = .ok (.istore 6, 2) := by decide +kernel
theorem dX3_bestPair_78 : decode cX3_bestPair 78 = .ok (.iload 6, 2) := by decide +kernel
theorem dX3_bestPair_80 : decode cX3_bestPair 80 = .ok (.iload_n 3, 1) := by decide +kernel
theorem dX3_bestPair_81 : decode cX3_bestPair 81 = .ok (.if_icmp .ge 15, 3) := by decide +kernel
theorem dX3_bestPair_84 : decode cX3_bestPair 84 = .ok (.iload 6, 2) := by decide +kernel
theorem dX3_bestPair_86 : decode cX3_bestPair 86 = .ok (.istore_n 3, 1) := by decide +kernel
theorem dX3_bestPair_87 : decode cX3_bestPair 87 = .ok (.bipush 100, 2) := by decide +kernel
theorem dX3_bestPair_89 : decode cX3_bestPair 89 = .ok (.iload 4, 2) := by decide +kernel
theorem dX3_bestPair_91 : decode cX3_bestPair 91 = .ok (.imul, 1) := by decide +kernel
theorem dX3_bestPair_92 : decode cX3_bestPair 92 = .ok (.iload 5, 2) := by decide +kernel
theorem dX3_bestPair_94 : decode cX3_bestPair 94 = .ok (.iadd, 1) := by decide +kernel
theorem dX3_bestPair_95 : decode cX3_bestPair 95 = .ok (.istore_n 2, 1) := by decide +kernel
theorem dX3_bestPair_96 : decode cX3_bestPair 96 = .ok (.iinc 4 1, 3) := by decide +kernel
theorem dX3_bestPair_99 : decode cX3_bestPair 99 = .ok (.goto (-91), 3) := by decide +kernel
theorem dX3_bestPair_102 : decode cX3_bestPair 102 = .ok (.iload_n 2, 1) := by decide +kernel
theorem dX3_bestPair_103 : decode cX3_bestPair 103 = .ok (.ireturn, 1) := by decide +kernel
theorem dX3_tryPurse_0 : decode cX3_tryPurse 0 = .ok (.aload_n 0, 1) := by decide +kernel
theorem dX3_tryPurse_1 : decode cX3_tryPurse 1 = .ok (.getfield 16, 3) := by decide +kernel
theorem dX3_tryPurse_4 : decode cX3_tryPurse 4 = .ok (.aload_n 0, 1) := by decide +kernel
theorem dX3_tryPurse_5 : decode cX3_tryPurse 5 = .ok (.getfield 10, 3) := by decide +kernel
theorem dX3_tryPurse_8 : decode cX3_tryPurse 8 = .ok (.invokevirtual 150, 3) := by decide +kernel
theorem dX3_tryPurse_11 : decode cX3_tryPurse 11 = .ok (.aload_n 0, 1) := by decide +kernel
theorem dX3_tryPurse_12 : decode cX3_tryPurse 12 = .ok (.getfield 16, 3) := by decide +kernel
theorem dX3_tryPurse_15 : decode cX3_tryPurse 15 = .ok (.getfield 110, 3) := by decide +kernel
theorem dX3_tryPurse_18 : decode cX3_tryPurse 18 = .ok (.iload_n 1, 1) := by decide +kernel
theorem dX3_tryPurse_19 : decode cX3_tryPurse 19 = .ok (.iload_n 2, 1) := by decide +kernel
theorem dX3_tryPurse_20 : decode cX3_tryPurse 20 = .ok (.iastore, 1) := by decide +kernel
theorem dX3_tryPurse_21 : decode cX3_tryPurse 21 = .ok (.return_, 1) := by decide +kernel
theorem dX3_trialGoesAs_0 : decode cX3_trialGoesAs 0 = .ok (.iconst 0, 1) := by decide +kernel
theorem dX3_trialGoesAs_1 : decode cX3_trialGoesAs 1 = .ok (.istore_n 2, 1) := by decide +kernel
theorem dX3_trialGoesAs_2 : decode cX3_trialGoesAs 2 = .ok (.iload_n 2, 1) := by decide +kernel
theorem dX3_trialGoesAs_3 : decode cX3_trialGoesAs 3 = .ok (.aload_n 1, 1) := by decide +kernel
theorem dX3_trialGoesAs_4 : decode cX3_trialGoesAs 4 = .ok (.getfield 196, 3) := by decide +kernel
theorem dX3_trialGoesAs_7 : decode cX3_trialGoesAs 7 = .ok (.if_icmp .ge 39, 3) := by decide +kernel
theorem dX3_trialGoesAs_10 : decode cX3_trialGoesAs 10 = .ok (.aload_n 1, 1) := by decide +kernel
theorem dX3_trialGoesAs_11 : decode cX3_trialGoesAs 11 = .ok (.getfield 214, 3) := by decide +kernel
theorem dX3_trialGoesAs_14 : decode cX3_trialGoesAs 14 = .ok (.iload_n 2, 1) := by decide +kernel
theorem dX3_trialGoesAs_15 : decode cX3_trialGoesAs 15 = .ok (.laload, 1) := by decide +kernel
theorem dX3_trialGoesAs_16 : decode cX3_trialGoesAs 16 = .ok (.aload_n 0, 1) := by decide +kernel
theorem dX3_trialGoesAs_17 : decode cX3_trialGoesAs 17 = .ok (.getfield 16, 3) := by decide +kernel
theorem dX3_trialGoesAs_20 : decode cX3_trialGoesAs 20 = .ok (.invokevirtual 136, 3) := by decide +kernel
theorem dX3_trialGoesAs_23 : decode cX3_trialGoesAs 23 = .ok (.i2l, 1) := by decide +kernel
theorem dX3_trialGoesAs_24 : decode cX3_trialGoesAs 24 = .ok (.lcmp, 1) := by decide +kernel
theorem dX3_trialGoesAs_25 : decode cX3_trialGoesAs 25 = .ok (.ifCond .eq 5, 3) := by decide +kernel
theorem dX3_trialGoesAs_28 : decode cX3_trialGoesAs 28 = .ok (.iconst 0, 1) := by decide +kernel
theorem dX3_trialGoesAs_29 : decode cX3_trialGoesAs 29 = .ok (.ireturn, 1) := by decide +kernel
theorem dX3_trialGoesAs_30 : decode cX3_trialGoesAs 30 = .ok (.aload_n 0, 1) := by decide +kernel
theorem dX3_trialGoesAs_31 : decode cX3_trialGoesAs 31 = .ok (.getfield 16, 3) := by decide +kernel
theorem dX3_trialGoesAs_34 : decode cX3_trialGoesAs 34 = .ok (.iconst 1, 1) := by decide +kernel
theorem dX3_trialGoesAs_35 : decode cX3_trialGoesAs 35 = .ok (.iconst (-1), 1) := by decide +kernel
theorem dX3_trialGoesAs_36 : decode cX3_trialGoesAs 36 = .ok (.invokevirtual 143, 3) := by decide +kernel
theorem dX3_trialGoesAs_39 : decode cX3_trialGoesAs 39 = .ok (.pop, 1) := by decide +kernel
theorem dX3_trialGoesAs_40 : decode cX3_trialGoesAs 40 = .ok (.iinc 2 1, 3) := by decide +kernel
theorem dX3_trialGoesAs_43 : decode cX3_trialGoesAs 43 = .ok (.goto (-41), 3) := by decide +kernel
theorem dX3_trialGoesAs_46 : decode cX3_trialGoesAs 46 = .ok (.iconst 1, 1) := by decide +kernel
theorem dX3_trialGoesAs_47 : decode cX3_trialGoesAs 47 = .ok (.ireturn, 1) := by decide +kernel
theorem dX3_beside_0 : decode cX3_beside 0 = .ok (.lload_n 0, 1) := by decide +kernel
theorem dX3_beside_1 : decode cX3_beside 1 = .ok (.ldc2_w 237, 3) := by decide +kernel
theorem dX3_beside_4 : decode cX3_beside 4 = .ok (.land, 1) := by decide +kernel
theorem dX3_beside_5 : decode cX3_beside 5 = .ok (.iconst 1, 1) := by decide +kernel
theorem dX3_beside_6 : decode cX3_beside 6 = .ok (.lshl, 1) := by decide +kernel
theorem dX3_beside_7 : decode cX3_beside 7 = .ok (.lload_n 0, 1) := by decide +kernel
theorem dX3_beside_8 : decode cX3_beside 8 = .ok (.ldc2_w 239, 3) := by decide +kernel
theorem dX3_beside_11 : decode cX3_beside 11 = .ok (.land, 1) := by decide +kernel
theorem dX3_beside_12 : decode cX3_beside 12 = .ok (.iconst 1, 1) := by decide +kernel
theorem dX3_beside_13 : decode cX3_beside 13 = .ok (.lushr, 1) := by decide +kernel
theorem dX3_beside_14 : decode cX3_beside 14 = .ok (.lor, 1) := by decide +kernel
theorem dX3_beside_15 : decode cX3_beside 15 = .ok (.lstore_n 2, 1) := by decide +kernel
theorem dX3_beside_16 : decode cX3_beside 16 = .ok (.lload_n 0, 1) := by decide +kernel
theorem dX3_beside_17 : decode cX3_beside 17 = .ok (.bipush 8, 2) := by decide +kernel
theorem dX3_beside_19 : decode cX3_beside 19 = .ok (.lshl, 1) := by decide +kernel
theorem dX3_beside_20 : decode cX3_beside 20 = .ok (.lload_n 0, 1) := by decide +kernel
theorem dX3_beside_21 : decode cX3_beside 21 = .ok (.bipush 8, 2) := by decide +kernel
theorem dX3_beside_23 : decode cX3_beside 23 = .ok (.lushr, 1) := by decide +kernel
theorem dX3_beside_24 : decode cX3_beside 24 = .ok (.lor, 1) := by decide +kernel
theorem dX3_beside_25 : decode cX3_beside 25 = .ok (.lload_n 2, 1) := by decide +kernel
theorem dX3_beside_26 : decode cX3_beside 26 = .ok (.lor, 1) := by decide +kernel
theorem dX3_beside_27 : decode cX3_beside 27 = .ok (.ldc2_w 154, 3) := by decide +kernel
theorem dX3_beside_30 : decode cX3_beside 30 = .ok (.land, 1) := by decide +kernel
theorem dX3_beside_31 : decode cX3_beside 31 = .ok (.lreturn, 1) := by decide +kernel
theorem dX3_has_0 : decode cX3_has 0 = .ok (.lload_n 0, 1) := by decide +kernel
theorem dX3_has_1 : decode cX3_has 1 = .ok (.iload_n 2, 1) := by decide +kernel
theorem dX3_has_2 : decode cX3_has 2 = .ok (.lushr, 1) := by decide +kernel
theorem dX3_has_3 : decode cX3_has 3 = .ok (.lconst 1, 1) := by decide +kernel
theorem dX3_has_4 : decode cX3_has 4 = .ok (.land, 1) := by decide +kernel
theorem dX3_has_5 : decode cX3_has 5 = .ok (.lconst 0, 1) := by decide +kernel
theorem dX3_has_6 : decode cX3_has 6 = .ok (.lcmp, 1) := by decide +kernel
theorem dX3_has_7 : decode cX3_has 7 = .ok (.ifCond .eq 7, 3) := by decide +kernel
theorem dX3_has_10 : decode cX3_has 10 = .ok (.iconst 1, 1) := by decide +kernel
theorem dX3_has_11 : decode cX3_has 11 = .ok (.goto 4, 3) := by decide +kernel
theorem dX3_has_14 : decode cX3_has 14 = .ok (.iconst 0, 1) := by decide +kernel
theorem dX3_has_15 : decode cX3_has 15 = .ok (.ireturn, 1) := by decide +kernel
theorem dX3_leastOf_0 : decode cX3_leastOf 0 = .ok (.lload_n 0, 1) := by decide +kernel
theorem dX3_leastOf_1 : decode cX3_leastOf 1 = .ok (.lload_n 0, 1) := by decide +kernel
theorem dX3_leastOf_2 : decode cX3_leastOf 2 = .ok (.lneg, 1) := by decide +kernel
theorem dX3_leastOf_3 : decode cX3_leastOf 3 = .ok (.land, 1) := by decide +kernel
theorem dX3_leastOf_4 : decode cX3_leastOf 4 = .ok (.lconst 1, 1) := by decide +kernel
theorem dX3_leastOf_5 : decode cX3_leastOf 5 = .ok (.lsub, 1) := by decide +kernel
theorem dX3_leastOf_6 : decode cX3_leastOf 6 = .ok (.invokestatic 74, 3) := by decide +kernel
theorem dX3_leastOf_9 : decode cX3_leastOf 9 = .ok (.ireturn, 1) := by decide +kernel
theorem dX4_init_0 : decode cX4_init 0 = .ok (.aload_n 0, 1) := by decide +kernel
theorem dX4_init_1 : decode cX4_init 1 = .ok (.invokespecial 1, 3) := by decide +kernel
theorem dX4_init_4 : decode cX4_init 4 = .ok (.aload_n 0, 1) := by decide +kernel
theorem dX4_init_5 : decode cX4_init 5 = .ok (.bipush 123, 2) := by decide +kernel
theorem dX4_init_7 : decode cX4_init 7 = .ok (.newarray .int, 2) := by decide +kernel
theorem dX4_init_9 : decode cX4_init 9 = .ok (.putfield 7, 3) := by decide +kernel
theorem dX4_init_12 : decode cX4_init 12 = .ok (.aload_n 0, 1) := by decide +kernel
theorem dX4_init_13 : decode cX4_init 13 = .ok (.bipush 123, 2) := by decide +kernel
theorem dX4_init_15 : decode cX4_init 15 = .ok (.newarray .int, 2) := by decide +kernel
theorem dX4_init_17 : decode cX4_init 17 = .ok (.putfield 13, 3) := by decide +kernel
theorem dX4_init_20 : decode cX4_init 20 = .ok (.aload_n 0, 1) := by decide +kernel
theorem dX4_init_21 : decode cX4_init 21 = .ok (.bipush 123, 2) := by decide +kernel
theorem dX4_init_23 : decode cX4_init 23 = .ok (.newarray .int, 2) := by decide +kernel
theorem dX4_init_25 : decode cX4_init 25 = .ok (.putfield 16, 3) := by decide +kernel
theorem dX4_init_28 : decode cX4_init 28 = .ok (.aload_n 0, 1) := by decide +kernel
theorem dX4_init_29 : decode cX4_init 29 = .ok (.bipush 123, 2) := by decide +kernel
theorem dX4_init_31 : decode cX4_init 31 = .ok (.newarray .int, 2) := by decide +kernel
theorem dX4_init_33 : decode cX4_init 33 = .ok (.putfield 19, 3) := by decide +kernel
theorem dX4_init_36 : decode cX4_init 36 = .ok (.aload_n 0, 1) := by decide +kernel
theorem dX4_init_37 : decode cX4_init 37 = .ok (.bipush 7, 2) := by decide +kernel
theorem dX4_init_39 : decode cX4_init 39 = .ok (.newarray .int, 2) := by decide +kernel
theorem dX4_init_41 : decode cX4_init 41 = .ok (.putfield 22, 3) := by decide +kernel
theorem dX4_init_44 : decode cX4_init 44 = .ok (.aload_n 0, 1) := by decide +kernel
theorem dX4_init_45 : decode cX4_init 45 = .ok (.iconst (-1), 1) := by decide +kernel
theorem dX4_init_46 : decode cX4_init 46 = .ok (.putfield 25, 3) := by decide +kernel
theorem dX4_init_49 : decode cX4_init 49 = .ok (.aload_n 0, 1) := by decide +kernel
theorem dX4_init_50 : decode cX4_init 50 = .ok (.bipush 48, 2) := by decide +kernel
theorem dX4_init_52 : decode cX4_init 52 = .ok (.newarray .int, 2) := by decide +kernel
theorem dX4_init_54 : decode cX4_init 54 = .ok (.putfield 29, 3) := by decide +kernel
theorem dX4_init_57 : decode cX4_init 57 = .ok (.aload_n 0, 1) := by decide +kernel
theorem dX4_init_58 : decode cX4_init 58 = .ok (.bipush 120, 2) := by decide +kernel
theorem dX4_init_60 : decode cX4_init 60 = .ok (.newarray .int, 2) := by decide +kernel
theorem dX4_init_62 : decode cX4_init 62 = .ok (.putfield 32, 3) := by decide +kernel
theorem dX4_init_65 : decode cX4_init 65 = .ok (.aload_n 0, 1) := by decide +kernel
theorem dX4_init_66 : decode cX4_init 66 = .ok (.iconst 4, 1) := by decide +kernel
theorem dX4_init_67 : decode cX4_init 67 = .ok (.newarray .int, 2) := by decide +kernel
theorem dX4_init_69 : decode cX4_init 69 = .ok (.putfield 35, 3) := by decide +kernel
theorem dX4_init_72 : decode cX4_init 72 = .ok (.aload_n 0, 1) := by decide +kernel
theorem dX4_init_73 : decode cX4_init 73 = .ok (.iconst 4, 1) := by decide +kernel
theorem dX4_init_74 : decode cX4_init 74 = .ok (.newarray .int, 2) := by decide +kernel
theorem dX4_init_76 : decode cX4_init 76 = .ok (.putfield 38, 3) := by decide +kernel
theorem dX4_init_79 : decode cX4_init 79 = .ok (.aload_n 0, 1) := by decide +kernel
theorem dX4_init_80 : decode cX4_init 80 = .ok (.sipush 160, 3) := by decide +kernel
theorem dX4_init_83 : decode cX4_init 83 = .ok (.newarray .long, 2) := by decide +kernel
theorem dX4_init_85 : decode cX4_init 85 = .ok (.putfield 41, 3) := by decide +kernel
theorem dX4_init_88 : decode cX4_init 88 = .ok (.aload_n 0, 1) := by decide +kernel
theorem dX4_init_89 : decode cX4_init 89 = .ok (.bipush 40, 2) := by decide +kernel
theorem dX4_init_91 : decode cX4_init 91 = .ok (.newarray .long, 2) := by decide +kernel
theorem dX4_init_93 : decode cX4_init 93 = .ok (.putfield 45, 3) := by decide +kernel
theorem dX4_init_96 : decode cX4_init 96 = .ok (.aload_n 0, 1) := by decide +kernel
theorem dX4_init_97 : decode cX4_init 97 = .ok (.getfield 7, 3) := by decide +kernel
theorem dX4_init_100 : decode cX4_init 100 = .ok (.iconst 2, 1) := by decide +kernel
theorem dX4_init_101 : decode cX4_init 101 = .ok (.iconst 2, 1) := by decide +kernel
theorem dX4_init_102 : decode cX4_init 102 = .ok (.iastore, 1) := by decide +kernel
theorem dX4_init_103 : decode cX4_init 103 = .ok (.return_, 1) := by decide +kernel
theorem dX4_in_0 : decode cX4_in 0 = .ok (.lload_n 0, 1) := by decide +kernel
theorem dX4_in_1 : decode cX4_in 1 = .ok (.lload_n 2, 1) := by decide +kernel
theorem dX4_in_2 : decode cX4_in 2 = .ok (.lcmp, 1) := by decide +kernel
theorem dX4_in_3 : decode cX4_in 3 = .ok (.ifCond .lt 14, 3) := by decide +kernel
theorem dX4_in_6 : decode cX4_in 6 = .ok (.lload_n 0, 1) := by decide +kernel
theorem dX4_in_7 : decode cX4_in 7 = .ok (.lload 4, 2) := by decide +kernel
theorem dX4_in_9 : decode cX4_in 9 = .ok (.lcmp, 1) := by decide +kernel
theorem dX4_in_10 : decode cX4_in 10 = .ok (.ifCond .gt 7, 3) := by decide +kernel
theorem dX4_in_13 : decode cX4_in 13 = .ok (.iconst 1, 1) := by decide +kernel
theorem dX4_in_14 : decode cX4_in 14 = .ok (.goto 4, 3) := by decide +kernel
theorem dX4_in_17 : decode cX4_in 17 = .ok (.iconst 0, 1) := by decide +kernel
theorem dX4_in_18 : decode cX4_in 18 = .ok (.ireturn, 1) := by decide +kernel
theorem dX4_finds_0 : decode cX4_finds 0 = .ok (.aload_n 0, 1) := by decide +kernel
theorem dX4_finds_1 : decode cX4_finds 1 = .ok (.getfield 22, 3) := by decide +kernel
theorem dX4_finds_4 : decode cX4_finds 4 = .ok (.ldc 48, 2) := by decide +kernel
theorem dX4_finds_6 : decode cX4_finds 6 = .ok (.iload_n 1, 1) := by decide +kernel
theorem dX4_finds_7 : decode cX4_finds 7 = .ok (.isub, 1) := by decide +kernel
theorem dX4_finds_8 : decode cX4_finds 8 = .ok (.dup2, 1) := by decide +kernel
theorem dX4_finds_9 : decode cX4_finds 9 = .ok (.iaload, 1) := by decide +kernel
theorem dX4_finds_10 : decode cX4_finds 10 = .ok (.iconst 1, 1) := by decide +kernel
theorem dX4_finds_11 : decode cX4_finds 11 = .ok (.iadd, 1) := by decide +kernel
theorem dX4_finds_12 : decode cX4_finds 12 = .ok (.iastore, 1) := by decide +kernel
theorem dX4_finds_13 : decode cX4_finds 13 = .ok (.iload_n 1, 1) := by decide +kernel
theorem dX4_finds_14 : decode cX4_finds 14 = .ok (.ireturn, 1) := by decide +kernel
theorem dX4_saves_0 : decode cX4_saves 0 = .ok (.iconst 0, 1) := by decide +kernel
theorem dX4_saves_1 : decode cX4_saves 1 = .ok (.istore_n 1, 1) := by decide +kernel
theorem dX4_saves_2 : decode cX4_saves 2 = .ok (.iload_n 1, 1) := by decide +kernel
theorem dX4_saves_3 : decode cX4_saves 3 = .ok (.bipush 123, 2) := by decide +kernel
theorem dX4_saves_5 : decode cX4_saves 5 = .ok (.if_icmp .ge 21, 3) := by decide +kernel
theorem dX4_saves_8 : decode cX4_saves 8 = .ok (.aload_n 0, 1) := by decide +kernel
theorem dX4_saves_9 : decode cX4_saves 9 = .ok (.getfield 16, 3) := by decide +kernel
theorem dX4_saves_12 : decode cX4_saves 12 = .ok (.iload_n 1, 1) := by decide +kernel
theorem dX4_saves_13 : decode cX4_saves 13 = .ok (.aload_n 0, 1) := by decide +kernel
theorem dX4_saves_14 : decode cX4_saves 14 = .ok (.getfield 7, 3) := by decide +kernel
theorem dX4_saves_17 : decode cX4_saves 17 = .ok (.iload_n 1, 1) := by decide +kernel
theorem dX4_saves_18 : decode cX4_saves 18 = .ok (.iaload, 1) := by decide +kernel
theorem dX4_saves_19 : decode cX4_saves 19 = .ok (.iastore, 1) := by decide +kernel
theorem dX4_saves_20 : decode cX4_saves 20 = .ok (.iinc 1 1, 3) := by decide +kernel
theorem dX4_saves_23 : decode cX4_saves 23 = .ok (.goto (-21), 3) := by decide +kernel
theorem dX4_saves_26 : decode cX4_saves 26 = .ok (.return_, 1) := by decide +kernel
theorem dX4_putsBack_0 : decode cX4_putsBack 0 = .ok (.iconst 0, 1) := by decide +kernel
theorem dX4_putsBack_1 : decode cX4_putsBack 1 = .ok (.istore_n 1, 1) := by decide +kernel
theorem dX4_putsBack_2 : decode cX4_putsBack 2 = .ok (.iload_n 1, 1) := by decide +kernel
theorem dX4_putsBack_3 : decode cX4_putsBack 3 = .ok (.bipush 123, 2) := by decide +kernel
theorem dX4_putsBack_5 : decode cX4_putsBack 5 = .ok (.if_icmp .ge 21, 3) := by decide +kernel
theorem dX4_putsBack_8 : decode cX4_putsBack 8 = .ok (.aload_n 0, 1) := by decide +kernel
theorem dX4_putsBack_9 : decode cX4_putsBack 9 = .ok (.getfield 7, 3) := by decide +kernel
theorem dX4_putsBack_12 : decode cX4_putsBack 12 = .ok (.iload_n 1, 1) := by decide +kernel
theorem dX4_putsBack_13 : decode cX4_putsBack 13 = .ok (.aload_n 0, 1) := by decide +kernel
theorem dX4_putsBack_14 : decode cX4_putsBack 14 = .ok (.getfield 16, 3) := by decide +kernel
theorem dX4_putsBack_17 : decode cX4_putsBack 17 = .ok (.iload_n 1, 1) := by decide +kernel
theorem dX4_putsBack_18 : decode cX4_putsBack 18 = .ok (.iaload, 1) := by decide +kernel
theorem dX4_putsBack_19 : decode cX4_putsBack 19 = .ok (.iastore, 1) := by decide +kernel
theorem dX4_putsBack_20 : decode cX4_putsBack 20 = .ok (.iinc 1 1, 3) := by decide +kernel
theorem dX4_putsBack_23 : decode cX4_putsBack 23 = .ok (.goto (-21), 3) := by decide +kernel
theorem dX4_putsBack_26 : decode cX4_putsBack 26 = .ok (.return_, 1) := by decide +kernel
theorem dX4_laysAside_0 : decode cX4_laysAside 0 = .ok (.iconst 0, 1) := by decide +kernel
theorem dX4_laysAside_1 : decode cX4_laysAside 1 = .ok (.istore_n 1, 1) := by decide +kernel
theorem dX4_laysAside_2 : decode cX4_laysAside 2 = .ok (.iload_n 1, 1) := by decide +kernel
theorem dX4_laysAside_3 : decode cX4_laysAside 3 = .ok (.bipush 123, 2) := by decide +kernel
theorem dX4_laysAside_5 : decode cX4_laysAside 5 = .ok (.if_icmp .ge 21, 3) := by decide +kernel
theorem dX4_laysAside_8 : decode cX4_laysAside 8 = .ok (.aload_n 0, 1) := by decide +kernel
theorem dX4_laysAside_9 : decode cX4_laysAside 9 = .ok (.getfield 19, 3) := by decide +kernel
theorem dX4_laysAside_12 : decode cX4_laysAside 12 = .ok (.iload_n 1, 1) := by decide +kernel
theorem dX4_laysAside_13 : decode cX4_laysAside 13 = .ok (.aload_n 0, 1) := by decide +kernel
theorem dX4_laysAside_14 : decode cX4_laysAside 14 = .ok (.getfield 7, 3) := by decide +kernel
theorem dX4_laysAside_17 : decode cX4_laysAside 17 = .ok (.iload_n 1, 1) := by decide +kernel
theorem dX4_laysAside_18 : decode cX4_laysAside 18 = .ok (.iaload, 1) := by decide +kernel
theorem dX4_laysAside_19 : decode cX4_laysAside 19 = .ok (.iastore, 1) := by decide +kernel
theorem dX4_laysAside_20 : decode cX4_laysAside 20 = .ok (.iinc 1 1, 3) := by decide +kernel
theorem dX4_laysAside_23 : decode cX4_laysAside 23 = .ok (.goto (-21), 3) := by decide +kernel
theorem dX4_laysAside_26 : decode cX4_laysAside 26 = .ok (.return_, 1) := by decide +kernel
theorem dX4_takesBack_0 : decode cX4_takesBack 0 = .ok (.iconst 0, 1) := by decide +kernel
theorem dX4_takesBack_1 : decode cX4_takesBack 1 = .ok (.istore_n 2, 1) := by decide +kernel
theorem dX4_takesBack_2 : decode cX4_takesBack 2 = .ok (.iload_n 2, 1) := by decide +kernel
theorem dX4_takesBack_3 : decode cX4_takesBack 3 = .ok (.bipush 123, 2) := by decide +kernel
theorem dX4_takesBack_5 : decode cX4_takesBack 5 = .ok (.if_icmp .ge 21, 3) := by decide +kernel
theorem dX4_takesBack_8 : decode cX4_takesBack 8 = .ok (.aload_n 0, 1) := by decide +kernel
theorem dX4_takesBack_9 : decode cX4_takesBack 9 = .ok (.getfield 7, 3) := by decide +kernel
theorem dX4_takesBack_12 : decode cX4_takesBack 12 = .ok (.iload_n 2, 1) := by decide +kernel
theorem dX4_takesBack_13 : decode cX4_takesBack 13 = .ok (.aload_n 0, 1) := by decide +kernel
theorem dX4_takesBack_14 : decode cX4_takesBack 14 = .ok (.getfield 19, 3) := by decide +kernel
theorem dX4_takesBack_17 : decode cX4_takesBack 17 = .ok (.iload_n 2, 1) := by decide +kernel
theorem dX4_takesBack_18 : decode cX4_takesBack 18 = .ok (.iaload, 1) := by decide +kernel
theorem dX4_takesBack_19 : decode cX4_takesBack 19 = .ok (.iastore, 1) := by decide +kernel
theorem dX4_takesBack_20 : decode cX4_takesBack 20 = .ok (.iinc 2 1, 3) := by decide +kernel
theorem dX4_takesBack_23 : decode cX4_takesBack 23 = .ok (.goto (-21), 3) := by decide +kernel
theorem dX4_takesBack_26 : decode cX4_takesBack 26 = .ok (.iload_n 1, 1) := by decide +kernel
theorem dX4_takesBack_27 : decode cX4_takesBack 27 = .ok (.ireturn, 1) := by decide +kernel
theorem dX4_becomes_0 : decode cX4_becomes 0 = .ok (.aload_n 0, 1) := by decide +kernel
theorem dX4_becomes_1 : decode cX4_becomes 1 = .ok (.getfield 7, 3) := by decide +kernel
theorem dX4_becomes_4 : decode cX4_becomes 4 = .ok (.iload_n 1, 1) := by decide +kernel
theorem dX4_becomes_5 : decode cX4_becomes 5 = .ok (.iaload, 1) := by decide +kernel
theorem dX4_becomes_6 : decode cX4_becomes 6 = .ok (.istore_n 3, 1) := by decide +kernel
theorem dX4_becomes_7 : decode cX4_becomes 7 = .ok (.aload_n 0, 1) := by decide +kernel
theorem dX4_becomes_8 : decode cX4_becomes 8 = .ok (.getfield 7, 3) := by decide +kernel
theorem dX4_becomes_11 : decode cX4_becomes 11 = .ok (.iload_n 1, 1) := by decide +kernel
theorem dX4_becomes_12 : decode cX4_becomes 12 = .ok (.iload_n 2, 1) := by decide +kernel
theorem dX4_becomes_13 : decode cX4_becomes 13 = .ok (.iastore, 1) := by decide +kernel
theorem dX4_becomes_14 : decode cX4_becomes 14 = .ok (.iload_n 3, 1) := by decide +kernel
theorem dX4_becomes_15 : decode cX4_becomes 15 = .ok (.ireturn, 1) := by decide +kernel
theorem dX4_isCell_0 : decode cX4_isCell 0 = .ok (.iload_n 0, 1) := by decide +kernel
theorem dX4_isCell_1 : decode cX4_isCell 1 = .ok (.i2l, 1) := by decide +kernel
theorem dX4_isCell_2 : decode cX4_isCell 2 = .ok (.lconst 0, 1) := by decide +kernel
theorem dX4_isCell_3 : decode cX4_isCell 3 = .ok (.ldc2_w 49, 3) := by decide +kernel
theorem dX4_isCell_6 : decode cX4_isCell 6 = .ok (.invokestatic 51, 3) := by decide +kernel
theorem dX4_isCell_9 : decode cX4_isCell 9 = .ok (.ireturn, 1) := by decide +kernel
theorem dX4_isMender_0 : decode cX4_isMender 0 = .ok (.iload_n 1, 1) := by decide +kernel
theorem dX4_isMender_1 : decode cX4_isMender 1 = .ok (.i2l, 1) := by decide +kernel
theorem dX4_isMender_2 : decode cX4_isMender 2 = .ok (.lconst 0, 1) := by decide +kernel
theorem dX4_isMender_3 : decode cX4_isMender 3 = .ok (.aload_n 0, 1) := by decide +kernel
theorem dX4_isMender_4 : decode cX4_isMender 4 = .ok (.getfield 7, 3) := by decide +kernel
theorem dX4_isMender_7 : decode cX4_isMender 7 = .ok (.iconst 0, 1) := by decide +kernel
theorem dX4_isMender_8 : decode cX4_isMender 8 = .ok (.iaload, 1) := by decide +kernel
theorem dX4_isMender_9 : decode cX4_isMender 9 = .ok (.iconst 1, 1) := by decide +kernel
theorem dX4_isMender_10 : decode cX4_isMender 10 = .ok (.isub, 1) := by decide +kernel
theorem dX4_isMender_11 : decode cX4_isMender 11 = .ok (.i2l, 1) := by decide +kernel
theorem dX4_isMender_12 : decode cX4_isMender 12 = .ok (.invokestatic 51, 3) := by decide +kernel
theorem dX4_isMender_15 : decode cX4_isMender 15 = .ok (.ireturn, 1) := by decide +kernel
theorem dX4_isKind_0 : decode cX4_isKind 0 = .ok (.iload_n 0, 1) := by decide +kernel
theorem dX4_isKind_1 : decode cX4_isKind 1 = .ok (.i2l, 1) := by decide +kernel
theorem dX4_isKind_2 : decode cX4_isKind 2 = .ok (.lconst 0, 1) := by decide +kernel
theorem dX4_isKind_3 : decode cX4_isKind 3 = .ok (.ldc2_w 55, 3) := by decide +kernel
theorem dX4_isKind_6 : decode cX4_isKind 6 = .ok (.invokestatic 51, 3) := by decide +kernel
theorem dX4_isKind_9 : decode cX4_isKind 9 = .ok (.ireturn, 1) := by decide +kernel
theorem dX4_spot_0 : decode cX4_spot 0 = .ok (.bipush 99, 2) := by decide +kernel
theorem dX4_spot_2 : decode cX4_spot 2 = .ok (.iconst 4, 1) := by decide +kernel
theorem dX4_spot_3 : decode cX4_spot 3 = .ok (.iload_n 0, 1) := by decide +kernel
theorem dX4_spot_4 : decode cX4_spot 4 = .ok (.imul, 1) := by decide +kernel
theorem dX4_spot_5 : decode cX4_spot 5 = .ok (.iadd, 1) := by decide +kernel
theorem dX4_spot_6 : decode cX4_spot 6 = .ok (.iload_n 1, 1) := by decide +kernel
theorem dX4_spot_7 : decode cX4_spot 7 = .ok (.iadd, 1) := by decide +kernel
theorem dX4_spot_8 : decode cX4_spot 8 = .ok (.ireturn, 1) := by decide +kernel
theorem dX4_its_0 : decode cX4_its 0 = .ok (.aload_n 0, 1) := by decide +kernel
theorem dX4_its_1 : decode cX4_its 1 = .ok (.getfield 7, 3) := by decide +kernel
theorem dX4_its_4 : decode cX4_its 4 = .ok (.iload_n 1, 1) := by decide +kernel
theorem dX4_its_5 : decode cX4_its 5 = .ok (.iload_n 2, 1) := by decide +kernel
theorem dX4_its_6 : decode cX4_its 6 = .ok (.invokestatic 57, 3) := by decide +kernel
theorem dX4_its_9 : decode cX4_its 9 = .ok (.iaload, 1) := by decide +kernel
theorem dX4_its_10 : decode cX4_its 10 = .ok (.ireturn, 1) := by decide +kernel
theorem dX4_beside_0 : decode cX4_beside 0 = .ok (.iload_n 0, 1) := by decide +kernel
theorem dX4_beside_1 : decode cX4_beside 1 = .ok (.bipush 8, 2) := by decide +kernel
theorem dX4_beside_3 : decode cX4_beside 3 = .ok (.idiv, 1) := by decide +kernel
theorem dX4_beside_4 : decode cX4_beside 4 = .ok (.istore_n 2, 1) := by decide +kernel
theorem dX4_beside_5 : decode cX4_beside 5 = .ok (.iload_n 0, 1) := by decide +kernel
theorem dX4_beside_6 : decode cX4_beside 6 = .ok (.bipush 8, 2) := by decide +kernel
theorem dX4_beside_8 : decode cX4_beside 8 = .ok (.irem, 1) := by decide +kernel
theorem dX4_beside_9 : decode cX4_beside 9 = .ok (.istore_n 3, 1) := by decide +kernel
theorem dX4_beside_10 : decode cX4_beside 10 = .ok (.iload_n 1, 1) := by decide +kernel
theorem dX4_beside_11 : decode cX4_beside 11 = .ok (.tableswitch 66 0 2 #[25, 38, 52], 25) := by decide +kernel
theorem dX4_beside_36 : decode cX4_beside 36 = .ok (.iload_n 2, 1) := by decide +kernel
theorem dX4_beside_37 : decode cX4_beside 37 = .ok (.ifCond .ne 7, 3) := by decide +kernel
theorem dX4_beside_40 : decode cX4_beside 40 = .ok (.iconst (-1), 1) := by decide +kernel
theorem dX4_beside_41 : decode cX4_beside 41 = .ok (.goto 7, 3) := by decide +kernel
theorem dX4_beside_44 : decode cX4_beside 44 = .ok (.iload_n 0, 1) := by decide +kernel
theorem dX4_beside_45 : decode cX4_beside 45 = .ok (.bipush 8, 2) := by decide +kernel
theorem dX4_beside_47 : decode cX4_beside 47 = .ok (.isub, 1) := by decide +kernel
theorem dX4_beside_48 : decode cX4_beside 48 = .ok (.ireturn, 1) := by decide +kernel
theorem dX4_beside_49 : decode cX4_beside 49 = .ok (.iload_n 3, 1) := by decide +kernel
theorem dX4_beside_50 : decode cX4_beside 50 = .ok (.bipush 7, 2) := by decide +kernel
theorem dX4_beside_52 : decode cX4_beside 52 = .ok (.if_icmp .ne 7, 3) := by decide +kernel
theorem dX4_beside_55 : decode cX4_beside 55 = .ok (.iconst (-1), 1) := by decide +kernel
theorem dX4_beside_56 : decode cX4_beside 56 = .ok (.goto 6, 3) := by decide +kernel
theorem dX4_beside_59 : decode cX4_beside 59 = .ok (.iload_n 0, 1) := by decide +kernel
theorem dX4_beside_60 : decode cX4_beside 60 = .ok (.iconst 1, 1) := by decide +kernel
theorem dX4_beside_61 : decode cX4_beside 61 = .ok (.iadd, 1) := by decide +kernel
theorem dX4_beside_62 : decode cX4_beside 62 = .ok (.ireturn, 1) := by decide +kernel
theorem dX4_beside_63 : decode cX4_beside 63 = .ok (.iload_n 2, 1) := by decide +kernel
theorem dX4_beside_64 : decode cX4_beside 64 = .ok (.iconst 5, 1) := by decide +kernel
theorem dX4_beside_65 : decode cX4_beside 65 = .ok (.if_icmp .ne 7, 3) := by decide +kernel
theorem dX4_beside_68 : decode cX4_beside 68 = .ok (.iconst (-1), 1) := by decide +kernel
theorem dX4_beside_69 : decode cX4_beside 69 = .ok (.goto 7, 3) := by decide +kernel
theorem dX4_beside_72 : decode cX4_beside 72 = .ok (.iload_n 0, 1) := by decide +kernel
theorem dX4_beside_73 : decode cX4_beside 73 = .ok (.bipush 8, 2) := by decide +kernel
theorem dX4_beside_75 : decode cX4_beside 75 = .ok (.iadd, 1) := by decide +kernel
theorem dX4_beside_76 : decode cX4_beside 76 = .ok (.ireturn, 1) := by decide +kernel
theorem dX4_beside_77 : decode cX4_beside 77 = .ok (.iload_n 3, 1) := by decide +kernel
theorem dX4_beside_78 : decode cX4_beside 78 = .ok (.ifCond .ne 7, 3) := by decide +kernel
theorem dX4_beside_81 : decode cX4_beside 81 = .ok (.iconst (-1), 1) := by decide +kernel
theorem dX4_beside_82 : decode cX4_beside 82 = .ok (.goto 6, 3) := by decide +kernel
theorem dX4_beside_85 : decode cX4_beside 85 = .ok (.iload_n 0, 1) := by decide +kernel
theorem dX4_beside_86 : decode cX4_beside 86 = .ok (.iconst 1, 1) := by decide +kernel
theorem dX4_beside_87 : decode cX4_beside 87 = .ok (.isub, 1) := by decide +kernel
theorem dX4_beside_88 : decode cX4_beside 88 = .ok (.ireturn, 1) := by decide +kernel
theorem dX4_apart_0 : decode cX4_apart 0 = .ok (.iload_n 0, 1) := by decide +kernel
theorem dX4_apart_1 : decode cX4_apart 1 = .ok (.bipush 8, 2) := by decide +kernel
theorem dX4_apart_3 : decode cX4_apart 3 = .ok (.idiv, 1) := by decide +kernel
theorem dX4_apart_4 : decode cX4_apart 4 = .ok (.iload_n 1, 1) := by decide +kernel
theorem dX4_apart_5 : decode cX4_apart 5 = .ok (.bipush 8, 2) := by decide +kernel
theorem dX4_apart_7 : decode cX4_apart 7 = .ok (.idiv, 1) := by decide +kernel
theorem dX4_apart_8 : decode cX4_apart 8 = .ok (.isub, 1) := by decide +kernel
theorem dX4_apart_9 : decode cX4_apart 9 = .ok (.istore_n 2, 1) := by decide +kernel
theorem dX4_apart_10 : decode cX4_apart 10 = .ok (.iload_n 0, 1) := by decide +kernel
theorem dX4_apart_11 : decode cX4_apart 11 = .ok (.bipush 8, 2) := by decide +kernel
theorem dX4_apart_13 : decode cX4_apart 13 = .ok (.irem, 1) := by decide +kernel
theorem dX4_apart_14 : decode cX4_apart 14 = .ok (.iload_n 1, 1) := by decide +kernel
theorem dX4_apart_15 : decode cX4_apart 15 = .ok (.bipush 8, 2) := by decide +kernel
theorem dX4_apart_17 : decode cX4_apart 17 = .ok (.irem, 1) := by decide +kernel
theorem dX4_apart_18 : decode cX4_apart 18 = .ok (.isub, 1) := by decide +kernel
theorem dX4_apart_19 : decode cX4_apart 19 = .ok (.istore_n 3, 1) := by decide +kernel
theorem dX4_apart_20 : decode cX4_apart 20 = .ok (.iload_n 2, 1) := by decide +kernel
theorem dX4_apart_21 : decode cX4_apart 21 = .ok (.ifCond .ge 8, 3) := by decide +kernel
theorem dX4_apart_24 : decode cX4_apart 24 = .ok (.iload_n 2, 1) := by decide +kernel
theorem dX4_apart_25 : decode cX4_apart 25 = .ok (.ineg, 1) := by decide +kernel
theorem dX4_apart_26 : decode cX4_apart 26 = .ok (.goto 4, 3) := by decide +kernel
theorem dX4_apart_29 : decode cX4_apart 29 = .ok (.iload_n 2, 1) := by decide +kernel
theorem dX4_apart_30 : decode cX4_apart 30 = .ok (.iload_n 3, 1) := by decide +kernel
theorem dX4_apart_31 : decode cX4_apart 31 = .ok (.ifCond .ge 8, 3) := by decide +kernel
theorem dX4_apart_34 : decode cX4_apart 34 = .ok (.iload_n 3, 1) := by decide +kernel
theorem dX4_apart_35 : decode cX4_apart 35 = .ok (.ineg, 1) := by decide +kernel
theorem dX4_apart_36 : decode cX4_apart 36 = .ok (.goto 4, 3) := by decide +kernel
theorem dX4_apart_39 : decode cX4_apart 39 = .ok (.iload_n 3, 1) := by decide +kernel
theorem dX4_apart_40 : decode cX4_apart 40 = .ok (.iadd, 1) := by decide +kernel
theorem dX4_apart_41 : decode cX4_apart 41 = .ok (.ireturn, 1) := by decide +kernel
theorem dX4_isUntrue_0 : decode cX4_isUntrue 0 = .ok (.aload_n 0, 1) := by decide +kernel
theorem dX4_isUntrue_1 : decode cX4_isUntrue 1 = .ok (.getfield 7, 3) := by decide +kernel
theorem dX4_isUntrue_4 : decode cX4_isUntrue 4 = .ok (.iconst 3, 1) := by decide +kernel
theorem dX4_isUntrue_5 : decode cX4_isUntrue 5 = .ok (.iload_n 1, 1) := by decide +kernel
theorem dX4_isUntrue_6 : decode cX4_isUntrue 6 = .ok (.iadd, 1) := by decide +kernel
theorem dX4_isUntrue_7 : decode cX4_isUntrue 7 = .ok (.iaload, 1) := by decide +kernel
theorem dX4_isUntrue_8 : decode cX4_isUntrue 8 = .ok (.aload_n 0, 1) := by decide +kernel
theorem dX4_isUntrue_9 : decode cX4_isUntrue 9 = .ok (.getfield 7, 3) := by decide +kernel
theorem dX4_isUntrue_12 : decode cX4_isUntrue 12 = .ok (.bipush 51, 2) := by decide +kernel
theorem dX4_isUntrue_14 : decode cX4_isUntrue 14 = .ok (.iload_n 1, 1) := by decide +kernel
theorem dX4_isUntrue_15 : decode cX4_isUntrue 15 = .ok (.iadd, 1) := by decide +kernel
theorem dX4_isUntrue_16 : decode cX4_isUntrue 16 = .ok (.iaload, 1) := by decide +kernel
theorem dX4_isUntrue_17 : decode cX4_isUntrue 17 = .ok (.if_icmp .eq 7, 3) := by decide +kernel
theorem dX4_isUntrue_20 : decode cX4_isUntrue 20 = .ok (.iconst 1, 1) := by decide +kernel
theorem dX4_isUntrue_21 : decode cX4_isUntrue 21 = .ok (.goto 4, 3) := by decide +kernel
theorem dX4_isUntrue_24 : decode cX4_isUntrue 24 = .ok (.iconst 0, 1) := by decide +kernel
theorem dX4_isUntrue_25 : decode cX4_isUntrue 25 = .ok (.ireturn, 1) := by decide +kernel
theorem dX4_wrongMany_0 : decode cX4_wrongMany 0 = .ok (.iconst 0, 1) := by decide +kernel
theorem dX4_wrongMany_1 : decode cX4_wrongMany 1 = .ok (.istore_n 1, 1) := by decide +kernel
theorem dX4_wrongMany_2 : decode cX4_wrongMany 2 = .ok (.iconst 0, 1) := by decide +kernel
theorem dX4_wrongMany_3 : decode cX4_wrongMany 3 = .ok (.istore_n 2, 1) := by decide +kernel
theorem dX4_wrongMany_4 : decode cX4_wrongMany 4 = .ok (.iload_n 2, 1) := by decide +kernel
theorem dX4_wrongMany_5 : decode cX4_wrongMany 5 = .ok (.bipush 48, 2) := by decide +kernel
theorem dX4_wrongMany_7 : decode cX4_wrongMany 7 = .ok (.if_icmp .ge 25, 3) := by decide +kernel
theorem dX4_wrongMany_10 : decode cX4_wrongMany 10 = .ok (.iload_n 1, 1) := by decide +kernel
theorem dX4_wrongMany_11 : decode cX4_wrongMany 11 = .ok (.aload_n 0, 1) := by decide +kernel
theorem dX4_wrongMany_12 : decode cX4_wrongMany 12 = .ok (.iload_n 2, 1) := by decide +kernel
theorem dX4_wrongMany_13 : decode cX4_wrongMany 13 = .ok (.invokevirtual 61, 3) := by decide +kernel
theorem dX4_wrongMany_16 : decode cX4_wrongMany 16 = .ok (.ifCond .eq 7, 3) := by decide +kernel
theorem dX4_wrongMany_19 : decode cX4_wrongMany 19 = .ok (.iconst 1, 1) := by decide +kernel
theorem dX4_wrongMany_20 : decode cX4_wrongMany 20 = .ok (.goto 4, 3) := by decide +kernel
theorem dX4_wrongMany_23 : decode cX4_wrongMany 23 = .ok (.iconst 0, 1) := by decide +kernel
theorem dX4_wrongMany_24 : decode cX4_wrongMany 24 = .ok (.iadd, 1) := by decide +kernel
theorem dX4_wrongMany_25 : decode cX4_wrongMany 25 = .ok (.istore_n 1, 1) := by decide +kernel
theorem dX4_wrongMany_26 : decode cX4_wrongMany 26 = .ok (.iinc 2 1, 3) := by decide +kernel
theorem dX4_wrongMany_29 : decode cX4_wrongMany 29 = .ok (.goto (-25), 3) := by decide +kernel
theorem dX4_wrongMany_32 : decode cX4_wrongMany 32 = .ok (.iload_n 1, 1) := by decide +kernel
theorem dX4_wrongMany_33 : decode cX4_wrongMany 33 = .ok (.ireturn, 1) := by decide +kernel
theorem dX4_wrongBeside_0 : decode cX4_wrongBeside 0 = .ok (.iconst 0, 1) := by decide +kernel
theorem dX4_wrongBeside_1 : decode cX4_wrongBeside 1 = .ok (.istore_n 2, 1) := by decide +kernel
theorem dX4_wrongBeside_2 : decode cX4_wrongBeside 2 = .ok (.iconst 0, 1) := by decide +kernel
theorem dX4_wrongBeside_3 : decode cX4_wrongBeside 3 = .ok (.istore_n 3, 1) := by decide +kernel
theorem dX4_wrongBeside_4 : decode cX4_wrongBeside 4 = .ok (.iload_n 3, 1) := by decide +kernel
theorem dX4_wrongBeside_5 : decode cX4_wrongBeside 5 = .ok (.iconst 4, 1) := by decide +kernel
theorem dX4_wrongBeside_6 : decode cX4_wrongBeside 6 = .ok (.if_icmp .ge 38, 3) := by decide +kernel
theorem dX4_wrongBeside_9 : decode cX4_wrongBeside 9 = .ok (.iload_n 1, 1) := by decide +kernel
theorem dX4_wrongBeside_10 : decode cX4_wrongBeside 10 = .ok (.iload_n 3, 1) := by decide +kernel
theorem dX4_wrongBeside_11 : decode cX4_wrongBeside 11 = .ok (.invokestatic 65, 3) := by decide +kernel
theorem dX4_wrongBeside_14 : decode cX4_wrongBeside 14 = .ok (.istore 4, 2) := by decide +kernel
theorem dX4_wrongBeside_16 : decode cX4_wrongBeside 16 = .ok (.iload_n 2, 1) := by decide +kernel
theorem dX4_wrongBeside_17 : decode cX4_wrongBeside 17 = .ok (.iload 4, 2) := by decide +kernel
theorem dX4_wrongBeside_19 : decode cX4_wrongBeside 19 = .ok (.ifCond .lt 16, 3) := by decide +kernel
theorem dX4_wrongBeside_22 : decode cX4_wrongBeside 22 = .ok (.aload_n 0, 1) := by decide +kernel
theorem dX4_wrongBeside_23 : decode cX4_wrongBeside 23 = .ok (.iload 4, 2) := by decide +kernel
theorem dX4_wrongBeside_25 : decode cX4_wrongBeside 25 = .ok (.invokevirtual 61, 3) := by decide +kernel
theorem dX4_wrongBeside_28 : decode cX4_wrongBeside 28 = .ok (.ifCond .eq 7, 3) := by decide +kernel
theorem dX4_wrongBeside_31 : decode cX4_wrongBeside 31 = .ok (.iconst 1, 1) := by decide +kernel
theorem dX4_wrongBeside_32 : decode cX4_wrongBeside 32 = .ok (.goto 4, 3) := by decide +kernel
theorem dX4_wrongBeside_35 : decode cX4_wrongBeside 35 = .ok (.iconst 0, 1) := by decide +kernel
theorem dX4_wrongBeside_36 : decode cX4_wrongBeside 36 = .ok (.iadd, 1) := by decide +kernel
theorem dX4_wrongBeside_37 : decode cX4_wrongBeside 37 = .ok (.istore_n 2, 1) := by decide +kernel
theorem dX4_wrongBeside_38 : decode cX4_wrongBeside 38 = .ok (.iinc 3 1, 3) := by decide +kernel
theorem dX4_wrongBeside_41 : decode cX4_wrongBeside 41 = .ok (.goto (-37), 3) := by decide +kernel
theorem dX4_wrongBeside_44 : decode cX4_wrongBeside 44 = .ok (.iload_n 2, 1) := by decide +kernel
theorem dX4_wrongBeside_45 : decode cX4_wrongBeside 45 = .ok (.ireturn, 1) := by decide +kernel
theorem dX4_draw_0 : decode cX4_draw 0 = .ok (.iload_n 1, 1) := by decide +kernel
theorem dX4_draw_1 : decode cX4_draw 1 = .ok (.invokestatic 68, 3) := by decide +kernel
theorem dX4_draw_4 : decode cX4_draw 4 = .ok (.ifCond .eq 45, 3) := by decide +kernel
theorem dX4_draw_7 : decode cX4_draw 7 = .ok (.iload_n 2, 1) := by decide +kernel
theorem dX4_draw_8 : decode cX4_draw 8 = .ok (.i2l, 1) := by decide +kernel
theorem dX4_draw_9 : decode cX4_draw 9 = .ok (.lconst 0, 1) := by decide +kernel
theorem dX4_draw_10 : decode cX4_draw 10 = .ok (.lconst 1, 1) := by decide +kernel
theorem dX4_draw_11 : decode cX4_draw 11 = .ok (.invokestatic 51, 3) := by decide +kernel
theorem dX4_draw_14 : decode cX4_draw 14 = .ok (.ifCond .eq 35, 3) := by decide +kernel
theorem dX4_draw_17 : decode cX4_draw 17 = .ok (.iload_n 3, 1) := by decide +kernel
theorem dX4_draw_18 : decode cX4_draw 18 = .ok (.i2l, 1) := by decide +kernel
theorem dX4_draw_19 : decode cX4_draw 19 = .ok (.lconst 0, 1) := by decide +kernel
theorem dX4_draw_20 : decode cX4_draw 20 = .ok (.ldc2_w 55, 3) := by decide +kernel
theorem dX4_draw_23 : decode cX4_draw 23 = .ok (.invokestatic 51, 3) := by decide +kernel
theorem dX4_draw_26 : decode cX4_draw 26 = .ok (.ifCond .eq 23, 3) := by decide +kernel
theorem dX4_draw_29 : decode cX4_draw 29 = .ok (.aload_n 0, 1) := by decide +kernel
theorem dX4_draw_30 : decode cX4_draw 30 = .ok (.iload_n 2, 1) := by decide +kernel
theorem dX4_draw_31 : decode cX4_draw 31 = .ok (.ifCond .ne 7, 3) := by decide +kernel
theorem dX4_draw_34 : decode cX4_draw 34 = .ok (.iconst 3, 1) := by decide +kernel
theorem dX4_draw_35 : decode cX4_draw 35 = .ok (.goto 5, 3) := by decide +kernel
theorem dX4_draw_38 : decode cX4_draw 38 = .ok (.bipush 51, 2) := by decide +kernel
theorem dX4_draw_40 : decode cX4_draw 40 = .ok (.iload_n 1, 1) := by decide +kernel
theorem dX4_draw_41 : decode cX4_draw 41 = .ok (.iadd, 1) := by decide +kernel
theorem dX4_draw_42 : decode cX4_draw 42 = .ok (.iload_n 3, 1) := by decide +kernel
theorem dX4_draw_43 : decode cX4_draw 43 = .ok (.invokevirtual 71, 3) := by decide +kernel
theorem dX4_draw_46 : decode cX4_draw 46 = .ok (.goto 9, 3) := by decide +kernel
theorem dX4_draw_49 : decode cX4_draw 49 = .ok (.aload_n 0, 1) := by decide +kernel
theorem dX4_draw_50 : decode cX4_draw 50 = .ok (.ldc 48, 2) := by decide +kernel
theorem dX4_draw_52 : decode cX4_draw 52 = .ok (.invokevirtual 74, 3) := by decide +kernel
theorem dX4_draw_55 : decode cX4_draw 55 = .ok (.ireturn, 1) := by decide +kernel
theorem dX4_cell_0 : decode cX4_cell 0 = .ok (.iload_n 1, 1) := by decide +kernel
theorem dX4_cell_1 : decode cX4_cell 1 = .ok (.invokestatic 68, 3) := by decide +kernel
theorem dX4_cell_4 : decode cX4_cell 4 = .ok (.ifCond .eq 15, 3) := by decide +kernel
theorem dX4_cell_7 : decode cX4_cell 7 = .ok (.iload_n 2, 1) := by decide +kernel
theorem dX4_cell_8 : decode cX4_cell 8 = .ok (.i2l, 1) := by decide +kernel
theorem dX4_cell_9 : decode cX4_cell 9 = .ok (.lconst 0, 1) := by decide +kernel
theorem dX4_cell_10 : decode cX4_cell 10 = .ok (.ldc2_w 78, 3) := by decide +kernel
theorem dX4_cell_13 : decode cX4_cell 13 = .ok (.invokestatic 51, 3) := by decide +kernel
theorem dX4_cell_16 : decode cX4_cell 16 = .ok (.ifCond .ne 10, 3) := by decide +kernel
theorem dX4_cell_19 : decode cX4_cell 19 = .ok (.aload_n 0, 1) := by decide +kernel
theorem dX4_cell_20 : decode cX4_cell 20 = .ok (.ldc 48, 2) := by decide +kernel
theorem dX4_cell_22 : decode cX4_cell 22 = .ok (.invokevirtual 74, 3) := by decide +kernel
theorem dX4_cell_25 : decode cX4_cell 25 = .ok (.ireturn, 1) := by decide +kernel
theorem dX4_cell_26 : decode cX4_cell 26 = .ok (.iload_n 2, 1) := by decide +kernel
theorem dX4_cell_27 : decode cX4_cell 27 = .ok (.tableswitch 68 0 3 #[29, 38, 48, 62], 29) := by decide +kernel
theorem dX4_cell_56 : decode cX4_cell 56 = .ok (.aload_n 0, 1) := by decide +kernel
theorem dX4_cell_57 : decode cX4_cell 57 = .ok (.getfield 7, 3) := by decide +kernel
theorem dX4_cell_60 : decode cX4_cell 60 = .ok (.iconst 3, 1) := by decide +kernel
theorem dX4_cell_61 : decode cX4_cell 61 = .ok (.iload_n 1, 1) := by decide +kernel
theorem dX4_cell_62 : decode cX4_cell 62 = .ok (.iadd, 1) := by decide +kernel
theorem dX4_cell_63 : decode cX4_cell 63 = .ok (.iaload, 1) := by decide +kernel
theorem dX4_cell_64 : decode cX4_cell 64 = .ok (.ireturn, 1) := by decide +kernel
theorem dX4_cell_65 : decode cX4_cell 65 = .ok (.aload_n 0, 1) := by decide +kernel
theorem dX4_cell_66 : decode cX4_cell 66 = .ok (.getfield 7, 3) := by decide +kernel
theorem dX4_cell_69 : decode cX4_cell 69 = .ok (.bipush 51, 2) := by decide +kernel
theorem dX4_cell_71 : decode cX4_cell 71 = .ok (.iload_n 1, 1) := by decide +kernel
theorem dX4_cell_72 : decode cX4_cell 72 = .ok (.iadd, 1) := by decide +kernel
theorem dX4_cell_73 : decode cX4_cell 73 = .ok (.iaload, 1) := by decide +kernel
theorem dX4_cell_74 : decode cX4_cell 74 = .ok (.ireturn, 1) := by decide +kernel
theorem dX4_cell_75 : decode cX4_cell 75 = .ok (.aload_n 0, 1) := by decide +kernel
theorem dX4_cell_76 : decode cX4_cell 76 = .ok (.iload_n 1, 1) := by decide +kernel
theorem dX4_cell_77 : decode cX4_cell 77 = .ok (.invokevirtual 61, 3) := by decide +kernel
theorem dX4_cell_80 : decode cX4_cell 80 = .ok (.ifCond .eq 7, 3) := by decide +kernel
theorem dX4_cell_83 : decode cX4_cell 83 = .ok (.iconst 1, 1) := by decide +kernel
theorem dX4_cell_84 : decode cX4_cell 84 = .ok (.goto 4, 3) := by decide +kernel
theorem dX4_cell_87 : decode cX4_cell 87 = .ok (.iconst 0, 1) := by decide +kernel
theorem dX4_cell_88 : decode cX4_cell 88 = .ok (.ireturn, 1) := by decide +kernel
theorem dX4_cell_89 : decode cX4_cell 89 = .ok (.aload_n 0, 1) := by decide +kernel
theorem dX4_cell_90 : decode cX4_cell 90 = .ok (.iload_n 1, 1) := by decide +kernel
theorem dX4_cell_91 : decode cX4_cell 91 = .ok (.invokevirtual 80, 3) := by decide +kernel
theorem dX4_cell_94 : decode cX4_cell 94 = .ok (.ireturn, 1) := by decide +kernel
theorem dX4_cell_95 : decode cX4_cell 95 = .ok (.aload_n 0, 1) := by decide +kernel
theorem dX4_cell_96 : decode cX4_cell 96 = .ok (.iload_n 1, 1) := by decide +kernel
theorem dX4_cell_97 : decode cX4_cell 97 = .ok (.invokevirtual 83, 3) := by decide +kernel
theorem dX4_cell_100 : decode cX4_cell 100 = .ok (.ireturn, 1) := by decide +kernel
theorem dX4_thoseAt_0 : decode cX4_thoseAt 0 = .ok (.iconst 0, 1) := by decide +kernel
theorem dX4_thoseAt_1 : decode cX4_thoseAt 1 = .ok (.istore_n 2, 1) := by decide +kernel
theorem dX4_thoseAt_2 : decode cX4_thoseAt 2 = .ok (.iconst 0, 1) := by decide +kernel
theorem dX4_thoseAt_3 : decode cX4_thoseAt 3 = .ok (.istore_n 3, 1) := by decide +kernel
theorem dX4_thoseAt_4 : decode cX4_thoseAt 4 = .ok (.iload_n 3, 1) := by decide +kernel
theorem dX4_thoseAt_5 : decode cX4_thoseAt 5 = .ok (.aload_n 0, 1) := by decide +kernel
theorem dX4_thoseAt_6 : decode cX4_thoseAt 6 = .ok (.getfield 7, 3) := by decide +kernel
theorem dX4_thoseAt_9 : decode cX4_thoseAt 9 = .ok (.iconst 0, 1) := by decide +kernel
theorem dX4_thoseAt_10 : decode cX4_thoseAt 10 = .ok (.iaload, 1) := by decide +kernel
theorem dX4_thoseAt_11 : decode cX4_thoseAt 11 = .ok (.if_icmp .ge 29, 3) := by decide +kernel
theorem dX4_thoseAt_14 : decode cX4_thoseAt 14 = .ok (.iload_n 2, 1) := by decide +kernel
theorem dX4_thoseAt_15 : decode cX4_thoseAt 15 = .ok (.aload_n 0, 1) := by decide +kernel
theorem dX4_thoseAt_16 : decode cX4_thoseAt 16 = .ok (.iload_n 3, 1) := by decide +kernel
theorem dX4_thoseAt_17 : decode cX4_thoseAt 17 = .ok (.iconst 1, 1) := by decide +kernel
theorem dX4_thoseAt_18 : decode cX4_thoseAt 18 = .ok (.invokevirtual 86, 3) := by decide +kernel
theorem dX4_thoseAt_21 : decode cX4_thoseAt 21 = .ok (.iload_n 1, 1) := by decide +kernel
theorem dX4_thoseAt_22 : decode cX4_thoseAt 22 = .ok (.if_icmp .ne 9, 3) := by decide +kernel
theorem dX4_thoseAt_25 : decode cX4_thoseAt 25 = .ok (.iconst 1, 1) := by decide +kernel
theorem dX4_thoseAt_26 : decode cX4_thoseAt 26 = .ok (.iload_n 3, 1) := by decide +kernel
theorem dX4_thoseAt_27 : decode cX4_thoseAt 27 = .ok (.ishl, 1) := by decide +kernel
theorem dX4_thoseAt_28 : decode cX4_thoseAt 28 = .ok (.goto 4, 3) := by decide +kernel
theorem dX4_thoseAt_31 : decode cX4_thoseAt 31 = .ok (.iconst 0, 1) := by decide +kernel
theorem dX4_thoseAt_32 : decode cX4_thoseAt 32 = .ok (.ior, 1) := by decide +kernel
theorem dX4_thoseAt_33 : decode cX4_thoseAt 33 = .ok (.istore_n 2, 1) := by decide +kernel
theorem dX4_thoseAt_34 : decode cX4_thoseAt 34 = .ok (.iinc 3 1, 3) := by decide +kernel
theorem dX4_thoseAt_37 : decode cX4_thoseAt 37 = .ok (.goto (-33), 3) := by decide +kernel
theorem dX4_thoseAt_40 : decode cX4_thoseAt 40 = .ok (.iload_n 2, 1) := by decide +kernel
theorem dX4_thoseAt_41 : decode cX4_thoseAt 41 = .ok (.ireturn, 1) := by decide +kernel
theorem dX4_cells_0 : decode cX4_cells 0 = .ok (.iload_n 1, 1) := by decide +kernel
theorem dX4_cells_1 : decode cX4_cells 1 = .ok (.i2l, 1) := by decide +kernel
theorem dX4_cells_2 : decode cX4_cells 2 = .ok (.lconst 0, 1) := by decide +kernel
theorem dX4_cells_3 : decode cX4_cells 3 = .ok (.ldc2_w 89, 3) := by decide +kernel
theorem dX4_cells_6 : decode cX4_cells 6 = .ok (.invokestatic 51, 3) := by decide +kernel
theorem dX4_cells_9 : decode cX4_cells 9 = .ok (.ifCond .ne 11, 3) := by decide +kernel
theorem dX4_cells_12 : decode cX4_cells 12 = .ok (.aload_n 0, 1) := by decide +kernel
theorem dX4_cells_13 : decode cX4_cells 13 = .ok (.ldc 48, 2) := by decide +kernel
theorem dX4_cells_15 : decode cX4_cells 15 = .ok (.invokevirtual 74, 3) := by decide +kernel
theorem dX4_cells_18 : decode cX4_cells 18 = .ok (.i2l, 1) := by decide +kernel
theorem dX4_cells_19 : decode cX4_cells 19 = .ok (.lreturn, 1) := by decide +kernel
theorem dX4_cells_20 : decode cX4_cells 20 = .ok (.lconst 0, 1) := by decide +kernel
theorem dX4_cells_21 : decode cX4_cells 21 = .ok (.lstore_n 2, 1) := by decide +kernel
theorem dX4_cells_22 : decode cX4_cells 22 = .ok (.iconst 0, 1) := by decide +kernel
theorem dX4_cells_23 : decode cX4_cells 23 = .ok (.istore 4, 2) := by decide +kernel
theorem dX4_cells_25 : decode cX4_cells 25 = .ok (.iload 4, 2) := by decide +kernel
theorem dX4_cells_27 : decode cX4_cells 27 = .ok (.bipush 48, 2) := by decide +kernel
theorem dX4_cells_29 : decode cX4_cells 29 = .ok (.if_icmp .ge 51, 3) := by decide +kernel
theorem dX4_cells_32 : decode cX4_cells 32 = .ok (.lload_n 2, 1) := by decide +kernel
theorem dX4_cells_33 : decode cX4_cells 33 = .ok (.iload_n 1, 1) := by decide +kernel
theorem dX4_cells_34 : decode cX4_cells 34 = .ok (.ifCond .ne 15, 3) := by decide +kernel
theorem dX4_cells_37 : decode cX4_cells 37 = .ok (.aload_n 0, 1) := by decide +kernel
theorem dX4_cells_38 : decode cX4_cells 38 = .ok (.iload 4, 2) := by decide +kernel
theorem dX4_cells_40 : decode cX4_cells 40 = .ok (.invokevirtual 61, 3) := by decide +kernel
theorem dX4_cells_43 : decode cX4_cells 43 = .ok (.ifCond .eq 28, 3) := by decide +kernel
theorem dX4_cells_46 : decode cX4_cells 46 = .ok (.goto 18, 3) := by decide +kernel
theorem dX4_cells_49 : decode cX4_cells 49 = .ok (.aload_n 0, 1) := by decide +kernel
theorem dX4_cells_50 : decode cX4_cells 50 = .ok (.getfield 7, 3) := by decide +kernel
theorem dX4_cells_53 : decode cX4_cells 53 = .ok (.iconst 3, 1) := by decide +kernel
theorem dX4_cells_54 : decode cX4_cells 54 = .ok (.iload 4, 2) := by decide +kernel
theorem dX4_cells_56 : decode cX4_cells 56 = .ok (.iadd, 1) := by decide +kernel
theorem dX4_cells_57 : decode cX4_cells 57 = .ok (.iaload, 1) := by decide +kernel
theorem dX4_cells_58 : decode cX4_cells 58 = .ok (.iload_n 1, 1) := by decide +kernel
theorem dX4_cells_59 : decode cX4_cells 59 = .ok (.iconst 1, 1) := by decide +kernel
theorem dX4_cells_60 : decode cX4_cells 60 = .ok (.isub, 1) := by decide +kernel
theorem dX4_cells_61 : decode cX4_cells 61 = .ok (.if_icmp .ne 10, 3) := by decide +kernel
theorem dX4_cells_64 : decode cX4_cells 64 = .ok (.lconst 1, 1) := by decide +kernel
theorem dX4_cells_65 : decode cX4_cells 65 = .ok (.iload 4, 2) := by decide +kernel
theorem dX4_cells_67 : decode cX4_cells 67 = .ok (.lshl, 1) := by decide +kernel
theorem dX4_cells_68 : decode cX4_cells 68 = .ok (.goto 4, 3) := by decide +kernel
theorem dX4_cells_71 : decode cX4_cells 71 = .ok (.lconst 0, 1) := by decide +kernel
theorem dX4_cells_72 : decode cX4_cells 72 = .ok (.lor, 1) := by decide +kernel
theorem dX4_cells_73 : decode cX4_cells 73 = .ok (.lstore_n 2, 1) := by decide +kernel
theorem dX4_cells_74 : decode cX4_cells 74 = .ok (.iinc 4 1, 3) := by decide +kernel
theorem dX4_cells_77 : decode cX4_cells 77 = .ok (.goto (-52), 3) := by decide +kernel
theorem dX4_cells_80 : decode cX4_cells 80 = .ok (.lload_n 2, 1) := by decide +kernel
theorem dX4_cells_81 : decode cX4_cells 81 = .ok (.lreturn, 1) := by decide +kernel
theorem dX4_income_0 : decode cX4_income 0 = .ok (.iload_n 1, 1) := by decide +kernel
theorem dX4_income_1 : decode cX4_income 1 = .ok (.i2l, 1) := by decide +kernel
theorem dX4_income_2 : decode cX4_income 2 = .ok (.lconst 0, 1) := by decide +kernel
theorem dX4_income_3 : decode cX4_income 3 = .ok (.ldc2_w 91, 3) := by decide +kernel
theorem dX4_income_6 : decode cX4_income 6 = .ok (.invokestatic 51, 3) := by decide +kernel
theorem dX4_income_9 : decode cX4_income 9 = .ok (.ifCond .eq 12, 3) := by decide +kernel
theorem dX4_income_12 : decode cX4_income 12 = .ok (.aload_n 0, 1) := by decide +kernel
theorem dX4_income_13 : decode cX4_income 13 = .ok (.iconst 2, 1) := by decide +kernel
theorem dX4_income_14 : decode cX4_income 14 = .ok (.iload_n 1, 1) := by decide +kernel
theorem dX4_income_15 : decode cX4_income 15 = .ok (.invokevirtual 71, 3) := by decide +kernel
theorem dX4_income_18 : decode cX4_income 18 = .ok (.goto 9, 3) := by decide +kernel
theorem dX4_income_21 : decode cX4_income 21 = .ok (.aload_n 0, 1) := by decide +kernel
theorem dX4_income_22 : decode cX4_income 22 = .ok (.ldc 48, 2) := by decide +kernel
theorem dX4_income_24 : decode cX4_income 24 = .ok (.invokevirtual 74, 3) := by decide +kernel
theorem dX4_income_27 : decode cX4_income 27 = .ok (.ireturn, 1) := by decide +kernel
theorem dX4_adds_0 : decode cX4_adds 0 = .ok (.aload_n 0, 1) := by decide +kernel
theorem dX4_adds_1 : decode cX4_adds 1 = .ok (.getfield 7, 3) := by decide +kernel
theorem dX4_adds_4 : decode cX4_adds 4 = .ok (.iconst 0, 1) := by decide +kernel
theorem dX4_adds_5 : decode cX4_adds 5 = .ok (.iaload, 1) := by decide +kernel
theorem dX4_adds_6 : decode cX4_adds 6 = .ok (.istore_n 3, 1) := by decide +kernel
theorem dX4_adds_7 : decode cX4_adds 7 = .ok (.aload_n 0, 1) := by decide +kernel
theorem dX4_adds_8 : decode cX4_adds 8 = .ok (.getfield 7, 3) := by decide +kernel
theorem dX4_adds_11 : decode cX4_adds 11 = .ok (.iload_n 3, 1) := by decide +kernel
theorem dX4_adds_12 : decode cX4_adds 12 = .ok (.iconst 0, 1) := by decide +kernel
theorem dX4_adds_13 : decode cX4_adds 13 = .ok (.invokestatic 57, 3) := by decide +kernel
theorem dX4_adds_16 : decode cX4_adds 16 = .ok (.iload_n 1, 1) := by decide +kernel
theorem dX4_adds_17 : decode cX4_adds 17 = .ok (.iastore, 1) := by decide +kernel
theorem dX4_adds_18 : decode cX4_adds 18 = .ok (.aload_n 0, 1) := by decide +kernel
theorem dX4_adds_19 : decode cX4_adds 19 = .ok (.getfield 7, 3) := by decide +kernel
theorem dX4_adds_22 : decode cX4_adds 22 = .ok (.iload_n 3, 1) := by decide +kernel
theorem dX4_adds_23 : decode cX4_adds 23 = .ok (.iconst 1, 1) := by decide +kernel
theorem dX4_adds_24 : decode cX4_adds 24 = .ok (.invokestatic 57, 3) := by decide +kernel
theorem dX4_adds_27 : decode cX4_adds 27 = .ok (.iload_n 2, 1) := by decide +kernel
theorem dX4_adds_28 : decode cX4_adds 28 = .ok (.iastore, 1) := by decide +kernel
theorem dX4_adds_29 : decode cX4_adds 29 = .ok (.aload_n 0, 1) := by decide +kernel
theorem dX4_adds_30 : decode cX4_adds 30 = .ok (.getfield 7, 3) := by decide +kernel
theorem dX4_adds_33 : decode cX4_adds 33 = .ok (.iload_n 3, 1) := by decide +kernel
theorem dX4_adds_34 : decode cX4_adds 34 = .ok (.iconst 2, 1) := by decide +kernel
theorem dX4_adds_35 : decode cX4_adds 35 = .ok (.invokestatic 57, 3) := by decide +kernel
theorem dX4_adds_38 : decode cX4_adds 38 = .ok (.bipush 50, 2) := by decide +kernel
theorem dX4_adds_40 : decode cX4_adds 40 = .ok (.iastore, 1) := by decide +kernel
theorem dX4_adds_41 : decode cX4_adds 41 = .ok (.aload_n 0, 1) := by decide +kernel
theorem dX4_adds_42 : decode cX4_adds 42 = .ok (.getfield 7, 3) := by decide +kernel
theorem dX4_adds_45 : decode cX4_adds 45 = .ok (.iload_n 3, 1) := by decide +kernel
theorem dX4_adds_46 : decode cX4_adds 46 = .ok (.iconst 3, 1) := by decide +kernel
theorem dX4_adds_47 : decode cX4_adds 47 = .ok (.invokestatic 57, 3) := by decide +kernel
theorem dX4_adds_50 : decode cX4_adds 50 = .ok (.iconst 0, 1) := by decide +kernel
theorem dX4_adds_51 : decode cX4_adds 51 = .ok (.iastore, 1) := by decide +kernel
theorem dX4_adds_52 : decode cX4_adds 52 = .ok (.aload_n 0, 1) := by decide +kernel
theorem dX4_adds_53 : decode cX4_adds 53 = .ok (.getfield 7, 3) := by decide +kernel
theorem dX4_adds_56 : decode cX4_adds 56 = .ok (.iconst 0, 1) := by decide +kernel
theorem dX4_adds_57 : decode cX4_adds 57 = .ok (.dup2, 1) := by decide +kernel
theorem dX4_adds_58 : decode cX4_adds 58 = .ok (.iaload, 1) := by decide +kernel
theorem dX4_adds_59 : decode cX4_adds 59 = .ok (.iconst 1, 1) := by decide +kernel
theorem dX4_adds_60 : decode cX4_adds 60 = .ok (.iadd, 1) := by decide +kernel
theorem dX4_adds_61 : decode cX4_adds 61 = .ok (.iastore, 1) := by decide +kernel
theorem dX4_adds_62 : decode cX4_adds 62 = .ok (.iload_n 3, 1) := by decide +kernel
theorem dX4_adds_63 : decode cX4_adds 63 = .ok (.ireturn, 1) := by decide +kernel
theorem dX4_mender_0 : decode cX4_mender 0 = .ok (.iload_n 1, 1) := by decide +kernel
theorem dX4_mender_1 : decode cX4_mender 1 = .ok (.invokestatic 93, 3) := by decide +kernel
theorem dX4_mender_4 : decode cX4_mender 4 = .ok (.ifCond .eq 10, 3) := by decide +kernel
theorem dX4_mender_7 : decode cX4_mender 7 = .ok (.iload_n 2, 1) := by decide +kernel
theorem dX4_mender_8 : decode cX4_mender 8 = .ok (.invokestatic 68, 3) := by decide +kernel
theorem dX4_mender_11 : decode cX4_mender 11 = .ok (.ifCond .ne 10, 3) := by decide +kernel
theorem dX4_mender_14 : decode cX4_mender 14 = .ok (.aload_n 0, 1) := by decide +kernel
theorem dX4_mender_15 : decode cX4_mender 15 = .ok (.ldc 48, 2) := by decide +kernel
theorem dX4_mender_17 : decode cX4_mender 17 = .ok (.invokevirtual 74, 3) := by decide +kernel
theorem dX4_mender_20 : decode cX4_mender 20 = .ok (.ireturn, 1) := by decide +kernel
theorem dX4_mender_21 : decode cX4_mender 21 = .ok (.aload_n 0, 1) := by decide +kernel
theorem dX4_mender_22 : decode cX4_mender 22 = .ok (.getfield 7, 3) := by decide +kernel
theorem dX4_mender_25 : decode cX4_mender 25 = .ok (.iconst 0, 1) := by decide +kernel
theorem dX4_mender_26 : decode cX4_mender 26 = .ok (.iaload, 1) := by decide +kernel
theorem dX4_mender_27 : decode cX4_mender 27 = .ok (.bipush 6, 2) := by decide +kernel
theorem dX4_mender_29 : decode cX4_mender 29 = .ok (.if_icmp .ne 12, 3) := by decide +kernel
theorem dX4_mender_32 : decode cX4_mender 32 = .ok (.aload_n 0, 1) := by decide +kernel
theorem dX4_mender_33 : decode cX4_mender 33 = .ok (.ldc 96, 2) := by decide +kernel
theorem dX4_mender_35 : decode cX4_mender 35 = .ok (.invokevirtual 74, 3) := by decide +kernel
theorem dX4_mender_38 : decode cX4_mender 38 = .ok (.goto 9, 3) := by decide +kernel
theorem dX4_mender_41 : decode cX4_mender 41 = .ok (.aload_n 0, 1) := by decide +kernel
theorem dX4_mender_42 : decode cX4_mender 42 = .ok (.iload_n 1, 1) := by decide +kernel
theorem dX4_mender_43 : decode cX4_mender 43 = .ok (.iload_n 2, 1) := by decide +kernel
theorem dX4_mender_44 : decode cX4_mender 44 = .ok (.invokevirtual 97, 3) := by decide +kernel
theorem dX4_mender_47 : decode cX4_mender 47 = .ok (.ireturn, 1) := by decide +kernel
theorem dX4_atLeastOne_0 : decode cX4_atLeastOne 0 = .ok (.iload_n 0, 1) := by decide +kernel
theorem dX4_atLeastOne_1 : decode cX4_atLeastOne 1 = .ok (.iconst 1, 1) := by decide +kernel
theorem dX4_atLeastOne_2 : decode cX4_atLeastOne 2 = .ok (.if_icmp .ge 7, 3) := by decide +kernel
theorem dX4_atLeastOne_5 : decode cX4_atLeastOne 5 = .ok (.iconst 1, 1) := by decide +kernel
theorem dX4_atLeastOne_6 : decode cX4_atLeastOne 6 = .ok (.goto 4, 3) := by decide +kernel
theorem dX4_atLeastOne_9 : decode cX4_atLeastOne 9 = .ok (.iload_n 0, 1) := by decide +kernel
theorem dX4_atLeastOne_10 : decode cX4_atLeastOne 10 = .ok (.ireturn, 1) := by decide +kernel
theorem dX4_costOf_0 : decode cX4_costOf 0 = .ok (.aload_n 0, 1) := by decide +kernel
theorem dX4_costOf_1 : decode cX4_costOf 1 = .ok (.getfield 7, 3) := by decide +kernel
theorem dX4_costOf_4 : decode cX4_costOf 4 = .ok (.iconst 3, 1) := by decide +kernel
theorem dX4_costOf_5 : decode cX4_costOf 5 = .ok (.iload_n 2, 1) := by decide +kernel
theorem dX4_costOf_6 : decode cX4_costOf 6 = .ok (.iadd, 1) := by decide +kernel
theorem dX4_costOf_7 : decode cX4_costOf 7 = .ok (.iaload, 1) := by decide +kernel
theorem dX4_costOf_8 : decode cX4_costOf 8 = .ok (.istore_n 3, 1) := by decide +kernel
theorem dX4_costOf_9 : decode cX4_costOf 9 = .ok (.aload_n 0, 1) := by decide +kernel
theorem dX4_costOf_10 : decode cX4_costOf 10 = .ok (.getfield 7, 3) := by decide +kernel
theorem dX4_costOf_13 : decode cX4_costOf 13 = .ok (.bipush 51, 2) := by decide +kernel
theorem dX4_costOf_15 : decode cX4_costOf 15 = .ok (.iload_n 2, 1) := by decide +kernel
theorem dX4_costOf_16 : decode cX4_costOf 16 = .ok (.iadd, 1) := by decide +kernel
theorem dX4_costOf_17 : decode cX4_costOf 17 = .ok (.iaload, 1) := by decide +kernel
theorem dX4_costOf_18 : decode cX4_costOf 18 = .ok (.istore 4, 2) := by decide +kernel
theorem dX4_costOf_20 : decode cX4_costOf 20 = .ok (.iconst 3, 1) := by decide +kernel
theorem dX4_costOf_21 : decode cX4_costOf 21 = .ok (.iload_n 3, 1) := by decide +kernel
theorem dX4_costOf_22 : decode cX4_costOf 22 = .ok (.iload 4, 2) := by decide +kernel
theorem dX4_costOf_24 : decode cX4_costOf 24 = .ok (.if_icmp .ge 10, 3) := by decide +kernel
theorem dX4_costOf_27 : decode cX4_costOf 27 = .ok (.iload 4, 2) := by decide +kernel
theorem dX4_costOf_29 : decode cX4_costOf 29 = .ok (.iload_n 3, 1) := by decide +kernel
theorem dX4_costOf_30 : decode cX4_costOf 30 = .ok (.isub, 1) := by decide +kernel
theorem dX4_costOf_31 : decode cX4_costOf 31 = .ok (.goto 7, 3) := by decide +kernel
theorem dX4_costOf_34 : decode cX4_costOf 34 = .ok (.iload_n 3, 1) := by decide +kernel
theorem dX4_costOf_35 : decode cX4_costOf 35 = .ok (.iload 4, 2) := by decide +kernel
theorem dX4_costOf_37 : decode cX4_costOf 37 = .ok (.isub, 1) := by decide +kernel
theorem dX4_costOf_38 : decode cX4_costOf 38 = .ok (.imul, 1) := by decide +kernel
theorem dX4_costOf_39 : decode cX4_costOf 39 = .ok (.iconst 2, 1) := by decide +kernel
theorem dX4_costOf_40 : decode cX4_costOf 40 = .ok (.iadd, 1) := by decide +kernel
theorem dX4_costOf_41 : decode cX4_costOf 41 = .ok (.istore 5, 2) := by decide +kernel
theorem dX4_costOf_43 : decode cX4_costOf 43 = .ok (.iload_n 3, 1) := by decide +kernel
theorem dX4_costOf_44 : decode cX4_costOf 44 = .ok (.iconst 1, 1) := by decide +kernel
theorem dX4_costOf_45 : decode cX4_costOf 45 = .ok (.if_icmp .eq 9, 3) := by decide +kernel
theorem dX4_costOf_48 : decode cX4_costOf 48 = .ok (.iload 4, 2) := by decide +kernel
theorem dX4_costOf_50 : decode cX4_costOf 50 = .ok (.iconst 1, 1) := by decide +kernel
theorem dX4_costOf_51 : decode cX4_costOf 51 = .ok (.if_icmp .ne 10, 3) := by decide +kernel
theorem dX4_costOf_54 : decode cX4_costOf 54 = .ok (.iload 5, 2) := by decide +kernel
theorem dX4_costOf_56 : decode cX4_costOf 56 = .ok (.iconst 2, 1) := by decide +kernel
theorem dX4_costOf_57 : decode cX4_costOf 57 = .ok (.idiv, 1) := by decide +kernel
theorem dX4_costOf_58 : decode cX4_costOf 58 = .ok (.goto 5, 3) := by decide +kernel
theorem dX4_costOf_61 : decode cX4_costOf 61 = .ok (.iload 5, 2) := by decide +kernel
theorem dX4_costOf_63 : decode cX4_costOf 63 = .ok (.istore 6, 2) := by decide +kernel
theorem dX4_costOf_65 : decode cX4_costOf 65 = .ok (.aload_n 0, 1) := by decide +kernel
theorem dX4_costOf_66 : decode cX4_costOf 66 = .ok (.iload_n 1, 1) := by decide +kernel
theorem dX4_costOf_67 : decode cX4_costOf 67 = .ok (.iconst 0, 1) := by decide +kernel
theorem dX4_costOf_68 : decode cX4_costOf 68 = .ok (.invokevirtual 86, 3) := by decide +kernel
theorem dX4_costOf_71 : decode cX4_costOf 71 = .ok (.tableswitch 101 1 5 #[33, 36, 45, 55, 79], 33) := by decide +kernel
theorem dX4_costOf_104 : decode cX4_costOf 104 = .ok (.iload 6, 2) := by decide +kernel
theorem dX4_costOf_106 : decode cX4_costOf 106 = .ok (.ireturn, 1) := by decide +kernel
theorem dX4_costOf_107 : decode cX4_costOf 107 = .ok (.iload 5, 2) := by decide +kernel
theorem dX4_costOf_109 : decode cX4_costOf 109 = .ok (.aload_n 0, 1) := by decide +kernel
theorem dX4_costOf_110 : decode cX4_costOf 110 = .ok (.iload_n 2, 1) := by decide +kernel
theorem dX4_costOf_111 : decode cX4_costOf 111 = .ok (.invokevirtual 80, 3) := by decide +kernel
theorem dX4_costOf_114 : decode cX4_costOf 114 = .ok (.iadd, 1) := by decide +kernel
theorem dX4_costOf_115 : decode cX4_costOf 115 = .ok (.ireturn, 1) := by decide +kernel
theorem dX4_costOf_116 : decode cX4_costOf 116 = .ok (.iconst 2, 1) := by decide +kernel
theorem dX4_costOf_117 : decode cX4_costOf 117 = .ok (.iconst 4, 1) := by decide +kernel
theorem dX4_costOf_118 : decode cX4_costOf 118 = .ok (.aload_n 0, 1) := by decide +kernel
theorem dX4_costOf_119 : decode cX4_costOf 119 = .ok (.iload_n 2, 1) := by decide +kernel
theorem dX4_costOf_120 : decode cX4_costOf 120 = .ok (.invokevirtual 80, 3) := by decide +kernel
theorem dX4_costOf_123 : decode cX4_costOf 123 = .ok (.iadd, 1) := by decide +kernel
theorem dX4_costOf_124 : decode cX4_costOf 124 = .ok (.imul, 1) := by decide +kernel
theorem dX4_costOf_125 : decode cX4_costOf 125 = .ok (.ireturn, 1) := by decide +kernel
theorem dX4_costOf_126 : decode cX4_costOf 126 = .ok (.iload_n 3, 1) := by decide +kernel
theorem dX4_costOf_127 : decode cX4_costOf 127 = .ok (.iconst 3, 1) := by decide +kernel
theorem dX4_costOf_128 : decode cX4_costOf 128 = .ok (.if_icmp .eq 9, 3) := by decide +kernel
theorem dX4_costOf_131 : decode cX4_costOf 131 = .ok (.iload 4, 2) := by decide +kernel
theorem dX4_costOf_133 : decode cX4_costOf 133 = .ok (.iconst 3, 1) := by decide +kernel
theorem dX4_costOf_134 : decode cX4_costOf 134 = .ok (.if_icmp .ne 13, 3) := by decide +kernel
theorem dX4_costOf_137 : decode cX4_costOf 137 = .ok (.iload 6, 2) := by decide +kernel
theorem dX4_costOf_139 : decode cX4_costOf 139 = .ok (.iconst 5, 1) := by decide +kernel
theorem dX4_costOf_140 : decode cX4_costOf 140 = .ok (.isub, 1) := by decide +kernel
theorem dX4_costOf_141 : decode cX4_costOf 141 = .ok (.invokestatic 100, 3) := by decide +kernel
theorem dX4_costOf_144 : decode cX4_costOf 144 = .ok (.goto 5, 3) := by decide +kernel
theorem dX4_costOf_147 : decode cX4_costOf 147 = .ok (.iload 6, 2) := by decide +kernel
theorem dX4_costOf_149 : decode cX4_costOf 149 = .ok (.ireturn, 1) := by decide +kernel
theorem dX4_costOf_150 : decode cX4_costOf 150 = .ok (.iload 5, 2) := by decide +kernel
theorem dX4_costOf_152 : decode cX4_costOf 152 = .ok (.aload_n 0, 1) := by decide +kernel
theorem dX4_costOf_153 : decode cX4_costOf 153 = .ok (.iload_n 2, 1) := by decide +kernel
theorem dX4_costOf_154 : decode cX4_costOf 154 = .ok (.invokevirtual 80, 3) := by decide +kernel
theorem dX4_costOf_157 : decode cX4_costOf 157 = .ok (.iadd, 1) := by decide +kernel
theorem dX4_costOf_158 : decode cX4_costOf 158 = .ok (.aload_n 0, 1) := by decide +kernel
theorem dX4_costOf_159 : decode cX4_costOf 159 = .ok (.iload_n 1, 1) := by decide +kernel
theorem dX4_costOf_160 : decode cX4_costOf 160 = .ok (.iconst 2, 1) := by decide +kernel
theorem dX4_costOf_161 : decode cX4_costOf 161 = .ok (.invokevirtual 86, 3) := by decide +kernel
theorem dX4_costOf_164 : decode cX4_costOf 164 = .ok (.bipush 10, 2) := by decide +kernel
theorem dX4_costOf_166 : decode cX4_costOf 166 = .ok (.idiv, 1) := by decide +kernel
theorem dX4_costOf_167 : decode cX4_costOf 167 = .ok (.isub, 1) := by decide +kernel
theorem dX4_costOf_168 : decode cX4_costOf 168 = .ok (.invokestatic 100, 3) := by decide +kernel
theorem dX4_costOf_171 : decode cX4_costOf 171 = .ok (.ireturn, 1) := by decide +kernel
theorem dX4_costOf_172 : decode cX4_costOf 172 = .ok (.iload 5, 2) := by decide +kernel
theorem dX4_costOf_174 : decode cX4_costOf 174 = .ok (.ireturn, 1) := by decide +kernel
theorem dX4_goesFor_0 : decode cX4_goesFor 0 = .ok (.iconst (-1), 1) := by decide +kernel
theorem dX4_goesFor_1 : decode cX4_goesFor 1 = .ok (.istore_n 2, 1) := by decide +kernel
theorem dX4_goesFor_2 : decode cX4_goesFor 2 = .ok (.iconst 0, 1) := by decide +kernel
theorem dX4_goesFor_3 : decode cX4_goesFor 3 = .ok (.istore_n 3, 1) := by decide +kernel
theorem dX4_goesFor_4 : decode cX4_goesFor 4 = .ok (.iconst 0, 1) := by decide +kernel
theorem dX4_goesFor_5 : decode cX4_goesFor 5 = .ok (.istore 4, 2) := by decide +kernel
theorem dX4_goesFor_7 : decode cX4_goesFor 7 = .ok (.iload 4, 2) := by decide +kernel
theorem dX4_goesFor_9 : decode cX4_goesFor 9 = .ok (.bipush 48, 2) := by decide +kernel
theorem dX4_goesFor_11 : decode cX4_goesFor 11 = .ok (.if_icmp .ge 84, 3) := by decide +kernel
theorem dX4_goesFor_14 : decode cX4_goesFor 14 = .ok (.aload_n 0, 1) := by decide +kernel
theorem dX4_goesFor_15 : decode cX4_goesFor 15 = .ok (.iload 4, 2) := by decide +kernel
theorem dX4_goesFor_17 : decode cX4_goesFor 17 = .ok (.invokevirtual 61, 3) := by decide +kernel
theorem dX4_goesFor_20 : decode cX4_goesFor 20 = .ok (.ifCond .ne 7, 3) := by decide +kernel
theorem dX4_goesFor_23 : decode cX4_goesFor 23 = .ok (.iconst 0, 1) := by decide +kernel
theorem dX4_goesFor_24 : decode cX4_goesFor 24 = .ok (.goto 37, 3) := by decide +kernel
theorem dX4_goesFor_27 : decode cX4_goesFor 27 = .ok (.aload_n 0, 1) := by decide +kernel
theorem dX4_goesFor_28 : decode cX4_goesFor 28 = .ok (.iload_n 1, 1) := by decide +kernel
theorem dX4_goesFor_29 : decode cX4_goesFor 29 = .ok (.iconst 0, 1) := by decide +kernel
theorem dX4_goesFor_30 : decode cX4_goesFor 30 = .ok (.invokevirtual 86, 3) := by decide +kernel
theorem dX4_goesFor_33 : decode cX4_goesFor 33 = .ok (.iconst 5, 1) := by decide +kernel
theorem dX4_goesFor_34 : decode cX4_goesFor 34 = .ok (.if_icmp .ne 13, 3) := by decide +kernel
theorem dX4_goesFor_37 : decode cX4_goesFor 37 = .ok (.aload_n 0, 1) := by decide +kernel
theorem dX4_goesFor_38 : decode cX4_goesFor 38 = .ok (.iload_n 1, 1) := by decide +kernel
theorem dX4_goesFor_39 : decode cX4_goesFor 39 = .ok (.iload 4, 2) := by decide +kernel
theorem dX4_goesFor_41 : decode cX4_goesFor 41 = .ok (.invokevirtual 103, 3) := by decide +kernel
theorem dX4_goesFor_44 : decode cX4_goesFor 44 = .ok (.goto 17, 3) := by decide +kernel
theorem dX4_goesFor_47 : decode cX4_goesFor 47 = .ok (.bipush 100, 2) := by decide +kernel
theorem dX4_goesFor_49 : decode cX4_goesFor 49 = .ok (.aload_n 0, 1) := by decide +kernel
theorem dX4_goesFor_50 : decode cX4_goesFor 50 = .ok (.iload_n 1, 1) := by decide +kernel
theorem dX4_goesFor_51 : decode cX4_goesFor 51 = .ok (.iconst 1, 1) := by decide +kernel
theorem dX4_goesFor_52 : decode cX4_goesFor 52 = .ok (.invokevirtual 86, 3) := by decide +kernel
theorem dX4_goesFor_55 : decode cX4_goesFor 55 = .ok (.iload 4, 2) := by decide +kernel
theorem dX4_goesFor_57 : decode cX4_goesFor 57 = .ok (.invokestatic 106, 3) := by decide +kernel
theorem dX4_goesFor_60 : decode cX4_goesFor 60 = .ok (.isub, 1) := by decide +kernel
theorem dX4_goesFor_61 : decode cX4_goesFor 61 = .ok (.istore 5, 2) := by decide +kernel
theorem dX4_goesFor_63 : decode cX4_goesFor 63 = .ok (.iload 5, 2) := by decide +kernel
theorem dX4_goesFor_65 : decode cX4_goesFor 65 = .ok (.iload_n 3, 1) := by decide +kernel
theorem dX4_goesFor_66 : decode cX4_goesFor 66 = .ok (.if_icmp .le 8, 3) := by decide +kernel
theorem dX4_goesFor_69 : decode cX4_goesFor 69 = .ok (.iload 4, 2) := by decide +kernel
theorem dX4_goesFor_71 : decode cX4_goesFor 71 = .ok (.goto 4, 3) := by decide +kernel
theorem dX4_goesFor_74 : decode cX4_goesFor 74 = .ok (.iload_n 2, 1) := by decide +kernel
theorem dX4_goesFor_75 : decode cX4_goesFor 75 = .ok (.istore_n 2, 1) := by decide +kernel
theorem dX4_goesFor_76 : decode cX4_goesFor 76 = .ok (.iload 5, 2) := by decide +kernel
theorem dX4_goesFor_78 : decode cX4_goesFor 78 = .ok (.iload_n 3, 1) := by decide +kernel
theorem dX4_goesFor_79 : decode cX4_goesFor 79 = .ok (.if_icmp .le 8, 3) := by decide +kernel
theorem dX4_goesFor_82 : decode cX4_goesFor 82 = .ok (.iload 5, 2) := by decide +kernel
theorem dX4_goesFor_84 : decode cX4_goesFor 84 = .ok (.goto 4, 3) := by decide +kernel
theorem dX4_goesFor_87 : decode cX4_goesFor 87 = .ok (.iload_n 3, 1) := by decide +kernel
theorem dX4_goesFor_88 : decode cX4_goesFor 88 = .ok (.istore_n 3, 1) := by decide +kernel
theorem dX4_goesFor_89 : decode cX4_goesFor 89 = .ok (.iinc 4 1, 3) := by decide +kernel
theorem dX4_goesFor_92 : decode cX4_goesFor 92 = .ok (.goto (-85), 3) := by decide +kernel
theorem dX4_goesFor_95 : decode cX4_goesFor 95 = .ok (.iload_n 2, 1) := by decide +kernel
theorem dX4_goesFor_96 : decode cX4_goesFor 96 = .ok (.ireturn, 1) := by decide +kernel
theorem dX4_of_0 : decode cX4_of 0 = .ok (.aload_n 0, 1) := by decide +kernel
theorem dX4_of_1 : decode cX4_of 1 = .ok (.iload_n 1, 1) := by decide +kernel
theorem dX4_of_2 : decode cX4_of 2 = .ok (.invokevirtual 109, 3) := by decide +kernel
theorem dX4_of_5 : decode cX4_of 5 = .ok (.ifCond .eq 15, 3) := by decide +kernel
theorem dX4_of_8 : decode cX4_of 8 = .ok (.iload_n 2, 1) := by decide +kernel
theorem dX4_of_9 : decode cX4_of 9 = .ok (.i2l, 1) := by decide +kernel
theorem dX4_of_10 : decode cX4_of 10 = .ok (.lconst 0, 1) := by decide +kernel
theorem dX4_of_11 : decode cX4_of 11 = .ok (.ldc2_w 55, 3) := by decide +kernel
theorem dX4_of_14 : decode cX4_of 14 = .ok (.invokestatic 51, 3) := by decide +kernel
theorem dX4_of_17 : decode cX4_of 17 = .ok (.ifCond .ne 10, 3) := by decide +kernel
theorem dX4_of_20 : decode cX4_of 20 = .ok (.aload_n 0, 1) := by decide +kernel
theorem dX4_of_21 : decode cX4_of 21 = .ok (.ldc 48, 2) := by decide +kernel
theorem dX4_of_23 : decode cX4_of 23 = .ok (.invokevirtual 74, 3) := by decide +kernel
theorem dX4_of_26 : decode cX4_of 26 = .ok (.ireturn, 1) := by decide +kernel
theorem dX4_of_27 : decode cX4_of 27 = .ok (.aload_n 0, 1) := by decide +kernel
theorem dX4_of_28 : decode cX4_of 28 = .ok (.iload_n 1, 1) := by decide +kernel
theorem dX4_of_29 : decode cX4_of 29 = .ok (.invokevirtual 112, 3) := by decide +kernel
theorem dX4_of_32 : decode cX4_of 32 = .ok (.istore_n 3, 1) := by decide +kernel
theorem dX4_of_33 : decode cX4_of 33 = .ok (.iload_n 2, 1) := by decide +kernel
theorem dX4_of_34 : decode cX4_of 34 = .ok (.iconst 4, 1) := by decide +kernel
theorem dX4_of_35 : decode cX4_of 35 = .ok (.if_icmp .ge 12, 3) := by decide +kernel
theorem dX4_of_38 : decode cX4_of 38 = .ok (.aload_n 0, 1) := by decide +kernel
theorem dX4_of_39 : decode cX4_of 39 = .ok (.iload_n 1, 1) := by decide +kernel
theorem dX4_of_40 : decode cX4_of 40 = .ok (.iload_n 2, 1) := by decide +kernel
theorem dX4_of_41 : decode cX4_of 41 = .ok (.invokevirtual 86, 3) := by decide +kernel
theorem dX4_of_44 : decode cX4_of 44 = .ok (.goto 26, 3) := by decide +kernel
theorem dX4_of_47 : decode cX4_of 47 = .ok (.iload_n 2, 1) := by decide +kernel
theorem dX4_of_48 : decode cX4_of 48 = .ok (.iconst 4, 1) := by decide +kernel
theorem dX4_of_49 : decode cX4_of 49 = .ok (.if_icmp .ne 7, 3) := by decide +kernel
theorem dX4_of_52 : decode cX4_of 52 = .ok (.iload_n 3, 1) := by decide +kernel
theorem dX4_of_53 : decode cX4_of 53 = .ok (.goto 17, 3) := by decide +kernel
theorem dX4_of_56 : decode cX4_of 56 = .ok (.iload_n 3, 1) := by decide +kernel
theorem dX4_of_57 : decode cX4_of 57 = .ok (.ifCond .ge 7, 3) := by decide +kernel
theorem dX4_of_60 : decode cX4_of 60 = .ok (.iconst 0, 1) := by decide +kernel
theorem dX4_of_61 : decode cX4_of 61 = .ok (.goto 9, 3) := by decide +kernel
theorem dX4_of_64 : decode cX4_of 64 = .ok (.aload_n 0, 1) := by decide +kernel
theorem dX4_of_65 : decode cX4_of 65 = .ok (.iload_n 1, 1) := by decide +kernel
theorem dX4_of_66 : decode cX4_of 66 = .ok (.iload_n 3, 1) := by decide +kernel
theorem dX4_of_67 : decode cX4_of 67 = .ok (.invokevirtual 103, 3) := by decide +kernel
theorem dX4_of_70 : decode cX4_of 70 = .ok (.ireturn, 1) := by decide +kernel
theorem dX4_set_0 : decode cX4_set 0 = .ok (.iload_n 2, 1) := by decide +kernel
theorem dX4_set_1 : decode cX4_set 1 = .ok (.iconst 1, 1) := by decide +kernel
theorem dX4_set_2 : decode cX4_set 2 = .ok (.if_icmp .ne 10, 3) := by decide +kernel
theorem dX4_set_5 : decode cX4_set 5 = .ok (.iload_n 3, 1) := by decide +kernel
theorem dX4_set_6 : decode cX4_set 6 = .ok (.invokestatic 68, 3) := by decide +kernel
theorem dX4_set_9 : decode cX4_set 9 = .ok (.goto 25, 3) := by decide +kernel
theorem dX4_set_12 : decode cX4_set 12 = .ok (.iload_n 2, 1) := by decide +kernel
theorem dX4_set_13 : decode cX4_set 13 = .ok (.iconst 2, 1) := by decide +kernel
theorem dX4_set_14 : decode cX4_set 14 = .ok (.if_icmp .ne 19, 3) := by decide +kernel
theorem dX4_set_17 : decode cX4_set 17 = .ok (.iload_n 3, 1) := by decide +kernel
theorem dX4_set_18 : decode cX4_set 18 = .ok (.i2l, 1) := by decide +kernel
theorem dX4_set_19 : decode cX4_set 19 = .ok (.lconst 0, 1) := by decide +kernel
theorem dX4_set_20 : decode cX4_set 20 = .ok (.ldc2_w 115, 3) := by decide +kernel
theorem dX4_set_23 : decode cX4_set 23 = .ok (.invokestatic 51, 3) := by decide +kernel
theorem dX4_set_26 : decode cX4_set 26 = .ok (.ifCond .eq 7, 3) := by decide +kernel
theorem dX4_set_29 : decode cX4_set 29 = .ok (.iconst 1, 1) := by decide +kernel
theorem dX4_set_30 : decode cX4_set 30 = .ok (.goto 4, 3) := by decide +kernel
theorem dX4_set_33 : decode cX4_set 33 = .ok (.iconst 0, 1) := by decide +kernel
theorem dX4_set_34 : decode cX4_set 34 = .ok (.istore 4, 2) := by decide +kernel
theorem dX4_set_36 : decode cX4_set 36 = .ok (.aload_n 0, 1) := by decide +kernel
theorem dX4_set_37 : decode cX4_set 37 = .ok (.iload_n 1, 1) := by decide +kernel
theorem dX4_set_38 : decode cX4_set 38 = .ok (.invokevirtual 109, 3) := by decide +kernel
theorem dX4_set_41 : decode cX4_set 41 = .ok (.ifCond .eq 21, 3) := by decide +kernel
theorem dX4_set_44 : decode cX4_set 44 = .ok (.iload 4, 2) := by decide +kernel
theorem dX4_set_46 : decode cX4_set 46 = .ok (.ifCond .eq 16, 3) := by decide +kernel
theorem dX4_set_49 : decode cX4_set 49 = .ok (.aload_n 0, 1) := by decide +kernel
theorem dX4_set_50 : decode cX4_set 50 = .ok (.iload_n 1, 1) := by decide +kernel
theorem dX4_set_51 : decode cX4_set 51 = .ok (.iload_n 2, 1) := by decide +kernel
theorem dX4_set_52 : decode cX4_set 52 = .ok (.invokestatic 57, 3) := by decide +kernel
theorem dX4_set_55 : decode cX4_set 55 = .ok (.iload_n 3, 1) := by decide +kernel
theorem dX4_set_56 : decode cX4_set 56 = .ok (.invokevirtual 71, 3) := by decide +kernel
theorem dX4_set_59 : decode cX4_set 59 = .ok (.goto 9, 3) := by decide +kernel
theorem dX4_set_62 : decode cX4_set 62 = .ok (.aload_n 0, 1) := by decide +kernel
theorem dX4_set_63 : decode cX4_set 63 = .ok (.ldc 48, 2) := by decide +kernel
theorem dX4_set_65 : decode cX4_set 65 = .ok (.invokevirtual 74, 3) := by decide +kernel
theorem dX4_set_68 : decode cX4_set 68 = .ok (.ireturn, 1) := by decide +kernel
theorem dX4_turn_0 : decode cX4_turn 0 = .ok (.aload_n 0, 1) := by decide +kernel
theorem dX4_turn_1 : decode cX4_turn 1 = .ok (.iload_n 1, 1) := by decide +kernel
theorem dX4_turn_2 : decode cX4_turn 2 = .ok (.invokevirtual 109, 3) := by decide +kernel
theorem dX4_turn_5 : decode cX4_turn 5 = .ok (.ifCond .eq 23, 3) := by decide +kernel
theorem dX4_turn_8 : decode cX4_turn 8 = .ok (.iload_n 2, 1) := by decide +kernel
theorem dX4_turn_9 : decode cX4_turn 9 = .ok (.invokestatic 93, 3) := by decide +kernel
theorem dX4_turn_12 : decode cX4_turn 12 = .ok (.ifCond .eq 16, 3) := by decide +kernel
theorem dX4_turn_15 : decode cX4_turn 15 = .ok (.aload_n 0, 1) := by decide +kernel
theorem dX4_turn_16 : decode cX4_turn 16 = .ok (.iload_n 1, 1) := by decide +kernel
theorem dX4_turn_17 : decode cX4_turn 17 = .ok (.iconst 0, 1) := by decide +kernel
theorem dX4_turn_18 : decode cX4_turn 18 = .ok (.invokestatic 57, 3) := by decide +kernel
theorem dX4_turn_21 : decode cX4_turn 21 = .ok (.iload_n 2, 1) := by decide +kernel
theorem dX4_turn_22 : decode cX4_turn 22 = .ok (.invokevirtual 71, 3) := by decide +kernel
theorem dX4_turn_25 : decode cX4_turn 25 = .ok (.goto 9, 3) := by decide +kernel
theorem dX4_turn_28 : decode cX4_turn 28 = .ok (.aload_n 0, 1) := by decide +kernel
theorem dX4_turn_29 : decode cX4_turn 29 = .ok (.ldc 48, 2) := by decide +kernel
theorem dX4_turn_31 : decode cX4_turn 31 = .ok (.invokevirtual 74, 3) := by decide +kernel
theorem dX4_turn_34 : decode cX4_turn 34 = .ok (.ireturn, 1) := by decide +kernel
theorem dX4_isUnder_0 : decode cX4_isUnder 0 = .ok (.iload_n 1, 1) := by decide +kernel
theorem dX4_isUnder_1 : decode cX4_isUnder 1 = .ok (.ifCond .eq 20, 3) := by decide +kernel
theorem dX4_isUnder_4 : decode cX4_isUnder 4 = .ok (.iload_n 0, 1) := by decide +kernel
theorem dX4_isUnder_5 : decode cX4_isUnder 5 = .ok (.iload_n 1, 1) := by decide +kernel
theorem dX4_isUnder_6 : decode cX4_isUnder 6 = .ok (.if_icmp .eq 15, 3) := by decide +kernel
theorem dX4_isUnder_9 : decode cX4_isUnder 9 = .ok (.iload_n 0, 1) := by decide +kernel
theorem dX4_isUnder_10 : decode cX4_isUnder 10 = .ok (.iconst 3, 1) := by decide +kernel
theorem dX4_isUnder_11 : decode cX4_isUnder 11 = .ok (.if_icmp .le 14, 3) := by decide +kernel
theorem dX4_isUnder_14 : decode cX4_isUnder 14 = .ok (.iload_n 0, 1) := by decide +kernel
theorem dX4_isUnder_15 : decode cX4_isUnder 15 = .ok (.iconst 3, 1) := by decide +kernel
theorem dX4_isUnder_16 : decode cX4_isUnder 16 = .ok (.isub, 1) := by decide +kernel
theorem dX4_isUnder_17 : decode cX4_isUnder 17 = .ok (.iload_n 1, 1) := by decide +kernel
theorem dX4_isUnder_18 : decode cX4_isUnder 18 = .ok (.if_icmp .ne 7, 3) := by decide +kernel
theorem dX4_isUnder_21 : decode cX4_isUnder 21 = .ok (.iconst 1, 1) := by decide +kernel
theorem dX4_isUnder_22 : decode cX4_isUnder 22 = .ok (.goto 4, 3) := by decide +kernel
theorem dX4_isUnder_25 : decode cX4_isUnder 25 = .ok (.iconst 0, 1) := by decide +kernel
theorem dX4_isUnder_26 : decode cX4_isUnder 26 = .ok (.ireturn, 1) := by decide +kernel
theorem dX4_as_0 : decode cX4_as 0 = .ok (.aload_n 0, 1) := by decide +kernel
theorem dX4_as_1 : decode cX4_as 1 = .ok (.iload_n 1, 1) := by decide +kernel
theorem dX4_as_2 : decode cX4_as 2 = .ok (.invokevirtual 109, 3) := by decide +kernel
theorem dX4_as_5 : decode cX4_as 5 = .ok (.ifCond .eq 10, 3) := by decide +kernel
theorem dX4_as_8 : decode cX4_as 8 = .ok (.iload_n 2, 1) := by decide +kernel
theorem dX4_as_9 : decode cX4_as 9 = .ok (.invokestatic 93, 3) := by decide +kernel
theorem dX4_as_12 : decode cX4_as 12 = .ok (.ifCond .ne 10, 3) := by decide +kernel
theorem dX4_as_15 : decode cX4_as 15 = .ok (.aload_n 0, 1) := by decide +kernel
theorem dX4_as_16 : decode cX4_as 16 = .ok (.ldc 48, 2) := by decide +kernel
theorem dX4_as_18 : decode cX4_as 18 = .ok (.invokevirtual 74, 3) := by decide +kernel
theorem dX4_as_21 : decode cX4_as 21 = .ok (.ireturn, 1) := by decide +kernel
theorem dX4_as_22 : decode cX4_as 22 = .ok (.aload_n 0, 1) := by decide +kernel
theorem dX4_as_23 : decode cX4_as 23 = .ok (.iload_n 1, 1) := by decide +kernel
theorem dX4_as_24 : decode cX4_as 24 = .ok (.iconst 0, 1) := by decide +kernel
theorem dX4_as_25 : decode cX4_as 25 = .ok (.invokevirtual 86, 3) := by decide +kernel
theorem dX4_as_28 : decode cX4_as 28 = .ok (.iload_n 2, 1) := by decide +kernel
theorem dX4_as_29 : decode cX4_as 29 = .ok (.invokestatic 117, 3) := by decide +kernel
theorem dX4_as_32 : decode cX4_as 32 = .ok (.ifCond .eq 12, 3) := by decide +kernel
theorem dX4_as_35 : decode cX4_as 35 = .ok (.aload_n 0, 1) := by decide +kernel
theorem dX4_as_36 : decode cX4_as 36 = .ok (.iload_n 1, 1) := by decide +kernel
theorem dX4_as_37 : decode cX4_as 37 = .ok (.iconst 2, 1) := by decide +kernel
theorem dX4_as_38 : decode cX4_as 38 = .ok (.invokevirtual 86, 3) := by decide +kernel
theorem dX4_as_41 : decode cX4_as 41 = .ok (.goto 9, 3) := by decide +kernel
theorem dX4_as_44 : decode cX4_as 44 = .ok (.aload_n 0, 1) := by decide +kernel
theorem dX4_as_45 : decode cX4_as 45 = .ok (.ldc 121, 2) := by decide +kernel
theorem dX4_as_47 : decode cX4_as 47 = .ok (.invokevirtual 74, 3) := by decide +kernel
theorem dX4_as_50 : decode cX4_as 50 = .ok (.ireturn, 1) := by decide +kernel
theorem dX4_cost_0 : decode cX4_cost 0 = .ok (.aload_n 0, 1) := by decide +kernel
theorem dX4_cost_1 : decode cX4_cost 1 = .ok (.iload_n 1, 1) := by decide +kernel
theorem dX4_cost_2 : decode cX4_cost 2 = .ok (.invokevirtual 109, 3) := by decide +kernel
theorem dX4_cost_5 : decode cX4_cost 5 = .ok (.ifCond .eq 10, 3) := by decide +kernel
theorem dX4_cost_8 : decode cX4_cost 8 = .ok (.iload_n 2, 1) := by decide +kernel
theorem dX4_cost_9 : decode cX4_cost 9 = .ok (.invokestatic 68, 3) := by decide +kernel
theorem dX4_cost_12 : decode cX4_cost 12 = .ok (.ifCond .ne 10, 3) := by decide +kernel
theorem dX4_cost_15 : decode cX4_cost 15 = .ok (.aload_n 0, 1) := by decide +kernel
theorem dX4_cost_16 : decode cX4_cost 16 = .ok (.ldc 48, 2) := by decide +kernel
theorem dX4_cost_18 : decode cX4_cost 18 = .ok (.invokevirtual 74, 3) := by decide +kernel
theorem dX4_cost_21 : decode cX4_cost 21 = .ok (.ireturn, 1) := by decide +kernel
theorem dX4_cost_22 : decode cX4_cost 22 = .ok (.aload_n 0, 1) := by decide +kernel
theorem dX4_cost_23 : decode cX4_cost 23 = .ok (.iload_n 2, 1) := by decide +kernel
theorem dX4_cost_24 : decode cX4_cost 24 = .ok (.invokevirtual 61, 3) := by decide +kernel
theorem dX4_cost_27 : decode cX4_cost 27 = .ok (.ifCond .eq 12, 3) := by decide +kernel
theorem dX4_cost_30 : decode cX4_cost 30 = .ok (.aload_n 0, 1) := by decide +kernel
theorem dX4_cost_31 : decode cX4_cost 31 = .ok (.iload_n 1, 1) := by decide +kernel
theorem dX4_cost_32 : decode cX4_cost 32 = .ok (.iload_n 2, 1) := by decide +kernel
theorem dX4_cost_33 : decode cX4_cost 33 = .ok (.invokevirtual 103, 3) := by decide +kernel
theorem dX4_cost_36 : decode cX4_cost 36 = .ok (.goto 9, 3) := by decide +kernel
theorem dX4_cost_39 : decode cX4_cost 39 = .ok (.aload_n 0, 1) := by decide +kernel
theorem dX4_cost_40 : decode cX4_cost 40 = .ok (.ldc 122, 2) := by decide +kernel
theorem dX4_cost_42 : decode cX4_cost 42 = .ok (.invokevirtual 74, 3) := by decide +kernel
theorem dX4_cost_45 : decode cX4_cost 45 = .ok (.ireturn, 1) := by decide +kernel
theorem dX4_mends_0 : decode cX4_mends 0 = .ok (.aload_n 0, 1) := by decide +kernel
theorem dX4_mends_1 : decode cX4_mends 1 = .ok (.getfield 7, 3) := by decide +kernel
theorem dX4_mends_4 : decode cX4_mends 4 = .ok (.iload_n 1, 1) := by decide +kernel
theorem dX4_mends_5 : decode cX4_mends 5 = .ok (.iconst 1, 1) := by decide +kernel
theorem dX4_mends_6 : decode cX4_mends 6 = .ok (.invokestatic 57, 3) := by decide +kernel
theorem dX4_mends_9 : decode cX4_mends 9 = .ok (.iload_n 2, 1) := by decide +kernel
theorem dX4_mends_10 : decode cX4_mends 10 = .ok (.iastore, 1) := by decide +kernel
theorem dX4_mends_11 : decode cX4_mends 11 = .ok (.aload_n 0, 1) := by decide +kernel
theorem dX4_mends_12 : decode cX4_mends 12 = .ok (.iload_n 1, 1) := by decide +kernel
theorem dX4_mends_13 : decode cX4_mends 13 = .ok (.iconst 0, 1) := by decide +kernel
theorem dX4_mends_14 : decode cX4_mends 14 = .ok (.invokevirtual 86, 3) := by decide +kernel
theorem dX4_mends_17 : decode cX4_mends 17 = .ok (.iconst 3, 1) := by decide +kernel
theorem dX4_mends_18 : decode cX4_mends 18 = .ok (.if_icmp .ne 21, 3) := by decide +kernel
theorem dX4_mends_21 : decode cX4_mends 21 = .ok (.aload_n 0, 1) := by decide +kernel
theorem dX4_mends_22 : decode cX4_mends 22 = .ok (.getfield 7, 3) := by decide +kernel
theorem dX4_mends_25 : decode cX4_mends 25 = .ok (.bipush 51, 2) := by decide +kernel
theorem dX4_mends_27 : decode cX4_mends 27 = .ok (.iload_n 2, 1) := by decide +kernel
theorem dX4_mends_28 : decode cX4_mends 28 = .ok (.iadd, 1) := by decide +kernel
theorem dX4_mends_29 : decode cX4_mends 29 = .ok (.aload_n 0, 1) := by decide +kernel
theorem dX4_mends_30 : decode cX4_mends 30 = .ok (.getfield 7, 3) := by decide +kernel
theorem dX4_mends_33 : decode cX4_mends 33 = .ok (.iconst 3, 1) := by decide +kernel
theorem dX4_mends_34 : decode cX4_mends 34 = .ok (.iload_n 2, 1) := by decide +kernel
theorem dX4_mends_35 : decode cX4_mends 35 = .ok (.iadd, 1) := by decide +kernel
theorem dX4_mends_36 : decode cX4_mends 36 = .ok (.iaload, 1) := by decide +kernel
theorem dX4_mends_37 : decode cX4_mends 37 = .ok (.iastore, 1) := by decide +kernel
theorem dX4_mends_38 : decode cX4_mends 38 = .ok (.return_, 1) := by decide +kernel
theorem dX4_mends_39 : decode cX4_mends 39 = .ok (.aload_n 0, 1) := by decide +kernel
theorem dX4_mends_40 : decode cX4_mends 40 = .ok (.getfield 7, 3) := by decide +kernel
theorem dX4_mends_43 : decode cX4_mends 43 = .ok (.iconst 3, 1) := by decide +kernel
theorem dX4_mends_44 : decode cX4_mends 44 = .ok (.iload_n 2, 1) := by decide +kernel
theorem dX4_mends_45 : decode cX4_mends 45 = .ok (.iadd, 1) := by decide +kernel
theorem dX4_mends_46 : decode cX4_mends 46 = .ok (.aload_n 0, 1) := by decide +kernel
theorem dX4_mends_47 : decode cX4_mends 47 = .ok (.getfield 7, 3) := by decide +kernel
theorem dX4_mends_50 : decode cX4_mends 50 = .ok (.bipush 51, 2) := by decide +kernel
theorem dX4_mends_52 : decode cX4_mends 52 = .ok (.iload_n 2, 1) := by decide +kernel
theorem dX4_mends_53 : decode cX4_mends 53 = .ok (.iadd, 1) := by decide +kernel
theorem dX4_mends_54 : decode cX4_mends 54 = .ok (.iaload, 1) := by decide +kernel
theorem dX4_mends_55 : decode cX4_mends 55 = .ok (.iastore, 1) := by decide +kernel
theorem dX4_mends_56 : decode cX4_mends 56 = .ok (.iconst 0, 1) := by decide +kernel
theorem dX4_mends_57 : decode cX4_mends 57 = .ok (.istore_n 3, 1) := by decide +kernel
theorem dX4_mends_58 : decode cX4_mends 58 = .ok (.iload_n 3, 1) := by decide +kernel
theorem dX4_mends_59 : decode cX4_mends 59 = .ok (.iconst 4, 1) := by decide +kernel
theorem dX4_mends_60 : decode cX4_mends 60 = .ok (.if_icmp .ge 95, 3) := by decide +kernel
theorem dX4_mends_63 : decode cX4_mends 63 = .ok (.iload_n 2, 1) := by decide +kernel
theorem dX4_mends_64 : decode cX4_mends 64 = .ok (.iload_n 3, 1) := by decide +kernel
theorem dX4_mends_65 : decode cX4_mends 65 = .ok (.invokestatic 65, 3) := by decide +kernel
theorem dX4_mends_68 : decode cX4_mends 68 = .ok (.istore 4, 2) := by decide +kernel
theorem dX4_mends_70 : decode cX4_mends 70 = .ok (.iload 4, 2) := by decide +kernel
theorem dX4_mends_72 : decode cX4_mends 72 = .ok (.ifCond .lt 38, 3) := by decide +kernel
theorem dX4_mends_75 : decode cX4_mends 75 = .ok (.aload_n 0, 1) := by decide +kernel
theorem dX4_mends_76 : decode cX4_mends 76 = .ok (.getfield 7, 3) := by decide +kernel
theorem dX4_mends_79 : decode cX4_mends 79 = .ok (.iconst 3, 1) := by decide +kernel
theorem dX4_mends_80 : decode cX4_mends 80 = .ok (.iload_n 2, 1) := by decide +kernel
theorem dX4_mends_81 : decode cX4_mends 81 = .ok (.iadd, 1) := by decide +kernel
theorem dX4_mends_82 : decode cX4_mends 82 = .ok (.iaload, 1) := by decide +kernel
theorem dX4_mends_83 : decode cX4_mends 83 = .ok (.iconst 1, 1) := by decide +kernel
theorem dX4_mends_84 : decode cX4_mends 84 = .ok (.if_icmp .ne 26, 3) := by decide +kernel
theorem dX4_mends_87 : decode cX4_mends 87 = .ok (.aload_n 0, 1) := by decide +kernel
theorem dX4_mends_88 : decode cX4_mends 88 = .ok (.getfield 7, 3) := by decide +kernel
theorem dX4_mends_91 : decode cX4_mends 91 = .ok (.iconst 3, 1) := by decide +kernel
theorem dX4_mends_92 : decode cX4_mends 92 = .ok (.iload 4, 2) := by decide +kernel
theorem dX4_mends_94 : decode cX4_mends 94 = .ok (.iadd, 1) := by decide +kernel
theorem dX4_mends_95 : decode cX4_mends 95 = .ok (.iaload, 1) := by decide +kernel
theorem dX4_mends_96 : decode cX4_mends 96 = .ok (.iconst 5, 1) := by decide +kernel
theorem dX4_mends_97 : decode cX4_mends 97 = .ok (.if_icmp .ne 13, 3) := by decide +kernel
theorem dX4_mends_100 : decode cX4_mends 100 = .ok (.aload_n 0, 1) := by decide +kernel
theorem dX4_mends_101 : decode cX4_mends 101 = .ok (.getfield 7, 3) := by decide +kernel
theorem dX4_mends_104 : decode cX4_mends 104 = .ok (.iconst 3, 1) := by decide +kernel
theorem dX4_mends_105 : decode cX4_mends 105 = .ok (.iload 4, 2) := by decide +kernel
theorem dX4_mends_107 : decode cX4_mends 107 = .ok (.iadd, 1) := by decide +kernel
theorem dX4_mends_108 : decode cX4_mends 108 = .ok (.iconst 0, 1) := by decide +kernel
theorem dX4_mends_109 : decode cX4_mends 109 = .ok (.iastore, 1) := by decide +kernel
theorem dX4_mends_110 : decode cX4_mends 110 = .ok (.iload 4, 2) := by decide +kernel
theorem dX4_mends_112 : decode cX4_mends 112 = .ok (.ifCond .lt 37, 3) := by decide +kernel
theorem dX4_mends_115 : decode cX4_mends 115 = .ok (.aload_n 0, 1) := by decide +kernel
theorem dX4_mends_116 : decode cX4_mends 116 = .ok (.getfield 7, 3) := by decide +kernel
theorem dX4_mends_119 : decode cX4_mends 119 = .ok (.iconst 3, 1) := by decide +kernel
theorem dX4_mends_120 : decode cX4_mends 120 = .ok (.iload_n 2, 1) := by decide +kernel
theorem dX4_mends_121 : decode cX4_mends 121 = .ok (.iadd, 1) := by decide +kernel
theorem dX4_mends_122 : decode cX4_mends 122 = .ok (.iaload, 1) := by decide +kernel
theorem dX4_mends_123 : decode cX4_mends 123 = .ok (.iconst 3, 1) := by decide +kernel
theorem dX4_mends_124 : decode cX4_mends 124 = .ok (.if_icmp .ne 25, 3) := by decide +kernel
theorem dX4_mends_127 : decode cX4_mends 127 = .ok (.aload_n 0, 1) := by decide +kernel
theorem dX4_mends_128 : decode cX4_mends 128 = .ok (.getfield 7, 3) := by decide +kernel
theorem dX4_mends_131 : decode cX4_mends 131 = .ok (.iconst 3, 1) := by decide +kernel
theorem dX4_mends_132 : decode cX4_mends 132 = .ok (.iload 4, 2) := by decide +kernel
theorem dX4_mends_134 : decode cX4_mends 134 = .ok (.iadd, 1) := by decide +kernel
theorem dX4_mends_135 : decode cX4_mends 135 = .ok (.iaload, 1) := by decide +kernel
theorem dX4_mends_136 : decode cX4_mends 136 = .ok (.ifCond .ne 13, 3) := by decide +kernel
theorem dX4_mends_139 : decode cX4_mends 139 = .ok (.aload_n 0, 1) := by decide +kernel
theorem dX4_mends_140 : decode cX4_mends 140 = .ok (.getfield 7, 3) := by decide +kernel
theorem dX4_mends_143 : decode cX4_mends 143 = .ok (.iconst 3, 1) := by decide +kernel
theorem dX4_mends_144 : decode cX4_mends 144 = .ok (.iload 4, 2) := by decide +kernel
theorem dX4_mends_146 : decode cX4_mends 146 = .ok (.iadd, 1) := by decide +kernel
theorem dX4_mends_147 : decode cX4_mends 147 = .ok (.iconst 5, 1) := by decide +kernel
theorem dX4_mends_148 : decode cX4_mends 148 = .ok (.iastore, 1) := by decide +kernel
theorem dX4_mends_149 : decode cX4_mends 149 = .ok (.iinc 3 1, 3) := by decide +kernel
theorem dX4_mends_152 : decode cX4_mends 152 = .ok (.goto (-94), 3) := by decide +kernel
theorem dX4_mends_155 : decode cX4_mends 155 = .ok (.return_, 1) := by decide +kernel
theorem dX4_pays_0 : decode cX4_pays 0 = .ok (.aload_n 0, 1) := by decide +kernel
theorem dX4_pays_1 : decode cX4_pays 1 = .ok (.iload_n 1, 1) := by decide +kernel
theorem dX4_pays_2 : decode cX4_pays 2 = .ok (.iload_n 2, 1) := by decide +kernel
theorem dX4_pays_3 : decode cX4_pays 3 = .ok (.invokevirtual 103, 3) := by decide +kernel
theorem dX4_pays_6 : decode cX4_pays 6 = .ok (.istore_n 3, 1) := by decide +kernel
theorem dX4_pays_7 : decode cX4_pays 7 = .ok (.aload_n 0, 1) := by decide +kernel
theorem dX4_pays_8 : decode cX4_pays 8 = .ok (.iload_n 1, 1) := by decide +kernel
theorem dX4_pays_9 : decode cX4_pays 9 = .ok (.iconst 2, 1) := by decide +kernel
theorem dX4_pays_10 : decode cX4_pays 10 = .ok (.invokevirtual 86, 3) := by decide +kernel
theorem dX4_pays_13 : decode cX4_pays 13 = .ok (.iload_n 3, 1) := by decide +kernel
theorem dX4_pays_14 : decode cX4_pays 14 = .ok (.if_icmp .ge 5, 3) := by decide +kernel
theorem dX4_pays_17 : decode cX4_pays 17 = .ok (.iconst 0, 1) := by decide +kernel
theorem dX4_pays_18 : decode cX4_pays 18 = .ok (.ireturn, 1) := by decide +kernel
theorem dX4_pays_19 : decode cX4_pays 19 = .ok (.aload_n 0, 1) := by decide +kernel
theorem dX4_pays_20 : decode cX4_pays 20 = .ok (.iload_n 1, 1) := by decide +kernel
theorem dX4_pays_21 : decode cX4_pays 21 = .ok (.iconst 3, 1) := by decide +kernel
theorem dX4_pays_22 : decode cX4_pays 22 = .ok (.invokevirtual 86, 3) := by decide +kernel
theorem dX4_pays_25 : decode cX4_pays 25 = .ok (.iload_n 3, 1) := by decide +kernel
theorem dX4_pays_26 : decode cX4_pays 26 = .ok (.iadd, 1) := by decide +kernel
theorem dX4_pays_27 : decode cX4_pays 27 = .ok (.istore 4, 2) := by decide +kernel
theorem dX4_pays_29 : decode cX4_pays 29 = .ok (.aload_n 0, 1) := by decide +kernel
theorem dX4_pays_30 : decode cX4_pays 30 = .ok (.getfield 7, 3) := by decide +kernel
theorem dX4_pays_33 : decode cX4_pays 33 = .ok (.iload_n 1, 1) := by decide +kernel
theorem dX4_pays_34 : decode cX4_pays 34 = .ok (.iconst 2, 1) := by decide +kernel
theorem dX4_pays_35 : decode cX4_pays 35 = .ok (.invokestatic 57, 3) := by decide +kernel
theorem dX4_pays_38 : decode cX4_pays 38 = .ok (.dup2, 1) := by decide +kernel
theorem dX4_pays_39 : decode cX4_pays 39 = .ok (.iaload, 1) := by decide +kernel
theorem dX4_pays_40 : decode cX4_pays 40 = .ok (.iload_n 3, 1) := by decide +kernel
theorem dX4_pays_41 : decode cX4_pays 41 = .ok (.isub, 1) := by decide +kernel
theorem dX4_pays_42 : decode cX4_pays 42 = .ok (.iastore, 1) := by decide +kernel
theorem dX4_pays_43 : decode cX4_pays 43 = .ok (.aload_n 0, 1) := by decide +kernel
theorem dX4_pays_44 : decode cX4_pays 44 = .ok (.getfield 7, 3) := by decide +kernel
theorem dX4_pays_47 : decode cX4_pays 47 = .ok (.iload_n 1, 1) := by decide +kernel
theorem dX4_pays_48 : decode cX4_pays 48 = .ok (.iconst 3, 1) := by decide +kernel
theorem dX4_pays_49 : decode cX4_pays 49 = .ok (.invokestatic 57, 3) := by decide +kernel
theorem dX4_pays_52 : decode cX4_pays 52 = .ok (.iload 4, 2) := by decide +kernel
theorem dX4_pays_54 : decode cX4_pays 54 = .ok (.ldc 123, 2) := by decide +kernel
theorem dX4_pays_56 : decode cX4_pays 56 = .ok (.if_icmp .le 8, 3) := by decide +kernel
theorem dX4_pays_59 : decode cX4_pays 59 = .ok (.ldc 123, 2) := by decide +kernel
theorem dX4_pays_61 : decode cX4_pays 61 = .ok (.goto 5, 3) := by decide +kernel
theorem dX4_pays_64 : decode cX4_pays 64 = .ok (.iload 4, 2) := by decide +kernel
theorem dX4_pays_66 : decode cX4_pays 66 = .ok (.iastore, 1) := by decide +kernel
theorem dX4_pays_67 : decode cX4_pays 67 = .ok (.aload_n 0, 1) := by decide +kernel
theorem dX4_pays_68 : decode cX4_pays 68 = .ok (.iload_n 1, 1) := by decide +kernel
theorem dX4_pays_69 : decode cX4_pays 69 = .ok (.iload_n 2, 1) := by decide +kernel
theorem dX4_pays_70 : decode cX4_pays 70 = .ok (.invokevirtual 124, 3) := by decide +kernel
theorem dX4_pays_73 : decode cX4_pays 73 = .ok (.iconst 1, 1) := by decide +kernel
theorem dX4_pays_74 : decode cX4_pays 74 = .ok (.ireturn, 1) := by decide +kernel
theorem dX4_mend_0 : decode cX4_mend 0 = .ok (.aload_n 0, 1) := by decide +kernel
theorem dX4_mend_1 : decode cX4_mend 1 = .ok (.iload_n 1, 1) := by decide +kernel
theorem dX4_mend_2 : decode cX4_mend 2 = .ok (.invokevirtual 109, 3) := by decide +kernel
theorem dX4_mend_5 : decode cX4_mend 5 = .ok (.ifCond .eq 10, 3) := by decide +kernel
theorem dX4_mend_8 : decode cX4_mend 8 = .ok (.iload_n 2, 1) := by decide +kernel
theorem dX4_mend_9 : decode cX4_mend 9 = .ok (.invokestatic 68, 3) := by decide +kernel
theorem dX4_mend_12 : decode cX4_mend 12 = .ok (.ifCond .ne 10, 3) := by decide +kernel
theorem dX4_mend_15 : decode cX4_mend 15 = .ok (.aload_n 0, 1) := by decide +kernel
theorem dX4_mend_16 : decode cX4_mend 16 = .ok (.ldc 48, 2) := by decide +kernel
theorem dX4_mend_18 : decode cX4_mend 18 = .ok (.invokevirtual 74, 3) := by decide +kernel
theorem dX4_mend_21 : decode cX4_mend 21 = .ok (.ireturn, 1) := by decide +kernel
theorem dX4_mend_22 : decode cX4_mend 22 = .ok (.aload_n 0, 1) := by decide +kernel
theorem dX4_mend_23 : decode cX4_mend 23 = .ok (.iload_n 2, 1) := by decide +kernel
theorem dX4_mend_24 : decode cX4_mend 24 = .ok (.invokevirtual 61, 3) := by decide +kernel
theorem dX4_mend_27 : decode cX4_mend 27 = .ok (.ifCond .eq 19, 3) := by decide +kernel
theorem dX4_mend_30 : decode cX4_mend 30 = .ok (.aload_n 0, 1) := by decide +kernel
theorem dX4_mend_31 : decode cX4_mend 31 = .ok (.iload_n 1, 1) := by decide +kernel
theorem dX4_mend_32 : decode cX4_mend 32 = .ok (.iload_n 2, 1) := by decide +kernel
theorem dX4_mend_33 : decode cX4_mend 33 = .ok (.invokevirtual 128, 3) := by decide +kernel
theorem dX4_mend_36 : decode cX4_mend 36 = .ok (.ifCond .eq 10, 3) := by decide +kernel
theorem dX4_mend_39 : decode cX4_mend 39 = .ok (.aload_n 0, 1) := by decide +kernel
theorem dX4_mend_40 : decode cX4_mend 40 = .ok (.invokevirtual 131, 3) := by decide +kernel
theorem dX4_mend_43 : decode cX4_mend 43 = .ok (.goto 9, 3) := by decide +kernel
theorem dX4_mend_46 : decode cX4_mend 46 = .ok (.aload_n 0, 1) := by decide +kernel
theorem dX4_mend_47 : decode cX4_mend 47 = .ok (.ldc 122, 2) := by decide +kernel
theorem dX4_mend_49 : decode cX4_mend 49 = .ok (.invokevirtual 74, 3) := by decide +kernel
theorem dX4_mend_52 : decode cX4_mend 52 = .ok (.ireturn, 1) := by decide +kernel
theorem dX4_year_0 : decode cX4_year 0 = .ok (.iconst 0, 1) := by decide +kernel
theorem dX4_year_1 : decode cX4_year 1 = .ok (.istore_n 1, 1) := by decide +kernel
theorem dX4_year_2 : decode cX4_year 2 = .ok (.iload_n 1, 1) := by decide +kernel
theorem dX4_year_3 : decode cX4_year 3 = .ok (.aload_n 0, 1) := by decide +kernel
theorem dX4_year_4 : decode cX4_year 4 = .ok (.getfield 7, 3) := by decide +kernel
theorem dX4_year_7 : decode cX4_year 7 = .ok (.iconst 0, 1) := by decide +kernel
theorem dX4_year_8 : decode cX4_year 8 = .ok (.iaload, 1) := by decide +kernel
theorem dX4_year_9 : decode cX4_year 9 = .ok (.if_icmp .ge 79, 3) := by decide +kernel
theorem dX4_year_12 : decode cX4_year 12 = .ok (.iload_n 1, 1) := by decide +kernel
theorem dX4_year_13 : decode cX4_year 13 = .ok (.aload_n 0, 1) := by decide +kernel
theorem dX4_year_14 : decode cX4_year 14 = .ok (.getfield 25, 3) := by decide +kernel
theorem dX4_year_17 : decode cX4_year 17 = .ok (.if_icmp .ne 7, 3) := by decide +kernel
theorem dX4_year_20 : decode cX4_year 20 = .ok (.iconst (-1), 1) := by decide +kernel
theorem dX4_year_21 : decode cX4_year 21 = .ok (.goto 8, 3) := by decide +kernel
theorem dX4_year_24 : decode cX4_year 24 = .ok (.aload_n 0, 1) := by decide +kernel
theorem dX4_year_25 : decode cX4_year 25 = .ok (.iload_n 1, 1) := by decide +kernel
theorem dX4_year_26 : decode cX4_year 26 = .ok (.invokevirtual 112, 3) := by decide +kernel
theorem dX4_year_29 : decode cX4_year 29 = .ok (.istore_n 2, 1) := by decide +kernel
theorem dX4_year_30 : decode cX4_year 30 = .ok (.iload_n 2, 1) := by decide +kernel
theorem dX4_year_31 : decode cX4_year 31 = .ok (.ifCond .lt 51, 3) := by decide +kernel
theorem dX4_year_34 : decode cX4_year 34 = .ok (.aload_n 0, 1) := by decide +kernel
theorem dX4_year_35 : decode cX4_year 35 = .ok (.iload_n 1, 1) := by decide +kernel
theorem dX4_year_36 : decode cX4_year 36 = .ok (.iload_n 2, 1) := by decide +kernel
theorem dX4_year_37 : decode cX4_year 37 = .ok (.invokevirtual 128, 3) := by decide +kernel
theorem dX4_year_40 : decode cX4_year 40 = .ok (.istore_n 3, 1) := by decide +kernel
theorem dX4_year_41 : decode cX4_year 41 = .ok (.aload_n 0, 1) := by decide +kernel
theorem dX4_year_42 : decode cX4_year 42 = .ok (.iload_n 1, 1) := by decide +kernel
theorem dX4_year_43 : decode cX4_year 43 = .ok (.iconst 2, 1) := by decide +kernel
theorem dX4_year_44 : decode cX4_year 44 = .ok (.invokevirtual 86, 3) := by decide +kernel
theorem dX4_year_47 : decode cX4_year 47 = .ok (.aload_n 0, 1) := by decide +kernel
theorem dX4_year_48 : decode cX4_year 48 = .ok (.getfield 7, 3) := by decide +kernel
theorem dX4_year_51 : decode cX4_year 51 = .ok (.iconst 2, 1) := by decide +kernel
theorem dX4_year_52 : decode cX4_year 52 = .ok (.iaload, 1) := by decide +kernel
theorem dX4_year_53 : decode cX4_year 53 = .ok (.iadd, 1) := by decide +kernel
theorem dX4_year_54 : decode cX4_year 54 = .ok (.istore 4, 2) := by decide +kernel
theorem dX4_year_56 : decode cX4_year 56 = .ok (.aload_n 0, 1) := by decide +kernel
theorem dX4_year_57 : decode cX4_year 57 = .ok (.getfield 7, 3) := by decide +kernel
theorem dX4_year_60 : decode cX4_year 60 = .ok (.iload_n 1, 1) := by decide +kernel
theorem dX4_year_61 : decode cX4_year 61 = .ok (.iconst 2, 1) := by decide +kernel
theorem dX4_year_62 : decode cX4_year 62 = .ok (.invokestatic 57, 3) := by decide +kernel
theorem dX4_year_65 : decode cX4_year 65 = .ok (.iload 4, 2) := by decide +kernel
theorem dX4_year_67 : decode cX4_year 67 = .ok (.sipush 9999, 3) := by decide +kernel
theorem dX4_year_70 : decode cX4_year 70 = .ok (.if_icmp .le 9, 3) := by decide +kernel
theorem dX4_year_73 : decode cX4_year 73 = .ok (.sipush 9999, 3) := by decide +kernel
theorem dX4_year_76 : decode cX4_year 76 = .ok (.goto 5, 3) := by decide +kernel
theorem dX4_year_79 : decode cX4_year 79 = .ok (.iload 4, 2) := by decide +kernel
theorem dX4_year_81 : decode cX4_year 81 = .ok (.iastore, 1) := by decide +kernel
theorem dX4_year_82 : decode cX4_year 82 = .ok (.iinc 1 1, 3) := by decide +kernel
theorem dX4_year_85 : decode cX4_year 85 = .ok (.goto (-83), 3) := by decide +kernel
theorem dX4_year_88 : decode cX4_year 88 = .ok (.aload_n 0, 1) := by decide +kernel
theorem dX4_year_89 : decode cX4_year 89 = .ok (.getfield 7, 3) := by decide +kernel
theorem dX4_year_92 : decode cX4_year 92 = .ok (.iconst 1, 1) := by decide +kernel
theorem dX4_year_93 : decode cX4_year 93 = .ok (.dup2, 1) := by decide +kernel
theorem dX4_year_94 : decode cX4_year 94 = .ok (.iaload, 1) := by decide +kernel
theorem dX4_year_95 : decode cX4_year 95 = .ok (.iconst 1, 1) := by decide +kernel
theorem dX4_year_96 : decode cX4_year 96 = .ok (.iadd, 1) := by decide +kernel
theorem dX4_year_97 : decode cX4_year 97 = .ok (.iastore, 1) := by decide +kernel
theorem dX4_year_98 : decode cX4_year 98 = .ok (.return_, 1) := by decide +kernel
theorem dX4_goesOn_0 : decode cX4_goesOn 0 = .ok (.iconst 0, 1) := by decide +kernel
theorem dX4_goesOn_1 : decode cX4_goesOn 1 = .ok (.istore_n 2, 1) := by decide +kernel
theorem dX4_goesOn_2 : decode cX4_goesOn 2 = .ok (.iload_n 2, 1) := by decide +kernel
theorem dX4_goesOn_3 : decode cX4_goesOn 3 = .ok (.iload_n 1, 1) := by decide +kernel
theorem dX4_goesOn_4 : decode cX4_goesOn 4 = .ok (.if_icmp .ge 13, 3) := by decide +kernel
theorem dX4_goesOn_7 : decode cX4_goesOn 7 = .ok (.aload_n 0, 1) := by decide +kernel
theorem dX4_goesOn_8 : decode cX4_goesOn 8 = .ok (.invokevirtual 135, 3) := by decide +kernel
theorem dX4_goesOn_11 : decode cX4_goesOn 11 = .ok (.iinc 2 1, 3) := by decide +kernel
theorem dX4_goesOn_14 : decode cX4_goesOn 14 = .ok (.goto (-12), 3) := by decide +kernel
theorem dX4_goesOn_17 : decode cX4_goesOn 17 = .ok (.return_, 1) := by decide +kernel
theorem dX4_years_0 : decode cX4_years 0 = .ok (.iload_n 1, 1) := by decide +kernel
theorem dX4_years_1 : decode cX4_years 1 = .ok (.i2l, 1) := by decide +kernel
theorem dX4_years_2 : decode cX4_years 2 = .ok (.lconst 1, 1) := by decide +kernel
theorem dX4_years_3 : decode cX4_years 3 = .ok (.ldc2_w 138, 3) := by decide +kernel
theorem dX4_years_6 : decode cX4_years 6 = .ok (.invokestatic 51, 3) := by decide +kernel
theorem dX4_years_9 : decode cX4_years 9 = .ok (.ifCond .ne 10, 3) := by decide +kernel
theorem dX4_years_12 : decode cX4_years 12 = .ok (.aload_n 0, 1) := by decide +kernel
theorem dX4_years_13 : decode cX4_years 13 = .ok (.ldc 48, 2) := by decide +kernel
theorem dX4_years_15 : decode cX4_years 15 = .ok (.invokevirtual 74, 3) := by decide +kernel
theorem dX4_years_18 : decode cX4_years 18 = .ok (.ireturn, 1) := by decide +kernel
theorem dX4_years_19 : decode cX4_years 19 = .ok (.aload_n 0, 1) := by decide +kernel
theorem dX4_years_20 : decode cX4_years 20 = .ok (.getfield 7, 3) := by decide +kernel
theorem dX4_years_23 : decode cX4_years 23 = .ok (.iconst 1, 1) := by decide +kernel
theorem dX4_years_24 : decode cX4_years 24 = .ok (.iaload, 1) := by decide +kernel
theorem dX4_years_25 : decode cX4_years 25 = .ok (.iload_n 1, 1) := by decide +kernel
theorem dX4_years_26 : decode cX4_years 26 = .ok (.iadd, 1) := by decide +kernel
theorem dX4_years_27 : decode cX4_years 27 = .ok (.sipush 9999, 3) := by decide +kernel
theorem dX4_years_30 : decode cX4_years 30 = .ok (.if_icmp .le 10, 3) := by decide +kernel
theorem dX4_years_33 : decode cX4_years 33 = .ok (.aload_n 0, 1) := by decide +kernel
theorem dX4_years_34 : decode cX4_years 34 = .ok (.ldc 122, 2) := by decide +kernel
theorem dX4_years_36 : decode cX4_years 36 = .ok (.invokevirtual 74, 3) := by decide +kernel
theorem dX4_years_39 : decode cX4_years 39 = .ok (.ireturn, 1) := by decide +kernel
theorem dX4_years_40 : decode cX4_years 40 = .ok (.aload_n 0, 1) := by decide +kernel
theorem dX4_years_41 : decode cX4_years 41 = .ok (.iload_n 1, 1) := by decide +kernel
theorem dX4_years_42 : decode cX4_years 42 = .ok (.invokevirtual 140, 3) := by decide +kernel
theorem dX4_years_45 : decode cX4_years 45 = .ok (.aload_n 0, 1) := by decide +kernel
theorem dX4_years_46 : decode cX4_years 46 = .ok (.invokevirtual 131, 3) := by decide +kernel
theorem dX4_years_49 : decode cX4_years 49 = .ok (.ireturn, 1) := by decide +kernel
theorem dX4_together_0 : decode cX4_together 0 = .ok (.iconst 0, 1) := by decide +kernel
theorem dX4_together_1 : decode cX4_together 1 = .ok (.istore_n 2, 1) := by decide +kernel
theorem dX4_together_2 : decode cX4_together 2 = .ok (.iconst 0, 1) := by decide +kernel
theorem dX4_together_3 : decode cX4_together 3 = .ok (.istore_n 3, 1) := by decide +kernel
theorem dX4_together_4 : decode cX4_together 4 = .ok (.iload_n 3, 1) := by decide +kernel
theorem dX4_together_5 : decode cX4_together 5 = .ok (.aload_n 0, 1) := by decide +kernel
theorem dX4_together_6 : decode cX4_together 6 = .ok (.getfield 7, 3) := by decide +kernel
theorem dX4_together_9 : decode cX4_together 9 = .ok (.iconst 0, 1) := by decide +kernel
theorem dX4_together_10 : decode cX4_together 10 = .ok (.iaload, 1) := by decide +kernel
theorem dX4_together_11 : decode cX4_together 11 = .ok (.if_icmp .ge 18, 3) := by decide +kernel
theorem dX4_together_14 : decode cX4_together 14 = .ok (.iload_n 2, 1) := by decide +kernel
theorem dX4_together_15 : decode cX4_together 15 = .ok (.aload_n 0, 1) := by decide +kernel
theorem dX4_together_16 : decode cX4_together 16 = .ok (.iload_n 3, 1) := by decide +kernel
theorem dX4_together_17 : decode cX4_together 17 = .ok (.iload_n 1, 1) := by decide +kernel
theorem dX4_together_18 : decode cX4_together 18 = .ok (.invokevirtual 86, 3) := by decide +kernel
theorem dX4_together_21 : decode cX4_together 21 = .ok (.iadd, 1) := by decide +kernel
theorem dX4_together_22 : decode cX4_together 22 = .ok (.istore_n 2, 1) := by decide +kernel
theorem dX4_together_23 : decode cX4_together 23 = .ok (.iinc 3 1, 3) := by decide +kernel
theorem dX4_together_26 : decode cX4_together 26 = .ok (.goto (-22), 3) := by decide +kernel
theorem dX4_together_29 : decode cX4_together 29 = .ok (.iload_n 2, 1) := by decide +kernel
theorem dX4_together_30 : decode cX4_together 30 = .ok (.ireturn, 1) := by decide +kernel
theorem dX4_now_0 : decode cX4_now 0 = .ok (.iload_n 1, 1) := by decide +kernel
theorem dX4_now_1 : decode cX4_now 1 = .ok (.tableswitch 66 0 4 #[35, 42, 47, 53, 59], 35) := by decide +kernel
theorem dX4_now_36 : decode cX4_now 36 = .ok (.aload_n 0, 1) := by decide +kernel
theorem dX4_now_37 : decode cX4_now 37 = .ok (.getfield 7, 3) := by decide +kernel
theorem dX4_now_40 : decode cX4_now 40 = .ok (.iconst 1, 1) := by decide +kernel
theorem dX4_now_41 : decode cX4_now 41 = .ok (.iaload, 1) := by decide +kernel
theorem dX4_now_42 : decode cX4_now 42 = .ok (.ireturn, 1) := by decide +kernel
theorem dX4_now_43 : decode cX4_now 43 = .ok (.aload_n 0, 1) := by decide +kernel
theorem dX4_now_44 : decode cX4_now 44 = .ok (.invokevirtual 131, 3) := by decide +kernel
theorem dX4_now_47 : decode cX4_now 47 = .ok (.ireturn, 1) := by decide +kernel
theorem dX4_now_48 : decode cX4_now 48 = .ok (.aload_n 0, 1) := by decide +kernel
theorem dX4_now_49 : decode cX4_now 49 = .ok (.iconst 2, 1) := by decide +kernel
theorem dX4_now_50 : decode cX4_now 50 = .ok (.invokevirtual 144, 3) := by decide +kernel
theorem dX4_now_53 : decode cX4_now 53 = .ok (.ireturn, 1) := by decide +kernel
theorem dX4_now_54 : decode cX4_now 54 = .ok (.aload_n 0, 1) := by decide +kernel
theorem dX4_now_55 : decode cX4_now 55 = .ok (.iconst 3, 1) := by decide +kernel
theorem dX4_now_56 : decode cX4_now 56 = .ok (.invokevirtual 144, 3) := by decide +kernel
theorem dX4_now_59 : decode cX4_now 59 = .ok (.ireturn, 1) := by decide +kernel
theorem dX4_now_60 : decode cX4_now 60 = .ok (.aload_n 0, 1) := by decide +kernel
theorem dX4_now_61 : decode cX4_now 61 = .ok (.getfield 7, 3) := by decide +kernel
theorem dX4_now_64 : decode cX4_now 64 = .ok (.iconst 2, 1) := by decide +kernel
theorem dX4_now_65 : decode cX4_now 65 = .ok (.iaload, 1) := by decide +kernel
theorem dX4_now_66 : decode cX4_now 66 = .ok (.ireturn, 1) := by decide +kernel
theorem dX4_now_67 : decode cX4_now 67 = .ok (.aload_n 0, 1) := by decide +kernel
theorem dX4_now_68 : decode cX4_now 68 = .ok (.ldc 48, 2) := by decide +kernel
theorem dX4_now_70 : decode cX4_now 70 = .ok (.invokevirtual 74, 3) := by decide +kernel
theorem dX4_now_73 : decode cX4_now 73 = .ok (.ireturn, 1) := by decide +kernel
theorem dX4_on_0 : decode cX4_on 0 = .ok (.aload_n 0, 1) := by decide +kernel
theorem dX4_on_1 : decode cX4_on 1 = .ok (.iload_n 1, 1) := by decide +kernel
theorem dX4_on_2 : decode cX4_on 2 = .ok (.invokevirtual 109, 3) := by decide +kernel
theorem dX4_on_5 : decode cX4_on 5 = .ok (.ifCond .eq 27, 3) := by decide +kernel
theorem dX4_on_8 : decode cX4_on 8 = .ok (.iload_n 2, 1) := by decide +kernel
theorem dX4_on_9 : decode cX4_on 9 = .ok (.i2l, 1) := by decide +kernel
theorem dX4_on_10 : decode cX4_on 10 = .ok (.lconst 0, 1) := by decide +kernel
theorem dX4_on_11 : decode cX4_on 11 = .ok (.ldc2_w 138, 3) := by decide +kernel
theorem dX4_on_14 : decode cX4_on 14 = .ok (.invokestatic 51, 3) := by decide +kernel
theorem dX4_on_17 : decode cX4_on 17 = .ok (.ifCond .eq 15, 3) := by decide +kernel
theorem dX4_on_20 : decode cX4_on 20 = .ok (.iload_n 3, 1) := by decide +kernel
theorem dX4_on_21 : decode cX4_on 21 = .ok (.i2l, 1) := by decide +kernel
theorem dX4_on_22 : decode cX4_on 22 = .ok (.lconst 0, 1) := by decide +kernel
theorem dX4_on_23 : decode cX4_on 23 = .ok (.ldc2_w 147, 3) := by decide +kernel
theorem dX4_on_26 : decode cX4_on 26 = .ok (.invokestatic 51, 3) := by decide +kernel
theorem dX4_on_29 : decode cX4_on 29 = .ok (.ifCond .ne 10, 3) := by decide +kernel
theorem dX4_on_32 : decode cX4_on 32 = .ok (.aload_n 0, 1) := by decide +kernel
theorem dX4_on_33 : decode cX4_on 33 = .ok (.ldc 48, 2) := by decide +kernel
theorem dX4_on_35 : decode cX4_on 35 = .ok (.invokevirtual 74, 3) := by decide +kernel
theorem dX4_on_38 : decode cX4_on 38 = .ok (.ireturn, 1) := by decide +kernel
theorem dX4_on_39 : decode cX4_on 39 = .ok (.aload_n 0, 1) := by decide +kernel
theorem dX4_on_40 : decode cX4_on 40 = .ok (.invokevirtual 149, 3) := by decide +kernel
theorem dX4_on_43 : decode cX4_on 43 = .ok (.aload_n 0, 1) := by decide +kernel
theorem dX4_on_44 : decode cX4_on 44 = .ok (.iload_n 2, 1) := by decide +kernel
theorem dX4_on_45 : decode cX4_on 45 = .ok (.invokevirtual 140, 3) := by decide +kernel
theorem dX4_on_48 : decode cX4_on 48 = .ok (.aload_n 0, 1) := by decide +kernel
theorem dX4_on_49 : decode cX4_on 49 = .ok (.aload_n 0, 1) := by decide +kernel
theorem dX4_on_50 : decode cX4_on 50 = .ok (.iload_n 1, 1) := by decide +kernel
theorem dX4_on_51 : decode cX4_on 51 = .ok (.iconst 1, 1) := by decide +kernel
theorem dX4_on_52 : decode cX4_on 52 = .ok (.iload_n 3, 1) := by decide +kernel
theorem dX4_on_53 : decode cX4_on 53 = .ok (.iadd, 1) := by decide +kernel
theorem dX4_on_54 : decode cX4_on 54 = .ok (.invokevirtual 86, 3) := by decide +kernel
theorem dX4_on_57 : decode cX4_on 57 = .ok (.invokevirtual 152, 3) := by decide +kernel
theorem dX4_on_60 : decode cX4_on 60 = .ok (.ireturn, 1) := by decide +kernel
theorem dX4_wrongOn_0 : decode cX4_wrongOn 0 = .ok (.aload_n 0, 1) := by decide +kernel
theorem dX4_wrongOn_1 : decode cX4_wrongOn 1 = .ok (.invokevirtual 149, 3) := by decide +kernel
theorem dX4_wrongOn_4 : decode cX4_wrongOn 4 = .ok (.aload_n 0, 1) := by decide +kernel
theorem dX4_wrongOn_5 : decode cX4_wrongOn 5 = .ok (.iload_n 1, 1) := by decide +kernel
theorem dX4_wrongOn_6 : decode cX4_wrongOn 6 = .ok (.invokevirtual 140, 3) := by decide +kernel
theorem dX4_wrongOn_9 : decode cX4_wrongOn 9 = .ok (.aload_n 0, 1) := by decide +kernel
theorem dX4_wrongOn_10 : decode cX4_wrongOn 10 = .ok (.aload_n 0, 1) := by decide +kernel
theorem dX4_wrongOn_11 : decode cX4_wrongOn 11 = .ok (.invokevirtual 131, 3) := by decide +kernel
theorem dX4_wrongOn_14 : decode cX4_wrongOn 14 = .ok (.invokevirtual 152, 3) := by decide +kernel
theorem dX4_wrongOn_17 : decode cX4_wrongOn 17 = .ok (.ireturn, 1) := by decide +kernel
theorem dX4_wrong_0 : decode cX4_wrong 0 = .ok (.iload_n 1, 1) := by decide +kernel
theorem dX4_wrong_1 : decode cX4_wrong 1 = .ok (.i2l, 1) := by decide +kernel
theorem dX4_wrong_2 : decode cX4_wrong 2 = .ok (.lconst 0, 1) := by decide +kernel
theorem dX4_wrong_3 : decode cX4_wrong 3 = .ok (.ldc2_w 138, 3) := by decide +kernel
theorem dX4_wrong_6 : decode cX4_wrong 6 = .ok (.invokestatic 51, 3) := by decide +kernel
theorem dX4_wrong_9 : decode cX4_wrong 9 = .ok (.ifCond .eq 11, 3) := by decide +kernel
theorem dX4_wrong_12 : decode cX4_wrong 12 = .ok (.aload_n 0, 1) := by decide +kernel
theorem dX4_wrong_13 : decode cX4_wrong 13 = .ok (.iload_n 1, 1) := by decide +kernel
theorem dX4_wrong_14 : decode cX4_wrong 14 = .ok (.invokevirtual 155, 3) := by decide +kernel
theorem dX4_wrong_17 : decode cX4_wrong 17 = .ok (.goto 9, 3) := by decide +kernel
theorem dX4_wrong_20 : decode cX4_wrong 20 = .ok (.aload_n 0, 1) := by decide +kernel
theorem dX4_wrong_21 : decode cX4_wrong 21 = .ok (.ldc 48, 2) := by decide +kernel
theorem dX4_wrong_23 : decode cX4_wrong 23 = .ok (.invokevirtual 74, 3) := by decide +kernel
theorem dX4_wrong_26 : decode cX4_wrong 26 = .ok (.ireturn, 1) := by decide +kernel
theorem dX4_done_0 : decode cX4_done 0 = .ok (.aload_n 0, 1) := by decide +kernel
theorem dX4_done_1 : decode cX4_done 1 = .ok (.invokevirtual 149, 3) := by decide +kernel
theorem dX4_done_4 : decode cX4_done 4 = .ok (.iconst 0, 1) := by decide +kernel
theorem dX4_done_5 : decode cX4_done 5 = .ok (.istore_n 1, 1) := by decide +kernel
theorem dX4_done_6 : decode cX4_done 6 = .ok (.iload_n 1, 1) := by decide +kernel
theorem dX4_done_7 : decode cX4_done 7 = .ok (.bipush 60, 2) := by decide +kernel
theorem dX4_done_9 : decode cX4_done 9 = .ok (.if_icmp .gt 20, 3) := by decide +kernel
theorem dX4_done_12 : decode cX4_done 12 = .ok (.aload_n 0, 1) := by decide +kernel
theorem dX4_done_13 : decode cX4_done 13 = .ok (.invokevirtual 131, 3) := by decide +kernel
theorem dX4_done_16 : decode cX4_done 16 = .ok (.ifCond .le 13, 3) := by decide +kernel
theorem dX4_done_19 : decode cX4_done 19 = .ok (.aload_n 0, 1) := by decide +kernel
theorem dX4_done_20 : decode cX4_done 20 = .ok (.invokevirtual 135, 3) := by decide +kernel
theorem dX4_done_23 : decode cX4_done 23 = .ok (.iinc 1 1, 3) := by decide +kernel
theorem dX4_done_26 : decode cX4_done 26 = .ok (.goto (-20), 3) := by decide +kernel
theorem dX4_done_29 : decode cX4_done 29 = .ok (.aload_n 0, 1) := by decide +kernel
theorem dX4_done_30 : decode cX4_done 30 = .ok (.iload_n 1, 1) := by decide +kernel
theorem dX4_done_31 : decode cX4_done 31 = .ok (.invokevirtual 152, 3) := by decide +kernel
theorem dX4_done_34 : decode cX4_done 34 = .ok (.istore_n 2, 1) := by decide +kernel
theorem dX4_done_35 : decode cX4_done 35 = .ok (.iload_n 2, 1) := by decide +kernel
theorem dX4_done_36 : decode cX4_done 36 = .ok (.bipush 60, 2) := by decide +kernel
theorem dX4_done_38 : decode cX4_done 38 = .ok (.if_icmp .le 12, 3) := by decide +kernel
theorem dX4_done_41 : decode cX4_done 41 = .ok (.aload_n 0, 1) := by decide +kernel
theorem dX4_done_42 : decode cX4_done 42 = .ok (.ldc 158, 2) := by decide +kernel
theorem dX4_done_44 : decode cX4_done 44 = .ok (.invokevirtual 74, 3) := by decide +kernel
theorem dX4_done_47 : decode cX4_done 47 = .ok (.goto 4, 3) := by decide +kernel
theorem dX4_done_50 : decode cX4_done 50 = .ok (.iload_n 2, 1) := by decide +kernel
theorem dX4_done_51 : decode cX4_done 51 = .ok (.ireturn, 1) := by decide +kernel
theorem dX4_when_0 : decode cX4_when 0 = .ok (.iload_n 1, 1) := by decide +kernel
theorem dX4_when_1 : decode cX4_when 1 = .ok (.invokestatic 68, 3) := by decide +kernel
theorem dX4_when_4 : decode cX4_when 4 = .ok (.ifCond .ne 10, 3) := by decide +kernel
theorem dX4_when_7 : decode cX4_when 7 = .ok (.aload_n 0, 1) := by decide +kernel
theorem dX4_when_8 : decode cX4_when 8 = .ok (.ldc 48, 2) := by decide +kernel
theorem dX4_when_10 : decode cX4_when 10 = .ok (.invokevirtual 74, 3) := by decide +kernel
theorem dX4_when_13 : decode cX4_when 13 = .ok (.ireturn, 1) := by decide +kernel
theorem dX4_when_14 : decode cX4_when 14 = .ok (.aload_n 0, 1) := by decide +kernel
theorem dX4_when_15 : decode cX4_when 15 = .ok (.invokevirtual 149, 3) := by decide +kernel
theorem dX4_when_18 : decode cX4_when 18 = .ok (.iconst 0, 1) := by decide +kernel
theorem dX4_when_19 : decode cX4_when 19 = .ok (.istore_n 2, 1) := by decide +kernel
theorem dX4_when_20 : decode cX4_when 20 = .ok (.iload_n 2, 1) := by decide +kernel
theorem dX4_when_21 : decode cX4_when 21 = .ok (.bipush 60, 2) := by decide +kernel
theorem dX4_when_23 : decode cX4_when 23 = .ok (.if_icmp .gt 21, 3) := by decide +kernel
theorem dX4_when_26 : decode cX4_when 26 = .ok (.aload_n 0, 1) := by decide +kernel
theorem dX4_when_27 : decode cX4_when 27 = .ok (.iload_n 1, 1) := by decide +kernel
theorem dX4_when_28 : decode cX4_when 28 = .ok (.invokevirtual 61, 3) := by decide +kernel
theorem dX4_when_31 : decode cX4_when 31 = .ok (.ifCond .eq 13, 3) := by decide +kernel
theorem dX4_when_34 : decode cX4_when 34 = .ok (.aload_n 0, 1) := by decide +kernel
theorem dX4_when_35 : decode cX4_when 35 = .ok (.invokevirtual 135, 3) := by decide +kernel
theorem dX4_when_38 : decode cX4_when 38 = .ok (.iinc 2 1, 3) := by decide +kernel
theorem dX4_when_41 : decode cX4_when 41 = .ok (.goto (-21), 3) := by decide +kernel
theorem dX4_when_44 : decode cX4_when 44 = .ok (.aload_n 0, 1) := by decide +kernel
theorem dX4_when_45 : decode cX4_when 45 = .ok (.iload_n 2, 1) := by decide +kernel
theorem dX4_when_46 : decode cX4_when 46 = .ok (.invokevirtual 152, 3) := by decide +kernel
theorem dX4_when_49 : decode cX4_when 49 = .ok (.istore_n 3, 1) := by decide +kernel
theorem dX4_when_50 : decode cX4_when 50 = .ok (.iload_n 3, 1) := by decide +kernel
theorem dX4_when_51 : decode cX4_when 51 = .ok (.bipush 60, 2) := by decide +kernel
theorem dX4_when_53 : decode cX4_when 53 = .ok (.if_icmp .le 12, 3) := by decide +kernel
theorem dX4_when_56 : decode cX4_when 56 = .ok (.aload_n 0, 1) := by decide +kernel
theorem dX4_when_57 : decode cX4_when 57 = .ok (.ldc 158, 2) := by decide +kernel
theorem dX4_when_59 : decode cX4_when 59 = .ok (.invokevirtual 74, 3) := by decide +kernel
theorem dX4_when_62 : decode cX4_when 62 = .ok (.goto 4, 3) := by decide +kernel
theorem dX4_when_65 : decode cX4_when 65 = .ok (.iload_n 3, 1) := by decide +kernel
theorem dX4_when_66 : decode cX4_when 66 = .ok (.ireturn, 1) := by decide +kernel
theorem dX4_cheapest_0 : decode cX4_cheapest 0 = .ok (.aload_n 0, 1) := by decide +kernel
theorem dX4_cheapest_1 : decode cX4_cheapest 1 = .ok (.iload_n 1, 1) := by decide +kernel
theorem dX4_cheapest_2 : decode cX4_cheapest 2 = .ok (.invokevirtual 109, 3) := by decide +kernel
theorem dX4_cheapest_5 : decode cX4_cheapest 5 = .ok (.ifCond .ne 10, 3) := by decide +kernel
theorem dX4_cheapest_8 : decode cX4_cheapest 8 = .ok (.aload_n 0, 1) := by decide +kernel
theorem dX4_cheapest_9 : decode cX4_cheapest 9 = .ok (.ldc 48, 2) := by decide +kernel
theorem dX4_cheapest_11 : decode cX4_cheapest 11 = .ok (.invokevirtual 74, 3) := by decide +kernel
theorem dX4_cheapest_14 : decode cX4_cheapest 14 = .ok (.ireturn, 1) := by decide +kernel
theorem dX4_cheapest_15 : decode cX4_cheapest 15 = .ok (.iconst (-1), 1) := by decide +kernel
theorem dX4_cheapest_16 : decode cX4_cheapest 16 = .ok (.istore_n 2, 1) := by decide +kernel
theorem dX4_cheapest_17 : decode cX4_cheapest 17 = .ok (.iconst 0, 1) := by decide +kernel
theorem dX4_cheapest_18 : decode cX4_cheapest 18 = .ok (.istore_n 3, 1) := by decide +kernel
theorem dX4_cheapest_19 : decode cX4_cheapest 19 = .ok (.iload_n 3, 1) := by decide +kernel
theorem dX4_cheapest_20 : decode cX4_cheapest 20 = .ok (.bipush 48, 2) := by decide +kernel
theorem dX4_cheapest_22 : decode cX4_cheapest 22 = .ok (.if_icmp .ge 42, 3) := by decide +kernel
