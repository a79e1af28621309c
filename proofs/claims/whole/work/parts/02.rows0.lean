theorem dX0_init_0 : decode cX0_init 0 = .ok (.aload_n 0, 1) := by decide +kernel
theorem dX0_init_1 : decode cX0_init 1 = .ok (.invokespecial 3, 3) := by decide +kernel
theorem dX0_init_4 : decode cX0_init 4 = .ok (.aload_n 0, 1) := by decide +kernel
theorem dX0_init_5 : decode cX0_init 5 = .ok (.bipush 40, 2) := by decide +kernel
theorem dX0_init_7 : decode cX0_init 7 = .ok (.newarray .long, 2) := by decide +kernel
theorem dX0_init_9 : decode cX0_init 9 = .ok (.putfield 9, 3) := by decide +kernel
theorem dX0_init_12 : decode cX0_init 12 = .ok (.return_, 1) := by decide +kernel
theorem dX0_isMissing_0 : decode cX0_isMissing 0 = .ok (.aload_n 0, 1) := by decide +kernel
theorem dX0_isMissing_1 : decode cX0_isMissing 1 = .ok (.getfield 15, 3) := by decide +kernel
theorem dX0_isMissing_4 : decode cX0_isMissing 4 = .ok (.ifCond .ne 7, 3) := by decide +kernel
theorem dX0_isMissing_7 : decode cX0_isMissing 7 = .ok (.iconst 1, 1) := by decide +kernel
theorem dX0_isMissing_8 : decode cX0_isMissing 8 = .ok (.goto 4, 3) := by decide +kernel
theorem dX0_isMissing_11 : decode cX0_isMissing 11 = .ok (.iconst 0, 1) := by decide +kernel
theorem dX0_isMissing_12 : decode cX0_isMissing 12 = .ok (.ireturn, 1) := by decide +kernel
theorem dX0_clear_0 : decode cX0_clear 0 = .ok (.iconst 0, 1) := by decide +kernel
theorem dX0_clear_1 : decode cX0_clear 1 = .ok (.istore_n 3, 1) := by decide +kernel
theorem dX0_clear_2 : decode cX0_clear 2 = .ok (.iload_n 3, 1) := by decide +kernel
theorem dX0_clear_3 : decode cX0_clear 3 = .ok (.bipush 40, 2) := by decide +kernel
theorem dX0_clear_5 : decode cX0_clear 5 = .ok (.if_icmp .ge 16, 3) := by decide +kernel
theorem dX0_clear_8 : decode cX0_clear 8 = .ok (.aload_n 0, 1) := by decide +kernel
theorem dX0_clear_9 : decode cX0_clear 9 = .ok (.getfield 9, 3) := by decide +kernel
theorem dX0_clear_12 : decode cX0_clear 12 = .ok (.iload_n 3, 1) := by decide +kernel
theorem dX0_clear_13 : decode cX0_clear 13 = .ok (.lconst 0, 1) := by decide +kernel
theorem dX0_clear_14 : decode cX0_clear 14 = .ok (.lastore, 1) := by decide +kernel
theorem dX0_clear_15 : decode cX0_clear 15 = .ok (.iinc 3 1, 3) := by decide +kernel
theorem dX0_clear_18 : decode cX0_clear 18 = .ok (.goto (-16), 3) := by decide +kernel
theorem dX0_clear_21 : decode cX0_clear 21 = .ok (.aload_n 0, 1) := by decide +kernel
theorem dX0_clear_22 : decode cX0_clear 22 = .ok (.iload_n 1, 1) := by decide +kernel
theorem dX0_clear_23 : decode cX0_clear 23 = .ok (.putfield 15, 3) := by decide +kernel
theorem dX0_clear_26 : decode cX0_clear 26 = .ok (.aload_n 0, 1) := by decide +kernel
theorem dX0_clear_27 : decode cX0_clear 27 = .ok (.iload_n 1, 1) := by decide +kernel
theorem dX0_clear_28 : decode cX0_clear 28 = .ok (.ifCond .ne 7, 3) := by decide +kernel
theorem dX0_clear_31 : decode cX0_clear 31 = .ok (.iconst 0, 1) := by decide +kernel
theorem dX0_clear_32 : decode cX0_clear 32 = .ok (.goto 4, 3) := by decide +kernel
theorem dX0_clear_35 : decode cX0_clear 35 = .ok (.iload_n 2, 1) := by decide +kernel
theorem dX0_clear_36 : decode cX0_clear 36 = .ok (.putfield 19, 3) := by decide +kernel
theorem dX0_clear_39 : decode cX0_clear 39 = .ok (.return_, 1) := by decide +kernel
theorem dX0_put_0 : decode cX0_put 0 = .ok (.aload_n 0, 1) := by decide +kernel
theorem dX0_put_1 : decode cX0_put 1 = .ok (.getfield 9, 3) := by decide +kernel
theorem dX0_put_4 : decode cX0_put 4 = .ok (.iload_n 1, 1) := by decide +kernel
theorem dX0_put_5 : decode cX0_put 5 = .ok (.laload, 1) := by decide +kernel
theorem dX0_put_6 : decode cX0_put 6 = .ok (.lstore 4, 2) := by decide +kernel
theorem dX0_put_8 : decode cX0_put 8 = .ok (.aload_n 0, 1) := by decide +kernel
theorem dX0_put_9 : decode cX0_put 9 = .ok (.getfield 9, 3) := by decide +kernel
theorem dX0_put_12 : decode cX0_put 12 = .ok (.iload_n 1, 1) := by decide +kernel
theorem dX0_put_13 : decode cX0_put 13 = .ok (.aload_n 0, 1) := by decide +kernel
theorem dX0_put_14 : decode cX0_put 14 = .ok (.lload_n 2, 1) := by decide +kernel
theorem dX0_put_15 : decode cX0_put 15 = .ok (.invokevirtual 22, 3) := by decide +kernel
theorem dX0_put_18 : decode cX0_put 18 = .ok (.lastore, 1) := by decide +kernel
theorem dX0_put_19 : decode cX0_put 19 = .ok (.lload 4, 2) := by decide +kernel
theorem dX0_put_21 : decode cX0_put 21 = .ok (.lreturn, 1) := by decide +kernel
theorem dX0_cut_0 : decode cX0_cut 0 = .ok (.aload_n 0, 1) := by decide +kernel
theorem dX0_cut_1 : decode cX0_cut 1 = .ok (.getfield 15, 3) := by decide +kernel
theorem dX0_cut_4 : decode cX0_cut 4 = .ok (.bipush 8, 2) := by decide +kernel
theorem dX0_cut_6 : decode cX0_cut 6 = .ok (.if_icmp .ne 8, 3) := by decide +kernel
theorem dX0_cut_9 : decode cX0_cut 9 = .ok (.lload_n 1, 1) := by decide +kernel
theorem dX0_cut_10 : decode cX0_cut 10 = .ok (.l2i, 1) := by decide +kernel
theorem dX0_cut_11 : decode cX0_cut 11 = .ok (.i2b, 1) := by decide +kernel
theorem dX0_cut_12 : decode cX0_cut 12 = .ok (.i2l, 1) := by decide +kernel
theorem dX0_cut_13 : decode cX0_cut 13 = .ok (.lreturn, 1) := by decide +kernel
theorem dX0_cut_14 : decode cX0_cut 14 = .ok (.aload_n 0, 1) := by decide +kernel
theorem dX0_cut_15 : decode cX0_cut 15 = .ok (.getfield 15, 3) := by decide +kernel
theorem dX0_cut_18 : decode cX0_cut 18 = .ok (.bipush 16, 2) := by decide +kernel
theorem dX0_cut_20 : decode cX0_cut 20 = .ok (.if_icmp .ne 10, 3) := by decide +kernel
theorem dX0_cut_23 : decode cX0_cut 23 = .ok (.lload_n 1, 1) := by decide +kernel
theorem dX0_cut_24 : decode cX0_cut 24 = .ok (.l2i, 1) := by decide +kernel
theorem dX0_cut_25 : decode cX0_cut 25 = .ok (.i2s, 1) := by decide +kernel
theorem dX0_cut_26 : decode cX0_cut 26 = .ok (.i2l, 1) := by decide +kernel
theorem dX0_cut_27 : decode cX0_cut 27 = .ok (.goto 4, 3) := by decide +kernel
theorem dX0_cut_30 : decode cX0_cut 30 = .ok (.lload_n 1, 1) := by decide +kernel
theorem dX0_cut_31 : decode cX0_cut 31 = .ok (.lreturn, 1) := by decide +kernel
theorem dX0_hasPart_0 : decode cX0_hasPart 0 = .ok (.iload_n 1, 1) := by decide +kernel
theorem dX0_hasPart_1 : decode cX0_hasPart 1 = .ok (.ifCond .lt 29, 3) := by decide +kernel
theorem dX0_hasPart_4 : decode cX0_hasPart 4 = .ok (.iload_n 2, 1) := by decide +kernel
theorem dX0_hasPart_5 : decode cX0_hasPart 5 = .ok (.ifCond .lt 25, 3) := by decide +kernel
theorem dX0_hasPart_8 : decode cX0_hasPart 8 = .ok (.iload_n 2, 1) := by decide +kernel
theorem dX0_hasPart_9 : decode cX0_hasPart 9 = .ok (.aload_n 0, 1) := by decide +kernel
theorem dX0_hasPart_10 : decode cX0_hasPart 10 = .ok (.getfield 19, 3) := by decide +kernel
theorem dX0_hasPart_13 : decode cX0_hasPart 13 = .ok (.if_icmp .gt 17, 3) := by decide +kernel
theorem dX0_hasPart_16 : decode cX0_hasPart 16 = .ok (.iload_n 1, 1) := by decide +kernel
theorem dX0_hasPart_17 : decode cX0_hasPart 17 = .ok (.aload_n 0, 1) := by decide +kernel
theorem dX0_hasPart_18 : decode cX0_hasPart 18 = .ok (.getfield 19, 3) := by decide +kernel
theorem dX0_hasPart_21 : decode cX0_hasPart 21 = .ok (.iload_n 2, 1) := by decide +kernel
theorem dX0_hasPart_22 : decode cX0_hasPart 22 = .ok (.isub, 1) := by decide +kernel
theorem dX0_hasPart_23 : decode cX0_hasPart 23 = .ok (.if_icmp .gt 7, 3) := by decide +kernel
theorem dX0_hasPart_26 : decode cX0_hasPart 26 = .ok (.iconst 1, 1) := by decide +kernel
theorem dX0_hasPart_27 : decode cX0_hasPart 27 = .ok (.goto 4, 3) := by decide +kernel
theorem dX0_hasPart_30 : decode cX0_hasPart 30 = .ok (.iconst 0, 1) := by decide +kernel
theorem dX0_hasPart_31 : decode cX0_hasPart 31 = .ok (.ireturn, 1) := by decide +kernel
theorem dX1_init_0 : decode cX1_init 0 = .ok (.aload_n 0, 1) := by decide +kernel
theorem dX1_init_1 : decode cX1_init 1 = .ok (.invokespecial 3, 3) := by decide +kernel
theorem dX1_init_4 : decode cX1_init 4 = .ok (.aload_n 0, 1) := by decide +kernel
theorem dX1_init_5 : decode cX1_init 5 = .ok (.bipush 120, 2) := by decide +kernel
theorem dX1_init_7 : decode cX1_init 7 = .ok (.newarray .int, 2) := by decide +kernel
theorem dX1_init_9 : decode cX1_init 9 = .ok (.putfield 9, 3) := by decide +kernel
theorem dX1_init_12 : decode cX1_init 12 = .ok (.return_, 1) := by decide +kernel
theorem dX1_readInto_0 : decode cX1_readInto 0 = .ok (.aload_n 0, 1) := by decide +kernel
theorem dX1_readInto_1 : decode cX1_readInto 1 = .ok (.iconst 0, 1) := by decide +kernel
theorem dX1_readInto_2 : decode cX1_readInto 2 = .ok (.putfield 15, 3) := by decide +kernel
theorem dX1_readInto_5 : decode cX1_readInto 5 = .ok (.aload_n 0, 1) := by decide +kernel
theorem dX1_readInto_6 : decode cX1_readInto 6 = .ok (.invokevirtual 19, 3) := by decide +kernel
theorem dX1_readInto_9 : decode cX1_readInto 9 = .ok (.iconst 1, 1) := by decide +kernel
theorem dX1_readInto_10 : decode cX1_readInto 10 = .ok (.istore_n 2, 1) := by decide +kernel
theorem dX1_readInto_11 : decode cX1_readInto 11 = .ok (.iload_n 2, 1) := by decide +kernel
theorem dX1_readInto_12 : decode cX1_readInto 12 = .ok (.bipush 120, 2) := by decide +kernel
theorem dX1_readInto_14 : decode cX1_readInto 14 = .ok (.if_icmp .gt 52, 3) := by decide +kernel
theorem dX1_readInto_17 : decode cX1_readInto 17 = .ok (.aload_n 0, 1) := by decide +kernel
theorem dX1_readInto_18 : decode cX1_readInto 18 = .ok (.aload_n 1, 1) := by decide +kernel
theorem dX1_readInto_19 : decode cX1_readInto 19 = .ok (.invokevirtual 22, 3) := by decide +kernel
theorem dX1_readInto_22 : decode cX1_readInto 22 = .ok (.ifCond .ne 10, 3) := by decide +kernel
theorem dX1_readInto_25 : decode cX1_readInto 25 = .ok (.iconst (-1), 1) := by decide +kernel
theorem dX1_readInto_26 : decode cX1_readInto 26 = .ok (.aload_n 0, 1) := by decide +kernel
theorem dX1_readInto_27 : decode cX1_readInto 27 = .ok (.getfield 26, 3) := by decide +kernel
theorem dX1_readInto_30 : decode cX1_readInto 30 = .ok (.isub, 1) := by decide +kernel
theorem dX1_readInto_31 : decode cX1_readInto 31 = .ok (.ireturn, 1) := by decide +kernel
theorem dX1_readInto_32 : decode cX1_readInto 32 = .ok (.aload_n 0, 1) := by decide +kernel
theorem dX1_readInto_33 : decode cX1_readInto 33 = .ok (.getfield 29, 3) := by decide +kernel
theorem dX1_readInto_36 : decode cX1_readInto 36 = .ok (.ifCond .ne 5, 3) := by decide +kernel
theorem dX1_readInto_39 : decode cX1_readInto 39 = .ok (.iload_n 2, 1) := by decide +kernel
theorem dX1_readInto_40 : decode cX1_readInto 40 = .ok (.ireturn, 1) := by decide +kernel
theorem dX1_readInto_41 : decode cX1_readInto 41 = .ok (.aload_n 0, 1) := by decide +kernel
theorem dX1_readInto_42 : decode cX1_readInto 42 = .ok (.getfield 29, 3) := by decide +kernel
theorem dX1_readInto_45 : decode cX1_readInto 45 = .ok (.iconst 3, 1) := by decide +kernel
theorem dX1_readInto_46 : decode cX1_readInto 46 = .ok (.if_icmp .eq 10, 3) := by decide +kernel
theorem dX1_readInto_49 : decode cX1_readInto 49 = .ok (.iconst (-1), 1) := by decide +kernel
theorem dX1_readInto_50 : decode cX1_readInto 50 = .ok (.aload_n 0, 1) := by decide +kernel
theorem dX1_readInto_51 : decode cX1_readInto 51 = .ok (.getfield 26, 3) := by decide +kernel
theorem dX1_readInto_54 : decode cX1_readInto 54 = .ok (.isub, 1) := by decide +kernel
theorem dX1_readInto_55 : decode cX1_readInto 55 = .ok (.ireturn, 1) := by decide +kernel
theorem dX1_readInto_56 : decode cX1_readInto 56 = .ok (.aload_n 0, 1) := by decide +kernel
theorem dX1_readInto_57 : decode cX1_readInto 57 = .ok (.invokevirtual 19, 3) := by decide +kernel
theorem dX1_readInto_60 : decode cX1_readInto 60 = .ok (.iinc 2 1, 3) := by decide +kernel
theorem dX1_readInto_63 : decode cX1_readInto 63 = .ok (.goto (-52), 3) := by decide +kernel
theorem dX1_readInto_66 : decode cX1_readInto 66 = .ok (.iconst (-1), 1) := by decide +kernel
theorem dX1_readInto_67 : decode cX1_readInto 67 = .ok (.aload_n 0, 1) := by decide +kernel
theorem dX1_readInto_68 : decode cX1_readInto 68 = .ok (.getfield 26, 3) := by decide +kernel
theorem dX1_readInto_71 : decode cX1_readInto 71 = .ok (.isub, 1) := by decide +kernel
theorem dX1_readInto_72 : decode cX1_readInto 72 = .ok (.ireturn, 1) := by decide +kernel
theorem dX1_readItem_0 : decode cX1_readItem 0 = .ok (.aload_n 0, 1) := by decide +kernel
theorem dX1_readItem_1 : decode cX1_readItem 1 = .ok (.invokevirtual 32, 3) := by decide +kernel
theorem dX1_readItem_4 : decode cX1_readItem 4 = .ok (.istore_n 2, 1) := by decide +kernel
theorem dX1_readItem_5 : decode cX1_readItem 5 = .ok (.iload_n 2, 1) := by decide +kernel
theorem dX1_readItem_6 : decode cX1_readItem 6 = .ok (.ifCond .lt 10, 3) := by decide +kernel
theorem dX1_readItem_9 : decode cX1_readItem 9 = .ok (.aload_n 0, 1) := by decide +kernel
theorem dX1_readItem_10 : decode cX1_readItem 10 = .ok (.aload_n 1, 1) := by decide +kernel
theorem dX1_readItem_11 : decode cX1_readItem 11 = .ok (.iload_n 2, 1) := by decide +kernel
theorem dX1_readItem_12 : decode cX1_readItem 12 = .ok (.invokevirtual 36, 3) := by decide +kernel
theorem dX1_readItem_15 : decode cX1_readItem 15 = .ok (.ireturn, 1) := by decide +kernel
theorem dX1_readItem_16 : decode cX1_readItem 16 = .ok (.aload_n 0, 1) := by decide +kernel
theorem dX1_readItem_17 : decode cX1_readItem 17 = .ok (.ldc 40, 2) := by decide +kernel
theorem dX1_readItem_19 : decode cX1_readItem 19 = .ok (.invokevirtual 42, 3) := by decide +kernel
theorem dX1_readItem_22 : decode cX1_readItem 22 = .ok (.ifCond .eq 10, 3) := by decide +kernel
theorem dX1_readItem_25 : decode cX1_readItem 25 = .ok (.aload_n 0, 1) := by decide +kernel
theorem dX1_readItem_26 : decode cX1_readItem 26 = .ok (.aload_n 1, 1) := by decide +kernel
theorem dX1_readItem_27 : decode cX1_readItem 27 = .ok (.iconst 0, 1) := by decide +kernel
theorem dX1_readItem_28 : decode cX1_readItem 28 = .ok (.invokevirtual 46, 3) := by decide +kernel
theorem dX1_readItem_31 : decode cX1_readItem 31 = .ok (.ireturn, 1) := by decide +kernel
theorem dX1_readItem_32 : decode cX1_readItem 32 = .ok (.aload_n 0, 1) := by decide +kernel
theorem dX1_readItem_33 : decode cX1_readItem 33 = .ok (.ldc 49, 2) := by decide +kernel
theorem dX1_readItem_35 : decode cX1_readItem 35 = .ok (.invokevirtual 42, 3) := by decide +kernel
theorem dX1_readItem_38 : decode cX1_readItem 38 = .ok (.ifCond .eq 10, 3) := by decide +kernel
theorem dX1_readItem_41 : decode cX1_readItem 41 = .ok (.aload_n 0, 1) := by decide +kernel
theorem dX1_readItem_42 : decode cX1_readItem 42 = .ok (.aload_n 1, 1) := by decide +kernel
theorem dX1_readItem_43 : decode cX1_readItem 43 = .ok (.iconst 1, 1) := by decide +kernel
theorem dX1_readItem_44 : decode cX1_readItem 44 = .ok (.invokevirtual 46, 3) := by decide +kernel
theorem dX1_readItem_47 : decode cX1_readItem 47 = .ok (.ireturn, 1) := by decide +kernel
theorem dX1_readItem_48 : decode cX1_readItem 48 = .ok (.aload_n 0, 1) := by decide +kernel
theorem dX1_readItem_49 : decode cX1_readItem 49 = .ok (.ldc 51, 2) := by decide +kernel
theorem dX1_readItem_51 : decode cX1_readItem 51 = .ok (.invokevirtual 42, 3) := by decide +kernel
theorem dX1_readItem_54 : decode cX1_readItem 54 = .ok (.ifCond .eq 15, 3) := by decide +kernel
theorem dX1_readItem_57 : decode cX1_readItem 57 = .ok (.aload_n 0, 1) := by decide +kernel
theorem dX1_readItem_58 : decode cX1_readItem 58 = .ok (.aload_n 1, 1) := by decide +kernel
theorem dX1_readItem_59 : decode cX1_readItem 59 = .ok (.invokevirtual 53, 3) := by decide +kernel
theorem dX1_readItem_62 : decode cX1_readItem 62 = .ok (.ifCond .eq 7, 3) := by decide +kernel
theorem dX1_readItem_65 : decode cX1_readItem 65 = .ok (.iconst 1, 1) := by decide +kernel
theorem dX1_readItem_66 : decode cX1_readItem 66 = .ok (.goto 4, 3) := by decide +kernel
theorem dX1_readItem_69 : decode cX1_readItem 69 = .ok (.iconst 0, 1) := by decide +kernel
theorem dX1_readItem_70 : decode cX1_readItem 70 = .ok (.ireturn, 1) := by decide +kernel
theorem dX1_readMender_0 : decode cX1_readMender 0 = .ok (.aload_n 1, 1) := by decide +kernel
theorem dX1_readMender_1 : decode cX1_readMender 1 = .ok (.getfield 56, 3) := by decide +kernel
theorem dX1_readMender_4 : decode cX1_readMender 4 = .ok (.bipush 6, 2) := by decide +kernel
theorem dX1_readMender_6 : decode cX1_readMender 6 = .ok (.if_icmp .lt 5, 3) := by decide +kernel
theorem dX1_readMender_9 : decode cX1_readMender 9 = .ok (.iconst 0, 1) := by decide +kernel
theorem dX1_readMender_10 : decode cX1_readMender 10 = .ok (.ireturn, 1) := by decide +kernel
theorem dX1_readMender_11 : decode cX1_readMender 11 = .ok (.aload_n 0, 1) := by decide +kernel
theorem dX1_readMender_12 : decode cX1_readMender 12 = .ok (.invokevirtual 19, 3) := by decide +kernel
theorem dX1_readMender_15 : decode cX1_readMender 15 = .ok (.aload_n 0, 1) := by decide +kernel
theorem dX1_readMender_16 : decode cX1_readMender 16 = .ok (.ldc 61, 2) := by decide +kernel
theorem dX1_readMender_18 : decode cX1_readMender 18 = .ok (.invokevirtual 42, 3) := by decide +kernel
theorem dX1_readMender_21 : decode cX1_readMender 21 = .ok (.ifCond .ne 5, 3) := by decide +kernel
theorem dX1_readMender_24 : decode cX1_readMender 24 = .ok (.iconst 0, 1) := by decide +kernel
theorem dX1_readMender_25 : decode cX1_readMender 25 = .ok (.ireturn, 1) := by decide +kernel
theorem dX1_readMender_26 : decode cX1_readMender 26 = .ok (.aload_n 0, 1) := by decide +kernel
theorem dX1_readMender_27 : decode cX1_readMender 27 = .ok (.invokevirtual 19, 3) := by decide +kernel
theorem dX1_readMender_30 : decode cX1_readMender 30 = .ok (.aload_n 0, 1) := by decide +kernel
theorem dX1_readMender_31 : decode cX1_readMender 31 = .ok (.iconst 0, 1) := by decide +kernel
theorem dX1_readMender_32 : decode cX1_readMender 32 = .ok (.bipush 47, 2) := by decide +kernel
theorem dX1_readMender_34 : decode cX1_readMender 34 = .ok (.invokevirtual 63, 3) := by decide +kernel
theorem dX1_readMender_37 : decode cX1_readMender 37 = .ok (.ifCond .ne 5, 3) := by decide +kernel
theorem dX1_readMender_40 : decode cX1_readMender 40 = .ok (.iconst 0, 1) := by decide +kernel
theorem dX1_readMender_41 : decode cX1_readMender 41 = .ok (.ireturn, 1) := by decide +kernel
theorem dX1_readMender_42 : decode cX1_readMender 42 = .ok (.aload_n 0, 1) := by decide +kernel
theorem dX1_readMender_43 : decode cX1_readMender 43 = .ok (.getfield 67, 3) := by decide +kernel
theorem dX1_readMender_46 : decode cX1_readMender 46 = .ok (.istore_n 3, 1) := by decide +kernel
theorem dX1_readMender_47 : decode cX1_readMender 47 = .ok (.bipush 50, 2) := by decide +kernel
theorem dX1_readMender_49 : decode cX1_readMender 49 = .ok (.istore 4, 2) := by decide +kernel
theorem dX1_readMender_51 : decode cX1_readMender 51 = .ok (.aload_n 0, 1) := by decide +kernel
theorem dX1_readMender_52 : decode cX1_readMender 52 = .ok (.invokevirtual 19, 3) := by decide +kernel
theorem dX1_readMender_55 : decode cX1_readMender 55 = .ok (.aload_n 0, 1) := by decide +kernel
theorem dX1_readMender_56 : decode cX1_readMender 56 = .ok (.ldc 70, 2) := by decide +kernel
theorem dX1_readMender_58 : decode cX1_readMender 58 = .ok (.invokevirtual 42, 3) := by decide +kernel
theorem dX1_readMender_61 : decode cX1_readMender 61 = .ok (.ifCond .eq 30, 3) := by decide +kernel
theorem dX1_readMender_64 : decode cX1_readMender 64 = .ok (.aload_n 0, 1) := by decide +kernel
theorem dX1_readMender_65 : decode cX1_readMender 65 = .ok (.invokevirtual 19, 3) := by decide +kernel
theorem dX1_readMender_68 : decode cX1_readMender 68 = .ok (.aload_n 0, 1) := by decide +kernel
theorem dX1_readMender_69 : decode cX1_readMender 69 = .ok (.iconst 0, 1) := by decide +kernel
theorem dX1_readMender_70 : decode cX1_readMender 70 = .ok (.sipush 9999, 3) := by decide +kernel
theorem dX1_readMender_73 : decode cX1_readMender 73 = .ok (.invokevirtual 63, 3) := by decide +kernel
theorem dX1_readMender_76 : decode cX1_readMender 76 = .ok (.ifCond .ne 5, 3) := by decide +kernel
theorem dX1_readMender_79 : decode cX1_readMender 79 = .ok (.iconst 0, 1) := by decide +kernel
theorem dX1_readMender_80 : decode cX1_readMender 80 = .ok (.ireturn, 1) := by decide +kernel
theorem dX1_readMender_81 : decode cX1_readMender 81 = .ok (.aload_n 0, 1) := by decide +kernel
theorem dX1_readMender_82 : decode cX1_readMender 82 = .ok (.getfield 67, 3) := by decide +kernel
theorem dX1_readMender_85 : decode cX1_readMender 85 = .ok (.istore 4, 2) := by decide +kernel
theorem dX1_readMender_87 : decode cX1_readMender 87 = .ok (.aload_n 0, 1) := by decide +kernel
theorem dX1_readMender_88 : decode cX1_readMender 88 = .ok (.invokevirtual 19, 3) := by decide +kernel
theorem dX1_readMender_91 : decode cX1_readMender 91 = .ok (.aload_n 1, 1) := by decide +kernel
theorem dX1_readMender_92 : decode cX1_readMender 92 = .ok (.iload_n 2, 1) := by decide +kernel
theorem dX1_readMender_93 : decode cX1_readMender 93 = .ok (.iload_n 3, 1) := by decide +kernel
theorem dX1_readMender_94 : decode cX1_readMender 94 = .ok (.iload 4, 2) := by decide +kernel
theorem dX1_readMender_96 : decode cX1_readMender 96 = .ok (.invokevirtual 72, 3) := by decide +kernel
theorem dX1_readMender_99 : decode cX1_readMender 99 = .ok (.pop, 1) := by decide +kernel
theorem dX1_readMender_100 : decode cX1_readMender 100 = .ok (.iconst 1, 1) := by decide +kernel
theorem dX1_readMender_101 : decode cX1_readMender 101 = .ok (.ireturn, 1) := by decide +kernel
theorem dX1_readCells_0 : decode cX1_readCells 0 = .ok (.aload_n 0, 1) := by decide +kernel
theorem dX1_readCells_1 : decode cX1_readCells 1 = .ok (.invokevirtual 19, 3) := by decide +kernel
theorem dX1_readCells_4 : decode cX1_readCells 4 = .ok (.aload_n 0, 1) := by decide +kernel
theorem dX1_readCells_5 : decode cX1_readCells 5 = .ok (.iconst 0, 1) := by decide +kernel
theorem dX1_readCells_6 : decode cX1_readCells 6 = .ok (.bipush 47, 2) := by decide +kernel
theorem dX1_readCells_8 : decode cX1_readCells 8 = .ok (.invokevirtual 63, 3) := by decide +kernel
theorem dX1_readCells_11 : decode cX1_readCells 11 = .ok (.ifCond .ne 5, 3) := by decide +kernel
theorem dX1_readCells_14 : decode cX1_readCells 14 = .ok (.iconst 0, 1) := by decide +kernel
theorem dX1_readCells_15 : decode cX1_readCells 15 = .ok (.ireturn, 1) := by decide +kernel
theorem dX1_readCells_16 : decode cX1_readCells 16 = .ok (.aload_n 0, 1) := by decide +kernel
theorem dX1_readCells_17 : decode cX1_readCells 17 = .ok (.getfield 67, 3) := by decide +kernel
theorem dX1_readCells_20 : decode cX1_readCells 20 = .ok (.istore_n 3, 1) := by decide +kernel
theorem dX1_readCells_21 : decode cX1_readCells 21 = .ok (.aload_n 0, 1) := by decide +kernel
theorem dX1_readCells_22 : decode cX1_readCells 22 = .ok (.getfield 67, 3) := by decide +kernel
theorem dX1_readCells_25 : decode cX1_readCells 25 = .ok (.istore 4, 2) := by decide +kernel
theorem dX1_readCells_27 : decode cX1_readCells 27 = .ok (.aload_n 0, 1) := by decide +kernel
theorem dX1_readCells_28 : decode cX1_readCells 28 = .ok (.invokevirtual 19, 3) := by decide +kernel
theorem dX1_readCells_31 : decode cX1_readCells 31 = .ok (.aload_n 0, 1) := by decide +kernel
theorem dX1_readCells_32 : decode cX1_readCells 32 = .ok (.invokevirtual 76, 3) := by decide +kernel
theorem dX1_readCells_35 : decode cX1_readCells 35 = .ok (.istore 5, 2) := by decide +kernel
theorem dX1_readCells_37 : decode cX1_readCells 37 = .ok (.iload 5, 2) := by decide +kernel
theorem dX1_readCells_39 : decode cX1_readCells 39 = .ok (.ifCond .ge 5, 3) := by decide +kernel
theorem dX1_readCells_42 : decode cX1_readCells 42 = .ok (.iconst 0, 1) := by decide +kernel
theorem dX1_readCells_43 : decode cX1_readCells 43 = .ok (.ireturn, 1) := by decide +kernel
theorem dX1_readCells_44 : decode cX1_readCells 44 = .ok (.aload_n 0, 1) := by decide +kernel
theorem dX1_readCells_45 : decode cX1_readCells 45 = .ok (.invokevirtual 19, 3) := by decide +kernel
theorem dX1_readCells_48 : decode cX1_readCells 48 = .ok (.aload_n 0, 1) := by decide +kernel
theorem dX1_readCells_49 : decode cX1_readCells 49 = .ok (.ldc 79, 2) := by decide +kernel
theorem dX1_readCells_51 : decode cX1_readCells 51 = .ok (.invokevirtual 42, 3) := by decide +kernel
theorem dX1_readCells_54 : decode cX1_readCells 54 = .ok (.ifCond .eq 29, 3) := by decide +kernel
theorem dX1_readCells_57 : decode cX1_readCells 57 = .ok (.aload_n 0, 1) := by decide +kernel
theorem dX1_readCells_58 : decode cX1_readCells 58 = .ok (.invokevirtual 19, 3) := by decide +kernel
theorem dX1_readCells_61 : decode cX1_readCells 61 = .ok (.aload_n 0, 1) := by decide +kernel
theorem dX1_readCells_62 : decode cX1_readCells 62 = .ok (.iload_n 3, 1) := by decide +kernel
theorem dX1_readCells_63 : decode cX1_readCells 63 = .ok (.bipush 47, 2) := by decide +kernel
theorem dX1_readCells_65 : decode cX1_readCells 65 = .ok (.invokevirtual 63, 3) := by decide +kernel
theorem dX1_readCells_68 : decode cX1_readCells 68 = .ok (.ifCond .ne 5, 3) := by decide +kernel
theorem dX1_readCells_71 : decode cX1_readCells 71 = .ok (.iconst 0, 1) := by decide +kernel
theorem dX1_readCells_72 : decode cX1_readCells 72 = .ok (.ireturn, 1) := by decide +kernel
theorem dX1_readCells_73 : decode cX1_readCells 73 = .ok (.aload_n 0, 1) := by decide +kernel
theorem dX1_readCells_74 : decode cX1_readCells 74 = .ok (.getfield 67, 3) := by decide +kernel
theorem dX1_readCells_77 : decode cX1_readCells 77 = .ok (.istore 4, 2) := by decide +kernel
theorem dX1_readCells_79 : decode cX1_readCells 79 = .ok (.aload_n 0, 1) := by decide +kernel
theorem dX1_readCells_80 : decode cX1_readCells 80 = .ok (.invokevirtual 19, 3) := by decide +kernel
theorem dX1_readCells_83 : decode cX1_readCells 83 = .ok (.iload_n 3, 1) := by decide +kernel
theorem dX1_readCells_84 : decode cX1_readCells 84 = .ok (.istore 6, 2) := by decide +kernel
theorem dX1_readCells_86 : decode cX1_readCells 86 = .ok (.iload 6, 2) := by decide +kernel
theorem dX1_readCells_88 : decode cX1_readCells 88 = .ok (.iload 4, 2) := by decide +kernel
theorem dX1_readCells_90 : decode cX1_readCells 90 = .ok (.if_icmp .gt 19, 3) := by decide +kernel
theorem dX1_readCells_93 : decode cX1_readCells 93 = .ok (.aload_n 1, 1) := by decide +kernel
theorem dX1_readCells_94 : decode cX1_readCells 94 = .ok (.iload_n 2, 1) := by decide +kernel
theorem dX1_readCells_95 : decode cX1_readCells 95 = .ok (.iload 6, 2) := by decide +kernel
theorem dX1_readCells_97 : decode cX1_readCells 97 = .ok (.iload 5, 2) := by decide +kernel
theorem dX1_readCells_99 : decode cX1_readCells 99 = .ok (.invokevirtual 81, 3) := by decide +kernel
theorem dX1_readCells_102 : decode cX1_readCells 102 = .ok (.pop, 1) := by decide +kernel
theorem dX1_readCells_103 : decode cX1_readCells 103 = .ok (.iinc 6 1, 3) := by decide +kernel
theorem dX1_readCells_106 : decode cX1_readCells 106 = .ok (.goto (-20), 3) := by decide +kernel
theorem dX1_readCells_109 : decode cX1_readCells 109 = .ok (.iconst 1, 1) := by decide +kernel
theorem dX1_readCells_110 : decode cX1_readCells 110 = .ok (.ireturn, 1) := by decide +kernel
theorem dX1_readIncome_0 : decode cX1_readIncome 0 = .ok (.aload_n 0, 1) := by decide +kernel
theorem dX1_readIncome_1 : decode cX1_readIncome 1 = .ok (.invokevirtual 19, 3) := by decide +kernel
theorem dX1_readIncome_4 : decode cX1_readIncome 4 = .ok (.aload_n 0, 1) := by decide +kernel
theorem dX1_readIncome_5 : decode cX1_readIncome 5 = .ok (.iconst 0, 1) := by decide +kernel
theorem dX1_readIncome_6 : decode cX1_readIncome 6 = .ok (.bipush 20, 2) := by decide +kernel
theorem dX1_readIncome_8 : decode cX1_readIncome 8 = .ok (.invokevirtual 63, 3) := by decide +kernel
theorem dX1_readIncome_11 : decode cX1_readIncome 11 = .ok (.ifCond .ne 5, 3) := by decide +kernel
theorem dX1_readIncome_14 : decode cX1_readIncome 14 = .ok (.iconst 0, 1) := by decide +kernel
theorem dX1_readIncome_15 : decode cX1_readIncome 15 = .ok (.ireturn, 1) := by decide +kernel
theorem dX1_readIncome_16 : decode cX1_readIncome 16 = .ok (.aload_n 1, 1) := by decide +kernel
theorem dX1_readIncome_17 : decode cX1_readIncome 17 = .ok (.aload_n 0, 1) := by decide +kernel
theorem dX1_readIncome_18 : decode cX1_readIncome 18 = .ok (.getfield 67, 3) := by decide +kernel
theorem dX1_readIncome_21 : decode cX1_readIncome 21 = .ok (.putfield 84, 3) := by decide +kernel
theorem dX1_readIncome_24 : decode cX1_readIncome 24 = .ok (.aload_n 0, 1) := by decide +kernel
theorem dX1_readIncome_25 : decode cX1_readIncome 25 = .ok (.invokevirtual 19, 3) := by decide +kernel
theorem dX1_readIncome_28 : decode cX1_readIncome 28 = .ok (.iconst 1, 1) := by decide +kernel
theorem dX1_readIncome_29 : decode cX1_readIncome 29 = .ok (.ireturn, 1) := by decide +kernel
theorem dX1_kindNamed_0 : decode cX1_kindNamed 0 = .ok (.iconst 0, 1) := by decide +kernel
theorem dX1_kindNamed_1 : decode cX1_kindNamed 1 = .ok (.istore_n 1, 1) := by decide +kernel
theorem dX1_kindNamed_2 : decode cX1_kindNamed 2 = .ok (.iload_n 1, 1) := by decide +kernel
theorem dX1_kindNamed_3 : decode cX1_kindNamed 3 = .ok (.bipush 6, 2) := by decide +kernel
theorem dX1_kindNamed_5 : decode cX1_kindNamed 5 = .ok (.if_icmp .ge 22, 3) := by decide +kernel
theorem dX1_kindNamed_8 : decode cX1_kindNamed 8 = .ok (.aload_n 0, 1) := by decide +kernel
theorem dX1_kindNamed_9 : decode cX1_kindNamed 9 = .ok (.iload_n 1, 1) := by decide +kernel
theorem dX1_kindNamed_10 : decode cX1_kindNamed 10 = .ok (.invokestatic 86, 3) := by decide +kernel
theorem dX1_kindNamed_13 : decode cX1_kindNamed 13 = .ok (.invokevirtual 42, 3) := by decide +kernel
theorem dX1_kindNamed_16 : decode cX1_kindNamed 16 = .ok (.ifCond .eq 5, 3) := by decide +kernel
theorem dX1_kindNamed_19 : decode cX1_kindNamed 19 = .ok (.iload_n 1, 1) := by decide +kernel
theorem dX1_kindNamed_20 : decode cX1_kindNamed 20 = .ok (.ireturn, 1) := by decide +kernel
theorem dX1_kindNamed_21 : decode cX1_kindNamed 21 = .ok (.iinc 1 1, 3) := by decide +kernel
theorem dX1_kindNamed_24 : decode cX1_kindNamed 24 = .ok (.goto (-22), 3) := by decide +kernel
theorem dX1_kindNamed_27 : decode cX1_kindNamed 27 = .ok (.iconst (-1), 1) := by decide +kernel
theorem dX1_kindNamed_28 : decode cX1_kindNamed 28 = .ok (.ireturn, 1) := by decide +kernel
theorem dX1_sortNamed_0 : decode cX1_sortNamed 0 = .ok (.iconst 0, 1) := by decide +kernel
theorem dX1_sortNamed_1 : decode cX1_sortNamed 1 = .ok (.istore_n 1, 1) := by decide +kernel
theorem dX1_sortNamed_2 : decode cX1_sortNamed 2 = .ok (.iload_n 1, 1) := by decide +kernel
theorem dX1_sortNamed_3 : decode cX1_sortNamed 3 = .ok (.bipush 6, 2) := by decide +kernel
theorem dX1_sortNamed_5 : decode cX1_sortNamed 5 = .ok (.if_icmp .ge 22, 3) := by decide +kernel
theorem dX1_sortNamed_8 : decode cX1_sortNamed 8 = .ok (.aload_n 0, 1) := by decide +kernel
theorem dX1_sortNamed_9 : decode cX1_sortNamed 9 = .ok (.iload_n 1, 1) := by decide +kernel
theorem dX1_sortNamed_10 : decode cX1_sortNamed 10 = .ok (.invokestatic 90, 3) := by decide +kernel
theorem dX1_sortNamed_13 : decode cX1_sortNamed 13 = .ok (.invokevirtual 42, 3) := by decide +kernel
theorem dX1_sortNamed_16 : decode cX1_sortNamed 16 = .ok (.ifCond .eq 5, 3) := by decide +kernel
theorem dX1_sortNamed_19 : decode cX1_sortNamed 19 = .ok (.iload_n 1, 1) := by decide +kernel
theorem dX1_sortNamed_20 : decode cX1_sortNamed 20 = .ok (.ireturn, 1) := by decide +kernel
theorem dX1_sortNamed_21 : decode cX1_sortNamed 21 = .ok (.iinc 1 1, 3) := by decide +kernel
theorem dX1_sortNamed_24 : decode cX1_sortNamed 24 = .ok (.goto (-22), 3) := by decide +kernel
theorem dX1_sortNamed_27 : decode cX1_sortNamed 27 = .ok (.iconst (-1), 1) := by decide +kernel
theorem dX1_sortNamed_28 : decode cX1_sortNamed 28 = .ok (.ireturn, 1) := by decide +kernel
theorem dX1_nameOfKind_0 : decode cX1_nameOfKind 0 = .ok (.iload_n 0, 1) := by decide +kernel
theorem dX1_nameOfKind_1 : decode cX1_nameOfKind 1 = .ok (.tableswitch 50 0 4 #[35, 38, 41, 44, 47], 35) := by decide +kernel
theorem dX1_nameOfKind_36 : decode cX1_nameOfKind 36 = .ok (.ldc 93, 2) := by decide +kernel
theorem dX1_nameOfKind_38 : decode cX1_nameOfKind 38 = .ok (.areturn, 1) := by decide +kernel
theorem dX1_nameOfKind_39 : decode cX1_nameOfKind 39 = .ok (.ldc 95, 2) := by decide +kernel
theorem dX1_nameOfKind_41 : decode cX1_nameOfKind 41 = .ok (.areturn, 1) := by decide +kernel
theorem dX1_nameOfKind_42 : decode cX1_nameOfKind 42 = .ok (.ldc 97, 2) := by decide +kernel
theorem dX1_nameOfKind_44 : decode cX1_nameOfKind 44 = .ok (.areturn, 1) := by decide +kernel
theorem dX1_nameOfKind_45 : decode cX1_nameOfKind 45 = .ok (.ldc 99, 2) := by decide +kernel
theorem dX1_nameOfKind_47 : decode cX1_nameOfKind 47 = .ok (.areturn, 1) := by decide +kernel
theorem dX1_nameOfKind_48 : decode cX1_nameOfKind 48 = .ok (.ldc 101, 2) := by decide +kernel
theorem dX1_nameOfKind_50 : decode cX1_nameOfKind 50 = .ok (.areturn, 1) := by decide +kernel
theorem dX1_nameOfKind_51 : decode cX1_nameOfKind 51 = .ok (.ldc 103, 2) := by decide +kernel
theorem dX1_nameOfKind_53 : decode cX1_nameOfKind 53 = .ok (.areturn, 1) := by decide +kernel
theorem dX1_nameOfSort_0 : decode cX1_nameOfSort 0 = .ok (.iload_n 0, 1) := by decide +kernel
theorem dX1_nameOfSort_1 : decode cX1_nameOfSort 1 = .ok (.tableswitch 50 0 4 #[35, 38, 41, 44, 47], 35) := by decide +kernel
theorem dX1_nameOfSort_36 : decode cX1_nameOfSort 36 = .ok (.ldc 105, 2) := by decide +kernel
theorem dX1_nameOfSort_38 : decode cX1_nameOfSort 38 = .ok (.areturn, 1) := by decide +kernel
theorem dX1_nameOfSort_39 : decode cX1_nameOfSort 39 = .ok (.ldc 107, 2) := by decide +kernel
theorem dX1_nameOfSort_41 : decode cX1_nameOfSort 41 = .ok (.areturn, 1) := by decide +kernel
theorem dX1_nameOfSort_42 : decode cX1_nameOfSort 42 = .ok (.ldc 109, 2) := by decide +kernel
theorem dX1_nameOfSort_44 : decode cX1_nameOfSort 44 = .ok (.areturn, 1) := by decide +kernel
theorem dX1_nameOfSort_45 : decode cX1_nameOfSort 45 = .ok (.ldc 111, 2) := by decide +kernel
theorem dX1_nameOfSort_47 : decode cX1_nameOfSort 47 = .ok (.areturn, 1) := by decide +kernel
theorem dX1_nameOfSort_48 : decode cX1_nameOfSort 48 = .ok (.ldc 113, 2) := by decide +kernel
theorem dX1_nameOfSort_50 : decode cX1_nameOfSort 50 = .ok (.areturn, 1) := by decide +kernel
theorem dX1_nameOfSort_51 : decode cX1_nameOfSort 51 = .ok (.ldc 115, 2) := by decide +kernel
theorem dX1_nameOfSort_53 : decode cX1_nameOfSort 53 = .ok (.areturn, 1) := by decide +kernel
theorem dX1_isWord_0 : decode cX1_isWord 0 = .ok (.aload_n 0, 1) := by decide +kernel
theorem dX1_isWord_1 : decode cX1_isWord 1 = .ok (.getfield 29, 3) := by decide +kernel
theorem dX1_isWord_4 : decode cX1_isWord 4 = .ok (.iconst 1, 1) := by decide +kernel
theorem dX1_isWord_5 : decode cX1_isWord 5 = .ok (.if_icmp .ne 19, 3) := by decide +kernel
theorem dX1_isWord_8 : decode cX1_isWord 8 = .ok (.aload_n 0, 1) := by decide +kernel
theorem dX1_isWord_9 : decode cX1_isWord 9 = .ok (.getfield 15, 3) := by decide +kernel
theorem dX1_isWord_12 : decode cX1_isWord 12 = .ok (.aload_n 0, 1) := by decide +kernel
theorem dX1_isWord_13 : decode cX1_isWord 13 = .ok (.getfield 26, 3) := by decide +kernel
theorem dX1_isWord_16 : decode cX1_isWord 16 = .ok (.isub, 1) := by decide +kernel
theorem dX1_isWord_17 : decode cX1_isWord 17 = .ok (.aload_n 1, 1) := by decide +kernel
theorem dX1_isWord_18 : decode cX1_isWord 18 = .ok (.invokevirtual 117, 3) := by decide +kernel
theorem dX1_isWord_21 : decode cX1_isWord 21 = .ok (.if_icmp .eq 5, 3) := by decide +kernel
theorem dX1_isWord_24 : decode cX1_isWord 24 = .ok (.iconst 0, 1) := by decide +kernel
theorem dX1_isWord_25 : decode cX1_isWord 25 = .ok (.ireturn, 1) := by decide +kernel
theorem dX1_isWord_26 : decode cX1_isWord 26 = .ok (.iconst 0, 1) := by decide +kernel
theorem dX1_isWord_27 : decode cX1_isWord 27 = .ok (.istore_n 2, 1) := by decide +kernel
theorem dX1_isWord_28 : decode cX1_isWord 28 = .ok (.iload_n 2, 1) := by decide +kernel
theorem dX1_isWord_29 : decode cX1_isWord 29 = .ok (.aload_n 1, 1) := by decide +kernel
theorem dX1_isWord_30 : decode cX1_isWord 30 = .ok (.invokevirtual 117, 3) := by decide +kernel
theorem dX1_isWord_33 : decode cX1_isWord 33 = .ok (.if_icmp .ge 30, 3) := by decide +kernel
theorem dX1_isWord_36 : decode cX1_isWord 36 = .ok (.aload_n 0, 1) := by decide +kernel
theorem dX1_isWord_37 : decode cX1_isWord 37 = .ok (.getfield 9, 3) := by decide +kernel
theorem dX1_isWord_40 : decode cX1_isWord 40 = .ok (.aload_n 0, 1) := by decide +kernel
theorem dX1_isWord_41 : decode cX1_isWord 41 = .ok (.getfield 26, 3) := by decide +kernel
theorem dX1_isWord_44 : decode cX1_isWord 44 = .ok (.iload_n 2, 1) := by decide +kernel
theorem dX1_isWord_45 : decode cX1_isWord 45 = .ok (.iadd, 1) := by decide +kernel
theorem dX1_isWord_46 : decode cX1_isWord 46 = .ok (.iaload, 1) := by decide +kernel
theorem dX1_isWord_47 : decode cX1_isWord 47 = .ok (.aload_n 1, 1) := by decide +kernel
theorem dX1_isWord_48 : decode cX1_isWord 48 = .ok (.iload_n 2, 1) := by decide +kernel
theorem dX1_isWord_49 : decode cX1_isWord 49 = .ok (.invokevirtual 122, 3) := by decide +kernel
theorem dX1_isWord_52 : decode cX1_isWord 52 = .ok (.if_icmp .eq 5, 3) := by decide +kernel
theorem dX1_isWord_55 : decode cX1_isWord 55 = .ok (.iconst 0, 1) := by decide +kernel
theorem dX1_isWord_56 : decode cX1_isWord 56 = .ok (.ireturn, 1) := by decide +kernel
theorem dX1_isWord_57 : decode cX1_isWord 57 = .ok (.iinc 2 1, 3) := by decide +kernel
theorem dX1_isWord_60 : decode cX1_isWord 60 = .ok (.goto (-32), 3) := by decide +kernel
theorem dX1_isWord_63 : decode cX1_isWord 63 = .ok (.iconst 1, 1) := by decide +kernel
theorem dX1_isWord_64 : decode cX1_isWord 64 = .ok (.ireturn, 1) := by decide +kernel
theorem dX1_isNumber_0 : decode cX1_isNumber 0 = .ok (.aload_n 0, 1) := by decide +kernel
theorem dX1_isNumber_1 : decode cX1_isNumber 1 = .ok (.getfield 29, 3) := by decide +kernel
theorem dX1_isNumber_4 : decode cX1_isNumber 4 = .ok (.iconst 2, 1) := by decide +kernel
theorem dX1_isNumber_5 : decode cX1_isNumber 5 = .ok (.if_icmp .ne 23, 3) := by decide +kernel
theorem dX1_isNumber_8 : decode cX1_isNumber 8 = .ok (.aload_n 0, 1) := by decide +kernel
theorem dX1_isNumber_9 : decode cX1_isNumber 9 = .ok (.getfield 67, 3) := by decide +kernel
theorem dX1_isNumber_12 : decode cX1_isNumber 12 = .ok (.iload_n 1, 1) := by decide +kernel
theorem dX1_isNumber_13 : decode cX1_isNumber 13 = .ok (.if_icmp .lt 15, 3) := by decide +kernel
theorem dX1_isNumber_16 : decode cX1_isNumber 16 = .ok (.aload_n 0, 1) := by decide +kernel
theorem dX1_isNumber_17 : decode cX1_isNumber 17 = .ok (.getfield 67, 3) := by decide +kernel
theorem dX1_isNumber_20 : decode cX1_isNumber 20 = .ok (.iload_n 2, 1) := by decide +kernel
theorem dX1_isNumber_21 : decode cX1_isNumber 21 = .ok (.if_icmp .gt 7, 3) := by decide +kernel
theorem dX1_isNumber_24 : decode cX1_isNumber 24 = .ok (.iconst 1, 1) := by decide +kernel
theorem dX1_isNumber_25 : decode cX1_isNumber 25 = .ok (.goto 4, 3) := by decide +kernel
theorem dX1_isNumber_28 : decode cX1_isNumber 28 = .ok (.iconst 0, 1) := by decide +kernel
theorem dX1_isNumber_29 : decode cX1_isNumber 29 = .ok (.ireturn, 1) := by decide +kernel
theorem dX1_advance_0 : decode cX1_advance 0 = .ok (.aload_n 0, 1) := by decide +kernel
theorem dX1_advance_1 : decode cX1_advance 1 = .ok (.aload_n 0, 1) := by decide +kernel
theorem dX1_advance_2 : decode cX1_advance 2 = .ok (.getfield 15, 3) := by decide +kernel
theorem dX1_advance_5 : decode cX1_advance 5 = .ok (.putfield 26, 3) := by decide +kernel
theorem dX1_advance_8 : decode cX1_advance 8 = .ok (.aload_n 0, 1) := by decide +kernel
theorem dX1_advance_9 : decode cX1_advance 9 = .ok (.getfield 26, 3) := by decide +kernel
theorem dX1_advance_12 : decode cX1_advance 12 = .ok (.aload_n 0, 1) := by decide +kernel
theorem dX1_advance_13 : decode cX1_advance 13 = .ok (.getfield 126, 3) := by decide +kernel
theorem dX1_advance_16 : decode cX1_advance 16 = .ok (.if_icmp .ge 30, 3) := by decide +kernel
theorem dX1_advance_19 : decode cX1_advance 19 = .ok (.aload_n 0, 1) := by decide +kernel
theorem dX1_advance_20 : decode cX1_advance 20 = .ok (.getfield 9, 3) := by decide +kernel
theorem dX1_advance_23 : decode cX1_advance 23 = .ok (.aload_n 0, 1) := by decide +kernel
theorem dX1_advance_24 : decode cX1_advance 24 = .ok (.getfield 26, 3) := by decide +kernel
theorem dX1_advance_27 : decode cX1_advance 27 = .ok (.iaload, 1) := by decide +kernel
theorem dX1_advance_28 : decode cX1_advance 28 = .ok (.bipush 32, 2) := by decide +kernel
theorem dX1_advance_30 : decode cX1_advance 30 = .ok (.if_icmp .ne 16, 3) := by decide +kernel
theorem dX1_advance_33 : decode cX1_advance 33 = .ok (.aload_n 0, 1) := by decide +kernel
theorem dX1_advance_34 : decode cX1_advance 34 = .ok (.dup, 1) := by decide +kernel
theorem dX1_advance_35 : decode cX1_advance 35 = .ok (.getfield 26, 3) := by decide +kernel
theorem dX1_advance_38 : decode cX1_advance 38 = .ok (.iconst 1, 1) := by decide +kernel
theorem dX1_advance_39 : decode cX1_advance 39 = .ok (.iadd, 1) := by decide +kernel
theorem dX1_advance_40 : decode cX1_advance 40 = .ok (.putfield 26, 3) := by decide +kernel
theorem dX1_advance_43 : decode cX1_advance 43 = .ok (.goto (-35), 3) := by decide +kernel
theorem dX1_advance_46 : decode cX1_advance 46 = .ok (.aload_n 0, 1) := by decide +kernel
theorem dX1_advance_47 : decode cX1_advance 47 = .ok (.aload_n 0, 1) := by decide +kernel
theorem dX1_advance_48 : decode cX1_advance 48 = .ok (.getfield 26, 3) := by decide +kernel
theorem dX1_advance_51 : decode cX1_advance 51 = .ok (.putfield 15, 3) := by decide +kernel
theorem dX1_advance_54 : decode cX1_advance 54 = .ok (.aload_n 0, 1) := by decide +kernel
theorem dX1_advance_55 : decode cX1_advance 55 = .ok (.getfield 26, 3) := by decide +kernel
theorem dX1_advance_58 : decode cX1_advance 58 = .ok (.aload_n 0, 1) := by decide +kernel
theorem dX1_advance_59 : decode cX1_advance 59 = .ok (.getfield 126, 3) := by decide +kernel
theorem dX1_advance_62 : decode cX1_advance 62 = .ok (.if_icmp .lt 11, 3) := by decide +kernel
theorem dX1_advance_65 : decode cX1_advance 65 = .ok (.aload_n 0, 1) := by decide +kernel
theorem dX1_advance_66 : decode cX1_advance 66 = .ok (.iconst 0, 1) := by decide +kernel
theorem dX1_advance_67 : decode cX1_advance 67 = .ok (.putfield 29, 3) := by decide +kernel
theorem dX1_advance_70 : decode cX1_advance 70 = .ok (.goto 122, 3) := by decide +kernel
theorem dX1_advance_73 : decode cX1_advance 73 = .ok (.aload_n 0, 1) := by decide +kernel
theorem dX1_advance_74 : decode cX1_advance 74 = .ok (.getfield 9, 3) := by decide +kernel
theorem dX1_advance_77 : decode cX1_advance 77 = .ok (.aload_n 0, 1) := by decide +kernel
theorem dX1_advance_78 : decode cX1_advance 78 = .ok (.getfield 26, 3) := by decide +kernel
theorem dX1_advance_81 : decode cX1_advance 81 = .ok (.iaload, 1) := by decide +kernel
theorem dX1_advance_82 : decode cX1_advance 82 = .ok (.invokestatic 128, 3) := by decide +kernel
theorem dX1_advance_85 : decode cX1_advance 85 = .ok (.ifCond .eq 47, 3) := by decide +kernel
theorem dX1_advance_88 : decode cX1_advance 88 = .ok (.aload_n 0, 1) := by decide +kernel
theorem dX1_advance_89 : decode cX1_advance 89 = .ok (.iconst 1, 1) := by decide +kernel
theorem dX1_advance_90 : decode cX1_advance 90 = .ok (.putfield 29, 3) := by decide +kernel
theorem dX1_advance_93 : decode cX1_advance 93 = .ok (.aload_n 0, 1) := by decide +kernel
theorem dX1_advance_94 : decode cX1_advance 94 = .ok (.getfield 15, 3) := by decide +kernel
theorem dX1_advance_97 : decode cX1_advance 97 = .ok (.aload_n 0, 1) := by decide +kernel
theorem dX1_advance_98 : decode cX1_advance 98 = .ok (.getfield 126, 3) := by decide +kernel
theorem dX1_advance_101 : decode cX1_advance 101 = .ok (.if_icmp .ge 91, 3) := by decide +kernel
theorem dX1_advance_104 : decode cX1_advance 104 = .ok (.aload_n 0, 1) := by decide +kernel
theorem dX1_advance_105 : decode cX1_advance 105 = .ok (.getfield 9, 3) := by decide +kernel
theorem dX1_advance_108 : decode cX1_advance 108 = .ok (.aload_n 0, 1) := by decide +kernel
theorem dX1_advance_109 : decode cX1_advance 109 = .ok (.getfield 15, 3) := by decide +kernel
theorem dX1_advance_112 : decode cX1_advance 112 = .ok (.iaload, 1) := by decide +kernel
theorem dX1_advance_113 : decode cX1_advance 113 = .ok (.invokestatic 128, 3) := by decide +kernel
theorem dX1_advance_116 : decode cX1_advance 116 = .ok (.ifCond .eq 76, 3) := by decide +kernel
theorem dX1_advance_119 : decode cX1_advance 119 = .ok (.aload_n 0, 1) := by decide +kernel
theorem dX1_advance_120 : decode cX1_advance 120 = .ok (.dup, 1) := by decide +kernel
theorem dX1_advance_121 : decode cX1_advance 121 = .ok (.getfield 15, 3) := by decide +kernel
theorem dX1_advance_124 : decode cX1_advance 124 = .ok (.iconst 1, 1) := by decide +kernel
theorem dX1_advance_125 : decode cX1_advance 125 = .ok (.iadd, 1) := by decide +kernel
theorem dX1_advance_126 : decode cX1_advance 126 = .ok (.putfield 15, 3) := by decide +kernel
theorem dX1_advance_129 : decode cX1_advance 129 = .ok (.goto (-36), 3) := by decide +kernel
theorem dX1_advance_132 : decode cX1_advance 132 = .ok (.aload_n 0, 1) := by decide +kernel
theorem dX1_advance_133 : decode cX1_advance 133 = .ok (.getfield 9, 3) := by decide +kernel
theorem dX1_advance_136 : decode cX1_advance 136 = .ok (.aload_n 0, 1) := by decide +kernel
theorem dX1_advance_137 : decode cX1_advance 137 = .ok (.getfield 26, 3) := by decide +kernel
theorem dX1_advance_140 : decode cX1_advance 140 = .ok (.iaload, 1) := by decide +kernel
theorem dX1_advance_141 : decode cX1_advance 141 = .ok (.invokestatic 132, 3) := by decide +kernel
theorem dX1_advance_144 : decode cX1_advance 144 = .ok (.ifCond .eq 15, 3) := by decide +kernel
theorem dX1_advance_147 : decode cX1_advance 147 = .ok (.aload_n 0, 1) := by decide +kernel
theorem dX1_advance_148 : decode cX1_advance 148 = .ok (.iconst 2, 1) := by decide +kernel
theorem dX1_advance_149 : decode cX1_advance 149 = .ok (.putfield 29, 3) := by decide +kernel
theorem dX1_advance_152 : decode cX1_advance 152 = .ok (.aload_n 0, 1) := by decide +kernel
theorem dX1_advance_153 : decode cX1_advance 153 = .ok (.invokevirtual 135, 3) := by decide +kernel
theorem dX1_advance_156 : decode cX1_advance 156 = .ok (.goto 36, 3) := by decide +kernel
theorem dX1_advance_159 : decode cX1_advance 159 = .ok (.aload_n 0, 1) := by decide +kernel
theorem dX1_advance_160 : decode cX1_advance 160 = .ok (.aload_n 0, 1) := by decide +kernel
theorem dX1_advance_161 : decode cX1_advance 161 = .ok (.getfield 9, 3) := by decide +kernel
theorem dX1_advance_164 : decode cX1_advance 164 = .ok (.aload_n 0, 1) := by decide +kernel
theorem dX1_advance_165 : decode cX1_advance 165 = .ok (.getfield 26, 3) := by decide +kernel
theorem dX1_advance_168 : decode cX1_advance 168 = .ok (.iaload, 1) := by decide +kernel
theorem dX1_advance_169 : decode cX1_advance 169 = .ok (.bipush 59, 2) := by decide +kernel
theorem dX1_advance_171 : decode cX1_advance 171 = .ok (.if_icmp .ne 7, 3) := by decide +kernel
theorem dX1_advance_174 : decode cX1_advance 174 = .ok (.iconst 3, 1) := by decide +kernel
theorem dX1_advance_175 : decode cX1_advance 175 = .ok (.goto 4, 3) := by decide +kernel
theorem dX1_advance_178 : decode cX1_advance 178 = .ok (.iconst 4, 1) := by decide +kernel
theorem dX1_advance_179 : decode cX1_advance 179 = .ok (.putfield 29, 3) := by decide +kernel
theorem dX1_advance_182 : decode cX1_advance 182 = .ok (.aload_n 0, 1) := by decide +kernel
theorem dX1_advance_183 : decode cX1_advance 183 = .ok (.dup, 1) := by decide +kernel
theorem dX1_advance_184 : decode cX1_advance 184 = .ok (.getfield 15, 3) := by decide +kernel
theorem dX1_advance_187 : decode cX1_advance 187 = .ok (.iconst 1, 1) := by decide +kernel
theorem dX1_advance_188 : decode cX1_advance 188 = .ok (.iadd, 1) := by decide +kernel
theorem dX1_advance_189 : decode cX1_advance 189 = .ok (.putfield 15, 3) := by decide +kernel
theorem dX1_advance_192 : decode cX1_advance 192 = .ok (.return_, 1) := by decide +kernel
theorem dX1_readDigits_0 : decode cX1_readDigits 0 = .ok (.aload_n 0, 1) := by decide +kernel
theorem dX1_readDigits_1 : decode cX1_readDigits 1 = .ok (.iconst 0, 1) := by decide +kernel
theorem dX1_readDigits_2 : decode cX1_readDigits 2 = .ok (.putfield 67, 3) := by decide +kernel
theorem dX1_readDigits_5 : decode cX1_readDigits 5 = .ok (.aload_n 0, 1) := by decide +kernel
theorem dX1_readDigits_6 : decode cX1_readDigits 6 = .ok (.getfield 15, 3) := by decide +kernel
theorem dX1_readDigits_9 : decode cX1_readDigits 9 = .ok (.aload_n 0, 1) := by decide +kernel
theorem dX1_readDigits_10 : decode cX1_readDigits 10 = .ok (.getfield 126, 3) := by decide +kernel
theorem dX1_readDigits_13 : decode cX1_readDigits 13 = .ok (.if_icmp .ge 61, 3) := by decide +kernel
theorem dX1_readDigits_16 : decode cX1_readDigits 16 = .ok (.aload_n 0, 1) := by decide +kernel
theorem dX1_readDigits_17 : decode cX1_readDigits 17 = .ok (.getfield 9, 3) := by decide +kernel
theorem dX1_readDigits_20 : decode cX1_readDigits 20 = .ok (.aload_n 0, 1) := by decide +kernel
theorem dX1_readDigits_21 : decode cX1_readDigits 21 = .ok (.getfield 15, 3) := by decide +kernel
theorem dX1_readDigits_24 : decode cX1_readDigits 24 = .ok (.iaload, 1) := by decide +kernel
theorem dX1_readDigits_25 : decode cX1_readDigits 25 = .ok (.invokestatic 132, 3) := by decide +kernel
theorem dX1_readDigits_28 : decode cX1_readDigits 28 = .ok (.ifCond .eq 46, 3) := by decide +kernel
theorem dX1_readDigits_31 : decode cX1_readDigits 31 = .ok (.aload_n 0, 1) := by decide +kernel
theorem dX1_readDigits_32 : decode cX1_readDigits 32 = .ok (.sipush 10000, 3) := by decide +kernel
theorem dX1_readDigits_35 : decode cX1_readDigits 35 = .ok (.bipush 10, 2) := by decide +kernel
theorem dX1_readDigits_37 : decode cX1_readDigits 37 = .ok (.aload_n 0, 1) := by decide +kernel
theorem dX1_readDigits_38 : decode cX1_readDigits 38 = .ok (.getfield 67, 3) := by decide +kernel
theorem dX1_readDigits_41 : decode cX1_readDigits 41 = .ok (.imul, 1) := by decide +kernel
theorem dX1_readDigits_42 : decode cX1_readDigits 42 = .ok (.aload_n 0, 1) := by decide +kernel
theorem dX1_readDigits_43 : decode cX1_readDigits 43 = .ok (.getfield 9, 3) := by decide +kernel
theorem dX1_readDigits_46 : decode cX1_readDigits 46 = .ok (.aload_n 0, 1) := by decide +kernel
theorem dX1_readDigits_47 : decode cX1_readDigits 47 = .ok (.getfield 15, 3) := by decide +kernel
theorem dX1_readDigits_50 : decode cX1_readDigits 50 = .ok (.iaload, 1) := by decide +kernel
theorem dX1_readDigits_51 : decode cX1_readDigits 51 = .ok (.iadd, 1) := by decide +kernel
theorem dX1_readDigits_52 : decode cX1_readDigits 52 = .ok (.bipush 48, 2) := by decide +kernel
theorem dX1_readDigits_54 : decode cX1_readDigits 54 = .ok (.isub, 1) := by decide +kernel
theorem dX1_readDigits_55 : decode cX1_readDigits 55 = .ok (.invokestatic 138, 3) := by decide +kernel
theorem dX1_readDigits_58 : decode cX1_readDigits 58 = .ok (.putfield 67, 3) := by decide +kernel
theorem dX1_readDigits_61 : decode cX1_readDigits 61 = .ok (.aload_n 0, 1) := by decide +kernel
theorem dX1_readDigits_62 : decode cX1_readDigits 62 = .ok (.dup, 1) := by decide +kernel
theorem dX1_readDigits_63 : decode cX1_readDigits 63 = .ok (.getfield 15, 3) := by decide +kernel
theorem dX1_readDigits_66 : decode cX1_readDigits 66 = .ok (.iconst 1, 1) := by decide +kernel
theorem dX1_readDigits_67 : decode cX1_readDigits 67 = .ok (.iadd, 1) := by decide +kernel
theorem dX1_readDigits_68 : decode cX1_readDigits 68 = .ok (.putfield 15, 3) := by decide +kernel
theorem dX1_readDigits_71 : decode cX1_readDigits 71 = .ok (.goto (-66), 3) := by decide +kernel
theorem dX1_readDigits_74 : decode cX1_readDigits 74 = .ok (.return_, 1) := by decide +kernel
theorem dX1_isLetter_0 : decode cX1_isLetter 0 = .ok (.iload_n 0, 1) := by decide +kernel
theorem dX1_isLetter_1 : decode cX1_isLetter 1 = .ok (.bipush 97, 2) := by decide +kernel
theorem dX1_isLetter_3 : decode cX1_isLetter 3 = .ok (.if_icmp .lt 13, 3) := by decide +kernel
theorem dX1_isLetter_6 : decode cX1_isLetter 6 = .ok (.iload_n 0, 1) := by decide +kernel
theorem dX1_isLetter_7 : decode cX1_isLetter 7 = .ok (.bipush 122, 2) := by decide +kernel
theorem dX1_isLetter_9 : decode cX1_isLetter 9 = .ok (.if_icmp .gt 7, 3) := by decide +kernel
theorem dX1_isLetter_12 : decode cX1_isLetter 12 = .ok (.iconst 1, 1) := by decide +kernel
theorem dX1_isLetter_13 : decode cX1_isLetter 13 = .ok (.goto 4, 3) := by decide +kernel
theorem dX1_isLetter_16 : decode cX1_isLetter 16 = .ok (.iconst 0, 1) := by decide +kernel
theorem dX1_isLetter_17 : decode cX1_isLetter 17 = .ok (.ireturn, 1) := by decide +kernel
theorem dX1_isDigit_0 : decode cX1_isDigit 0 = .ok (.iload_n 0, 1) := by decide +kernel
theorem dX1_isDigit_1 : decode cX1_isDigit 1 = .ok (.bipush 48, 2) := by decide +kernel
theorem dX1_isDigit_3 : decode cX1_isDigit 3 = .ok (.if_icmp .lt 13, 3) := by decide +kernel
theorem dX1_isDigit_6 : decode cX1_isDigit 6 = .ok (.iload_n 0, 1) := by decide +kernel
theorem dX1_isDigit_7 : decode cX1_isDigit 7 = .ok (.bipush 57, 2) := by decide +kernel
theorem dX1_isDigit_9 : decode cX1_isDigit 9 = .ok (.if_icmp .gt 7, 3) := by decide +kernel
theorem dX1_isDigit_12 : decode cX1_isDigit 12 = .ok (.iconst 1, 1) := by decide +kernel
theorem dX1_isDigit_13 : decode cX1_isDigit 13 = .ok (.goto 4, 3) := by decide +kernel
theorem dX1_isDigit_16 : decode cX1_isDigit 16 = .ok (.iconst 0, 1) := by decide +kernel
theorem dX1_isDigit_17 : decode cX1_isDigit 17 = .ok (.ireturn, 1) := by decide +kernel
theorem dX2_init_0 : decode cX2_init 0 = .ok (.aload_n 0, 1) := by decide +kernel
theorem dX2_init_1 : decode cX2_init 1 = .ok (.invokespecial 3, 3) := by decide +kernel
theorem dX2_init_4 : decode cX2_init 4 = .ok (.aload_n 0, 1) := by decide +kernel
theorem dX2_init_5 : decode cX2_init 5 = .ok (.bipush 48, 2) := by decide +kernel
theorem dX2_init_7 : decode cX2_init 7 = .ok (.newarray .int, 2) := by decide +kernel
theorem dX2_init_9 : decode cX2_init 9 = .ok (.putfield 9, 3) := by decide +kernel
theorem dX2_init_12 : decode cX2_init 12 = .ok (.aload_n 0, 1) := by decide +kernel
theorem dX2_init_13 : decode cX2_init 13 = .ok (.bipush 48, 2) := by decide +kernel
theorem dX2_init_15 : decode cX2_init 15 = .ok (.newarray .int, 2) := by decide +kernel
theorem dX2_init_17 : decode cX2_init 17 = .ok (.putfield 15, 3) := by decide +kernel
theorem dX2_init_20 : decode cX2_init 20 = .ok (.aload_n 0, 1) := by decide +kernel
theorem dX2_init_21 : decode cX2_init 21 = .ok (.bipush 6, 2) := by decide +kernel
theorem dX2_init_23 : decode cX2_init 23 = .ok (.newarray .int, 2) := by decide +kernel
theorem dX2_init_25 : decode cX2_init 25 = .ok (.putfield 18, 3) := by decide +kernel
theorem dX2_init_28 : decode cX2_init 28 = .ok (.aload_n 0, 1) := by decide +kernel
theorem dX2_init_29 : decode cX2_init 29 = .ok (.bipush 6, 2) := by decide +kernel
theorem dX2_init_31 : decode cX2_init 31 = .ok (.newarray .int, 2) := by decide +kernel
theorem dX2_init_33 : decode cX2_init 33 = .ok (.putfield 21, 3) := by decide +kernel
theorem dX2_init_36 : decode cX2_init 36 = .ok (.aload_n 0, 1) := by decide +kernel
theorem dX2_init_37 : decode cX2_init 37 = .ok (.bipush 6, 2) := by decide +kernel
theorem dX2_init_39 : decode cX2_init 39 = .ok (.newarray .int, 2) := by decide +kernel
theorem dX2_init_41 : decode cX2_init 41 = .ok (.putfield 24, 3) := by decide +kernel
theorem dX2_init_44 : decode cX2_init 44 = .ok (.aload_n 0, 1) := by decide +kernel
theorem dX2_init_45 : decode cX2_init 45 = .ok (.bipush 6, 2) := by decide +kernel
theorem dX2_init_47 : decode cX2_init 47 = .ok (.newarray .int, 2) := by decide +kernel
theorem dX2_init_49 : decode cX2_init 49 = .ok (.putfield 27, 3) := by decide +kernel
theorem dX2_init_52 : decode cX2_init 52 = .ok (.aload_n 0, 1) := by decide +kernel
theorem dX2_init_53 : decode cX2_init 53 = .ok (.iconst 2, 1) := by decide +kernel
theorem dX2_init_54 : decode cX2_init 54 = .ok (.putfield 30, 3) := by decide +kernel
theorem dX2_init_57 : decode cX2_init 57 = .ok (.return_, 1) := by decide +kernel
theorem dX2_become_0 : decode cX2_become 0 = .ok (.aload_n 1, 1) := by decide +kernel
theorem dX2_become_1 : decode cX2_become 1 = .ok (.getfield 9, 3) := by decide +kernel
theorem dX2_become_4 : decode cX2_become 4 = .ok (.iconst 0, 1) := by decide +kernel
theorem dX2_become_5 : decode cX2_become 5 = .ok (.aload_n 0, 1) := by decide +kernel
theorem dX2_become_6 : decode cX2_become 6 = .ok (.getfield 9, 3) := by decide +kernel
theorem dX2_become_9 : decode cX2_become 9 = .ok (.iconst 0, 1) := by decide +kernel
theorem dX2_become_10 : decode cX2_become 10 = .ok (.bipush 48, 2) := by decide +kernel
theorem dX2_become_12 : decode cX2_become 12 = .ok (.invokestatic 34, 3) := by decide +kernel
theorem dX2_become_15 : decode cX2_become 15 = .ok (.aload_n 1, 1) := by decide +kernel
theorem dX2_become_16 : decode cX2_become 16 = .ok (.getfield 15, 3) := by decide +kernel
theorem dX2_become_19 : decode cX2_become 19 = .ok (.iconst 0, 1) := by decide +kernel
theorem dX2_become_20 : decode cX2_become 20 = .ok (.aload_n 0, 1) := by decide +kernel
theorem dX2_become_21 : decode cX2_become 21 = .ok (.getfield 15, 3) := by decide +kernel
theorem dX2_become_24 : decode cX2_become 24 = .ok (.iconst 0, 1) := by decide +kernel
theorem dX2_become_25 : decode cX2_become 25 = .ok (.bipush 48, 2) := by decide +kernel
theorem dX2_become_27 : decode cX2_become 27 = .ok (.invokestatic 34, 3) := by decide +kernel
theorem dX2_become_30 : decode cX2_become 30 = .ok (.aload_n 1, 1) := by decide +kernel
theorem dX2_become_31 : decode cX2_become 31 = .ok (.getfield 18, 3) := by decide +kernel
theorem dX2_become_34 : decode cX2_become 34 = .ok (.iconst 0, 1) := by decide +kernel
theorem dX2_become_35 : decode cX2_become 35 = .ok (.aload_n 0, 1) := by decide +kernel
theorem dX2_become_36 : decode cX2_become 36 = .ok (.getfield 18, 3) := by decide +kernel
theorem dX2_become_39 : decode cX2_become 39 = .ok (.iconst 0, 1) := by decide +kernel
theorem dX2_become_40 : decode cX2_become 40 = .ok (.bipush 6, 2) := by decide +kernel
theorem dX2_become_42 : decode cX2_become 42 = .ok (.invokestatic 34, 3) := by decide +kernel
theorem dX2_become_45 : decode cX2_become 45 = .ok (.aload_n 1, 1) := by decide +kernel
theorem dX2_become_46 : decode cX2_become 46 = .ok (.getfield 21, 3) := by decide +kernel
theorem dX2_become_49 : decode cX2_become 49 = .ok (.iconst 0, 1) := by decide +kernel
theorem dX2_become_50 : decode cX2_become 50 = .ok (.aload_n 0, 1) := by decide +kernel
theorem dX2_become_51 : decode cX2_become 51 = .ok (.getfield 21, 3) := by decide +kernel
theorem dX2_become_54 : decode cX2_become 54 = .ok (.iconst 0, 1) := by decide +kernel
theorem dX2_become_55 : decode cX2_become 55 = .ok (.bipush 6, 2) := by decide +kernel
theorem dX2_become_57 : decode cX2_become 57 = .ok (.invokestatic 34, 3) := by decide +kernel
theorem dX2_become_60 : decode cX2_become 60 = .ok (.aload_n 1, 1) := by decide +kernel
theorem dX2_become_61 : decode cX2_become 61 = .ok (.getfield 24, 3) := by decide +kernel
theorem dX2_become_64 : decode cX2_become 64 = .ok (.iconst 0, 1) := by decide +kernel
theorem dX2_become_65 : decode cX2_become 65 = .ok (.aload_n 0, 1) := by decide +kernel
theorem dX2_become_66 : decode cX2_become 66 = .ok (.getfield 24, 3) := by decide +kernel
theorem dX2_become_69 : decode cX2_become 69 = .ok (.iconst 0, 1) := by decide +kernel
theorem dX2_become_70 : decode cX2_become 70 = .ok (.bipush 6, 2) := by decide +kernel
theorem dX2_become_72 : decode cX2_become 72 = .ok (.invokestatic 34, 3) := by decide +kernel
theorem dX2_become_75 : decode cX2_become 75 = .ok (.aload_n 1, 1) := by decide +kernel
theorem dX2_become_76 : decode cX2_become 76 = .ok (.getfield 27, 3) := by decide +kernel
theorem dX2_become_79 : decode cX2_become 79 = .ok (.iconst 0, 1) := by decide +kernel
theorem dX2_become_80 : decode cX2_become 80 = .ok (.aload_n 0, 1) := by decide +kernel
theorem dX2_become_81 : decode cX2_become 81 = .ok (.getfield 27, 3) := by decide +kernel
theorem dX2_become_84 : decode cX2_become 84 = .ok (.iconst 0, 1) := by decide +kernel
theorem dX2_become_85 : decode cX2_become 85 = .ok (.bipush 6, 2) := by decide +kernel
theorem dX2_become_87 : decode cX2_become 87 = .ok (.invokestatic 34, 3) := by decide +kernel
theorem dX2_become_90 : decode cX2_become 90 = .ok (.aload_n 0, 1) := by decide +kernel
theorem dX2_become_91 : decode cX2_become 91 = .ok (.aload_n 1, 1) := by decide +kernel
theorem dX2_become_92 : decode cX2_become 92 = .ok (.getfield 40, 3) := by decide +kernel
theorem dX2_become_95 : decode cX2_become 95 = .ok (.putfield 40, 3) := by decide +kernel
theorem dX2_become_98 : decode cX2_become 98 = .ok (.aload_n 0, 1) := by decide +kernel
theorem dX2_become_99 : decode cX2_become 99 = .ok (.aload_n 1, 1) := by decide +kernel
theorem dX2_become_100 : decode cX2_become 100 = .ok (.getfield 43, 3) := by decide +kernel
theorem dX2_become_103 : decode cX2_become 103 = .ok (.putfield 43, 3) := by decide +kernel
theorem dX2_become_106 : decode cX2_become 106 = .ok (.aload_n 0, 1) := by decide +kernel
theorem dX2_become_107 : decode cX2_become 107 = .ok (.aload_n 1, 1) := by decide +kernel
theorem dX2_become_108 : decode cX2_become 108 = .ok (.getfield 30, 3) := by decide +kernel
theorem dX2_become_111 : decode cX2_become 111 = .ok (.putfield 30, 3) := by decide +kernel
theorem dX2_become_114 : decode cX2_become 114 = .ok (.aload_n 0, 1) := by decide +kernel
theorem dX2_become_115 : decode cX2_become 115 = .ok (.aload_n 1, 1) := by decide +kernel
theorem dX2_become_116 : decode cX2_become 116 = .ok (.getfield 46, 3) := by decide +kernel
theorem dX2_become_119 : decode cX2_become 119 = .ok (.putfield 46, 3) := by decide +kernel
theorem dX2_become_122 : decode cX2_become 122 = .ok (.return_, 1) := by decide +kernel
theorem dX2_paint_0 : decode cX2_paint 0 = .ok (.iload_n 1, 1) := by decide +kernel
theorem dX2_paint_1 : decode cX2_paint 1 = .ok (.ifCond .ne 10, 3) := by decide +kernel
theorem dX2_paint_4 : decode cX2_paint 4 = .ok (.aload_n 0, 1) := by decide +kernel
theorem dX2_paint_5 : decode cX2_paint 5 = .ok (.getfield 9, 3) := by decide +kernel
theorem dX2_paint_8 : decode cX2_paint 8 = .ok (.goto 7, 3) := by decide +kernel
theorem dX2_paint_11 : decode cX2_paint 11 = .ok (.aload_n 0, 1) := by decide +kernel
theorem dX2_paint_12 : decode cX2_paint 12 = .ok (.getfield 15, 3) := by decide +kernel
theorem dX2_paint_15 : decode cX2_paint 15 = .ok (.astore 4, 2) := by decide +kernel
theorem dX2_paint_17 : decode cX2_paint 17 = .ok (.aload 4, 2) := by decide +kernel
theorem dX2_paint_19 : decode cX2_paint 19 = .ok (.iload_n 2, 1) := by decide +kernel
theorem dX2_paint_20 : decode cX2_paint 20 = .ok (.iaload, 1) := by decide +kernel
theorem dX2_paint_21 : decode cX2_paint 21 = .ok (.istore 5, 2) := by decide +kernel
theorem dX2_paint_23 : decode cX2_paint 23 = .ok (.aload 4, 2) := by decide +kernel
theorem dX2_paint_25 : decode cX2_paint 25 = .ok (.iload_n 2, 1) := by decide +kernel
theorem dX2_paint_26 : decode cX2_paint 26 = .ok (.iload_n 3, 1) := by decide +kernel
theorem dX2_paint_27 : decode cX2_paint 27 = .ok (.iastore, 1) := by decide +kernel
theorem dX2_paint_28 : decode cX2_paint 28 = .ok (.lconst 1, 1) := by decide +kernel
theorem dX2_paint_29 : decode cX2_paint 29 = .ok (.iload_n 2, 1) := by decide +kernel
theorem dX2_paint_30 : decode cX2_paint 30 = .ok (.lshl, 1) := by decide +kernel
theorem dX2_paint_31 : decode cX2_paint 31 = .ok (.lstore 6, 2) := by decide +kernel
theorem dX2_paint_33 : decode cX2_paint 33 = .ok (.aload_n 0, 1) := by decide +kernel
theorem dX2_paint_34 : decode cX2_paint 34 = .ok (.aload_n 0, 1) := by decide +kernel
theorem dX2_paint_35 : decode cX2_paint 35 = .ok (.getfield 9, 3) := by decide +kernel
theorem dX2_paint_38 : decode cX2_paint 38 = .ok (.iload_n 2, 1) := by decide +kernel
theorem dX2_paint_39 : decode cX2_paint 39 = .ok (.iaload, 1) := by decide +kernel
theorem dX2_paint_40 : decode cX2_paint 40 = .ok (.aload_n 0, 1) := by decide +kernel
theorem dX2_paint_41 : decode cX2_paint 41 = .ok (.getfield 15, 3) := by decide +kernel
theorem dX2_paint_44 : decode cX2_paint 44 = .ok (.iload_n 2, 1) := by decide +kernel
theorem dX2_paint_45 : decode cX2_paint 45 = .ok (.iaload, 1) := by decide +kernel
theorem dX2_paint_46 : decode cX2_paint 46 = .ok (.if_icmp .ne 17, 3) := by decide +kernel
theorem dX2_paint_49 : decode cX2_paint 49 = .ok (.aload_n 0, 1) := by decide +kernel
theorem dX2_paint_50 : decode cX2_paint 50 = .ok (.getfield 46, 3) := by decide +kernel
theorem dX2_paint_53 : decode cX2_paint 53 = .ok (.lload 6, 2) := by decide +kernel
theorem dX2_paint_55 : decode cX2_paint 55 = .ok (.ldc2_w 50, 3) := by decide +kernel
theorem dX2_paint_58 : decode cX2_paint 58 = .ok (.lxor, 1) := by decide +kernel
theorem dX2_paint_59 : decode cX2_paint 59 = .ok (.land, 1) := by decide +kernel
theorem dX2_paint_60 : decode cX2_paint 60 = .ok (.goto 10, 3) := by decide +kernel
theorem dX2_paint_63 : decode cX2_paint 63 = .ok (.aload_n 0, 1) := by decide +kernel
theorem dX2_paint_64 : decode cX2_paint 64 = .ok (.getfield 46, 3) := by decide +kernel
theorem dX2_paint_67 : decode cX2_paint 67 = .ok (.lload 6, 2) := by decide +kernel
theorem dX2_paint_69 : decode cX2_paint 69 = .ok (.lor, 1) := by decide +kernel
theorem dX2_paint_70 : decode cX2_paint 70 = .ok (.putfield 46, 3) := by decide +kernel
theorem dX2_paint_73 : decode cX2_paint 73 = .ok (.iload 5, 2) := by decide +kernel
theorem dX2_paint_75 : decode cX2_paint 75 = .ok (.ireturn, 1) := by decide +kernel
theorem dX2_addMender_0 : decode cX2_addMender 0 = .ok (.aload_n 0, 1) := by decide +kernel
theorem dX2_addMender_1 : decode cX2_addMender 1 = .ok (.getfield 40, 3) := by decide +kernel
theorem dX2_addMender_4 : decode cX2_addMender 4 = .ok (.istore 4, 2) := by decide +kernel
theorem dX2_addMender_6 : decode cX2_addMender 6 = .ok (.aload_n 0, 1) := by decide +kernel
theorem dX2_addMender_7 : decode cX2_addMender 7 = .ok (.getfield 18, 3) := by decide +kernel
theorem dX2_addMender_10 : decode cX2_addMender 10 = .ok (.iload 4, 2) := by decide +kernel
theorem dX2_addMender_12 : decode cX2_addMender 12 = .ok (.iload_n 1, 1) := by decide +kernel
theorem dX2_addMender_13 : decode cX2_addMender 13 = .ok (.iastore, 1) := by decide +kernel
theorem dX2_addMender_14 : decode cX2_addMender 14 = .ok (.aload_n 0, 1) := by decide +kernel
theorem dX2_addMender_15 : decode cX2_addMender 15 = .ok (.getfield 21, 3) := by decide +kernel
theorem dX2_addMender_18 : decode cX2_addMender 18 = .ok (.iload 4, 2) := by decide +kernel
theorem dX2_addMender_20 : decode cX2_addMender 20 = .ok (.iload_n 2, 1) := by decide +kernel
theorem dX2_addMender_21 : decode cX2_addMender 21 = .ok (.iastore, 1) := by decide +kernel
theorem dX2_addMender_22 : decode cX2_addMender 22 = .ok (.aload_n 0, 1) := by decide +kernel
theorem dX2_addMender_23 : decode cX2_addMender 23 = .ok (.getfield 24, 3) := by decide +kernel
theorem dX2_addMender_26 : decode cX2_addMender 26 = .ok (.iload 4, 2) := by decide +kernel
theorem dX2_addMender_28 : decode cX2_addMender 28 = .ok (.iload_n 3, 1) := by decide +kernel
theorem dX2_addMender_29 : decode cX2_addMender 29 = .ok (.iastore, 1) := by decide +kernel
theorem dX2_addMender_30 : decode cX2_addMender 30 = .ok (.aload_n 0, 1) := by decide +kernel
theorem dX2_addMender_31 : decode cX2_addMender 31 = .ok (.getfield 27, 3) := by decide +kernel
theorem dX2_addMender_34 : decode cX2_addMender 34 = .ok (.iload 4, 2) := by decide +kernel
theorem dX2_addMender_36 : decode cX2_addMender 36 = .ok (.iconst 0, 1) := by decide +kernel
theorem dX2_addMender_37 : decode cX2_addMender 37 = .ok (.iastore, 1) := by decide +kernel
theorem dX2_addMender_38 : decode cX2_addMender 38 = .ok (.aload_n 0, 1) := by decide +kernel
theorem dX2_addMender_39 : decode cX2_addMender 39 = .ok (.dup, 1) := by decide +kernel
theorem dX2_addMender_40 : decode cX2_addMender 40 = .ok (.getfield 40, 3) := by decide +kernel
theorem dX2_addMender_43 : decode cX2_addMender 43 = .ok (.iconst 1, 1) := by decide +kernel
theorem dX2_addMender_44 : decode cX2_addMender 44 = .ok (.iadd, 1) := by decide +kernel
theorem dX2_addMender_45 : decode cX2_addMender 45 = .ok (.putfield 40, 3) := by decide +kernel
theorem dX2_addMender_48 : decode cX2_addMender 48 = .ok (.iload 4, 2) := by decide +kernel
theorem dX2_addMender_50 : decode cX2_addMender 50 = .ok (.ireturn, 1) := by decide +kernel
theorem dX2_isWrong_0 : decode cX2_isWrong 0 = .ok (.aload_n 0, 1) := by decide +kernel
theorem dX2_isWrong_1 : decode cX2_isWrong 1 = .ok (.getfield 46, 3) := by decide +kernel
theorem dX2_isWrong_4 : decode cX2_isWrong 4 = .ok (.iload_n 1, 1) := by decide +kernel
theorem dX2_isWrong_5 : decode cX2_isWrong 5 = .ok (.invokestatic 52, 3) := by decide +kernel
theorem dX2_isWrong_8 : decode cX2_isWrong 8 = .ok (.ireturn, 1) := by decide +kernel
theorem dX2_howManyWrong_0 : decode cX2_howManyWrong 0 = .ok (.aload_n 0, 1) := by decide +kernel
theorem dX2_howManyWrong_1 : decode cX2_howManyWrong 1 = .ok (.getfield 46, 3) := by decide +kernel
theorem dX2_howManyWrong_4 : decode cX2_howManyWrong 4 = .ok (.invokestatic 56, 3) := by decide +kernel
theorem dX2_howManyWrong_7 : decode cX2_howManyWrong 7 = .ok (.ireturn, 1) := by decide +kernel
theorem dX2_mendersAt_0 : decode cX2_mendersAt 0 = .ok (.iconst 0, 1) := by decide +kernel
theorem dX2_mendersAt_1 : decode cX2_mendersAt 1 = .ok (.istore_n 2, 1) := by decide +kernel
theorem dX2_mendersAt_2 : decode cX2_mendersAt 2 = .ok (.iconst 0, 1) := by decide +kernel
theorem dX2_mendersAt_3 : decode cX2_mendersAt 3 = .ok (.istore_n 3, 1) := by decide +kernel
theorem dX2_mendersAt_4 : decode cX2_mendersAt 4 = .ok (.iload_n 3, 1) := by decide +kernel
theorem dX2_mendersAt_5 : decode cX2_mendersAt 5 = .ok (.aload_n 0, 1) := by decide +kernel
theorem dX2_mendersAt_6 : decode cX2_mendersAt 6 = .ok (.getfield 40, 3) := by decide +kernel
theorem dX2_mendersAt_9 : decode cX2_mendersAt 9 = .ok (.if_icmp .ge 25, 3) := by decide +kernel
theorem dX2_mendersAt_12 : decode cX2_mendersAt 12 = .ok (.aload_n 0, 1) := by decide +kernel
theorem dX2_mendersAt_13 : decode cX2_mendersAt 13 = .ok (.getfield 21, 3) := by decide +kernel
theorem dX2_mendersAt_16 : decode cX2_mendersAt 16 = .ok (.iload_n 3, 1) := by decide +kernel
theorem dX2_mendersAt_17 : decode cX2_mendersAt 17 = .ok (.iaload, 1) := by decide +kernel
theorem dX2_mendersAt_18 : decode cX2_mendersAt 18 = .ok (.iload_n 1, 1) := by decide +kernel
theorem dX2_mendersAt_19 : decode cX2_mendersAt 19 = .ok (.if_icmp .ne 9, 3) := by decide +kernel
theorem dX2_mendersAt_22 : decode cX2_mendersAt 22 = .ok (.iload_n 2, 1) := by decide +kernel
theorem dX2_mendersAt_23 : decode cX2_mendersAt 23 = .ok (.iconst 1, 1) := by decide +kernel
theorem dX2_mendersAt_24 : decode cX2_mendersAt 24 = .ok (.iload_n 3, 1) := by decide +kernel
theorem dX2_mendersAt_25 : decode cX2_mendersAt 25 = .ok (.ishl, 1) := by decide +kernel
theorem dX2_mendersAt_26 : decode cX2_mendersAt 26 = .ok (.ior, 1) := by decide +kernel
theorem dX2_mendersAt_27 : decode cX2_mendersAt 27 = .ok (.istore_n 2, 1) := by decide +kernel
theorem dX2_mendersAt_28 : decode cX2_mendersAt 28 = .ok (.iinc 3 1, 3) := by decide +kernel
theorem dX2_mendersAt_31 : decode cX2_mendersAt 31 = .ok (.goto (-27), 3) := by decide +kernel
theorem dX2_mendersAt_34 : decode cX2_mendersAt 34 = .ok (.iload_n 2, 1) := by decide +kernel
theorem dX2_mendersAt_35 : decode cX2_mendersAt 35 = .ok (.ireturn, 1) := by decide +kernel
theorem dX2_landOf_0 : decode cX2_landOf 0 = .ok (.lconst 0, 1) := by decide +kernel
theorem dX2_landOf_1 : decode cX2_landOf 1 = .ok (.lstore_n 2, 1) := by decide +kernel
theorem dX2_landOf_2 : decode cX2_landOf 2 = .ok (.iconst 0, 1) := by decide +kernel
theorem dX2_landOf_3 : decode cX2_landOf 3 = .ok (.istore 4, 2) := by decide +kernel
theorem dX2_landOf_5 : decode cX2_landOf 5 = .ok (.iload 4, 2) := by decide +kernel
theorem dX2_landOf_7 : decode cX2_landOf 7 = .ok (.bipush 48, 2) := by decide +kernel
theorem dX2_landOf_9 : decode cX2_landOf 9 = .ok (.if_icmp .ge 27, 3) := by decide +kernel
theorem dX2_landOf_12 : decode cX2_landOf 12 = .ok (.aload_n 0, 1) := by decide +kernel
theorem dX2_landOf_13 : decode cX2_landOf 13 = .ok (.getfield 9, 3) := by decide +kernel
theorem dX2_landOf_16 : decode cX2_landOf 16 = .ok (.iload 4, 2) := by decide +kernel
theorem dX2_landOf_18 : decode cX2_landOf 18 = .ok (.iaload, 1) := by decide +kernel
theorem dX2_landOf_19 : decode cX2_landOf 19 = .ok (.iload_n 1, 1) := by decide +kernel
theorem dX2_landOf_20 : decode cX2_landOf 20 = .ok (.if_icmp .ne 10, 3) := by decide +kernel
theorem dX2_landOf_23 : decode cX2_landOf 23 = .ok (.lload_n 2, 1) := by decide +kernel
theorem dX2_landOf_24 : decode cX2_landOf 24 = .ok (.lconst 1, 1) := by decide +kernel
theorem dX2_landOf_25 : decode cX2_landOf 25 = .ok (.iload 4, 2) := by decide +kernel
theorem dX2_landOf_27 : decode cX2_landOf 27 = .ok (.lshl, 1) := by decide +kernel
theorem dX2_landOf_28 : decode cX2_landOf 28 = .ok (.lor, 1) := by decide +kernel
theorem dX2_landOf_29 : decode cX2_landOf 29 = .ok (.lstore_n 2, 1) := by decide +kernel
theorem dX2_landOf_30 : decode cX2_landOf 30 = .ok (.iinc 4 1, 3) := by decide +kernel
theorem dX2_landOf_33 : decode cX2_landOf 33 = .ok (.goto (-28), 3) := by decide +kernel
theorem dX2_landOf_36 : decode cX2_landOf 36 = .ok (.lload_n 2, 1) := by decide +kernel
theorem dX2_landOf_37 : decode cX2_landOf 37 = .ok (.lreturn, 1) := by decide +kernel
theorem dX2_together_0 : decode cX2_together 0 = .ok (.iconst 0, 1) := by decide +kernel
theorem dX2_together_1 : decode cX2_together 1 = .ok (.istore_n 2, 1) := by decide +kernel
theorem dX2_together_2 : decode cX2_together 2 = .ok (.iconst 0, 1) := by decide +kernel
theorem dX2_together_3 : decode cX2_together 3 = .ok (.istore_n 3, 1) := by decide +kernel
theorem dX2_together_4 : decode cX2_together 4 = .ok (.iload_n 3, 1) := by decide +kernel
theorem dX2_together_5 : decode cX2_together 5 = .ok (.aload_n 0, 1) := by decide +kernel
theorem dX2_together_6 : decode cX2_together 6 = .ok (.getfield 40, 3) := by decide +kernel
theorem dX2_together_9 : decode cX2_together 9 = .ok (.if_icmp .ge 15, 3) := by decide +kernel
theorem dX2_together_12 : decode cX2_together 12 = .ok (.iload_n 2, 1) := by decide +kernel
theorem dX2_together_13 : decode cX2_together 13 = .ok (.aload_n 1, 1) := by decide +kernel
theorem dX2_together_14 : decode cX2_together 14 = .ok (.iload_n 3, 1) := by decide +kernel
theorem dX2_together_15 : decode cX2_together 15 = .ok (.iaload, 1) := by decide +kernel
theorem dX2_together_16 : decode cX2_together 16 = .ok (.iadd, 1) := by decide +kernel
theorem dX2_together_17 : decode cX2_together 17 = .ok (.istore_n 2, 1) := by decide +kernel
theorem dX2_together_18 : decode cX2_together 18 = .ok (.iinc 3 1, 3) := by decide +kernel
theorem dX2_together_21 : decode cX2_together 21 = .ok (.goto (-17), 3) := by decide +kernel
theorem dX2_together_24 : decode cX2_together 24 = .ok (.iload_n 2, 1) := by decide +kernel
theorem dX2_together_25 : decode cX2_together 25 = .ok (.ireturn, 1) := by decide +kernel
theorem dX2_costOf_0 : decode cX2_costOf 0 = .ok (.iconst 3, 1) := by decide +kernel
theorem dX2_costOf_1 : decode cX2_costOf 1 = .ok (.aload_n 0, 1) := by decide +kernel
theorem dX2_costOf_2 : decode cX2_costOf 2 = .ok (.getfield 9, 3) := by decide +kernel
theorem dX2_costOf_5 : decode cX2_costOf 5 = .ok (.iload_n 2, 1) := by decide +kernel
theorem dX2_costOf_6 : decode cX2_costOf 6 = .ok (.iaload, 1) := by decide +kernel
theorem dX2_costOf_7 : decode cX2_costOf 7 = .ok (.aload_n 0, 1) := by decide +kernel
theorem dX2_costOf_8 : decode cX2_costOf 8 = .ok (.getfield 15, 3) := by decide +kernel
theorem dX2_costOf_11 : decode cX2_costOf 11 = .ok (.iload_n 2, 1) := by decide +kernel
theorem dX2_costOf_12 : decode cX2_costOf 12 = .ok (.iaload, 1) := by decide +kernel
theorem dX2_costOf_13 : decode cX2_costOf 13 = .ok (.isub, 1) := by decide +kernel
theorem dX2_costOf_14 : decode cX2_costOf 14 = .ok (.invokestatic 62, 3) := by decide +kernel
theorem dX2_costOf_17 : decode cX2_costOf 17 = .ok (.imul, 1) := by decide +kernel
theorem dX2_costOf_18 : decode cX2_costOf 18 = .ok (.iconst 2, 1) := by decide +kernel
theorem dX2_costOf_19 : decode cX2_costOf 19 = .ok (.iadd, 1) := by decide +kernel
theorem dX2_costOf_20 : decode cX2_costOf 20 = .ok (.istore_n 3, 1) := by decide +kernel
theorem dX2_costOf_21 : decode cX2_costOf 21 = .ok (.aload_n 0, 1) := by decide +kernel
theorem dX2_costOf_22 : decode cX2_costOf 22 = .ok (.getfield 46, 3) := by decide +kernel
theorem dX2_costOf_25 : decode cX2_costOf 25 = .ok (.lconst 1, 1) := by decide +kernel
theorem dX2_costOf_26 : decode cX2_costOf 26 = .ok (.iload_n 2, 1) := by decide +kernel
theorem dX2_costOf_27 : decode cX2_costOf 27 = .ok (.lshl, 1) := by decide +kernel
theorem dX2_costOf_28 : decode cX2_costOf 28 = .ok (.invokestatic 68, 3) := by decide +kernel
theorem dX2_costOf_31 : decode cX2_costOf 31 = .ok (.land, 1) := by decide +kernel
theorem dX2_costOf_32 : decode cX2_costOf 32 = .ok (.invokestatic 56, 3) := by decide +kernel
theorem dX2_costOf_35 : decode cX2_costOf 35 = .ok (.istore 4, 2) := by decide +kernel
theorem dX2_costOf_37 : decode cX2_costOf 37 = .ok (.aload_n 0, 1) := by decide +kernel
theorem dX2_costOf_38 : decode cX2_costOf 38 = .ok (.iload_n 2, 1) := by decide +kernel
theorem dX2_costOf_39 : decode cX2_costOf 39 = .ok (.iconst 1, 1) := by decide +kernel
theorem dX2_costOf_40 : decode cX2_costOf 40 = .ok (.invokevirtual 72, 3) := by decide +kernel
theorem dX2_costOf_43 : decode cX2_costOf 43 = .ok (.ifCond .eq 9, 3) := by decide +kernel
theorem dX2_costOf_46 : decode cX2_costOf 46 = .ok (.iload_n 3, 1) := by decide +kernel
theorem dX2_costOf_47 : decode cX2_costOf 47 = .ok (.iconst 2, 1) := by decide +kernel
theorem dX2_costOf_48 : decode cX2_costOf 48 = .ok (.idiv, 1) := by decide +kernel
theorem dX2_costOf_49 : decode cX2_costOf 49 = .ok (.goto 4, 3) := by decide +kernel
theorem dX2_costOf_52 : decode cX2_costOf 52 = .ok (.iload_n 3, 1) := by decide +kernel
theorem dX2_costOf_53 : decode cX2_costOf 53 = .ok (.istore 5, 2) := by decide +kernel
theorem dX2_costOf_55 : decode cX2_costOf 55 = .ok (.aload_n 0, 1) := by decide +kernel
theorem dX2_costOf_56 : decode cX2_costOf 56 = .ok (.getfield 18, 3) := by decide +kernel
theorem dX2_costOf_59 : decode cX2_costOf 59 = .ok (.iload_n 1, 1) := by decide +kernel
theorem dX2_costOf_60 : decode cX2_costOf 60 = .ok (.iaload, 1) := by decide +kernel
theorem dX2_costOf_61 : decode cX2_costOf 61 = .ok (.tableswitch 92 1 5 #[35, 38, 43, 50, 73], 35) := by decide +kernel
theorem dX2_costOf_96 : decode cX2_costOf 96 = .ok (.iload 5, 2) := by decide +kernel
theorem dX2_costOf_98 : decode cX2_costOf 98 = .ok (.ireturn, 1) := by decide +kernel
theorem dX2_costOf_99 : decode cX2_costOf 99 = .ok (.iload_n 3, 1) := by decide +kernel
theorem dX2_costOf_100 : decode cX2_costOf 100 = .ok (.iload 4, 2) := by decide +kernel
theorem dX2_costOf_102 : decode cX2_costOf 102 = .ok (.iadd, 1) := by decide +kernel
theorem dX2_costOf_103 : decode cX2_costOf 103 = .ok (.ireturn, 1) := by decide +kernel
theorem dX2_costOf_104 : decode cX2_costOf 104 = .ok (.iconst 2, 1) := by decide +kernel
theorem dX2_costOf_105 : decode cX2_costOf 105 = .ok (.iconst 4, 1) := by decide +kernel
theorem dX2_costOf_106 : decode cX2_costOf 106 = .ok (.iload 4, 2) := by decide +kernel
theorem dX2_costOf_108 : decode cX2_costOf 108 = .ok (.iadd, 1) := by decide +kernel
theorem dX2_costOf_109 : decode cX2_costOf 109 = .ok (.imul, 1) := by decide +kernel
theorem dX2_costOf_110 : decode cX2_costOf 110 = .ok (.ireturn, 1) := by decide +kernel
theorem dX2_costOf_111 : decode cX2_costOf 111 = .ok (.aload_n 0, 1) := by decide +kernel
theorem dX2_costOf_112 : decode cX2_costOf 112 = .ok (.iload_n 2, 1) := by decide +kernel
theorem dX2_costOf_113 : decode cX2_costOf 113 = .ok (.iconst 3, 1) := by decide +kernel
theorem dX2_costOf_114 : decode cX2_costOf 114 = .ok (.invokevirtual 72, 3) := by decide +kernel
theorem dX2_costOf_117 : decode cX2_costOf 117 = .ok (.ifCond .eq 14, 3) := by decide +kernel
theorem dX2_costOf_120 : decode cX2_costOf 120 = .ok (.iconst 1, 1) := by decide +kernel
theorem dX2_costOf_121 : decode cX2_costOf 121 = .ok (.iload 5, 2) := by decide +kernel
theorem dX2_costOf_123 : decode cX2_costOf 123 = .ok (.iconst 5, 1) := by decide +kernel
theorem dX2_costOf_124 : decode cX2_costOf 124 = .ok (.isub, 1) := by decide +kernel
theorem dX2_costOf_125 : decode cX2_costOf 125 = .ok (.invokestatic 76, 3) := by decide +kernel
theorem dX2_costOf_128 : decode cX2_costOf 128 = .ok (.goto 5, 3) := by decide +kernel
theorem dX2_costOf_131 : decode cX2_costOf 131 = .ok (.iload 5, 2) := by decide +kernel
theorem dX2_costOf_133 : decode cX2_costOf 133 = .ok (.ireturn, 1) := by decide +kernel
theorem dX2_costOf_134 : decode cX2_costOf 134 = .ok (.iconst 1, 1) := by decide +kernel
theorem dX2_costOf_135 : decode cX2_costOf 135 = .ok (.iload_n 3, 1) := by decide +kernel
theorem dX2_costOf_136 : decode cX2_costOf 136 = .ok (.iload 4, 2) := by decide +kernel
theorem dX2_costOf_138 : decode cX2_costOf 138 = .ok (.iadd, 1) := by decide +kernel
theorem dX2_costOf_139 : decode cX2_costOf 139 = .ok (.aload_n 0, 1) := by decide +kernel
theorem dX2_costOf_140 : decode cX2_costOf 140 = .ok (.getfield 24, 3) := by decide +kernel
theorem dX2_costOf_143 : decode cX2_costOf 143 = .ok (.iload_n 1, 1) := by decide +kernel
theorem dX2_costOf_144 : decode cX2_costOf 144 = .ok (.iaload, 1) := by decide +kernel
theorem dX2_costOf_145 : decode cX2_costOf 145 = .ok (.bipush 10, 2) := by decide +kernel
theorem dX2_costOf_147 : decode cX2_costOf 147 = .ok (.idiv, 1) := by decide +kernel
theorem dX2_costOf_148 : decode cX2_costOf 148 = .ok (.isub, 1) := by decide +kernel
theorem dX2_costOf_149 : decode cX2_costOf 149 = .ok (.invokestatic 76, 3) := by decide +kernel
theorem dX2_costOf_152 : decode cX2_costOf 152 = .ok (.ireturn, 1) := by decide +kernel
theorem dX2_costOf_153 : decode cX2_costOf 153 = .ok (.iload_n 3, 1) := by decide +kernel
theorem dX2_costOf_154 : decode cX2_costOf 154 = .ok (.ireturn, 1) := by decide +kernel
theorem dX2_isEither_0 : decode cX2_isEither 0 = .ok (.aload_n 0, 1) := by decide +kernel
theorem dX2_isEither_1 : decode cX2_isEither 1 = .ok (.getfield 9, 3) := by decide +kernel
theorem dX2_isEither_4 : decode cX2_isEither 4 = .ok (.iload_n 1, 1) := by decide +kernel
theorem dX2_isEither_5 : decode cX2_isEither 5 = .ok (.iaload, 1) := by decide +kernel
theorem dX2_isEither_6 : decode cX2_isEither 6 = .ok (.iload_n 2, 1) := by decide +kernel
theorem dX2_isEither_7 : decode cX2_isEither 7 = .ok (.if_icmp .eq 13, 3) := by decide +kernel
theorem dX2_isEither_10 : decode cX2_isEither 10 = .ok (.aload_n 0, 1) := by decide +kernel
theorem dX2_isEither_11 : decode cX2_isEither 11 = .ok (.getfield 15, 3) := by decide +kernel
theorem dX2_isEither_14 : decode cX2_isEither 14 = .ok (.iload_n 1, 1) := by decide +kernel
theorem dX2_isEither_15 : decode cX2_isEither 15 = .ok (.iaload, 1) := by decide +kernel
theorem dX2_isEither_16 : decode cX2_isEither 16 = .ok (.iload_n 2, 1) := by decide +kernel
theorem dX2_isEither_17 : decode cX2_isEither 17 = .ok (.if_icmp .ne 7, 3) := by decide +kernel
theorem dX2_isEither_20 : decode cX2_isEither 20 = .ok (.iconst 1, 1) := by decide +kernel
theorem dX2_isEither_21 : decode cX2_isEither 21 = .ok (.goto 4, 3) := by decide +kernel
theorem dX2_isEither_24 : decode cX2_isEither 24 = .ok (.iconst 0, 1) := by decide +kernel
theorem dX2_isEither_25 : decode cX2_isEither 25 = .ok (.ireturn, 1) := by decide +kernel
theorem dX2_goalOf_0 : decode cX2_goalOf 0 = .ok (.aload_n 0, 1) := by decide +kernel
theorem dX2_goalOf_1 : decode cX2_goalOf 1 = .ok (.getfield 46, 3) := by decide +kernel
theorem dX2_goalOf_4 : decode cX2_goalOf 4 = .ok (.lconst 0, 1) := by decide +kernel
theorem dX2_goalOf_5 : decode cX2_goalOf 5 = .ok (.lcmp, 1) := by decide +kernel
theorem dX2_goalOf_6 : decode cX2_goalOf 6 = .ok (.ifCond .ne 5, 3) := by decide +kernel
theorem dX2_goalOf_9 : decode cX2_goalOf 9 = .ok (.iconst (-1), 1) := by decide +kernel
theorem dX2_goalOf_10 : decode cX2_goalOf 10 = .ok (.ireturn, 1) := by decide +kernel
theorem dX2_goalOf_11 : decode cX2_goalOf 11 = .ok (.aload_n 0, 1) := by decide +kernel
theorem dX2_goalOf_12 : decode cX2_goalOf 12 = .ok (.getfield 18, 3) := by decide +kernel
theorem dX2_goalOf_15 : decode cX2_goalOf 15 = .ok (.iload_n 1, 1) := by decide +kernel
theorem dX2_goalOf_16 : decode cX2_goalOf 16 = .ok (.iaload, 1) := by decide +kernel
theorem dX2_goalOf_17 : decode cX2_goalOf 17 = .ok (.iconst 5, 1) := by decide +kernel
theorem dX2_goalOf_18 : decode cX2_goalOf 18 = .ok (.if_icmp .eq 14, 3) := by decide +kernel
theorem dX2_goalOf_21 : decode cX2_goalOf 21 = .ok (.aload_n 0, 1) := by decide +kernel
theorem dX2_goalOf_22 : decode cX2_goalOf 22 = .ok (.aload_n 0, 1) := by decide +kernel
theorem dX2_goalOf_23 : decode cX2_goalOf 23 = .ok (.getfield 21, 3) := by decide +kernel
theorem dX2_goalOf_26 : decode cX2_goalOf 26 = .ok (.iload_n 1, 1) := by decide +kernel
theorem dX2_goalOf_27 : decode cX2_goalOf 27 = .ok (.iaload, 1) := by decide +kernel
theorem dX2_goalOf_28 : decode cX2_goalOf 28 = .ok (.invokevirtual 80, 3) := by decide +kernel
theorem dX2_goalOf_31 : decode cX2_goalOf 31 = .ok (.ireturn, 1) := by decide +kernel
theorem dX2_goalOf_32 : decode cX2_goalOf 32 = .ok (.iconst (-1), 1) := by decide +kernel
theorem dX2_goalOf_33 : decode cX2_goalOf 33 = .ok (.istore_n 2, 1) := by decide +kernel
theorem dX2_goalOf_34 : decode cX2_goalOf 34 = .ok (.iconst 0, 1) := by decide +kernel
theorem dX2_goalOf_35 : decode cX2_goalOf 35 = .ok (.istore_n 3, 1) := by decide +kernel
theorem dX2_goalOf_36 : decode cX2_goalOf 36 = .ok (.iconst 0, 1) := by decide +kernel
theorem dX2_goalOf_37 : decode cX2_goalOf 37 = .ok (.istore 4, 2) := by decide +kernel
theorem dX2_goalOf_39 : decode cX2_goalOf 39 = .ok (.iload 4, 2) := by decide +kernel
theorem dX2_goalOf_41 : decode cX2_goalOf 41 = .ok (.bipush 48, 2) := by decide +kernel
theorem dX2_goalOf_43 : decode cX2_goalOf 43 = .ok (.if_icmp .ge 42, 3) := by decide +kernel
theorem dX2_goalOf_46 : decode cX2_goalOf 46 = .ok (.aload_n 0, 1) := by decide +kernel
theorem dX2_goalOf_47 : decode cX2_goalOf 47 = .ok (.getfield 46, 3) := by decide +kernel
theorem dX2_goalOf_50 : decode cX2_goalOf 50 = .ok (.iload 4, 2) := by decide +kernel
theorem dX2_goalOf_52 : decode cX2_goalOf 52 = .ok (.invokestatic 52, 3) := by decide +kernel
theorem dX2_goalOf_55 : decode cX2_goalOf 55 = .ok (.ifCond .eq 24, 3) := by decide +kernel
theorem dX2_goalOf_58 : decode cX2_goalOf 58 = .ok (.aload_n 0, 1) := by decide +kernel
theorem dX2_goalOf_59 : decode cX2_goalOf 59 = .ok (.iload_n 1, 1) := by decide +kernel
theorem dX2_goalOf_60 : decode cX2_goalOf 60 = .ok (.iload 4, 2) := by decide +kernel
theorem dX2_goalOf_62 : decode cX2_goalOf 62 = .ok (.invokevirtual 83, 3) := by decide +kernel
theorem dX2_goalOf_65 : decode cX2_goalOf 65 = .ok (.istore 5, 2) := by decide +kernel
theorem dX2_goalOf_67 : decode cX2_goalOf 67 = .ok (.iload 5, 2) := by decide +kernel
theorem dX2_goalOf_69 : decode cX2_goalOf 69 = .ok (.iload_n 3, 1) := by decide +kernel
theorem dX2_goalOf_70 : decode cX2_goalOf 70 = .ok (.if_icmp .le 9, 3) := by decide +kernel
theorem dX2_goalOf_73 : decode cX2_goalOf 73 = .ok (.iload 5, 2) := by decide +kernel
theorem dX2_goalOf_75 : decode cX2_goalOf 75 = .ok (.istore_n 3, 1) := by decide +kernel
theorem dX2_goalOf_76 : decode cX2_goalOf 76 = .ok (.iload 4, 2) := by decide +kernel
theorem dX2_goalOf_78 : decode cX2_goalOf 78 = .ok (.istore_n 2, 1) := by decide +kernel
theorem dX2_goalOf_79 : decode cX2_goalOf 79 = .ok (.iinc 4 1, 3) := by decide +kernel
theorem dX2_goalOf_82 : decode cX2_goalOf 82 = .ok (.goto (-43), 3) := by decide +kernel
theorem dX2_goalOf_85 : decode cX2_goalOf 85 = .ok (.iload_n 2, 1) := by decide +kernel
theorem dX2_goalOf_86 : decode cX2_goalOf 86 = .ok (.ireturn, 1) := by decide +kernel
theorem dX2_nearestTo_0 : decode cX2_nearestTo 0 = .ok (.lconst 1, 1) := by decide +kernel
theorem dX2_nearestTo_1 : decode cX2_nearestTo 1 = .ok (.iload_n 1, 1) := by decide +kernel
theorem dX2_nearestTo_2 : decode cX2_nearestTo 2 = .ok (.lshl, 1) := by decide +kernel
theorem dX2_nearestTo_3 : decode cX2_nearestTo 3 = .ok (.lstore_n 2, 1) := by decide +kernel
theorem dX2_nearestTo_4 : decode cX2_nearestTo 4 = .ok (.iconst 0, 1) := by decide +kernel
theorem dX2_nearestTo_5 : decode cX2_nearestTo 5 = .ok (.istore 4, 2) := by decide +kernel
theorem dX2_nearestTo_7 : decode cX2_nearestTo 7 = .ok (.iload 4, 2) := by decide +kernel
theorem dX2_nearestTo_9 : decode cX2_nearestTo 9 = .ok (.bipush 48, 2) := by decide +kernel
theorem dX2_nearestTo_11 : decode cX2_nearestTo 11 = .ok (.if_icmp .ge 27, 3) := by decide +kernel
theorem dX2_nearestTo_14 : decode cX2_nearestTo 14 = .ok (.lload_n 2, 1) := by decide +kernel
theorem dX2_nearestTo_15 : decode cX2_nearestTo 15 = .ok (.aload_n 0, 1) := by decide +kernel
theorem dX2_nearestTo_16 : decode cX2_nearestTo 16 = .ok (.getfield 46, 3) := by decide +kernel
theorem dX2_nearestTo_19 : decode cX2_nearestTo 19 = .ok (.land, 1) := by decide +kernel
theorem dX2_nearestTo_20 : decode cX2_nearestTo 20 = .ok (.lconst 0, 1) := by decide +kernel
theorem dX2_nearestTo_21 : decode cX2_nearestTo 21 = .ok (.lcmp, 1) := by decide +kernel
theorem dX2_nearestTo_22 : decode cX2_nearestTo 22 = .ok (.ifCond .ne 16, 3) := by decide +kernel
theorem dX2_nearestTo_25 : decode cX2_nearestTo 25 = .ok (.lload_n 2, 1) := by decide +kernel
theorem dX2_nearestTo_26 : decode cX2_nearestTo 26 = .ok (.lload_n 2, 1) := by decide +kernel
theorem dX2_nearestTo_27 : decode cX2_nearestTo 27 = .ok (.invokestatic 68, 3) := by decide +kernel
theorem dX2_nearestTo_30 : decode cX2_nearestTo 30 = .ok (.lor, 1) := by decide +kernel
theorem dX2_nearestTo_31 : decode cX2_nearestTo 31 = .ok (.lstore_n 2, 1) := by decide +kernel
theorem dX2_nearestTo_32 : decode cX2_nearestTo 32 = .ok (.iinc 4 1, 3) := by decide +kernel
theorem dX2_nearestTo_35 : decode cX2_nearestTo 35 = .ok (.goto (-28), 3) := by decide +kernel
theorem dX2_nearestTo_38 : decode cX2_nearestTo 38 = .ok (.lload_n 2, 1) := by decide +kernel
theorem dX2_nearestTo_39 : decode cX2_nearestTo 39 = .ok (.aload_n 0, 1) := by decide +kernel
theorem dX2_nearestTo_40 : decode cX2_nearestTo 40 = .ok (.getfield 46, 3) := by decide +kernel
theorem dX2_nearestTo_43 : decode cX2_nearestTo 43 = .ok (.land, 1) := by decide +kernel
theorem dX2_nearestTo_44 : decode cX2_nearestTo 44 = .ok (.invokestatic 86, 3) := by decide +kernel
theorem dX2_nearestTo_47 : decode cX2_nearestTo 47 = .ok (.ireturn, 1) := by decide +kernel
theorem dX2_costOfGoal_0 : decode cX2_costOfGoal 0 = .ok (.aload_n 0, 1) := by decide +kernel
theorem dX2_costOfGoal_1 : decode cX2_costOfGoal 1 = .ok (.iload_n 1, 1) := by decide +kernel
theorem dX2_costOfGoal_2 : decode cX2_costOfGoal 2 = .ok (.invokevirtual 89, 3) := by decide +kernel
theorem dX2_costOfGoal_5 : decode cX2_costOfGoal 5 = .ok (.istore_n 2, 1) := by decide +kernel
theorem dX2_costOfGoal_6 : decode cX2_costOfGoal 6 = .ok (.iload_n 2, 1) := by decide +kernel
theorem dX2_costOfGoal_7 : decode cX2_costOfGoal 7 = .ok (.ifCond .ge 7, 3) := by decide +kernel
theorem dX2_costOfGoal_10 : decode cX2_costOfGoal 10 = .ok (.iconst 0, 1) := by decide +kernel
theorem dX2_costOfGoal_11 : decode cX2_costOfGoal 11 = .ok (.goto 9, 3) := by decide +kernel
theorem dX2_costOfGoal_14 : decode cX2_costOfGoal 14 = .ok (.aload_n 0, 1) := by decide +kernel
theorem dX2_costOfGoal_15 : decode cX2_costOfGoal 15 = .ok (.iload_n 1, 1) := by decide +kernel
theorem dX2_costOfGoal_16 : decode cX2_costOfGoal 16 = .ok (.iload_n 2, 1) := by decide +kernel
theorem dX2_costOfGoal_17 : decode cX2_costOfGoal 17 = .ok (.invokevirtual 83, 3) := by decide +kernel
theorem dX2_costOfGoal_20 : decode cX2_costOfGoal 20 = .ok (.ireturn, 1) := by decide +kernel
theorem dX2_wrongOnceMended_0 : decode cX2_wrongOnceMended 0 = .ok (.aload_n 0, 1) := by decide +kernel
theorem dX2_wrongOnceMended_1 : decode cX2_wrongOnceMended 1 = .ok (.getfield 46, 3) := by decide +kernel
theorem dX2_wrongOnceMended_4 : decode cX2_wrongOnceMended 4 = .ok (.lconst 1, 1) := by decide +kernel
theorem dX2_wrongOnceMended_5 : decode cX2_wrongOnceMended 5 = .ok (.iload_n 2, 1) := by decide +kernel
theorem dX2_wrongOnceMended_6 : decode cX2_wrongOnceMended 6 = .ok (.lshl, 1) := by decide +kernel
theorem dX2_wrongOnceMended_7 : decode cX2_wrongOnceMended 7 = .ok (.ldc2_w 50, 3) := by decide +kernel
theorem dX2_wrongOnceMended_10 : decode cX2_wrongOnceMended 10 = .ok (.lxor, 1) := by decide +kernel
theorem dX2_wrongOnceMended_11 : decode cX2_wrongOnceMended 11 = .ok (.land, 1) := by decide +kernel
theorem dX2_wrongOnceMended_12 : decode cX2_wrongOnceMended 12 = .ok (.lstore_n 3, 1) := by decide +kernel
theorem dX2_wrongOnceMended_13 : decode cX2_wrongOnceMended 13 = .ok (.aload_n 0, 1) := by decide +kernel
theorem dX2_wrongOnceMended_14 : decode cX2_wrongOnceMended 14 = .ok (.getfield 18, 3) := by decide +kernel
theorem dX2_wrongOnceMended_17 : decode cX2_wrongOnceMended 17 = .ok (.iload_n 1, 1) := by decide +kernel
theorem dX2_wrongOnceMended_18 : decode cX2_wrongOnceMended 18 = .ok (.iaload, 1) := by decide +kernel
theorem dX2_wrongOnceMended_19 : decode cX2_wrongOnceMended 19 = .ok (.iconst 3, 1) := by decide +kernel
theorem dX2_wrongOnceMended_20 : decode cX2_wrongOnceMended 20 = .ok (.if_icmp .ne 5, 3) := by decide +kernel
theorem dX2_wrongOnceMended_23 : decode cX2_wrongOnceMended 23 = .ok (.lload_n 3, 1) := by decide +kernel
theorem dX2_wrongOnceMended_24 : decode cX2_wrongOnceMended 24 = .ok (.lreturn, 1) := by decide +kernel
theorem dX2_wrongOnceMended_25 : decode cX2_wrongOnceMended 25 = .ok (.aload_n 0, 1) := by decide +kernel
theorem dX2_wrongOnceMended_26 : decode cX2_wrongOnceMended 26 = .ok (.getfield 15, 3) := by decide +kernel
theorem dX2_wrongOnceMended_29 : decode cX2_wrongOnceMended 29 = .ok (.iload_n 2, 1) := by decide +kernel
theorem dX2_wrongOnceMended_30 : decode cX2_wrongOnceMended 30 = .ok (.iaload, 1) := by decide +kernel
theorem dX2_wrongOnceMended_31 : decode cX2_wrongOnceMended 31 = .ok (.invokestatic 92, 3) := by decide +kernel
theorem dX2_wrongOnceMended_34 : decode cX2_wrongOnceMended 34 = .ok (.istore 5, 2) := by decide +kernel
theorem dX2_wrongOnceMended_36 : decode cX2_wrongOnceMended 36 = .ok (.aload_n 0, 1) := by decide +kernel
theorem dX2_wrongOnceMended_37 : decode cX2_wrongOnceMended 37 = .ok (.getfield 15, 3) := by decide +kernel
theorem dX2_wrongOnceMended_40 : decode cX2_wrongOnceMended 40 = .ok (.iload_n 2, 1) := by decide +kernel
theorem dX2_wrongOnceMended_41 : decode cX2_wrongOnceMended 41 = .ok (.iaload, 1) := by decide +kernel
theorem dX2_wrongOnceMended_42 : decode cX2_wrongOnceMended 42 = .ok (.invokestatic 95, 3) := by decide +kernel
theorem dX2_wrongOnceMended_45 : decode cX2_wrongOnceMended 45 = .ok (.istore 6, 2) := by decide +kernel
theorem dX2_wrongOnceMended_47 : decode cX2_wrongOnceMended 47 = .ok (.iconst 0, 1) := by decide +kernel
theorem dX2_wrongOnceMended_48 : decode cX2_wrongOnceMended 48 = .ok (.istore 7, 2) := by decide +kernel
theorem dX2_wrongOnceMended_50 : decode cX2_wrongOnceMended 50 = .ok (.iload 7, 2) := by decide +kernel
theorem dX2_wrongOnceMended_52 : decode cX2_wrongOnceMended 52 = .ok (.iconst 4, 1) := by decide +kernel
theorem dX2_wrongOnceMended_53 : decode cX2_wrongOnceMended 53 = .ok (.if_icmp .ge 68, 3) := by decide +kernel
theorem dX2_wrongOnceMended_56 : decode cX2_wrongOnceMended 56 = .ok (.iload_n 2, 1) := by decide +kernel
theorem dX2_wrongOnceMended_57 : decode cX2_wrongOnceMended 57 = .ok (.iload 7, 2) := by decide +kernel
theorem dX2_wrongOnceMended_59 : decode cX2_wrongOnceMended 59 = .ok (.invokestatic 98, 3) := by decide +kernel
theorem dX2_wrongOnceMended_62 : decode cX2_wrongOnceMended 62 = .ok (.istore 8, 2) := by decide +kernel
theorem dX2_wrongOnceMended_64 : decode cX2_wrongOnceMended 64 = .ok (.iload 8, 2) := by decide +kernel
theorem dX2_wrongOnceMended_66 : decode cX2_wrongOnceMended 66 = .ok (.ifCond .lt 49, 3) := by decide +kernel
theorem dX2_wrongOnceMended_69 : decode cX2_wrongOnceMended 69 = .ok (.aload_n 0, 1) := by decide +kernel
theorem dX2_wrongOnceMended_70 : decode cX2_wrongOnceMended 70 = .ok (.getfield 9, 3) := by decide +kernel
theorem dX2_wrongOnceMended_73 : decode cX2_wrongOnceMended 73 = .ok (.iload 8, 2) := by decide +kernel
theorem dX2_wrongOnceMended_75 : decode cX2_wrongOnceMended 75 = .ok (.iaload, 1) := by decide +kernel
theorem dX2_wrongOnceMended_76 : decode cX2_wrongOnceMended 76 = .ok (.iload 5, 2) := by decide +kernel
theorem dX2_wrongOnceMended_78 : decode cX2_wrongOnceMended 78 = .ok (.if_icmp .ne 37, 3) := by decide +kernel
theorem dX2_wrongOnceMended_81 : decode cX2_wrongOnceMended 81 = .ok (.lconst 1, 1) := by decide +kernel
theorem dX2_wrongOnceMended_82 : decode cX2_wrongOnceMended 82 = .ok (.iload 8, 2) := by decide +kernel
theorem dX2_wrongOnceMended_84 : decode cX2_wrongOnceMended 84 = .ok (.lshl, 1) := by decide +kernel
theorem dX2_wrongOnceMended_85 : decode cX2_wrongOnceMended 85 = .ok (.lstore 9, 2) := by decide +kernel
theorem dX2_wrongOnceMended_87 : decode cX2_wrongOnceMended 87 = .ok (.aload_n 0, 1) := by decide +kernel
theorem dX2_wrongOnceMended_88 : decode cX2_wrongOnceMended 88 = .ok (.getfield 15, 3) := by decide +kernel
theorem dX2_wrongOnceMended_91 : decode cX2_wrongOnceMended 91 = .ok (.iload 8, 2) := by decide +kernel
theorem dX2_wrongOnceMended_93 : decode cX2_wrongOnceMended 93 = .ok (.iaload, 1) := by decide +kernel
theorem dX2_wrongOnceMended_94 : decode cX2_wrongOnceMended 94 = .ok (.iload 6, 2) := by decide +kernel
theorem dX2_wrongOnceMended_96 : decode cX2_wrongOnceMended 96 = .ok (.if_icmp .ne 14, 3) := by decide +kernel
theorem dX2_wrongOnceMended_99 : decode cX2_wrongOnceMended 99 = .ok (.lload_n 3, 1) := by decide +kernel
theorem dX2_wrongOnceMended_100 : decode cX2_wrongOnceMended 100 = .ok (.lload 9, 2) := by decide +kernel
theorem dX2_wrongOnceMended_102 : decode cX2_wrongOnceMended 102 = .ok (.ldc2_w 50, 3) := by decide +kernel
theorem dX2_wrongOnceMended_105 : decode cX2_wrongOnceMended 105 = .ok (.lxor, 1) := by decide +kernel
theorem dX2_wrongOnceMended_106 : decode cX2_wrongOnceMended 106 = .ok (.land, 1) := by decide +kernel
theorem dX2_wrongOnceMended_107 : decode cX2_wrongOnceMended 107 = .ok (.goto 7, 3) := by decide +kernel
theorem dX2_wrongOnceMended_110 : decode cX2_wrongOnceMended 110 = .ok (.lload_n 3, 1) := by decide +kernel
theorem dX2_wrongOnceMended_111 : decode cX2_wrongOnceMended 111 = .ok (.lload 9, 2) := by decide +kernel
theorem dX2_wrongOnceMended_113 : decode cX2_wrongOnceMended 113 = .ok (.lor, 1) := by decide +kernel
theorem dX2_wrongOnceMended_114 : decode cX2_wrongOnceMended 114 = .ok (.lstore_n 3, 1) := by decide +kernel
theorem dX2_wrongOnceMended_115 : decode cX2_wrongOnceMended 115 = .ok (.iinc 7 1, 3) := by decide +kernel
theorem dX2_wrongOnceMended_118 : decode cX2_wrongOnceMended 118 = .ok (.goto (-68), 3) := by decide +kernel
theorem dX2_wrongOnceMended_121 : decode cX2_wrongOnceMended 121 = .ok (.lload_n 3, 1) := by decide +kernel
theorem dX2_wrongOnceMended_122 : decode cX2_wrongOnceMended 122 = .ok (.lreturn, 1) := by decide +kernel
theorem dX2_mendFree_0 : decode cX2_mendFree 0 = .ok (.aload_n 0, 1) := by decide +kernel
theorem dX2_mendFree_1 : decode cX2_mendFree 1 = .ok (.getfield 21, 3) := by decide +kernel
theorem dX2_mendFree_4 : decode cX2_mendFree 4 = .ok (.iload_n 1, 1) := by decide +kernel
theorem dX2_mendFree_5 : decode cX2_mendFree 5 = .ok (.iload_n 2, 1) := by decide +kernel
theorem dX2_mendFree_6 : decode cX2_mendFree 6 = .ok (.iastore, 1) := by decide +kernel
theorem dX2_mendFree_7 : decode cX2_mendFree 7 = .ok (.aload_n 0, 1) := by decide +kernel
theorem dX2_mendFree_8 : decode cX2_mendFree 8 = .ok (.getfield 18, 3) := by decide +kernel
theorem dX2_mendFree_11 : decode cX2_mendFree 11 = .ok (.iload_n 1, 1) := by decide +kernel
theorem dX2_mendFree_12 : decode cX2_mendFree 12 = .ok (.iaload, 1) := by decide +kernel
theorem dX2_mendFree_13 : decode cX2_mendFree 13 = .ok (.iconst 3, 1) := by decide +kernel
theorem dX2_mendFree_14 : decode cX2_mendFree 14 = .ok (.if_icmp .ne 17, 3) := by decide +kernel
theorem dX2_mendFree_17 : decode cX2_mendFree 17 = .ok (.aload_n 0, 1) := by decide +kernel
theorem dX2_mendFree_18 : decode cX2_mendFree 18 = .ok (.iconst 1, 1) := by decide +kernel
theorem dX2_mendFree_19 : decode cX2_mendFree 19 = .ok (.iload_n 2, 1) := by decide +kernel
theorem dX2_mendFree_20 : decode cX2_mendFree 20 = .ok (.aload_n 0, 1) := by decide +kernel
theorem dX2_mendFree_21 : decode cX2_mendFree 21 = .ok (.getfield 9, 3) := by decide +kernel
theorem dX2_mendFree_24 : decode cX2_mendFree 24 = .ok (.iload_n 2, 1) := by decide +kernel
theorem dX2_mendFree_25 : decode cX2_mendFree 25 = .ok (.iaload, 1) := by decide +kernel
theorem dX2_mendFree_26 : decode cX2_mendFree 26 = .ok (.invokevirtual 101, 3) := by decide +kernel
theorem dX2_mendFree_29 : decode cX2_mendFree 29 = .ok (.pop, 1) := by decide +kernel
theorem dX2_mendFree_30 : decode cX2_mendFree 30 = .ok (.return_, 1) := by decide +kernel
theorem dX2_mendFree_31 : decode cX2_mendFree 31 = .ok (.aload_n 0, 1) := by decide +kernel
theorem dX2_mendFree_32 : decode cX2_mendFree 32 = .ok (.getfield 15, 3) := by decide +kernel
theorem dX2_mendFree_35 : decode cX2_mendFree 35 = .ok (.iload_n 2, 1) := by decide +kernel
theorem dX2_mendFree_36 : decode cX2_mendFree 36 = .ok (.iaload, 1) := by decide +kernel
theorem dX2_mendFree_37 : decode cX2_mendFree 37 = .ok (.istore_n 3, 1) := by decide +kernel
theorem dX2_mendFree_38 : decode cX2_mendFree 38 = .ok (.aload_n 0, 1) := by decide +kernel
theorem dX2_mendFree_39 : decode cX2_mendFree 39 = .ok (.iconst 0, 1) := by decide +kernel
theorem dX2_mendFree_40 : decode cX2_mendFree 40 = .ok (.iload_n 2, 1) := by decide +kernel
theorem dX2_mendFree_41 : decode cX2_mendFree 41 = .ok (.iload_n 3, 1) := by decide +kernel
theorem dX2_mendFree_42 : decode cX2_mendFree 42 = .ok (.invokevirtual 101, 3) := by decide +kernel
theorem dX2_mendFree_45 : decode cX2_mendFree 45 = .ok (.pop, 1) := by decide +kernel
theorem dX2_mendFree_46 : decode cX2_mendFree 46 = .ok (.iconst 0, 1) := by decide +kernel
theorem dX2_mendFree_47 : decode cX2_mendFree 47 = .ok (.istore 4, 2) := by decide +kernel
theorem dX2_mendFree_49 : decode cX2_mendFree 49 = .ok (.iload 4, 2) := by decide +kernel
theorem dX2_mendFree_51 : decode cX2_mendFree 51 = .ok (.iconst 4, 1) := by decide +kernel
theorem dX2_mendFree_52 : decode cX2_mendFree 52 = .ok (.if_icmp .ge 48, 3) := by decide +kernel
theorem dX2_mendFree_55 : decode cX2_mendFree 55 = .ok (.iload_n 2, 1) := by decide +kernel
theorem dX2_mendFree_56 : decode cX2_mendFree 56 = .ok (.iload 4, 2) := by decide +kernel
theorem dX2_mendFree_58 : decode cX2_mendFree 58 = .ok (.invokestatic 98, 3) := by decide +kernel
theorem dX2_mendFree_61 : decode cX2_mendFree 61 = .ok (.istore 5, 2) := by decide +kernel
theorem dX2_mendFree_63 : decode cX2_mendFree 63 = .ok (.iload 5, 2) := by decide +kernel
theorem dX2_mendFree_65 : decode cX2_mendFree 65 = .ok (.ifCond .lt 29, 3) := by decide +kernel
theorem dX2_mendFree_68 : decode cX2_mendFree 68 = .ok (.aload_n 0, 1) := by decide +kernel
theorem dX2_mendFree_69 : decode cX2_mendFree 69 = .ok (.getfield 9, 3) := by decide +kernel
theorem dX2_mendFree_72 : decode cX2_mendFree 72 = .ok (.iload 5, 2) := by decide +kernel
theorem dX2_mendFree_74 : decode cX2_mendFree 74 = .ok (.iaload, 1) := by decide +kernel
theorem dX2_mendFree_75 : decode cX2_mendFree 75 = .ok (.iload_n 3, 1) := by decide +kernel
theorem dX2_mendFree_76 : decode cX2_mendFree 76 = .ok (.invokestatic 92, 3) := by decide +kernel
theorem dX2_mendFree_79 : decode cX2_mendFree 79 = .ok (.if_icmp .ne 15, 3) := by decide +kernel
theorem dX2_mendFree_82 : decode cX2_mendFree 82 = .ok (.aload_n 0, 1) := by decide +kernel
theorem dX2_mendFree_83 : decode cX2_mendFree 83 = .ok (.iconst 0, 1) := by decide +kernel
theorem dX2_mendFree_84 : decode cX2_mendFree 84 = .ok (.iload 5, 2) := by decide +kernel
theorem dX2_mendFree_86 : decode cX2_mendFree 86 = .ok (.iload_n 3, 1) := by decide +kernel
theorem dX2_mendFree_87 : decode cX2_mendFree 87 = .ok (.invokestatic 95, 3) := by decide +kernel
theorem dX2_mendFree_90 : decode cX2_mendFree 90 = .ok (.invokevirtual 101, 3) := by decide +kernel
theorem dX2_mendFree_93 : decode cX2_mendFree 93 = .ok (.pop, 1) := by decide +kernel
theorem dX2_mendFree_94 : decode cX2_mendFree 94 = .ok (.iinc 4 1, 3) := by decide +kernel
theorem dX2_mendFree_97 : decode cX2_mendFree 97 = .ok (.goto (-48), 3) := by decide +kernel
theorem dX2_mendFree_100 : decode cX2_mendFree 100 = .ok (.return_, 1) := by decide +kernel
theorem dX2_payAndMend_0 : decode cX2_payAndMend 0 = .ok (.aload_n 0, 1) := by decide +kernel
theorem dX2_payAndMend_1 : decode cX2_payAndMend 1 = .ok (.getfield 24, 3) := by decide +kernel
theorem dX2_payAndMend_4 : decode cX2_payAndMend 4 = .ok (.iload_n 1, 1) := by decide +kernel
theorem dX2_payAndMend_5 : decode cX2_payAndMend 5 = .ok (.dup2, 1) := by decide +kernel
theorem dX2_payAndMend_6 : decode cX2_payAndMend 6 = .ok (.iaload, 1) := by decide +kernel
theorem dX2_payAndMend_7 : decode cX2_payAndMend 7 = .ok (.iload_n 3, 1) := by decide +kernel
theorem dX2_payAndMend_8 : decode cX2_payAndMend 8 = .ok (.isub, 1) := by decide +kernel
theorem dX2_payAndMend_9 : decode cX2_payAndMend 9 = .ok (.iastore, 1) := by decide +kernel
theorem dX2_payAndMend_10 : decode cX2_payAndMend 10 = .ok (.aload_n 0, 1) := by decide +kernel
theorem dX2_payAndMend_11 : decode cX2_payAndMend 11 = .ok (.getfield 27, 3) := by decide +kernel
theorem dX2_payAndMend_14 : decode cX2_payAndMend 14 = .ok (.iload_n 1, 1) := by decide +kernel
theorem dX2_payAndMend_15 : decode cX2_payAndMend 15 = .ok (.ldc 105, 2) := by decide +kernel
theorem dX2_payAndMend_17 : decode cX2_payAndMend 17 = .ok (.aload_n 0, 1) := by decide +kernel
theorem dX2_payAndMend_18 : decode cX2_payAndMend 18 = .ok (.getfield 27, 3) := by decide +kernel
theorem dX2_payAndMend_21 : decode cX2_payAndMend 21 = .ok (.iload_n 1, 1) := by decide +kernel
theorem dX2_payAndMend_22 : decode cX2_payAndMend 22 = .ok (.iaload, 1) := by decide +kernel
theorem dX2_payAndMend_23 : decode cX2_payAndMend 23 = .ok (.iload_n 3, 1) := by decide +kernel
theorem dX2_payAndMend_24 : decode cX2_payAndMend 24 = .ok (.iadd, 1) := by decide +kernel
theorem dX2_payAndMend_25 : decode cX2_payAndMend 25 = .ok (.invokestatic 106, 3) := by decide +kernel
theorem dX2_payAndMend_28 : decode cX2_payAndMend 28 = .ok (.iastore, 1) := by decide +kernel
theorem dX2_payAndMend_29 : decode cX2_payAndMend 29 = .ok (.aload_n 0, 1) := by decide +kernel
theorem dX2_payAndMend_30 : decode cX2_payAndMend 30 = .ok (.iload_n 1, 1) := by decide +kernel
theorem dX2_payAndMend_31 : decode cX2_payAndMend 31 = .ok (.iload_n 2, 1) := by decide +kernel
theorem dX2_payAndMend_32 : decode cX2_payAndMend 32 = .ok (.invokevirtual 109, 3) := by decide +kernel
theorem dX2_payAndMend_35 : decode cX2_payAndMend 35 = .ok (.return_, 1) := by decide +kernel
theorem dX2_sortSpoiltBy_0 : decode cX2_sortSpoiltBy 0 = .ok (.iload_n 0, 1) := by decide +kernel
theorem dX2_sortSpoiltBy_1 : decode cX2_sortSpoiltBy 1 = .ok (.iconst 1, 1) := by decide +kernel
theorem dX2_sortSpoiltBy_2 : decode cX2_sortSpoiltBy 2 = .ok (.if_icmp .ne 5, 3) := by decide +kernel
theorem dX2_sortSpoiltBy_5 : decode cX2_sortSpoiltBy 5 = .ok (.iconst 5, 1) := by decide +kernel
theorem dX2_sortSpoiltBy_6 : decode cX2_sortSpoiltBy 6 = .ok (.ireturn, 1) := by decide +kernel
theorem dX2_sortSpoiltBy_7 : decode cX2_sortSpoiltBy 7 = .ok (.iload_n 0, 1) := by decide +kernel
theorem dX2_sortSpoiltBy_8 : decode cX2_sortSpoiltBy 8 = .ok (.iconst 3, 1) := by decide +kernel
theorem dX2_sortSpoiltBy_9 : decode cX2_sortSpoiltBy 9 = .ok (.if_icmp .ne 7, 3) := by decide +kernel
theorem dX2_sortSpoiltBy_12 : decode cX2_sortSpoiltBy 12 = .ok (.iconst 0, 1) := by decide +kernel
theorem dX2_sortSpoiltBy_13 : decode cX2_sortSpoiltBy 13 = .ok (.goto 4, 3) := by decide +kernel
theorem dX2_sortSpoiltBy_16 : decode cX2_sortSpoiltBy 16 = .ok (.iconst (-1), 1) := by decide +kernel
theorem dX2_sortSpoiltBy_17 : decode cX2_sortSpoiltBy 17 = .ok (.ireturn, 1) := by decide +kernel
theorem dX2_sortSpoiltTo_0 : decode cX2_sortSpoiltTo 0 = .ok (.iload_n 0, 1) := by decide +kernel
theorem dX2_sortSpoiltTo_1 : decode cX2_sortSpoiltTo 1 = .ok (.iconst 1, 1) := by decide +kernel
theorem dX2_sortSpoiltTo_2 : decode cX2_sortSpoiltTo 2 = .ok (.if_icmp .ne 7, 3) := by decide +kernel
theorem dX2_sortSpoiltTo_5 : decode cX2_sortSpoiltTo 5 = .ok (.iconst 0, 1) := by decide +kernel
theorem dX2_sortSpoiltTo_6 : decode cX2_sortSpoiltTo 6 = .ok (.goto 4, 3) := by decide +kernel
theorem dX2_sortSpoiltTo_9 : decode cX2_sortSpoiltTo 9 = .ok (.iconst 5, 1) := by decide +kernel
theorem dX2_sortSpoiltTo_10 : decode cX2_sortSpoiltTo 10 = .ok (.ireturn, 1) := by decide +kernel
theorem dX2_cellAtSide_0 : decode cX2_cellAtSide 0 = .ok (.iload_n 0, 1) := by decide +kernel
theorem dX2_cellAtSide_1 : decode cX2_cellAtSide 1 = .ok (.bipush 8, 2) := by decide +kernel
theorem dX2_cellAtSide_3 : decode cX2_cellAtSide 3 = .ok (.irem, 1) := by decide +kernel
theorem dX2_cellAtSide_4 : decode cX2_cellAtSide 4 = .ok (.istore_n 2, 1) := by decide +kernel
theorem dX2_cellAtSide_5 : decode cX2_cellAtSide 5 = .ok (.iload_n 1, 1) := by decide +kernel
theorem dX2_cellAtSide_6 : decode cX2_cellAtSide 6 = .ok (.tableswitch 70 0 2 #[26, 41, 55], 26) := by decide +kernel
theorem dX2_cellAtSide_32 : decode cX2_cellAtSide 32 = .ok (.iload_n 0, 1) := by decide +kernel
theorem dX2_cellAtSide_33 : decode cX2_cellAtSide 33 = .ok (.bipush 8, 2) := by decide +kernel
theorem dX2_cellAtSide_35 : decode cX2_cellAtSide 35 = .ok (.if_icmp .lt 10, 3) := by decide +kernel
theorem dX2_cellAtSide_38 : decode cX2_cellAtSide 38 = .ok (.iload_n 0, 1) := by decide +kernel
theorem dX2_cellAtSide_39 : decode cX2_cellAtSide 39 = .ok (.bipush 8, 2) := by decide +kernel
theorem dX2_cellAtSide_41 : decode cX2_cellAtSide 41 = .ok (.isub, 1) := by decide +kernel
theorem dX2_cellAtSide_42 : decode cX2_cellAtSide 42 = .ok (.goto 4, 3) := by decide +kernel
theorem dX2_cellAtSide_45 : decode cX2_cellAtSide 45 = .ok (.iconst (-1), 1) := by decide +kernel
theorem dX2_cellAtSide_46 : decode cX2_cellAtSide 46 = .ok (.ireturn, 1) := by decide +kernel
theorem dX2_cellAtSide_47 : decode cX2_cellAtSide 47 = .ok (.iload_n 2, 1) := by decide +kernel
theorem dX2_cellAtSide_48 : decode cX2_cellAtSide 48 = .ok (.bipush 7, 2) := by decide +kernel
theorem dX2_cellAtSide_50 : decode cX2_cellAtSide 50 = .ok (.if_icmp .ge 9, 3) := by decide +kernel
theorem dX2_cellAtSide_53 : decode cX2_cellAtSide 53 = .ok (.iload_n 0, 1) := by decide +kernel
theorem dX2_cellAtSide_54 : decode cX2_cellAtSide 54 = .ok (.iconst 1, 1) := by decide +kernel
theorem dX2_cellAtSide_55 : decode cX2_cellAtSide 55 = .ok (.iadd, 1) := by decide +kernel
theorem dX2_cellAtSide_56 : decode cX2_cellAtSide 56 = .ok (.goto 4, 3) := by decide +kernel
theorem dX2_cellAtSide_59 : decode cX2_cellAtSide 59 = .ok (.iconst (-1), 1) := by decide +kernel
theorem dX2_cellAtSide_60 : decode cX2_cellAtSide 60 = .ok (.ireturn, 1) := by decide +kernel
theorem dX2_cellAtSide_61 : decode cX2_cellAtSide 61 = .ok (.iload_n 0, 1) := by decide +kernel
theorem dX2_cellAtSide_62 : decode cX2_cellAtSide 62 = .ok (.bipush 40, 2) := by decide +kernel
theorem dX2_cellAtSide_64 : decode cX2_cellAtSide 64 = .ok (.if_icmp .ge 10, 3) := by decide +kernel
theorem dX2_cellAtSide_67 : decode cX2_cellAtSide 67 = .ok (.iload_n 0, 1) := by decide +kernel
theorem dX2_cellAtSide_68 : decode cX2_cellAtSide 68 = .ok (.bipush 8, 2) := by decide +kernel
theorem dX2_cellAtSide_70 : decode cX2_cellAtSide 70 = .ok (.iadd, 1) := by decide +kernel
theorem dX2_cellAtSide_71 : decode cX2_cellAtSide 71 = .ok (.goto 4, 3) := by decide +kernel
theorem dX2_cellAtSide_74 : decode cX2_cellAtSide 74 = .ok (.iconst (-1), 1) := by decide +kernel
theorem dX2_cellAtSide_75 : decode cX2_cellAtSide 75 = .ok (.ireturn, 1) := by decide +kernel
theorem dX2_cellAtSide_76 : decode cX2_cellAtSide 76 = .ok (.iload_n 2, 1) := by decide +kernel
theorem dX2_cellAtSide_77 : decode cX2_cellAtSide 77 = .ok (.ifCond .le 9, 3) := by decide +kernel
theorem dX2_cellAtSide_80 : decode cX2_cellAtSide 80 = .ok (.iload_n 0, 1) := by decide +kernel
theorem dX2_cellAtSide_81 : decode cX2_cellAtSide 81 = .ok (.iconst 1, 1) := by decide +kernel
theorem dX2_cellAtSide_82 : decode cX2_cellAtSide 82 = .ok (.isub, 1) := by decide +kernel
theorem dX2_cellAtSide_83 : decode cX2_cellAtSide 83 = .ok (.goto 4, 3) := by decide +kernel
theorem dX2_cellAtSide_86 : decode cX2_cellAtSide 86 = .ok (.iconst (-1), 1) := by decide +kernel
theorem dX2_cellAtSide_87 : decode cX2_cellAtSide 87 = .ok (.ireturn, 1) := by decide +kernel
theorem dX2_bestFor_0 : decode cX2_bestFor 0 = .ok (.iconst (-1), 1) := by decide +kernel
theorem dX2_bestFor_1 : decode cX2_bestFor 1 = .ok (.istore_n 2, 1) := by decide +kernel
theorem dX2_bestFor_2 : decode cX2_bestFor 2 = .ok (.bipush 49, 2) := by decide +kernel
theorem dX2_bestFor_4 : decode cX2_bestFor 4 = .ok (.istore_n 3, 1) := by decide +kernel
theorem dX2_bestFor_5 : decode cX2_bestFor 5 = .ok (.iconst 0, 1) := by decide +kernel
theorem dX2_bestFor_6 : decode cX2_bestFor 6 = .ok (.istore 4, 2) := by decide +kernel
theorem dX2_bestFor_8 : decode cX2_bestFor 8 = .ok (.iload 4, 2) := by decide +kernel
theorem dX2_bestFor_10 : decode cX2_bestFor 10 = .ok (.bipush 48, 2) := by decide +kernel
theorem dX2_bestFor_12 : decode cX2_bestFor 12 = .ok (.if_icmp .ge 45, 3) := by decide +kernel
theorem dX2_bestFor_15 : decode cX2_bestFor 15 = .ok (.aload_n 0, 1) := by decide +kernel
theorem dX2_bestFor_16 : decode cX2_bestFor 16 = .ok (.getfield 46, 3) := by decide +kernel
theorem dX2_bestFor_19 : decode cX2_bestFor 19 = .ok (.iload 4, 2) := by decide +kernel
theorem dX2_bestFor_21 : decode cX2_bestFor 21 = .ok (.invokestatic 52, 3) := by decide +kernel
theorem dX2_bestFor_24 : decode cX2_bestFor 24 = .ok (.ifCond .eq 27, 3) := by decide +kernel
theorem dX2_bestFor_27 : decode cX2_bestFor 27 = .ok (.aload_n 0, 1) := by decide +kernel
theorem dX2_bestFor_28 : decode cX2_bestFor 28 = .ok (.iload_n 1, 1) := by decide +kernel
theorem dX2_bestFor_29 : decode cX2_bestFor 29 = .ok (.iload 4, 2) := by decide +kernel
theorem dX2_bestFor_31 : decode cX2_bestFor 31 = .ok (.invokevirtual 113, 3) := by decide +kernel
theorem dX2_bestFor_34 : decode cX2_bestFor 34 = .ok (.invokestatic 56, 3) := by decide +kernel
theorem dX2_bestFor_37 : decode cX2_bestFor 37 = .ok (.istore 5, 2) := by decide +kernel
theorem dX2_bestFor_39 : decode cX2_bestFor 39 = .ok (.iload 5, 2) := by decide +kernel
theorem dX2_bestFor_41 : decode cX2_bestFor 41 = .ok (.iload_n 3, 1) := by decide +kernel
theorem dX2_bestFor_42 : decode cX2_bestFor 42 = .ok (.if_icmp .ge 9, 3) := by decide +kernel
theorem dX2_bestFor_45 : decode cX2_bestFor 45 = .ok (.iload 5, 2) := by decide +kernel
theorem dX2_bestFor_47 : decode cX2_bestFor 47 = .ok (.istore_n 3, 1) := by decide +kernel
theorem dX2_bestFor_48 : decode cX2_bestFor 48 = .ok (.iload 4, 2) := by decide +kernel
theorem dX2_bestFor_50 : decode cX2_bestFor 50 = .ok (.istore_n 2, 1) := by decide +kernel
theorem dX2_bestFor_51 : decode cX2_bestFor 51 = .ok (.iinc 4 1, 3) := by decide +kernel
theorem dX2_bestFor_54 : decode cX2_bestFor 54 = .ok (.goto (-46), 3) := by decide +kernel
theorem dX2_bestFor_57 : decode cX2_bestFor 57 = .ok (.iload_n 2, 1) := by decide +kernel
theorem dX2_bestFor_58 : decode cX2_bestFor 58 = .ok (.ireturn, 1) := by decide +kernel
theorem dX2_passYears_0 : decode cX2_passYears 0 = .ok (.iconst 0, 1) := by decide +kernel
theorem dX2_passYears_1 : decode cX2_passYears 1 = .ok (.istore_n 3, 1) := by decide +kernel
theorem dX2_passYears_2 : decode cX2_passYears 2 = .ok (.iload_n 3, 1) := by decide +kernel
theorem dX2_passYears_3 : decode cX2_passYears 3 = .ok (.iload_n 1, 1) := by decide +kernel
theorem dX2_passYears_4 : decode cX2_passYears 4 = .ok (.if_icmp .ge 48, 3) := by decide +kernel
theorem dX2_passYears_7 : decode cX2_passYears 7 = .ok (.aload_n 0, 1) := by decide +kernel
theorem dX2_passYears_8 : decode cX2_passYears 8 = .ok (.getfield 46, 3) := by decide +kernel
theorem dX2_passYears_11 : decode cX2_passYears 11 = .ok (.lconst 0, 1) := by decide +kernel
theorem dX2_passYears_12 : decode cX2_passYears 12 = .ok (.lcmp, 1) := by decide +kernel
theorem dX2_passYears_13 : decode cX2_passYears 13 = .ok (.ifCond .eq 39, 3) := by decide +kernel
theorem dX2_passYears_16 : decode cX2_passYears 16 = .ok (.iconst 0, 1) := by decide +kernel
theorem dX2_passYears_17 : decode cX2_passYears 17 = .ok (.istore 4, 2) := by decide +kernel
theorem dX2_passYears_19 : decode cX2_passYears 19 = .ok (.iload 4, 2) := by decide +kernel
theorem dX2_passYears_21 : decode cX2_passYears 21 = .ok (.aload_n 0, 1) := by decide +kernel
theorem dX2_passYears_22 : decode cX2_passYears 22 = .ok (.getfield 40, 3) := by decide +kernel
theorem dX2_passYears_25 : decode cX2_passYears 25 = .ok (.if_icmp .ge 21, 3) := by decide +kernel
theorem dX2_passYears_28 : decode cX2_passYears 28 = .ok (.iload 4, 2) := by decide +kernel
theorem dX2_passYears_30 : decode cX2_passYears 30 = .ok (.iload_n 2, 1) := by decide +kernel
theorem dX2_passYears_31 : decode cX2_passYears 31 = .ok (.if_icmp .eq 9, 3) := by decide +kernel
theorem dX2_passYears_34 : decode cX2_passYears 34 = .ok (.aload_n 0, 1) := by decide +kernel
theorem dX2_passYears_35 : decode cX2_passYears 35 = .ok (.iload 4, 2) := by decide +kernel
theorem dX2_passYears_37 : decode cX2_passYears 37 = .ok (.invokevirtual 117, 3) := by decide +kernel
theorem dX2_passYears_40 : decode cX2_passYears 40 = .ok (.iinc 4 1, 3) := by decide +kernel
theorem dX2_passYears_43 : decode cX2_passYears 43 = .ok (.goto (-24), 3) := by decide +kernel
theorem dX2_passYears_46 : decode cX2_passYears 46 = .ok (.iinc 3 1, 3) := by decide +kernel
theorem dX2_passYears_49 : decode cX2_passYears 49 = .ok (.goto (-47), 3) := by decide +kernel
theorem dX2_passYears_52 : decode cX2_passYears 52 = .ok (.aload_n 0, 1) := by decide +kernel
theorem dX2_passYears_53 : decode cX2_passYears 53 = .ok (.invokevirtual 121, 3) := by decide +kernel
theorem dX2_passYears_56 : decode cX2_passYears 56 = .ok (.ireturn, 1) := by decide +kernel
theorem dX2_workOneYear_0 : decode cX2_workOneYear 0 = .ok (.aload_n 0, 1) := by decide +kernel
theorem dX2_workOneYear_1 : decode cX2_workOneYear 1 = .ok (.iload_n 1, 1) := by decide +kernel
theorem dX2_workOneYear_2 : decode cX2_workOneYear 2 = .ok (.invokevirtual 89, 3) := by decide +kernel
theorem dX2_workOneYear_5 : decode cX2_workOneYear 5 = .ok (.istore_n 2, 1) := by decide +kernel
theorem dX2_workOneYear_6 : decode cX2_workOneYear 6 = .ok (.iload_n 2, 1) := by decide +kernel
theorem dX2_workOneYear_7 : decode cX2_workOneYear 7 = .ok (.ifCond .ge 4, 3) := by decide +kernel
theorem dX2_workOneYear_10 : decode cX2_workOneYear 10 = .ok (.return_, 1) := by decide +kernel
theorem dX2_workOneYear_11 : decode cX2_workOneYear 11 = .ok (.aload_n 0, 1) := by decide +kernel
theorem dX2_workOneYear_12 : decode cX2_workOneYear 12 = .ok (.iload_n 1, 1) := by decide +kernel
theorem dX2_workOneYear_13 : decode cX2_workOneYear 13 = .ok (.iload_n 2, 1) := by decide +kernel
theorem dX2_workOneYear_14 : decode cX2_workOneYear 14 = .ok (.invokevirtual 83, 3) := by decide +kernel
theorem dX2_workOneYear_17 : decode cX2_workOneYear 17 = .ok (.istore_n 3, 1) := by decide +kernel
theorem dX2_workOneYear_18 : decode cX2_workOneYear 18 = .ok (.aload_n 0, 1) := by decide +kernel
theorem dX2_workOneYear_19 : decode cX2_workOneYear 19 = .ok (.getfield 24, 3) := by decide +kernel
theorem dX2_workOneYear_22 : decode cX2_workOneYear 22 = .ok (.iload_n 1, 1) := by decide +kernel
theorem dX2_workOneYear_23 : decode cX2_workOneYear 23 = .ok (.iaload, 1) := by decide +kernel
theorem dX2_workOneYear_24 : decode cX2_workOneYear 24 = .ok (.iload_n 3, 1) := by decide +kernel
theorem dX2_workOneYear_25 : decode cX2_workOneYear 25 = .ok (.if_icmp .lt 10, 3) := by decide +kernel
theorem dX2_workOneYear_28 : decode cX2_workOneYear 28 = .ok (.aload_n 0, 1) := by decide +kernel
theorem dX2_workOneYear_29 : decode cX2_workOneYear 29 = .ok (.iload_n 1, 1) := by decide +kernel
theorem dX2_workOneYear_30 : decode cX2_workOneYear 30 = .ok (.iload_n 2, 1) := by decide +kernel
theorem dX2_workOneYear_31 : decode cX2_workOneYear 31 = .ok (.iload_n 3, 1) := by decide +kernel
theorem dX2_workOneYear_32 : decode cX2_workOneYear 32 = .ok (.invokevirtual 125, 3) := by decide +kernel
theorem dX2_workOneYear_35 : decode cX2_workOneYear 35 = .ok (.aload_n 0, 1) := by decide +kernel
theorem dX2_workOneYear_36 : decode cX2_workOneYear 36 = .ok (.getfield 24, 3) := by decide +kernel
theorem dX2_workOneYear_39 : decode cX2_workOneYear 39 = .ok (.iload_n 1, 1) := by decide +kernel
theorem dX2_workOneYear_40 : decode cX2_workOneYear 40 = .ok (.sipush 9999, 3) := by decide +kernel
theorem dX2_workOneYear_43 : decode cX2_workOneYear 43 = .ok (.aload_n 0, 1) := by decide +kernel
theorem dX2_workOneYear_44 : decode cX2_workOneYear 44 = .ok (.getfield 24, 3) := by decide +kernel
theorem dX2_workOneYear_47 : decode cX2_workOneYear 47 = .ok (.iload_n 1, 1) := by decide +kernel
theorem dX2_workOneYear_48 : decode cX2_workOneYear 48 = .ok (.iaload, 1) := by decide +kernel
theorem dX2_workOneYear_49 : decode cX2_workOneYear 49 = .ok (.aload_n 0, 1) := by decide +kernel
theorem dX2_workOneYear_50 : decode cX2_workOneYear 50 = .ok (.getfield 30, 3) := by decide +kernel
theorem dX2_workOneYear_53 : decode cX2_workOneYear 53 = .ok (.iadd, 1) := by decide +kernel
theorem dX2_workOneYear_54 : decode cX2_workOneYear 54 = .ok (.invokestatic 106, 3) := by decide +kernel
theorem dX2_workOneYear_57 : decode cX2_workOneYear 57 = .ok (.iastore, 1) := by decide +kernel
theorem dX2_workOneYear_58 : decode cX2_workOneYear 58 = .ok (.return_, 1) := by decide +kernel
theorem dX3_init_0 : decode cX3_init 0 = .ok (.aload_n 0, 1) := by decide +kernel
theorem dX3_init_1 : decode cX3_init 1 = .ok (.invokespecial 1, 3) := by decide +kernel
theorem dX3_init_4 : decode cX3_init 4 = .ok (.aload_n 0, 1) := by decide +kernel
theorem dX3_init_5 : decode cX3_init 5 = .ok (.new 7, 3) := by decide +kernel
theorem dX3_init_8 : decode cX3_init 8 = .ok (.dup, 1) := by decide +kernel
theorem dX3_init_9 : decode cX3_init 9 = .ok (.invokespecial 9, 3) := by decide +kernel
theorem dX3_init_12 : decode cX3_init 12 = .ok (.putfield 10, 3) := by decide +kernel
theorem dX3_init_15 : decode cX3_init 15 = .ok (.aload_n 0, 1) := by decide +kernel
theorem dX3_init_16 : decode cX3_init 16 = .ok (.new 7, 3) := by decide +kernel
theorem dX3_init_19 : decode cX3_init 19 = .ok (.dup, 1) := by decide +kernel
theorem dX3_init_20 : decode cX3_init 20 = .ok (.invokespecial 9, 3) := by decide +kernel
theorem dX3_init_23 : decode cX3_init 23 = .ok (.putfield 16, 3) := by decide +kernel
theorem dX3_init_26 : decode cX3_init 26 = .ok (.aload_n 0, 1) := by decide +kernel
theorem dX3_init_27 : decode cX3_init 27 = .ok (.new 7, 3) := by decide +kernel
theorem dX3_init_30 : decode cX3_init 30 = .ok (.dup, 1) := by decide +kernel
theorem dX3_init_31 : decode cX3_init 31 = .ok (.invokespecial 9, 3) := by decide +kernel
theorem dX3_init_34 : decode cX3_init 34 = .ok (.putfield 19, 3) := by decide +kernel
theorem dX3_init_37 : decode cX3_init 37 = .ok (.aload_n 0, 1) := by decide +kernel
theorem dX3_init_38 : decode cX3_init 38 = .ok (.new 22, 3) := by decide +kernel
theorem dX3_init_41 : decode cX3_init 41 = .ok (.dup, 1) := by decide +kernel
theorem dX3_init_42 : decode cX3_init 42 = .ok (.invokespecial 24, 3) := by decide +kernel
theorem dX3_init_45 : decode cX3_init 45 = .ok (.putfield 25, 3) := by decide +kernel
theorem dX3_init_48 : decode cX3_init 48 = .ok (.aload_n 0, 1) := by decide +kernel
theorem dX3_init_49 : decode cX3_init 49 = .ok (.iconst 4, 1) := by decide +kernel
theorem dX3_init_50 : decode cX3_init 50 = .ok (.anewarray 29, 3) := by decide +kernel
theorem dX3_init_53 : decode cX3_init 53 = .ok (.putfield 31, 3) := by decide +kernel
theorem dX3_init_56 : decode cX3_init 56 = .ok (.aload_n 0, 1) := by decide +kernel
theorem dX3_init_57 : decode cX3_init 57 = .ok (.bipush 7, 2) := by decide +kernel
theorem dX3_init_59 : decode cX3_init 59 = .ok (.newarray .int, 2) := by decide +kernel
theorem dX3_init_61 : decode cX3_init 61 = .ok (.putfield 35, 3) := by decide +kernel
theorem dX3_init_64 : decode cX3_init 64 = .ok (.iconst 0, 1) := by decide +kernel
theorem dX3_init_65 : decode cX3_init 65 = .ok (.istore_n 1, 1) := by decide +kernel
theorem dX3_init_66 : decode cX3_init 66 = .ok (.iload_n 1, 1) := by decide +kernel
theorem dX3_init_67 : decode cX3_init 67 = .ok (.iconst 4, 1) := by decide +kernel
theorem dX3_init_68 : decode cX3_init 68 = .ok (.if_icmp .ge 22, 3) := by decide +kernel
theorem dX3_init_71 : decode cX3_init 71 = .ok (.aload_n 0, 1) := by decide +kernel
theorem dX3_init_72 : decode cX3_init 72 = .ok (.getfield 31, 3) := by decide +kernel
theorem dX3_init_75 : decode cX3_init 75 = .ok (.iload_n 1, 1) := by decide +kernel
theorem dX3_init_76 : decode cX3_init 76 = .ok (.new 29, 3) := by decide +kernel
theorem dX3_init_79 : decode cX3_init 79 = .ok (.dup, 1) := by decide +kernel
theorem dX3_init_80 : decode cX3_init 80 = .ok (.invokespecial 39, 3) := by decide +kernel
theorem dX3_init_83 : decode cX3_init 83 = .ok (.aastore, 1) := by decide +kernel
theorem dX3_init_84 : decode cX3_init 84 = .ok (.iinc 1 1, 3) := by decide +kernel
theorem dX3_init_87 : decode cX3_init 87 = .ok (.goto (-21), 3) := by decide +kernel
theorem dX3_init_90 : decode cX3_init 90 = .ok (.return_, 1) := by decide +kernel
theorem dX3_draw_0 : decode cX3_draw 0 = .ok (.iload_n 1, 1) := by decide +kernel
theorem dX3_draw_1 : decode cX3_draw 1 = .ok (.invokestatic 40, 3) := by decide +kernel
theorem dX3_draw_4 : decode cX3_draw 4 = .ok (.ifCond .ne 21, 3) := by decide +kernel
theorem dX3_draw_7 : decode cX3_draw 7 = .ok (.iload_n 2, 1) := by decide +kernel
theorem dX3_draw_8 : decode cX3_draw 8 = .ok (.iconst 0, 1) := by decide +kernel
theorem dX3_draw_9 : decode cX3_draw 9 = .ok (.iconst 1, 1) := by decide +kernel
theorem dX3_draw_10 : decode cX3_draw 10 = .ok (.invokestatic 44, 3) := by decide +kernel
theorem dX3_draw_13 : decode cX3_draw 13 = .ok (.ifCond .ne 12, 3) := by decide +kernel
theorem dX3_draw_16 : decode cX3_draw 16 = .ok (.iload_n 3, 1) := by decide +kernel
theorem dX3_draw_17 : decode cX3_draw 17 = .ok (.iconst 0, 1) := by decide +kernel
theorem dX3_draw_18 : decode cX3_draw 18 = .ok (.iconst 5, 1) := by decide +kernel
theorem dX3_draw_19 : decode cX3_draw 19 = .ok (.invokestatic 44, 3) := by decide +kernel
theorem dX3_draw_22 : decode cX3_draw 22 = .ok (.ifCond .eq 10, 3) := by decide +kernel
theorem dX3_draw_25 : decode cX3_draw 25 = .ok (.aload_n 0, 1) := by decide +kernel
theorem dX3_draw_26 : decode cX3_draw 26 = .ok (.ldc 48, 2) := by decide +kernel
theorem dX3_draw_28 : decode cX3_draw 28 = .ok (.invokevirtual 49, 3) := by decide +kernel
theorem dX3_draw_31 : decode cX3_draw 31 = .ok (.ireturn, 1) := by decide +kernel
theorem dX3_draw_32 : decode cX3_draw 32 = .ok (.aload_n 0, 1) := by decide +kernel
theorem dX3_draw_33 : decode cX3_draw 33 = .ok (.getfield 10, 3) := by decide +kernel
theorem dX3_draw_36 : decode cX3_draw 36 = .ok (.iload_n 2, 1) := by decide +kernel
theorem dX3_draw_37 : decode cX3_draw 37 = .ok (.iload_n 1, 1) := by decide +kernel
theorem dX3_draw_38 : decode cX3_draw 38 = .ok (.iload_n 3, 1) := by decide +kernel
theorem dX3_draw_39 : decode cX3_draw 39 = .ok (.invokevirtual 53, 3) := by decide +kernel
theorem dX3_draw_42 : decode cX3_draw 42 = .ok (.ireturn, 1) := by decide +kernel
theorem dX3_cell_0 : decode cX3_cell 0 = .ok (.iload_n 1, 1) := by decide +kernel
theorem dX3_cell_1 : decode cX3_cell 1 = .ok (.invokestatic 40, 3) := by decide +kernel
theorem dX3_cell_4 : decode cX3_cell 4 = .ok (.ifCond .ne 12, 3) := by decide +kernel
theorem dX3_cell_7 : decode cX3_cell 7 = .ok (.iload_n 2, 1) := by decide +kernel
theorem dX3_cell_8 : decode cX3_cell 8 = .ok (.iconst 0, 1) := by decide +kernel
theorem dX3_cell_9 : decode cX3_cell 9 = .ok (.iconst 4, 1) := by decide +kernel
theorem dX3_cell_10 : decode cX3_cell 10 = .ok (.invokestatic 44, 3) := by decide +kernel
theorem dX3_cell_13 : decode cX3_cell 13 = .ok (.ifCond .eq 10, 3) := by decide +kernel
theorem dX3_cell_16 : decode cX3_cell 16 = .ok (.aload_n 0, 1) := by decide +kernel
theorem dX3_cell_17 : decode cX3_cell 17 = .ok (.ldc 48, 2) := by decide +kernel
theorem dX3_cell_19 : decode cX3_cell 19 = .ok (.invokevirtual 49, 3) := by decide +kernel
theorem dX3_cell_22 : decode cX3_cell 22 = .ok (.ireturn, 1) := by decide +kernel
theorem dX3_cell_23 : decode cX3_cell 23 = .ok (.iload_n 2, 1) := by decide +kernel
theorem dX3_cell_24 : decode cX3_cell 24 = .ok (.tableswitch 87 0 3 #[32, 42, 52, 69], 32) := by decide +kernel
theorem dX3_cell_56 : decode cX3_cell 56 = .ok (.aload_n 0, 1) := by decide +kernel
theorem dX3_cell_57 : decode cX3_cell 57 = .ok (.getfield 10, 3) := by decide +kernel
theorem dX3_cell_60 : decode cX3_cell 60 = .ok (.getfield 57, 3) := by decide +kernel
theorem dX3_cell_63 : decode cX3_cell 63 = .ok (.iload_n 1, 1) := by decide +kernel
theorem dX3_cell_64 : decode cX3_cell 64 = .ok (.iaload, 1) := by decide +kernel
theorem dX3_cell_65 : decode cX3_cell 65 = .ok (.ireturn, 1) := by decide +kernel
theorem dX3_cell_66 : decode cX3_cell 66 = .ok (.aload_n 0, 1) := by decide +kernel
theorem dX3_cell_67 : decode cX3_cell 67 = .ok (.getfield 10, 3) := by decide +kernel
theorem dX3_cell_70 : decode cX3_cell 70 = .ok (.getfield 60, 3) := by decide +kernel
theorem dX3_cell_73 : decode cX3_cell 73 = .ok (.iload_n 1, 1) := by decide +kernel
theorem dX3_cell_74 : decode cX3_cell 74 = .ok (.iaload, 1) := by decide +kernel
theorem dX3_cell_75 : decode cX3_cell 75 = .ok (.ireturn, 1) := by decide +kernel
theorem dX3_cell_76 : decode cX3_cell 76 = .ok (.aload_n 0, 1) := by decide +kernel
theorem dX3_cell_77 : decode cX3_cell 77 = .ok (.getfield 10, 3) := by decide +kernel
theorem dX3_cell_80 : decode cX3_cell 80 = .ok (.iload_n 1, 1) := by decide +kernel
theorem dX3_cell_81 : decode cX3_cell 81 = .ok (.invokevirtual 63, 3) := by decide +kernel
theorem dX3_cell_84 : decode cX3_cell 84 = .ok (.ifCond .eq 7, 3) := by decide +kernel
theorem dX3_cell_87 : decode cX3_cell 87 = .ok (.iconst 1, 1) := by decide +kernel
theorem dX3_cell_88 : decode cX3_cell 88 = .ok (.goto 4, 3) := by decide +kernel
theorem dX3_cell_91 : decode cX3_cell 91 = .ok (.iconst 0, 1) := by decide +kernel
theorem dX3_cell_92 : decode cX3_cell 92 = .ok (.ireturn, 1) := by decide +kernel
theorem dX3_cell_93 : decode cX3_cell 93 = .ok (.aload_n 0, 1) := by decide +kernel
theorem dX3_cell_94 : decode cX3_cell 94 = .ok (.getfield 10, 3) := by decide +kernel
theorem dX3_cell_97 : decode cX3_cell 97 = .ok (.getfield 66, 3) := by decide +kernel
theorem dX3_cell_100 : decode cX3_cell 100 = .ok (.lconst 1, 1) := by decide +kernel
theorem dX3_cell_101 : decode cX3_cell 101 = .ok (.iload_n 1, 1) := by decide +kernel
theorem dX3_cell_102 : decode cX3_cell 102 = .ok (.lshl, 1) := by decide +kernel
theorem dX3_cell_103 : decode cX3_cell 103 = .ok (.invokestatic 70, 3) := by decide +kernel
theorem dX3_cell_106 : decode cX3_cell 106 = .ok (.land, 1) := by decide +kernel
theorem dX3_cell_107 : decode cX3_cell 107 = .ok (.invokestatic 74, 3) := by decide +kernel
theorem dX3_cell_110 : decode cX3_cell 110 = .ok (.ireturn, 1) := by decide +kernel
theorem dX3_cell_111 : decode cX3_cell 111 = .ok (.aload_n 0, 1) := by decide +kernel
theorem dX3_cell_112 : decode cX3_cell 112 = .ok (.getfield 10, 3) := by decide +kernel
theorem dX3_cell_115 : decode cX3_cell 115 = .ok (.iload_n 1, 1) := by decide +kernel
theorem dX3_cell_116 : decode cX3_cell 116 = .ok (.invokevirtual 80, 3) := by decide +kernel
theorem dX3_cell_119 : decode cX3_cell 119 = .ok (.ireturn, 1) := by decide +kernel
theorem dX3_cells_0 : decode cX3_cells 0 = .ok (.iload_n 1, 1) := by decide +kernel
theorem dX3_cells_1 : decode cX3_cells 1 = .ok (.iconst 0, 1) := by decide +kernel
theorem dX3_cells_2 : decode cX3_cells 2 = .ok (.bipush 6, 2) := by decide +kernel
theorem dX3_cells_4 : decode cX3_cells 4 = .ok (.invokestatic 44, 3) := by decide +kernel
theorem dX3_cells_7 : decode cX3_cells 7 = .ok (.ifCond .eq 11, 3) := by decide +kernel
theorem dX3_cells_10 : decode cX3_cells 10 = .ok (.aload_n 0, 1) := by decide +kernel
theorem dX3_cells_11 : decode cX3_cells 11 = .ok (.ldc 48, 2) := by decide +kernel
theorem dX3_cells_13 : decode cX3_cells 13 = .ok (.invokevirtual 49, 3) := by decide +kernel
