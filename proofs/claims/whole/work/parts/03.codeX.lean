-- what stands at each place of the code
theorem dX_init_0 : decode bX_init 0 = .ok (.aload_n 0, 1) := by decide +kernel
theorem dX_init_1 : decode bX_init 1 = .ok (.invokespecial 1, 3) := by decide +kernel
theorem dX_init_4 : decode bX_init 4 = .ok (.aload_n 0, 1) := by decide +kernel
theorem dX_init_5 : decode bX_init 5 = .ok (.bipush 100, 2) := by decide +kernel
theorem dX_init_7 : decode bX_init 7 = .ok (.newarray .boolean, 2) := by decide +kernel
theorem dX_init_9 : decode bX_init 9 = .ok (.putfield 9, 3) := by decide +kernel
theorem dX_init_12 : decode bX_init 12 = .ok (.aload_n 0, 1) := by decide +kernel
theorem dX_init_13 : decode bX_init 13 = .ok (.bipush 100, 2) := by decide +kernel
theorem dX_init_15 : decode bX_init 15 = .ok (.newarray .long, 2) := by decide +kernel
theorem dX_init_17 : decode bX_init 17 = .ok (.putfield 13, 3) := by decide +kernel
theorem dX_init_20 : decode bX_init 20 = .ok (.aload_n 0, 1) := by decide +kernel
theorem dX_init_21 : decode bX_init 21 = .ok (.bipush 100, 2) := by decide +kernel
theorem dX_init_23 : decode bX_init 23 = .ok (.newarray .int, 2) := by decide +kernel
theorem dX_init_25 : decode bX_init 25 = .ok (.putfield 17, 3) := by decide +kernel
theorem dX_init_28 : decode bX_init 28 = .ok (.aload_n 0, 1) := by decide +kernel
theorem dX_init_29 : decode bX_init 29 = .ok (.bipush 100, 2) := by decide +kernel
theorem dX_init_31 : decode bX_init 31 = .ok (.newarray .int, 2) := by decide +kernel
theorem dX_init_33 : decode bX_init 33 = .ok (.putfield 21, 3) := by decide +kernel
theorem dX_init_36 : decode bX_init 36 = .ok (.aload_n 0, 1) := by decide +kernel
theorem dX_init_37 : decode bX_init 37 = .ok (.lconst 0, 1) := by decide +kernel
theorem dX_init_38 : decode bX_init 38 = .ok (.putfield 24, 3) := by decide +kernel
theorem dX_init_41 : decode bX_init 41 = .ok (.aload_n 0, 1) := by decide +kernel
theorem dX_init_42 : decode bX_init 42 = .ok (.iconst 0, 1) := by decide +kernel
theorem dX_init_43 : decode bX_init 43 = .ok (.putfield 28, 3) := by decide +kernel
theorem dX_init_46 : decode bX_init 46 = .ok (.return_, 1) := by decide +kernel
theorem dX_least_0 : decode bX_least 0 = .ok (.ldc2_w 56, 3) := by decide +kernel
theorem dX_least_3 : decode bX_least 3 = .ok (.lstore_n 1, 1) := by decide +kernel
theorem dX_least_4 : decode bX_least 4 = .ok (.iconst 0, 1) := by decide +kernel
theorem dX_least_5 : decode bX_least 5 = .ok (.istore_n 3, 1) := by decide +kernel
theorem dX_least_6 : decode bX_least 6 = .ok (.iload_n 3, 1) := by decide +kernel
theorem dX_least_7 : decode bX_least 7 = .ok (.bipush 100, 2) := by decide +kernel
theorem dX_least_9 : decode bX_least 9 = .ok (.if_icmp .ge 52, 3) := by decide +kernel
theorem dX_least_12 : decode bX_least 12 = .ok (.aload_n 0, 1) := by decide +kernel
theorem dX_least_13 : decode bX_least 13 = .ok (.getfield 9, 3) := by decide +kernel
theorem dX_least_16 : decode bX_least 16 = .ok (.iload_n 3, 1) := by decide +kernel
theorem dX_least_17 : decode bX_least 17 = .ok (.baload, 1) := by decide +kernel
theorem dX_least_18 : decode bX_least 18 = .ok (.ifCond .eq 37, 3) := by decide +kernel
theorem dX_least_21 : decode bX_least 21 = .ok (.aload_n 0, 1) := by decide +kernel
theorem dX_least_22 : decode bX_least 22 = .ok (.iload_n 3, 1) := by decide +kernel
theorem dX_least_23 : decode bX_least 23 = .ok (.invokevirtual 58, 3) := by decide +kernel
theorem dX_least_26 : decode bX_least 26 = .ok (.ifCond .ne 29, 3) := by decide +kernel
theorem dX_least_29 : decode bX_least 29 = .ok (.lload_n 1, 1) := by decide +kernel
theorem dX_least_30 : decode bX_least 30 = .ok (.ldc2_w 56, 3) := by decide +kernel
theorem dX_least_33 : decode bX_least 33 = .ok (.lcmp, 1) := by decide +kernel
theorem dX_least_34 : decode bX_least 34 = .ok (.ifCond .eq 14, 3) := by decide +kernel
theorem dX_least_37 : decode bX_least 37 = .ok (.aload_n 0, 1) := by decide +kernel
theorem dX_least_38 : decode bX_least 38 = .ok (.getfield 13, 3) := by decide +kernel
theorem dX_least_41 : decode bX_least 41 = .ok (.iload_n 3, 1) := by decide +kernel
theorem dX_least_42 : decode bX_least 42 = .ok (.laload, 1) := by decide +kernel
theorem dX_least_43 : decode bX_least 43 = .ok (.lload_n 1, 1) := by decide +kernel
theorem dX_least_44 : decode bX_least 44 = .ok (.lcmp, 1) := by decide +kernel
theorem dX_least_45 : decode bX_least 45 = .ok (.ifCond .ge 10, 3) := by decide +kernel
theorem dX_least_48 : decode bX_least 48 = .ok (.aload_n 0, 1) := by decide +kernel
theorem dX_least_49 : decode bX_least 49 = .ok (.getfield 13, 3) := by decide +kernel
theorem dX_least_52 : decode bX_least 52 = .ok (.iload_n 3, 1) := by decide +kernel
theorem dX_least_53 : decode bX_least 53 = .ok (.laload, 1) := by decide +kernel
theorem dX_least_54 : decode bX_least 54 = .ok (.lstore_n 1, 1) := by decide +kernel
theorem dX_least_55 : decode bX_least 55 = .ok (.iinc 3 1, 3) := by decide +kernel
theorem dX_least_58 : decode bX_least 58 = .ok (.goto (-52), 3) := by decide +kernel
theorem dX_least_61 : decode bX_least 61 = .ok (.lload_n 1, 1) := by decide +kernel
theorem dX_least_62 : decode bX_least 62 = .ok (.lreturn, 1) := by decide +kernel
theorem dX_isDue_0 : decode bX_isDue 0 = .ok (.aload_n 0, 1) := by decide +kernel
theorem dX_isDue_1 : decode bX_isDue 1 = .ok (.getfield 9, 3) := by decide +kernel
theorem dX_isDue_4 : decode bX_isDue 4 = .ok (.iload_n 1, 1) := by decide +kernel
theorem dX_isDue_5 : decode bX_isDue 5 = .ok (.baload, 1) := by decide +kernel
theorem dX_isDue_6 : decode bX_isDue 6 = .ok (.ifCond .eq 21, 3) := by decide +kernel
theorem dX_isDue_9 : decode bX_isDue 9 = .ok (.aload_n 0, 1) := by decide +kernel
theorem dX_isDue_10 : decode bX_isDue 10 = .ok (.getfield 13, 3) := by decide +kernel
theorem dX_isDue_13 : decode bX_isDue 13 = .ok (.iload_n 1, 1) := by decide +kernel
theorem dX_isDue_14 : decode bX_isDue 14 = .ok (.laload, 1) := by decide +kernel
theorem dX_isDue_15 : decode bX_isDue 15 = .ok (.aload_n 0, 1) := by decide +kernel
theorem dX_isDue_16 : decode bX_isDue 16 = .ok (.getfield 24, 3) := by decide +kernel
theorem dX_isDue_19 : decode bX_isDue 19 = .ok (.lcmp, 1) := by decide +kernel
theorem dX_isDue_20 : decode bX_isDue 20 = .ok (.ifCond .gt 7, 3) := by decide +kernel
theorem dX_isDue_23 : decode bX_isDue 23 = .ok (.iconst 1, 1) := by decide +kernel
theorem dX_isDue_24 : decode bX_isDue 24 = .ok (.goto 4, 3) := by decide +kernel
theorem dX_isDue_27 : decode bX_isDue 27 = .ok (.iconst 0, 1) := by decide +kernel
theorem dX_isDue_28 : decode bX_isDue 28 = .ok (.ireturn, 1) := by decide +kernel
theorem dX_set_0 : decode bX_set 0 = .ok (.iload_n 1, 1) := by decide +kernel
theorem dX_set_1 : decode bX_set 1 = .ok (.invokestatic 32, 3) := by decide +kernel
theorem dX_set_4 : decode bX_set 4 = .ok (.lload_n 2, 1) := by decide +kernel
theorem dX_set_5 : decode bX_set 5 = .ok (.lconst 0, 1) := by decide +kernel
theorem dX_set_6 : decode bX_set 6 = .ok (.lcmp, 1) := by decide +kernel
theorem dX_set_7 : decode bX_set 7 = .ok (.ifCond .lt 11, 3) := by decide +kernel
theorem dX_set_10 : decode bX_set 10 = .ok (.lload_n 2, 1) := by decide +kernel
theorem dX_set_11 : decode bX_set 11 = .ok (.ldc2_w 36, 3) := by decide +kernel
theorem dX_set_14 : decode bX_set 14 = .ok (.lcmp, 1) := by decide +kernel
theorem dX_set_15 : decode bX_set 15 = .ok (.ifCond .le 13, 3) := by decide +kernel
theorem dX_set_18 : decode bX_set 18 = .ok (.new 38, 3) := by decide +kernel
theorem dX_set_21 : decode bX_set 21 = .ok (.dup, 1) := by decide +kernel
theorem dX_set_22 : decode bX_set 22 = .ok (.ldc 40, 2) := by decide +kernel
theorem dX_set_24 : decode bX_set 24 = .ok (.invokespecial 42, 3) := by decide +kernel
theorem dX_set_27 : decode bX_set 27 = .ok (.athrow, 1) := by decide +kernel
theorem dX_set_28 : decode bX_set 28 = .ok (.aload_n 0, 1) := by decide +kernel
theorem dX_set_29 : decode bX_set 29 = .ok (.getfield 9, 3) := by decide +kernel
theorem dX_set_32 : decode bX_set 32 = .ok (.iload_n 1, 1) := by decide +kernel
theorem dX_set_33 : decode bX_set 33 = .ok (.iconst 1, 1) := by decide +kernel
theorem dX_set_34 : decode bX_set 34 = .ok (.bastore, 1) := by decide +kernel
theorem dX_set_35 : decode bX_set 35 = .ok (.aload_n 0, 1) := by decide +kernel
theorem dX_set_36 : decode bX_set 36 = .ok (.getfield 13, 3) := by decide +kernel
theorem dX_set_39 : decode bX_set 39 = .ok (.iload_n 1, 1) := by decide +kernel
theorem dX_set_40 : decode bX_set 40 = .ok (.lload_n 2, 1) := by decide +kernel
theorem dX_set_41 : decode bX_set 41 = .ok (.lastore, 1) := by decide +kernel
theorem dX_set_42 : decode bX_set 42 = .ok (.aload_n 0, 1) := by decide +kernel
theorem dX_set_43 : decode bX_set 43 = .ok (.getfield 17, 3) := by decide +kernel
theorem dX_set_46 : decode bX_set 46 = .ok (.iload_n 1, 1) := by decide +kernel
theorem dX_set_47 : decode bX_set 47 = .ok (.iload 4, 2) := by decide +kernel
theorem dX_set_49 : decode bX_set 49 = .ok (.iastore, 1) := by decide +kernel
theorem dX_set_50 : decode bX_set 50 = .ok (.aload_n 0, 1) := by decide +kernel
theorem dX_set_51 : decode bX_set 51 = .ok (.getfield 21, 3) := by decide +kernel
theorem dX_set_54 : decode bX_set 54 = .ok (.iload_n 1, 1) := by decide +kernel
theorem dX_set_55 : decode bX_set 55 = .ok (.aload_n 0, 1) := by decide +kernel
theorem dX_set_56 : decode bX_set 56 = .ok (.getfield 28, 3) := by decide +kernel
theorem dX_set_59 : decode bX_set 59 = .ok (.iastore, 1) := by decide +kernel
theorem dX_set_60 : decode bX_set 60 = .ok (.aload_n 0, 1) := by decide +kernel
theorem dX_set_61 : decode bX_set 61 = .ok (.dup, 1) := by decide +kernel
theorem dX_set_62 : decode bX_set 62 = .ok (.getfield 28, 3) := by decide +kernel
theorem dX_set_65 : decode bX_set 65 = .ok (.iconst 1, 1) := by decide +kernel
theorem dX_set_66 : decode bX_set 66 = .ok (.iadd, 1) := by decide +kernel
theorem dX_set_67 : decode bX_set 67 = .ok (.putfield 28, 3) := by decide +kernel
theorem dX_set_70 : decode bX_set 70 = .ok (.aload_n 0, 1) := by decide +kernel
theorem dX_set_71 : decode bX_set 71 = .ok (.getfield 21, 3) := by decide +kernel
theorem dX_set_74 : decode bX_set 74 = .ok (.iload_n 1, 1) := by decide +kernel
theorem dX_set_75 : decode bX_set 75 = .ok (.iaload, 1) := by decide +kernel
theorem dX_set_76 : decode bX_set 76 = .ok (.ireturn, 1) := by decide +kernel
theorem dX_requireTimerNumber_0 : decode bX_requireTimerNumber 0 = .ok (.iload_n 0, 1) := by decide +kernel
theorem dX_requireTimerNumber_1 : decode bX_requireTimerNumber 1 = .ok (.ifCond .lt 9, 3) := by decide +kernel
theorem dX_requireTimerNumber_4 : decode bX_requireTimerNumber 4 = .ok (.iload_n 0, 1) := by decide +kernel
theorem dX_requireTimerNumber_5 : decode bX_requireTimerNumber 5 = .ok (.bipush 100, 2) := by decide +kernel
theorem dX_requireTimerNumber_7 : decode bX_requireTimerNumber 7 = .ok (.if_icmp .lt 13, 3) := by decide +kernel
theorem dX_requireTimerNumber_10 : decode bX_requireTimerNumber 10 = .ok (.new 38, 3) := by decide +kernel
theorem dX_requireTimerNumber_13 : decode bX_requireTimerNumber 13 = .ok (.dup, 1) := by decide +kernel
theorem dX_requireTimerNumber_14 : decode bX_requireTimerNumber 14 = .ok (.ldc 86, 2) := by decide +kernel
theorem dX_requireTimerNumber_16 : decode bX_requireTimerNumber 16 = .ok (.invokespecial 42, 3) := by decide +kernel
theorem dX_requireTimerNumber_19 : decode bX_requireTimerNumber 19 = .ok (.athrow, 1) := by decide +kernel
theorem dX_requireTimerNumber_20 : decode bX_requireTimerNumber 20 = .ok (.return_, 1) := by decide +kernel
theorem dX_drop_0 : decode bX_drop 0 = .ok (.iload_n 1, 1) := by decide +kernel
theorem dX_drop_1 : decode bX_drop 1 = .ok (.invokestatic 32, 3) := by decide +kernel
theorem dX_drop_4 : decode bX_drop 4 = .ok (.aload_n 0, 1) := by decide +kernel
theorem dX_drop_5 : decode bX_drop 5 = .ok (.getfield 9, 3) := by decide +kernel
theorem dX_drop_8 : decode bX_drop 8 = .ok (.iload_n 1, 1) := by decide +kernel
theorem dX_drop_9 : decode bX_drop 9 = .ok (.baload, 1) := by decide +kernel
theorem dX_drop_10 : decode bX_drop 10 = .ok (.ifCond .ne 13, 3) := by decide +kernel
theorem dX_drop_13 : decode bX_drop 13 = .ok (.new 45, 3) := by decide +kernel
theorem dX_drop_16 : decode bX_drop 16 = .ok (.dup, 1) := by decide +kernel
theorem dX_drop_17 : decode bX_drop 17 = .ok (.ldc 47, 2) := by decide +kernel
theorem dX_drop_19 : decode bX_drop 19 = .ok (.invokespecial 49, 3) := by decide +kernel
theorem dX_drop_22 : decode bX_drop 22 = .ok (.athrow, 1) := by decide +kernel
theorem dX_drop_23 : decode bX_drop 23 = .ok (.aload_n 0, 1) := by decide +kernel
theorem dX_drop_24 : decode bX_drop 24 = .ok (.getfield 9, 3) := by decide +kernel
theorem dX_drop_27 : decode bX_drop 27 = .ok (.iload_n 1, 1) := by decide +kernel
theorem dX_drop_28 : decode bX_drop 28 = .ok (.iconst 0, 1) := by decide +kernel
theorem dX_drop_29 : decode bX_drop 29 = .ok (.bastore, 1) := by decide +kernel
theorem dX_drop_30 : decode bX_drop 30 = .ok (.aload_n 0, 1) := by decide +kernel
theorem dX_drop_31 : decode bX_drop 31 = .ok (.getfield 13, 3) := by decide +kernel
theorem dX_drop_34 : decode bX_drop 34 = .ok (.iload_n 1, 1) := by decide +kernel
theorem dX_drop_35 : decode bX_drop 35 = .ok (.laload, 1) := by decide +kernel
theorem dX_drop_36 : decode bX_drop 36 = .ok (.lreturn, 1) := by decide +kernel
theorem dX_take_0 : decode bX_take 0 = .ok (.aload_n 0, 1) := by decide +kernel
theorem dX_take_1 : decode bX_take 1 = .ok (.invokevirtual 50, 3) := by decide +kernel
theorem dX_take_4 : decode bX_take 4 = .ok (.istore_n 1, 1) := by decide +kernel
theorem dX_take_5 : decode bX_take 5 = .ok (.iload_n 1, 1) := by decide +kernel
theorem dX_take_6 : decode bX_take 6 = .ok (.iconst (-1), 1) := by decide +kernel
theorem dX_take_7 : decode bX_take 7 = .ok (.if_icmp .ne 13, 3) := by decide +kernel
theorem dX_take_10 : decode bX_take 10 = .ok (.new 45, 3) := by decide +kernel
theorem dX_take_13 : decode bX_take 13 = .ok (.dup, 1) := by decide +kernel
theorem dX_take_14 : decode bX_take 14 = .ok (.ldc 54, 2) := by decide +kernel
theorem dX_take_16 : decode bX_take 16 = .ok (.invokespecial 49, 3) := by decide +kernel
theorem dX_take_19 : decode bX_take 19 = .ok (.athrow, 1) := by decide +kernel
theorem dX_take_20 : decode bX_take 20 = .ok (.aload_n 0, 1) := by decide +kernel
theorem dX_take_21 : decode bX_take 21 = .ok (.getfield 9, 3) := by decide +kernel
theorem dX_take_24 : decode bX_take 24 = .ok (.iload_n 1, 1) := by decide +kernel
theorem dX_take_25 : decode bX_take 25 = .ok (.iconst 0, 1) := by decide +kernel
theorem dX_take_26 : decode bX_take 26 = .ok (.bastore, 1) := by decide +kernel
theorem dX_take_27 : decode bX_take 27 = .ok (.iload_n 1, 1) := by decide +kernel
theorem dX_take_28 : decode bX_take 28 = .ok (.ireturn, 1) := by decide +kernel
theorem dX_firstDue_0 : decode bX_firstDue 0 = .ok (.iconst (-1), 1) := by decide +kernel
theorem dX_firstDue_1 : decode bX_firstDue 1 = .ok (.istore_n 1, 1) := by decide +kernel
theorem dX_firstDue_2 : decode bX_firstDue 2 = .ok (.iconst 0, 1) := by decide +kernel
theorem dX_firstDue_3 : decode bX_firstDue 3 = .ok (.istore_n 2, 1) := by decide +kernel
theorem dX_firstDue_4 : decode bX_firstDue 4 = .ok (.iload_n 2, 1) := by decide +kernel
theorem dX_firstDue_5 : decode bX_firstDue 5 = .ok (.bipush 100, 2) := by decide +kernel
theorem dX_firstDue_7 : decode bX_firstDue 7 = .ok (.if_icmp .ge 33, 3) := by decide +kernel
theorem dX_firstDue_10 : decode bX_firstDue 10 = .ok (.aload_n 0, 1) := by decide +kernel
theorem dX_firstDue_11 : decode bX_firstDue 11 = .ok (.iload_n 2, 1) := by decide +kernel
theorem dX_firstDue_12 : decode bX_firstDue 12 = .ok (.invokevirtual 58, 3) := by decide +kernel
theorem dX_firstDue_15 : decode bX_firstDue 15 = .ok (.ifCond .eq 19, 3) := by decide +kernel
theorem dX_firstDue_18 : decode bX_firstDue 18 = .ok (.iload_n 1, 1) := by decide +kernel
theorem dX_firstDue_19 : decode bX_firstDue 19 = .ok (.iconst (-1), 1) := by decide +kernel
theorem dX_firstDue_20 : decode bX_firstDue 20 = .ok (.if_icmp .eq 12, 3) := by decide +kernel
theorem dX_firstDue_23 : decode bX_firstDue 23 = .ok (.aload_n 0, 1) := by decide +kernel
theorem dX_firstDue_24 : decode bX_firstDue 24 = .ok (.iload_n 2, 1) := by decide +kernel
theorem dX_firstDue_25 : decode bX_firstDue 25 = .ok (.iload_n 1, 1) := by decide +kernel
theorem dX_firstDue_26 : decode bX_firstDue 26 = .ok (.invokevirtual 88, 3) := by decide +kernel
theorem dX_firstDue_29 : decode bX_firstDue 29 = .ok (.ifCond .eq 5, 3) := by decide +kernel
theorem dX_firstDue_32 : decode bX_firstDue 32 = .ok (.iload_n 2, 1) := by decide +kernel
theorem dX_firstDue_33 : decode bX_firstDue 33 = .ok (.istore_n 1, 1) := by decide +kernel
theorem dX_firstDue_34 : decode bX_firstDue 34 = .ok (.iinc 2 1, 3) := by decide +kernel
theorem dX_firstDue_37 : decode bX_firstDue 37 = .ok (.goto (-33), 3) := by decide +kernel
theorem dX_firstDue_40 : decode bX_firstDue 40 = .ok (.iload_n 1, 1) := by decide +kernel
theorem dX_firstDue_41 : decode bX_firstDue 41 = .ok (.ireturn, 1) := by decide +kernel
theorem dX_comesBefore_0 : decode bX_comesBefore 0 = .ok (.aload_n 0, 1) := by decide +kernel
theorem dX_comesBefore_1 : decode bX_comesBefore 1 = .ok (.getfield 13, 3) := by decide +kernel
theorem dX_comesBefore_4 : decode bX_comesBefore 4 = .ok (.iload_n 1, 1) := by decide +kernel
theorem dX_comesBefore_5 : decode bX_comesBefore 5 = .ok (.laload, 1) := by decide +kernel
theorem dX_comesBefore_6 : decode bX_comesBefore 6 = .ok (.aload_n 0, 1) := by decide +kernel
theorem dX_comesBefore_7 : decode bX_comesBefore 7 = .ok (.getfield 13, 3) := by decide +kernel
theorem dX_comesBefore_10 : decode bX_comesBefore 10 = .ok (.iload_n 2, 1) := by decide +kernel
theorem dX_comesBefore_11 : decode bX_comesBefore 11 = .ok (.laload, 1) := by decide +kernel
theorem dX_comesBefore_12 : decode bX_comesBefore 12 = .ok (.lcmp, 1) := by decide +kernel
theorem dX_comesBefore_13 : decode bX_comesBefore 13 = .ok (.ifCond .eq 25, 3) := by decide +kernel
theorem dX_comesBefore_16 : decode bX_comesBefore 16 = .ok (.aload_n 0, 1) := by decide +kernel
theorem dX_comesBefore_17 : decode bX_comesBefore 17 = .ok (.getfield 13, 3) := by decide +kernel
theorem dX_comesBefore_20 : decode bX_comesBefore 20 = .ok (.iload_n 1, 1) := by decide +kernel
theorem dX_comesBefore_21 : decode bX_comesBefore 21 = .ok (.laload, 1) := by decide +kernel
theorem dX_comesBefore_22 : decode bX_comesBefore 22 = .ok (.aload_n 0, 1) := by decide +kernel
theorem dX_comesBefore_23 : decode bX_comesBefore 23 = .ok (.getfield 13, 3) := by decide +kernel
theorem dX_comesBefore_26 : decode bX_comesBefore 26 = .ok (.iload_n 2, 1) := by decide +kernel
theorem dX_comesBefore_27 : decode bX_comesBefore 27 = .ok (.laload, 1) := by decide +kernel
theorem dX_comesBefore_28 : decode bX_comesBefore 28 = .ok (.lcmp, 1) := by decide +kernel
theorem dX_comesBefore_29 : decode bX_comesBefore 29 = .ok (.ifCond .ge 7, 3) := by decide +kernel
theorem dX_comesBefore_32 : decode bX_comesBefore 32 = .ok (.iconst 1, 1) := by decide +kernel
theorem dX_comesBefore_33 : decode bX_comesBefore 33 = .ok (.goto 4, 3) := by decide +kernel
theorem dX_comesBefore_36 : decode bX_comesBefore 36 = .ok (.iconst 0, 1) := by decide +kernel
theorem dX_comesBefore_37 : decode bX_comesBefore 37 = .ok (.ireturn, 1) := by decide +kernel
theorem dX_comesBefore_38 : decode bX_comesBefore 38 = .ok (.aload_n 0, 1) := by decide +kernel
theorem dX_comesBefore_39 : decode bX_comesBefore 39 = .ok (.getfield 17, 3) := by decide +kernel
theorem dX_comesBefore_42 : decode bX_comesBefore 42 = .ok (.iload_n 1, 1) := by decide +kernel
theorem dX_comesBefore_43 : decode bX_comesBefore 43 = .ok (.iaload, 1) := by decide +kernel
theorem dX_comesBefore_44 : decode bX_comesBefore 44 = .ok (.aload_n 0, 1) := by decide +kernel
theorem dX_comesBefore_45 : decode bX_comesBefore 45 = .ok (.getfield 17, 3) := by decide +kernel
theorem dX_comesBefore_48 : decode bX_comesBefore 48 = .ok (.iload_n 2, 1) := by decide +kernel
theorem dX_comesBefore_49 : decode bX_comesBefore 49 = .ok (.iaload, 1) := by decide +kernel
theorem dX_comesBefore_50 : decode bX_comesBefore 50 = .ok (.if_icmp .eq 24, 3) := by decide +kernel
theorem dX_comesBefore_53 : decode bX_comesBefore 53 = .ok (.aload_n 0, 1) := by decide +kernel
theorem dX_comesBefore_54 : decode bX_comesBefore 54 = .ok (.getfield 17, 3) := by decide +kernel
theorem dX_comesBefore_57 : decode bX_comesBefore 57 = .ok (.iload_n 1, 1) := by decide +kernel
theorem dX_comesBefore_58 : decode bX_comesBefore 58 = .ok (.iaload, 1) := by decide +kernel
theorem dX_comesBefore_59 : decode bX_comesBefore 59 = .ok (.aload_n 0, 1) := by decide +kernel
theorem dX_comesBefore_60 : decode bX_comesBefore 60 = .ok (.getfield 17, 3) := by decide +kernel
theorem dX_comesBefore_63 : decode bX_comesBefore 63 = .ok (.iload_n 2, 1) := by decide +kernel
theorem dX_comesBefore_64 : decode bX_comesBefore 64 = .ok (.iaload, 1) := by decide +kernel
theorem dX_comesBefore_65 : decode bX_comesBefore 65 = .ok (.if_icmp .le 7, 3) := by decide +kernel
theorem dX_comesBefore_68 : decode bX_comesBefore 68 = .ok (.iconst 1, 1) := by decide +kernel
theorem dX_comesBefore_69 : decode bX_comesBefore 69 = .ok (.goto 4, 3) := by decide +kernel
theorem dX_comesBefore_72 : decode bX_comesBefore 72 = .ok (.iconst 0, 1) := by decide +kernel
theorem dX_comesBefore_73 : decode bX_comesBefore 73 = .ok (.ireturn, 1) := by decide +kernel
theorem dX_comesBefore_74 : decode bX_comesBefore 74 = .ok (.aload_n 0, 1) := by decide +kernel
theorem dX_comesBefore_75 : decode bX_comesBefore 75 = .ok (.getfield 21, 3) := by decide +kernel
theorem dX_comesBefore_78 : decode bX_comesBefore 78 = .ok (.iload_n 1, 1) := by decide +kernel
theorem dX_comesBefore_79 : decode bX_comesBefore 79 = .ok (.iaload, 1) := by decide +kernel
theorem dX_comesBefore_80 : decode bX_comesBefore 80 = .ok (.aload_n 0, 1) := by decide +kernel
theorem dX_comesBefore_81 : decode bX_comesBefore 81 = .ok (.getfield 21, 3) := by decide +kernel
theorem dX_comesBefore_84 : decode bX_comesBefore 84 = .ok (.iload_n 2, 1) := by decide +kernel
theorem dX_comesBefore_85 : decode bX_comesBefore 85 = .ok (.iaload, 1) := by decide +kernel
theorem dX_comesBefore_86 : decode bX_comesBefore 86 = .ok (.if_icmp .ge 7, 3) := by decide +kernel
theorem dX_comesBefore_89 : decode bX_comesBefore 89 = .ok (.iconst 1, 1) := by decide +kernel
theorem dX_comesBefore_90 : decode bX_comesBefore 90 = .ok (.goto 4, 3) := by decide +kernel
theorem dX_comesBefore_93 : decode bX_comesBefore 93 = .ok (.iconst 0, 1) := by decide +kernel
theorem dX_comesBefore_94 : decode bX_comesBefore 94 = .ok (.ireturn, 1) := by decide +kernel
theorem dX_go_0 : decode bX_go 0 = .ok (.lload_n 1, 1) := by decide +kernel
theorem dX_go_1 : decode bX_go 1 = .ok (.lconst 0, 1) := by decide +kernel
theorem dX_go_2 : decode bX_go 2 = .ok (.lcmp, 1) := by decide +kernel
theorem dX_go_3 : decode bX_go 3 = .ok (.ifCond .lt 11, 3) := by decide +kernel
theorem dX_go_6 : decode bX_go 6 = .ok (.lload_n 1, 1) := by decide +kernel
theorem dX_go_7 : decode bX_go 7 = .ok (.ldc2_w 62, 3) := by decide +kernel
theorem dX_go_10 : decode bX_go 10 = .ok (.lcmp, 1) := by decide +kernel
theorem dX_go_11 : decode bX_go 11 = .ok (.ifCond .le 13, 3) := by decide +kernel
theorem dX_go_14 : decode bX_go 14 = .ok (.new 38, 3) := by decide +kernel
theorem dX_go_17 : decode bX_go 17 = .ok (.dup, 1) := by decide +kernel
theorem dX_go_18 : decode bX_go 18 = .ok (.ldc 64, 2) := by decide +kernel
theorem dX_go_20 : decode bX_go 20 = .ok (.invokespecial 42, 3) := by decide +kernel
theorem dX_go_23 : decode bX_go 23 = .ok (.athrow, 1) := by decide +kernel
theorem dX_go_24 : decode bX_go 24 = .ok (.lload_n 1, 1) := by decide +kernel
theorem dX_go_25 : decode bX_go 25 = .ok (.ldc2_w 36, 3) := by decide +kernel
theorem dX_go_28 : decode bX_go 28 = .ok (.aload_n 0, 1) := by decide +kernel
theorem dX_go_29 : decode bX_go 29 = .ok (.getfield 24, 3) := by decide +kernel
theorem dX_go_32 : decode bX_go 32 = .ok (.lsub, 1) := by decide +kernel
theorem dX_go_33 : decode bX_go 33 = .ok (.lcmp, 1) := by decide +kernel
theorem dX_go_34 : decode bX_go 34 = .ok (.ifCond .le 13, 3) := by decide +kernel
theorem dX_go_37 : decode bX_go 37 = .ok (.new 38, 3) := by decide +kernel
theorem dX_go_40 : decode bX_go 40 = .ok (.dup, 1) := by decide +kernel
theorem dX_go_41 : decode bX_go 41 = .ok (.ldc 66, 2) := by decide +kernel
theorem dX_go_43 : decode bX_go 43 = .ok (.invokespecial 42, 3) := by decide +kernel
theorem dX_go_46 : decode bX_go 46 = .ok (.athrow, 1) := by decide +kernel
theorem dX_go_47 : decode bX_go 47 = .ok (.aload_n 0, 1) := by decide +kernel
theorem dX_go_48 : decode bX_go 48 = .ok (.dup, 1) := by decide +kernel
theorem dX_go_49 : decode bX_go 49 = .ok (.getfield 24, 3) := by decide +kernel
theorem dX_go_52 : decode bX_go 52 = .ok (.lload_n 1, 1) := by decide +kernel
theorem dX_go_53 : decode bX_go 53 = .ok (.ladd, 1) := by decide +kernel
theorem dX_go_54 : decode bX_go 54 = .ok (.putfield 24, 3) := by decide +kernel
theorem dX_go_57 : decode bX_go 57 = .ok (.aload_n 0, 1) := by decide +kernel
theorem dX_go_58 : decode bX_go 58 = .ok (.invokevirtual 68, 3) := by decide +kernel
theorem dX_go_61 : decode bX_go 61 = .ok (.ireturn, 1) := by decide +kernel
theorem dX_countDue_0 : decode bX_countDue 0 = .ok (.iconst 0, 1) := by decide +kernel
theorem dX_countDue_1 : decode bX_countDue 1 = .ok (.istore_n 1, 1) := by decide +kernel
theorem dX_countDue_2 : decode bX_countDue 2 = .ok (.iconst 0, 1) := by decide +kernel
theorem dX_countDue_3 : decode bX_countDue 3 = .ok (.istore_n 2, 1) := by decide +kernel
theorem dX_countDue_4 : decode bX_countDue 4 = .ok (.iload_n 2, 1) := by decide +kernel
theorem dX_countDue_5 : decode bX_countDue 5 = .ok (.bipush 100, 2) := by decide +kernel
theorem dX_countDue_7 : decode bX_countDue 7 = .ok (.if_icmp .ge 20, 3) := by decide +kernel
theorem dX_countDue_10 : decode bX_countDue 10 = .ok (.aload_n 0, 1) := by decide +kernel
theorem dX_countDue_11 : decode bX_countDue 11 = .ok (.iload_n 2, 1) := by decide +kernel
theorem dX_countDue_12 : decode bX_countDue 12 = .ok (.invokevirtual 58, 3) := by decide +kernel
theorem dX_countDue_15 : decode bX_countDue 15 = .ok (.ifCond .eq 6, 3) := by decide +kernel
theorem dX_countDue_18 : decode bX_countDue 18 = .ok (.iinc 1 1, 3) := by decide +kernel
theorem dX_countDue_21 : decode bX_countDue 21 = .ok (.iinc 2 1, 3) := by decide +kernel
theorem dX_countDue_24 : decode bX_countDue 24 = .ok (.goto (-20), 3) := by decide +kernel
theorem dX_countDue_27 : decode bX_countDue 27 = .ok (.iload_n 1, 1) := by decide +kernel
theorem dX_countDue_28 : decode bX_countDue 28 = .ok (.ireturn, 1) := by decide +kernel
theorem dX_skip_0 : decode bX_skip 0 = .ok (.aload_n 0, 1) := by decide +kernel
theorem dX_skip_1 : decode bX_skip 1 = .ok (.invokevirtual 71, 3) := by decide +kernel
theorem dX_skip_4 : decode bX_skip 4 = .ok (.lstore_n 1, 1) := by decide +kernel
theorem dX_skip_5 : decode bX_skip 5 = .ok (.lload_n 1, 1) := by decide +kernel
theorem dX_skip_6 : decode bX_skip 6 = .ok (.ldc2_w 56, 3) := by decide +kernel
theorem dX_skip_9 : decode bX_skip 9 = .ok (.lcmp, 1) := by decide +kernel
theorem dX_skip_10 : decode bX_skip 10 = .ok (.ifCond .ne 13, 3) := by decide +kernel
theorem dX_skip_13 : decode bX_skip 13 = .ok (.new 45, 3) := by decide +kernel
theorem dX_skip_16 : decode bX_skip 16 = .ok (.dup, 1) := by decide +kernel
theorem dX_skip_17 : decode bX_skip 17 = .ok (.ldc 75, 2) := by decide +kernel
theorem dX_skip_19 : decode bX_skip 19 = .ok (.invokespecial 49, 3) := by decide +kernel
theorem dX_skip_22 : decode bX_skip 22 = .ok (.athrow, 1) := by decide +kernel
theorem dX_skip_23 : decode bX_skip 23 = .ok (.aload_n 0, 1) := by decide +kernel
theorem dX_skip_24 : decode bX_skip 24 = .ok (.lload_n 1, 1) := by decide +kernel
theorem dX_skip_25 : decode bX_skip 25 = .ok (.putfield 24, 3) := by decide +kernel
theorem dX_skip_28 : decode bX_skip 28 = .ok (.aload_n 0, 1) := by decide +kernel
theorem dX_skip_29 : decode bX_skip 29 = .ok (.invokevirtual 68, 3) := by decide +kernel
theorem dX_skip_32 : decode bX_skip 32 = .ok (.ireturn, 1) := by decide +kernel
theorem dX_timer_0 : decode bX_timer 0 = .ok (.iload_n 1, 1) := by decide +kernel
theorem dX_timer_1 : decode bX_timer 1 = .ok (.invokestatic 32, 3) := by decide +kernel
theorem dX_timer_4 : decode bX_timer 4 = .ok (.iload_n 2, 1) := by decide +kernel
theorem dX_timer_5 : decode bX_timer 5 = .ok (.ifCond .lt 8, 3) := by decide +kernel
theorem dX_timer_8 : decode bX_timer 8 = .ok (.iload_n 2, 1) := by decide +kernel
theorem dX_timer_9 : decode bX_timer 9 = .ok (.iconst 3, 1) := by decide +kernel
theorem dX_timer_10 : decode bX_timer 10 = .ok (.if_icmp .le 13, 3) := by decide +kernel
theorem dX_timer_13 : decode bX_timer 13 = .ok (.new 38, 3) := by decide +kernel
theorem dX_timer_16 : decode bX_timer 16 = .ok (.dup, 1) := by decide +kernel
theorem dX_timer_17 : decode bX_timer 17 = .ok (.ldc 77, 2) := by decide +kernel
theorem dX_timer_19 : decode bX_timer 19 = .ok (.invokespecial 42, 3) := by decide +kernel
theorem dX_timer_22 : decode bX_timer 22 = .ok (.athrow, 1) := by decide +kernel
theorem dX_timer_23 : decode bX_timer 23 = .ok (.aload_n 0, 1) := by decide +kernel
theorem dX_timer_24 : decode bX_timer 24 = .ok (.getfield 9, 3) := by decide +kernel
theorem dX_timer_27 : decode bX_timer 27 = .ok (.iload_n 1, 1) := by decide +kernel
theorem dX_timer_28 : decode bX_timer 28 = .ok (.baload, 1) := by decide +kernel
theorem dX_timer_29 : decode bX_timer 29 = .ok (.ifCond .ne 5, 3) := by decide +kernel
theorem dX_timer_32 : decode bX_timer 32 = .ok (.lconst 0, 1) := by decide +kernel
theorem dX_timer_33 : decode bX_timer 33 = .ok (.lreturn, 1) := by decide +kernel
theorem dX_timer_34 : decode bX_timer 34 = .ok (.iload_n 2, 1) := by decide +kernel
theorem dX_timer_35 : decode bX_timer 35 = .ok (.tableswitch 56 0 2 #[25, 41, 48], 25) := by decide +kernel
theorem dX_timer_60 : decode bX_timer 60 = .ok (.aload_n 0, 1) := by decide +kernel
theorem dX_timer_61 : decode bX_timer 61 = .ok (.iload_n 1, 1) := by decide +kernel
theorem dX_timer_62 : decode bX_timer 62 = .ok (.invokevirtual 58, 3) := by decide +kernel
theorem dX_timer_65 : decode bX_timer 65 = .ok (.ifCond .eq 9, 3) := by decide +kernel
theorem dX_timer_68 : decode bX_timer 68 = .ok (.ldc2_w 79, 3) := by decide +kernel
theorem dX_timer_71 : decode bX_timer 71 = .ok (.goto 4, 3) := by decide +kernel
theorem dX_timer_74 : decode bX_timer 74 = .ok (.lconst 1, 1) := by decide +kernel
theorem dX_timer_75 : decode bX_timer 75 = .ok (.lreturn, 1) := by decide +kernel
theorem dX_timer_76 : decode bX_timer 76 = .ok (.aload_n 0, 1) := by decide +kernel
theorem dX_timer_77 : decode bX_timer 77 = .ok (.getfield 13, 3) := by decide +kernel
theorem dX_timer_80 : decode bX_timer 80 = .ok (.iload_n 1, 1) := by decide +kernel
theorem dX_timer_81 : decode bX_timer 81 = .ok (.laload, 1) := by decide +kernel
theorem dX_timer_82 : decode bX_timer 82 = .ok (.lreturn, 1) := by decide +kernel
theorem dX_timer_83 : decode bX_timer 83 = .ok (.aload_n 0, 1) := by decide +kernel
theorem dX_timer_84 : decode bX_timer 84 = .ok (.getfield 17, 3) := by decide +kernel
theorem dX_timer_87 : decode bX_timer 87 = .ok (.iload_n 1, 1) := by decide +kernel
theorem dX_timer_88 : decode bX_timer 88 = .ok (.iaload, 1) := by decide +kernel
theorem dX_timer_89 : decode bX_timer 89 = .ok (.i2l, 1) := by decide +kernel
theorem dX_timer_90 : decode bX_timer 90 = .ok (.lreturn, 1) := by decide +kernel
theorem dX_timer_91 : decode bX_timer 91 = .ok (.aload_n 0, 1) := by decide +kernel
theorem dX_timer_92 : decode bX_timer 92 = .ok (.getfield 21, 3) := by decide +kernel
theorem dX_timer_95 : decode bX_timer 95 = .ok (.iload_n 1, 1) := by decide +kernel
theorem dX_timer_96 : decode bX_timer 96 = .ok (.iaload, 1) := by decide +kernel
theorem dX_timer_97 : decode bX_timer 97 = .ok (.i2l, 1) := by decide +kernel
theorem dX_timer_98 : decode bX_timer 98 = .ok (.lreturn, 1) := by decide +kernel
theorem dX_count_0 : decode bX_count 0 = .ok (.iload_n 1, 1) := by decide +kernel
theorem dX_count_1 : decode bX_count 1 = .ok (.tableswitch 44 0 2 #[27, 32, 38], 27) := by decide +kernel
theorem dX_count_28 : decode bX_count 28 = .ok (.aload_n 0, 1) := by decide +kernel
theorem dX_count_29 : decode bX_count 29 = .ok (.getfield 24, 3) := by decide +kernel
theorem dX_count_32 : decode bX_count 32 = .ok (.lreturn, 1) := by decide +kernel
theorem dX_count_33 : decode bX_count 33 = .ok (.aload_n 0, 1) := by decide +kernel
theorem dX_count_34 : decode bX_count 34 = .ok (.invokevirtual 81, 3) := by decide +kernel
theorem dX_count_37 : decode bX_count 37 = .ok (.i2l, 1) := by decide +kernel
theorem dX_count_38 : decode bX_count 38 = .ok (.lreturn, 1) := by decide +kernel
theorem dX_count_39 : decode bX_count 39 = .ok (.aload_n 0, 1) := by decide +kernel
theorem dX_count_40 : decode bX_count 40 = .ok (.invokevirtual 68, 3) := by decide +kernel
theorem dX_count_43 : decode bX_count 43 = .ok (.i2l, 1) := by decide +kernel
theorem dX_count_44 : decode bX_count 44 = .ok (.lreturn, 1) := by decide +kernel
theorem dX_count_45 : decode bX_count 45 = .ok (.new 38, 3) := by decide +kernel
theorem dX_count_48 : decode bX_count 48 = .ok (.dup, 1) := by decide +kernel
theorem dX_count_49 : decode bX_count 49 = .ok (.ldc 84, 2) := by decide +kernel
theorem dX_count_51 : decode bX_count 51 = .ok (.invokespecial 42, 3) := by decide +kernel
theorem dX_count_54 : decode bX_count 54 = .ok (.athrow, 1) := by decide +kernel
theorem dX_countThere_0 : decode bX_countThere 0 = .ok (.iconst 0, 1) := by decide +kernel
theorem dX_countThere_1 : decode bX_countThere 1 = .ok (.istore_n 1, 1) := by decide +kernel
theorem dX_countThere_2 : decode bX_countThere 2 = .ok (.iconst 0, 1) := by decide +kernel
theorem dX_countThere_3 : decode bX_countThere 3 = .ok (.istore_n 2, 1) := by decide +kernel
theorem dX_countThere_4 : decode bX_countThere 4 = .ok (.iload_n 2, 1) := by decide +kernel
theorem dX_countThere_5 : decode bX_countThere 5 = .ok (.bipush 100, 2) := by decide +kernel
theorem dX_countThere_7 : decode bX_countThere 7 = .ok (.if_icmp .ge 21, 3) := by decide +kernel
theorem dX_countThere_10 : decode bX_countThere 10 = .ok (.aload_n 0, 1) := by decide +kernel
theorem dX_countThere_11 : decode bX_countThere 11 = .ok (.getfield 9, 3) := by decide +kernel
theorem dX_countThere_14 : decode bX_countThere 14 = .ok (.iload_n 2, 1) := by decide +kernel
theorem dX_countThere_15 : decode bX_countThere 15 = .ok (.baload, 1) := by decide +kernel
theorem dX_countThere_16 : decode bX_countThere 16 = .ok (.ifCond .eq 6, 3) := by decide +kernel
theorem dX_countThere_19 : decode bX_countThere 19 = .ok (.iinc 1 1, 3) := by decide +kernel
theorem dX_countThere_22 : decode bX_countThere 22 = .ok (.iinc 2 1, 3) := by decide +kernel
theorem dX_countThere_25 : decode bX_countThere 25 = .ok (.goto (-21), 3) := by decide +kernel
theorem dX_countThere_28 : decode bX_countThere 28 = .ok (.iload_n 1, 1) := by decide +kernel
theorem dX_countThere_29 : decode bX_countThere 29 = .ok (.ireturn, 1) := by decide +kernel
