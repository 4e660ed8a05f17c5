-- what stands at each place of the code
theorem dM_init_0 : decode bM_init 0 = .ok (.aload_n 0, 1) := by decide +kernel
theorem dM_init_1 : decode bM_init 1 = .ok (.invokespecial 1, 3) := by decide +kernel
theorem dM_init_4 : decode bM_init 4 = .ok (.aload_n 0, 1) := by decide +kernel
theorem dM_init_5 : decode bM_init 5 = .ok (.bipush 100, 2) := by decide +kernel
theorem dM_init_7 : decode bM_init 7 = .ok (.newarray .boolean, 2) := by decide +kernel
theorem dM_init_9 : decode bM_init 9 = .ok (.putfield 7, 3) := by decide +kernel
theorem dM_init_12 : decode bM_init 12 = .ok (.aload_n 0, 1) := by decide +kernel
theorem dM_init_13 : decode bM_init 13 = .ok (.bipush 100, 2) := by decide +kernel
theorem dM_init_15 : decode bM_init 15 = .ok (.newarray .long, 2) := by decide +kernel
theorem dM_init_17 : decode bM_init 17 = .ok (.putfield 13, 3) := by decide +kernel
theorem dM_init_20 : decode bM_init 20 = .ok (.aload_n 0, 1) := by decide +kernel
theorem dM_init_21 : decode bM_init 21 = .ok (.bipush 100, 2) := by decide +kernel
theorem dM_init_23 : decode bM_init 23 = .ok (.newarray .int, 2) := by decide +kernel
theorem dM_init_25 : decode bM_init 25 = .ok (.putfield 17, 3) := by decide +kernel
theorem dM_init_28 : decode bM_init 28 = .ok (.aload_n 0, 1) := by decide +kernel
theorem dM_init_29 : decode bM_init 29 = .ok (.bipush 100, 2) := by decide +kernel
theorem dM_init_31 : decode bM_init 31 = .ok (.newarray .int, 2) := by decide +kernel
theorem dM_init_33 : decode bM_init 33 = .ok (.putfield 21, 3) := by decide +kernel
theorem dM_init_36 : decode bM_init 36 = .ok (.return_, 1) := by decide +kernel
theorem dM_thrown_0 : decode bM_thrown 0 = .ok (.aload_n 0, 1) := by decide +kernel
theorem dM_thrown_1 : decode bM_thrown 1 = .ok (.getfield 24, 3) := by decide +kernel
theorem dM_thrown_4 : decode bM_thrown 4 = .ok (.ireturn, 1) := by decide +kernel
theorem dM_set_0 : decode bM_set 0 = .ok (.aload_n 0, 1) := by decide +kernel
theorem dM_set_1 : decode bM_set 1 = .ok (.iconst 0, 1) := by decide +kernel
theorem dM_set_2 : decode bM_set 2 = .ok (.putfield 24, 3) := by decide +kernel
theorem dM_set_5 : decode bM_set 5 = .ok (.iload_n 1, 1) := by decide +kernel
theorem dM_set_6 : decode bM_set 6 = .ok (.ifCond .lt 23, 3) := by decide +kernel
theorem dM_set_9 : decode bM_set 9 = .ok (.iload_n 1, 1) := by decide +kernel
theorem dM_set_10 : decode bM_set 10 = .ok (.bipush 99, 2) := by decide +kernel
theorem dM_set_12 : decode bM_set 12 = .ok (.if_icmp .gt 17, 3) := by decide +kernel
theorem dM_set_15 : decode bM_set 15 = .ok (.lload_n 2, 1) := by decide +kernel
theorem dM_set_16 : decode bM_set 16 = .ok (.lconst 0, 1) := by decide +kernel
theorem dM_set_17 : decode bM_set 17 = .ok (.lcmp, 1) := by decide +kernel
theorem dM_set_18 : decode bM_set 18 = .ok (.ifCond .lt 11, 3) := by decide +kernel
theorem dM_set_21 : decode bM_set 21 = .ok (.lload_n 2, 1) := by decide +kernel
theorem dM_set_22 : decode bM_set 22 = .ok (.ldc2_w 36, 3) := by decide +kernel
theorem dM_set_25 : decode bM_set 25 = .ok (.lcmp, 1) := by decide +kernel
theorem dM_set_26 : decode bM_set 26 = .ok (.ifCond .le 9, 3) := by decide +kernel
theorem dM_set_29 : decode bM_set 29 = .ok (.aload_n 0, 1) := by decide +kernel
theorem dM_set_30 : decode bM_set 30 = .ok (.iconst 1, 1) := by decide +kernel
theorem dM_set_31 : decode bM_set 31 = .ok (.invokevirtual 38, 3) := by decide +kernel
theorem dM_set_34 : decode bM_set 34 = .ok (.ireturn, 1) := by decide +kernel
theorem dM_set_35 : decode bM_set 35 = .ok (.aload_n 0, 1) := by decide +kernel
theorem dM_set_36 : decode bM_set 36 = .ok (.getfield 7, 3) := by decide +kernel
theorem dM_set_39 : decode bM_set 39 = .ok (.iload_n 1, 1) := by decide +kernel
theorem dM_set_40 : decode bM_set 40 = .ok (.iconst 1, 1) := by decide +kernel
theorem dM_set_41 : decode bM_set 41 = .ok (.bastore, 1) := by decide +kernel
theorem dM_set_42 : decode bM_set 42 = .ok (.aload_n 0, 1) := by decide +kernel
theorem dM_set_43 : decode bM_set 43 = .ok (.getfield 13, 3) := by decide +kernel
theorem dM_set_46 : decode bM_set 46 = .ok (.iload_n 1, 1) := by decide +kernel
theorem dM_set_47 : decode bM_set 47 = .ok (.lload_n 2, 1) := by decide +kernel
theorem dM_set_48 : decode bM_set 48 = .ok (.lastore, 1) := by decide +kernel
theorem dM_set_49 : decode bM_set 49 = .ok (.aload_n 0, 1) := by decide +kernel
theorem dM_set_50 : decode bM_set 50 = .ok (.getfield 17, 3) := by decide +kernel
theorem dM_set_53 : decode bM_set 53 = .ok (.iload_n 1, 1) := by decide +kernel
theorem dM_set_54 : decode bM_set 54 = .ok (.iload 4, 2) := by decide +kernel
theorem dM_set_56 : decode bM_set 56 = .ok (.iastore, 1) := by decide +kernel
theorem dM_set_57 : decode bM_set 57 = .ok (.aload_n 0, 1) := by decide +kernel
theorem dM_set_58 : decode bM_set 58 = .ok (.getfield 21, 3) := by decide +kernel
theorem dM_set_61 : decode bM_set 61 = .ok (.iload_n 1, 1) := by decide +kernel
theorem dM_set_62 : decode bM_set 62 = .ok (.aload_n 0, 1) := by decide +kernel
theorem dM_set_63 : decode bM_set 63 = .ok (.getfield 42, 3) := by decide +kernel
theorem dM_set_66 : decode bM_set 66 = .ok (.iastore, 1) := by decide +kernel
theorem dM_set_67 : decode bM_set 67 = .ok (.aload_n 0, 1) := by decide +kernel
theorem dM_set_68 : decode bM_set 68 = .ok (.dup, 1) := by decide +kernel
theorem dM_set_69 : decode bM_set 69 = .ok (.getfield 42, 3) := by decide +kernel
theorem dM_set_72 : decode bM_set 72 = .ok (.iconst 1, 1) := by decide +kernel
theorem dM_set_73 : decode bM_set 73 = .ok (.iadd, 1) := by decide +kernel
theorem dM_set_74 : decode bM_set 74 = .ok (.putfield 42, 3) := by decide +kernel
theorem dM_set_77 : decode bM_set 77 = .ok (.aload_n 0, 1) := by decide +kernel
theorem dM_set_78 : decode bM_set 78 = .ok (.getfield 21, 3) := by decide +kernel
theorem dM_set_81 : decode bM_set 81 = .ok (.iload_n 1, 1) := by decide +kernel
theorem dM_set_82 : decode bM_set 82 = .ok (.iaload, 1) := by decide +kernel
theorem dM_set_83 : decode bM_set 83 = .ok (.ireturn, 1) := by decide +kernel
theorem dM_fail_0 : decode bM_fail 0 = .ok (.aload_n 0, 1) := by decide +kernel
theorem dM_fail_1 : decode bM_fail 1 = .ok (.iload_n 1, 1) := by decide +kernel
theorem dM_fail_2 : decode bM_fail 2 = .ok (.putfield 24, 3) := by decide +kernel
theorem dM_fail_5 : decode bM_fail 5 = .ok (.iconst 0, 1) := by decide +kernel
theorem dM_fail_6 : decode bM_fail 6 = .ok (.ireturn, 1) := by decide +kernel
theorem dM_drop_0 : decode bM_drop 0 = .ok (.aload_n 0, 1) := by decide +kernel
theorem dM_drop_1 : decode bM_drop 1 = .ok (.iconst 0, 1) := by decide +kernel
theorem dM_drop_2 : decode bM_drop 2 = .ok (.putfield 24, 3) := by decide +kernel
theorem dM_drop_5 : decode bM_drop 5 = .ok (.iload_n 1, 1) := by decide +kernel
theorem dM_drop_6 : decode bM_drop 6 = .ok (.ifCond .lt 9, 3) := by decide +kernel
theorem dM_drop_9 : decode bM_drop 9 = .ok (.iload_n 1, 1) := by decide +kernel
theorem dM_drop_10 : decode bM_drop 10 = .ok (.bipush 99, 2) := by decide +kernel
theorem dM_drop_12 : decode bM_drop 12 = .ok (.if_icmp .le 10, 3) := by decide +kernel
theorem dM_drop_15 : decode bM_drop 15 = .ok (.aload_n 0, 1) := by decide +kernel
theorem dM_drop_16 : decode bM_drop 16 = .ok (.iconst 1, 1) := by decide +kernel
theorem dM_drop_17 : decode bM_drop 17 = .ok (.invokevirtual 38, 3) := by decide +kernel
theorem dM_drop_20 : decode bM_drop 20 = .ok (.i2l, 1) := by decide +kernel
theorem dM_drop_21 : decode bM_drop 21 = .ok (.lreturn, 1) := by decide +kernel
theorem dM_drop_22 : decode bM_drop 22 = .ok (.aload_n 0, 1) := by decide +kernel
theorem dM_drop_23 : decode bM_drop 23 = .ok (.getfield 7, 3) := by decide +kernel
theorem dM_drop_26 : decode bM_drop 26 = .ok (.iload_n 1, 1) := by decide +kernel
theorem dM_drop_27 : decode bM_drop 27 = .ok (.baload, 1) := by decide +kernel
theorem dM_drop_28 : decode bM_drop 28 = .ok (.ifCond .ne 10, 3) := by decide +kernel
theorem dM_drop_31 : decode bM_drop 31 = .ok (.aload_n 0, 1) := by decide +kernel
theorem dM_drop_32 : decode bM_drop 32 = .ok (.iconst 2, 1) := by decide +kernel
theorem dM_drop_33 : decode bM_drop 33 = .ok (.invokevirtual 38, 3) := by decide +kernel
theorem dM_drop_36 : decode bM_drop 36 = .ok (.i2l, 1) := by decide +kernel
theorem dM_drop_37 : decode bM_drop 37 = .ok (.lreturn, 1) := by decide +kernel
theorem dM_drop_38 : decode bM_drop 38 = .ok (.aload_n 0, 1) := by decide +kernel
theorem dM_drop_39 : decode bM_drop 39 = .ok (.getfield 7, 3) := by decide +kernel
theorem dM_drop_42 : decode bM_drop 42 = .ok (.iload_n 1, 1) := by decide +kernel
theorem dM_drop_43 : decode bM_drop 43 = .ok (.iconst 0, 1) := by decide +kernel
theorem dM_drop_44 : decode bM_drop 44 = .ok (.bastore, 1) := by decide +kernel
theorem dM_drop_45 : decode bM_drop 45 = .ok (.aload_n 0, 1) := by decide +kernel
theorem dM_drop_46 : decode bM_drop 46 = .ok (.getfield 13, 3) := by decide +kernel
theorem dM_drop_49 : decode bM_drop 49 = .ok (.iload_n 1, 1) := by decide +kernel
theorem dM_drop_50 : decode bM_drop 50 = .ok (.laload, 1) := by decide +kernel
theorem dM_drop_51 : decode bM_drop 51 = .ok (.lreturn, 1) := by decide +kernel
theorem dM_take_0 : decode bM_take 0 = .ok (.aload_n 0, 1) := by decide +kernel
theorem dM_take_1 : decode bM_take 1 = .ok (.iconst 0, 1) := by decide +kernel
theorem dM_take_2 : decode bM_take 2 = .ok (.putfield 24, 3) := by decide +kernel
theorem dM_take_5 : decode bM_take 5 = .ok (.iconst (-1), 1) := by decide +kernel
theorem dM_take_6 : decode bM_take 6 = .ok (.istore_n 1, 1) := by decide +kernel
theorem dM_take_7 : decode bM_take 7 = .ok (.iconst 0, 1) := by decide +kernel
theorem dM_take_8 : decode bM_take 8 = .ok (.istore_n 2, 1) := by decide +kernel
theorem dM_take_9 : decode bM_take 9 = .ok (.iload_n 2, 1) := by decide +kernel
theorem dM_take_10 : decode bM_take 10 = .ok (.bipush 100, 2) := by decide +kernel
theorem dM_take_12 : decode bM_take 12 = .ok (.if_icmp .ge 103, 3) := by decide +kernel
theorem dM_take_15 : decode bM_take 15 = .ok (.aload_n 0, 1) := by decide +kernel
theorem dM_take_16 : decode bM_take 16 = .ok (.iload_n 2, 1) := by decide +kernel
theorem dM_take_17 : decode bM_take 17 = .ok (.invokevirtual 32, 3) := by decide +kernel
theorem dM_take_20 : decode bM_take 20 = .ok (.ifCond .ne 6, 3) := by decide +kernel
theorem dM_take_23 : decode bM_take 23 = .ok (.goto 86, 3) := by decide +kernel
theorem dM_take_26 : decode bM_take 26 = .ok (.iload_n 1, 1) := by decide +kernel
theorem dM_take_27 : decode bM_take 27 = .ok (.ifCond .lt 80, 3) := by decide +kernel
theorem dM_take_30 : decode bM_take 30 = .ok (.aload_n 0, 1) := by decide +kernel
theorem dM_take_31 : decode bM_take 31 = .ok (.getfield 13, 3) := by decide +kernel
theorem dM_take_34 : decode bM_take 34 = .ok (.iload_n 2, 1) := by decide +kernel
theorem dM_take_35 : decode bM_take 35 = .ok (.laload, 1) := by decide +kernel
theorem dM_take_36 : decode bM_take 36 = .ok (.aload_n 0, 1) := by decide +kernel
theorem dM_take_37 : decode bM_take 37 = .ok (.getfield 13, 3) := by decide +kernel
theorem dM_take_40 : decode bM_take 40 = .ok (.iload_n 1, 1) := by decide +kernel
theorem dM_take_41 : decode bM_take 41 = .ok (.laload, 1) := by decide +kernel
theorem dM_take_42 : decode bM_take 42 = .ok (.lcmp, 1) := by decide +kernel
theorem dM_take_43 : decode bM_take 43 = .ok (.ifCond .lt 64, 3) := by decide +kernel
theorem dM_take_46 : decode bM_take 46 = .ok (.aload_n 0, 1) := by decide +kernel
theorem dM_take_47 : decode bM_take 47 = .ok (.getfield 13, 3) := by decide +kernel
theorem dM_take_50 : decode bM_take 50 = .ok (.iload_n 2, 1) := by decide +kernel
theorem dM_take_51 : decode bM_take 51 = .ok (.laload, 1) := by decide +kernel
theorem dM_take_52 : decode bM_take 52 = .ok (.aload_n 0, 1) := by decide +kernel
theorem dM_take_53 : decode bM_take 53 = .ok (.getfield 13, 3) := by decide +kernel
theorem dM_take_56 : decode bM_take 56 = .ok (.iload_n 1, 1) := by decide +kernel
theorem dM_take_57 : decode bM_take 57 = .ok (.laload, 1) := by decide +kernel
theorem dM_take_58 : decode bM_take 58 = .ok (.lcmp, 1) := by decide +kernel
theorem dM_take_59 : decode bM_take 59 = .ok (.ifCond .ne 50, 3) := by decide +kernel
theorem dM_take_62 : decode bM_take 62 = .ok (.aload_n 0, 1) := by decide +kernel
theorem dM_take_63 : decode bM_take 63 = .ok (.getfield 17, 3) := by decide +kernel
theorem dM_take_66 : decode bM_take 66 = .ok (.iload_n 2, 1) := by decide +kernel
theorem dM_take_67 : decode bM_take 67 = .ok (.iaload, 1) := by decide +kernel
theorem dM_take_68 : decode bM_take 68 = .ok (.aload_n 0, 1) := by decide +kernel
theorem dM_take_69 : decode bM_take 69 = .ok (.getfield 17, 3) := by decide +kernel
theorem dM_take_72 : decode bM_take 72 = .ok (.iload_n 1, 1) := by decide +kernel
theorem dM_take_73 : decode bM_take 73 = .ok (.iaload, 1) := by decide +kernel
theorem dM_take_74 : decode bM_take 74 = .ok (.if_icmp .gt 33, 3) := by decide +kernel
theorem dM_take_77 : decode bM_take 77 = .ok (.aload_n 0, 1) := by decide +kernel
theorem dM_take_78 : decode bM_take 78 = .ok (.getfield 17, 3) := by decide +kernel
theorem dM_take_81 : decode bM_take 81 = .ok (.iload_n 2, 1) := by decide +kernel
theorem dM_take_82 : decode bM_take 82 = .ok (.iaload, 1) := by decide +kernel
theorem dM_take_83 : decode bM_take 83 = .ok (.aload_n 0, 1) := by decide +kernel
theorem dM_take_84 : decode bM_take 84 = .ok (.getfield 17, 3) := by decide +kernel
theorem dM_take_87 : decode bM_take 87 = .ok (.iload_n 1, 1) := by decide +kernel
theorem dM_take_88 : decode bM_take 88 = .ok (.iaload, 1) := by decide +kernel
theorem dM_take_89 : decode bM_take 89 = .ok (.if_icmp .ne 20, 3) := by decide +kernel
theorem dM_take_92 : decode bM_take 92 = .ok (.aload_n 0, 1) := by decide +kernel
theorem dM_take_93 : decode bM_take 93 = .ok (.getfield 21, 3) := by decide +kernel
theorem dM_take_96 : decode bM_take 96 = .ok (.iload_n 2, 1) := by decide +kernel
theorem dM_take_97 : decode bM_take 97 = .ok (.iaload, 1) := by decide +kernel
theorem dM_take_98 : decode bM_take 98 = .ok (.aload_n 0, 1) := by decide +kernel
theorem dM_take_99 : decode bM_take 99 = .ok (.getfield 21, 3) := by decide +kernel
theorem dM_take_102 : decode bM_take 102 = .ok (.iload_n 1, 1) := by decide +kernel
theorem dM_take_103 : decode bM_take 103 = .ok (.iaload, 1) := by decide +kernel
theorem dM_take_104 : decode bM_take 104 = .ok (.if_icmp .ge 5, 3) := by decide +kernel
theorem dM_take_107 : decode bM_take 107 = .ok (.iload_n 2, 1) := by decide +kernel
theorem dM_take_108 : decode bM_take 108 = .ok (.istore_n 1, 1) := by decide +kernel
theorem dM_take_109 : decode bM_take 109 = .ok (.iinc 2 1, 3) := by decide +kernel
theorem dM_take_112 : decode bM_take 112 = .ok (.goto (-103), 3) := by decide +kernel
theorem dM_take_115 : decode bM_take 115 = .ok (.iload_n 1, 1) := by decide +kernel
theorem dM_take_116 : decode bM_take 116 = .ok (.ifCond .ge 9, 3) := by decide +kernel
theorem dM_take_119 : decode bM_take 119 = .ok (.aload_n 0, 1) := by decide +kernel
theorem dM_take_120 : decode bM_take 120 = .ok (.iconst 1, 1) := by decide +kernel
theorem dM_take_121 : decode bM_take 121 = .ok (.invokevirtual 38, 3) := by decide +kernel
theorem dM_take_124 : decode bM_take 124 = .ok (.ireturn, 1) := by decide +kernel
theorem dM_take_125 : decode bM_take 125 = .ok (.aload_n 0, 1) := by decide +kernel
theorem dM_take_126 : decode bM_take 126 = .ok (.getfield 7, 3) := by decide +kernel
theorem dM_take_129 : decode bM_take 129 = .ok (.iload_n 1, 1) := by decide +kernel
theorem dM_take_130 : decode bM_take 130 = .ok (.iconst 0, 1) := by decide +kernel
theorem dM_take_131 : decode bM_take 131 = .ok (.bastore, 1) := by decide +kernel
theorem dM_take_132 : decode bM_take 132 = .ok (.iload_n 1, 1) := by decide +kernel
theorem dM_take_133 : decode bM_take 133 = .ok (.ireturn, 1) := by decide +kernel
theorem dM_due_0 : decode bM_due 0 = .ok (.aload_n 0, 1) := by decide +kernel
theorem dM_due_1 : decode bM_due 1 = .ok (.getfield 7, 3) := by decide +kernel
theorem dM_due_4 : decode bM_due 4 = .ok (.iload_n 1, 1) := by decide +kernel
theorem dM_due_5 : decode bM_due 5 = .ok (.baload, 1) := by decide +kernel
theorem dM_due_6 : decode bM_due 6 = .ok (.ifCond .eq 21, 3) := by decide +kernel
theorem dM_due_9 : decode bM_due 9 = .ok (.aload_n 0, 1) := by decide +kernel
theorem dM_due_10 : decode bM_due 10 = .ok (.getfield 13, 3) := by decide +kernel
theorem dM_due_13 : decode bM_due 13 = .ok (.iload_n 1, 1) := by decide +kernel
theorem dM_due_14 : decode bM_due 14 = .ok (.laload, 1) := by decide +kernel
theorem dM_due_15 : decode bM_due 15 = .ok (.aload_n 0, 1) := by decide +kernel
theorem dM_due_16 : decode bM_due 16 = .ok (.getfield 28, 3) := by decide +kernel
theorem dM_due_19 : decode bM_due 19 = .ok (.lcmp, 1) := by decide +kernel
theorem dM_due_20 : decode bM_due 20 = .ok (.ifCond .gt 7, 3) := by decide +kernel
theorem dM_due_23 : decode bM_due 23 = .ok (.iconst 1, 1) := by decide +kernel
theorem dM_due_24 : decode bM_due 24 = .ok (.goto 4, 3) := by decide +kernel
theorem dM_due_27 : decode bM_due 27 = .ok (.iconst 0, 1) := by decide +kernel
theorem dM_due_28 : decode bM_due 28 = .ok (.ireturn, 1) := by decide +kernel
theorem dM_least_0 : decode bM_least 0 = .ok (.aload_n 0, 1) := by decide +kernel
theorem dM_least_1 : decode bM_least 1 = .ok (.iconst 0, 1) := by decide +kernel
theorem dM_least_2 : decode bM_least 2 = .ok (.putfield 24, 3) := by decide +kernel
theorem dM_least_5 : decode bM_least 5 = .ok (.ldc2_w 45, 3) := by decide +kernel
theorem dM_least_8 : decode bM_least 8 = .ok (.lstore_n 1, 1) := by decide +kernel
theorem dM_least_9 : decode bM_least 9 = .ok (.iconst 0, 1) := by decide +kernel
theorem dM_least_10 : decode bM_least 10 = .ok (.istore_n 3, 1) := by decide +kernel
theorem dM_least_11 : decode bM_least 11 = .ok (.iload_n 3, 1) := by decide +kernel
theorem dM_least_12 : decode bM_least 12 = .ok (.bipush 100, 2) := by decide +kernel
theorem dM_least_14 : decode bM_least 14 = .ok (.if_icmp .ge 56, 3) := by decide +kernel
theorem dM_least_17 : decode bM_least 17 = .ok (.aload_n 0, 1) := by decide +kernel
theorem dM_least_18 : decode bM_least 18 = .ok (.getfield 7, 3) := by decide +kernel
theorem dM_least_21 : decode bM_least 21 = .ok (.iload_n 3, 1) := by decide +kernel
theorem dM_least_22 : decode bM_least 22 = .ok (.baload, 1) := by decide +kernel
theorem dM_least_23 : decode bM_least 23 = .ok (.ifCond .eq 41, 3) := by decide +kernel
theorem dM_least_26 : decode bM_least 26 = .ok (.aload_n 0, 1) := by decide +kernel
theorem dM_least_27 : decode bM_least 27 = .ok (.getfield 13, 3) := by decide +kernel
theorem dM_least_30 : decode bM_least 30 = .ok (.iload_n 3, 1) := by decide +kernel
theorem dM_least_31 : decode bM_least 31 = .ok (.laload, 1) := by decide +kernel
theorem dM_least_32 : decode bM_least 32 = .ok (.aload_n 0, 1) := by decide +kernel
theorem dM_least_33 : decode bM_least 33 = .ok (.getfield 28, 3) := by decide +kernel
theorem dM_least_36 : decode bM_least 36 = .ok (.lcmp, 1) := by decide +kernel
theorem dM_least_37 : decode bM_least 37 = .ok (.ifCond .le 27, 3) := by decide +kernel
theorem dM_least_40 : decode bM_least 40 = .ok (.lload_n 1, 1) := by decide +kernel
theorem dM_least_41 : decode bM_least 41 = .ok (.lconst 0, 1) := by decide +kernel
theorem dM_least_42 : decode bM_least 42 = .ok (.lcmp, 1) := by decide +kernel
theorem dM_least_43 : decode bM_least 43 = .ok (.ifCond .lt 14, 3) := by decide +kernel
theorem dM_least_46 : decode bM_least 46 = .ok (.aload_n 0, 1) := by decide +kernel
theorem dM_least_47 : decode bM_least 47 = .ok (.getfield 13, 3) := by decide +kernel
theorem dM_least_50 : decode bM_least 50 = .ok (.iload_n 3, 1) := by decide +kernel
theorem dM_least_51 : decode bM_least 51 = .ok (.laload, 1) := by decide +kernel
theorem dM_least_52 : decode bM_least 52 = .ok (.lload_n 1, 1) := by decide +kernel
theorem dM_least_53 : decode bM_least 53 = .ok (.lcmp, 1) := by decide +kernel
theorem dM_least_54 : decode bM_least 54 = .ok (.ifCond .ge 10, 3) := by decide +kernel
theorem dM_least_57 : decode bM_least 57 = .ok (.aload_n 0, 1) := by decide +kernel
theorem dM_least_58 : decode bM_least 58 = .ok (.getfield 13, 3) := by decide +kernel
theorem dM_least_61 : decode bM_least 61 = .ok (.iload_n 3, 1) := by decide +kernel
theorem dM_least_62 : decode bM_least 62 = .ok (.laload, 1) := by decide +kernel
theorem dM_least_63 : decode bM_least 63 = .ok (.lstore_n 1, 1) := by decide +kernel
theorem dM_least_64 : decode bM_least 64 = .ok (.iinc 3 1, 3) := by decide +kernel
theorem dM_least_67 : decode bM_least 67 = .ok (.goto (-56), 3) := by decide +kernel
theorem dM_least_70 : decode bM_least 70 = .ok (.lload_n 1, 1) := by decide +kernel
theorem dM_least_71 : decode bM_least 71 = .ok (.lreturn, 1) := by decide +kernel
theorem dM_go_0 : decode bM_go 0 = .ok (.aload_n 0, 1) := by decide +kernel
theorem dM_go_1 : decode bM_go 1 = .ok (.iconst 0, 1) := by decide +kernel
theorem dM_go_2 : decode bM_go 2 = .ok (.putfield 24, 3) := by decide +kernel
theorem dM_go_5 : decode bM_go 5 = .ok (.lload_n 1, 1) := by decide +kernel
theorem dM_go_6 : decode bM_go 6 = .ok (.lconst 0, 1) := by decide +kernel
theorem dM_go_7 : decode bM_go 7 = .ok (.lcmp, 1) := by decide +kernel
theorem dM_go_8 : decode bM_go 8 = .ok (.ifCond .lt 24, 3) := by decide +kernel
theorem dM_go_11 : decode bM_go 11 = .ok (.lload_n 1, 1) := by decide +kernel
theorem dM_go_12 : decode bM_go 12 = .ok (.ldc2_w 47, 3) := by decide +kernel
theorem dM_go_15 : decode bM_go 15 = .ok (.lcmp, 1) := by decide +kernel
theorem dM_go_16 : decode bM_go 16 = .ok (.ifCond .gt 16, 3) := by decide +kernel
theorem dM_go_19 : decode bM_go 19 = .ok (.aload_n 0, 1) := by decide +kernel
theorem dM_go_20 : decode bM_go 20 = .ok (.getfield 28, 3) := by decide +kernel
theorem dM_go_23 : decode bM_go 23 = .ok (.lload_n 1, 1) := by decide +kernel
theorem dM_go_24 : decode bM_go 24 = .ok (.ladd, 1) := by decide +kernel
theorem dM_go_25 : decode bM_go 25 = .ok (.ldc2_w 36, 3) := by decide +kernel
theorem dM_go_28 : decode bM_go 28 = .ok (.lcmp, 1) := by decide +kernel
theorem dM_go_29 : decode bM_go 29 = .ok (.ifCond .le 9, 3) := by decide +kernel
theorem dM_go_32 : decode bM_go 32 = .ok (.aload_n 0, 1) := by decide +kernel
theorem dM_go_33 : decode bM_go 33 = .ok (.iconst 1, 1) := by decide +kernel
theorem dM_go_34 : decode bM_go 34 = .ok (.invokevirtual 38, 3) := by decide +kernel
theorem dM_go_37 : decode bM_go 37 = .ok (.ireturn, 1) := by decide +kernel
theorem dM_go_38 : decode bM_go 38 = .ok (.aload_n 0, 1) := by decide +kernel
theorem dM_go_39 : decode bM_go 39 = .ok (.dup, 1) := by decide +kernel
theorem dM_go_40 : decode bM_go 40 = .ok (.getfield 28, 3) := by decide +kernel
theorem dM_go_43 : decode bM_go 43 = .ok (.lload_n 1, 1) := by decide +kernel
theorem dM_go_44 : decode bM_go 44 = .ok (.ladd, 1) := by decide +kernel
theorem dM_go_45 : decode bM_go 45 = .ok (.putfield 28, 3) := by decide +kernel
theorem dM_go_48 : decode bM_go 48 = .ok (.aload_n 0, 1) := by decide +kernel
theorem dM_go_49 : decode bM_go 49 = .ok (.invokevirtual 49, 3) := by decide +kernel
theorem dM_go_52 : decode bM_go 52 = .ok (.ireturn, 1) := by decide +kernel
theorem dM_dues_0 : decode bM_dues 0 = .ok (.iconst 0, 1) := by decide +kernel
theorem dM_dues_1 : decode bM_dues 1 = .ok (.istore_n 1, 1) := by decide +kernel
theorem dM_dues_2 : decode bM_dues 2 = .ok (.iconst 0, 1) := by decide +kernel
theorem dM_dues_3 : decode bM_dues 3 = .ok (.istore_n 2, 1) := by decide +kernel
theorem dM_dues_4 : decode bM_dues 4 = .ok (.iload_n 2, 1) := by decide +kernel
theorem dM_dues_5 : decode bM_dues 5 = .ok (.bipush 100, 2) := by decide +kernel
theorem dM_dues_7 : decode bM_dues 7 = .ok (.if_icmp .ge 25, 3) := by decide +kernel
theorem dM_dues_10 : decode bM_dues 10 = .ok (.iload_n 1, 1) := by decide +kernel
theorem dM_dues_11 : decode bM_dues 11 = .ok (.aload_n 0, 1) := by decide +kernel
theorem dM_dues_12 : decode bM_dues 12 = .ok (.iload_n 2, 1) := by decide +kernel
theorem dM_dues_13 : decode bM_dues 13 = .ok (.invokevirtual 32, 3) := by decide +kernel
theorem dM_dues_16 : decode bM_dues 16 = .ok (.ifCond .eq 7, 3) := by decide +kernel
theorem dM_dues_19 : decode bM_dues 19 = .ok (.iconst 1, 1) := by decide +kernel
theorem dM_dues_20 : decode bM_dues 20 = .ok (.goto 4, 3) := by decide +kernel
theorem dM_dues_23 : decode bM_dues 23 = .ok (.iconst 0, 1) := by decide +kernel
theorem dM_dues_24 : decode bM_dues 24 = .ok (.iadd, 1) := by decide +kernel
theorem dM_dues_25 : decode bM_dues 25 = .ok (.istore_n 1, 1) := by decide +kernel
theorem dM_dues_26 : decode bM_dues 26 = .ok (.iinc 2 1, 3) := by decide +kernel
theorem dM_dues_29 : decode bM_dues 29 = .ok (.goto (-25), 3) := by decide +kernel
theorem dM_dues_32 : decode bM_dues 32 = .ok (.iload_n 1, 1) := by decide +kernel
theorem dM_dues_33 : decode bM_dues 33 = .ok (.ireturn, 1) := by decide +kernel
theorem dM_skip_0 : decode bM_skip 0 = .ok (.aload_n 0, 1) := by decide +kernel
theorem dM_skip_1 : decode bM_skip 1 = .ok (.invokevirtual 53, 3) := by decide +kernel
theorem dM_skip_4 : decode bM_skip 4 = .ok (.lstore_n 1, 1) := by decide +kernel
theorem dM_skip_5 : decode bM_skip 5 = .ok (.lload_n 1, 1) := by decide +kernel
theorem dM_skip_6 : decode bM_skip 6 = .ok (.lconst 0, 1) := by decide +kernel
theorem dM_skip_7 : decode bM_skip 7 = .ok (.lcmp, 1) := by decide +kernel
theorem dM_skip_8 : decode bM_skip 8 = .ok (.ifCond .ge 9, 3) := by decide +kernel
theorem dM_skip_11 : decode bM_skip 11 = .ok (.aload_n 0, 1) := by decide +kernel
theorem dM_skip_12 : decode bM_skip 12 = .ok (.iconst 1, 1) := by decide +kernel
theorem dM_skip_13 : decode bM_skip 13 = .ok (.invokevirtual 38, 3) := by decide +kernel
theorem dM_skip_16 : decode bM_skip 16 = .ok (.ireturn, 1) := by decide +kernel
theorem dM_skip_17 : decode bM_skip 17 = .ok (.aload_n 0, 1) := by decide +kernel
theorem dM_skip_18 : decode bM_skip 18 = .ok (.lload_n 1, 1) := by decide +kernel
theorem dM_skip_19 : decode bM_skip 19 = .ok (.putfield 28, 3) := by decide +kernel
theorem dM_skip_22 : decode bM_skip 22 = .ok (.aload_n 0, 1) := by decide +kernel
theorem dM_skip_23 : decode bM_skip 23 = .ok (.invokevirtual 49, 3) := by decide +kernel
theorem dM_skip_26 : decode bM_skip 26 = .ok (.ireturn, 1) := by decide +kernel
theorem dM_timer_0 : decode bM_timer 0 = .ok (.aload_n 0, 1) := by decide +kernel
theorem dM_timer_1 : decode bM_timer 1 = .ok (.iconst 0, 1) := by decide +kernel
theorem dM_timer_2 : decode bM_timer 2 = .ok (.putfield 24, 3) := by decide +kernel
theorem dM_timer_5 : decode bM_timer 5 = .ok (.iload_n 1, 1) := by decide +kernel
theorem dM_timer_6 : decode bM_timer 6 = .ok (.ifCond .lt 18, 3) := by decide +kernel
theorem dM_timer_9 : decode bM_timer 9 = .ok (.iload_n 1, 1) := by decide +kernel
theorem dM_timer_10 : decode bM_timer 10 = .ok (.bipush 99, 2) := by decide +kernel
theorem dM_timer_12 : decode bM_timer 12 = .ok (.if_icmp .gt 12, 3) := by decide +kernel
theorem dM_timer_15 : decode bM_timer 15 = .ok (.iload_n 2, 1) := by decide +kernel
theorem dM_timer_16 : decode bM_timer 16 = .ok (.ifCond .lt 8, 3) := by decide +kernel
theorem dM_timer_19 : decode bM_timer 19 = .ok (.iload_n 2, 1) := by decide +kernel
theorem dM_timer_20 : decode bM_timer 20 = .ok (.iconst 3, 1) := by decide +kernel
theorem dM_timer_21 : decode bM_timer 21 = .ok (.if_icmp .le 10, 3) := by decide +kernel
theorem dM_timer_24 : decode bM_timer 24 = .ok (.aload_n 0, 1) := by decide +kernel
theorem dM_timer_25 : decode bM_timer 25 = .ok (.iconst 1, 1) := by decide +kernel
theorem dM_timer_26 : decode bM_timer 26 = .ok (.invokevirtual 38, 3) := by decide +kernel
theorem dM_timer_29 : decode bM_timer 29 = .ok (.i2l, 1) := by decide +kernel
theorem dM_timer_30 : decode bM_timer 30 = .ok (.lreturn, 1) := by decide +kernel
theorem dM_timer_31 : decode bM_timer 31 = .ok (.aload_n 0, 1) := by decide +kernel
theorem dM_timer_32 : decode bM_timer 32 = .ok (.getfield 7, 3) := by decide +kernel
theorem dM_timer_35 : decode bM_timer 35 = .ok (.iload_n 1, 1) := by decide +kernel
theorem dM_timer_36 : decode bM_timer 36 = .ok (.baload, 1) := by decide +kernel
theorem dM_timer_37 : decode bM_timer 37 = .ok (.ifCond .ne 5, 3) := by decide +kernel
theorem dM_timer_40 : decode bM_timer 40 = .ok (.lconst 0, 1) := by decide +kernel
theorem dM_timer_41 : decode bM_timer 41 = .ok (.lreturn, 1) := by decide +kernel
theorem dM_timer_42 : decode bM_timer 42 = .ok (.iload_n 2, 1) := by decide +kernel
theorem dM_timer_43 : decode bM_timer 43 = .ok (.ifCond .ne 21, 3) := by decide +kernel
theorem dM_timer_46 : decode bM_timer 46 = .ok (.aload_n 0, 1) := by decide +kernel
theorem dM_timer_47 : decode bM_timer 47 = .ok (.iload_n 1, 1) := by decide +kernel
theorem dM_timer_48 : decode bM_timer 48 = .ok (.invokevirtual 32, 3) := by decide +kernel
theorem dM_timer_51 : decode bM_timer 51 = .ok (.ifCond .eq 9, 3) := by decide +kernel
theorem dM_timer_54 : decode bM_timer 54 = .ok (.ldc2_w 57, 3) := by decide +kernel
theorem dM_timer_57 : decode bM_timer 57 = .ok (.goto 43, 3) := by decide +kernel
theorem dM_timer_60 : decode bM_timer 60 = .ok (.lconst 1, 1) := by decide +kernel
theorem dM_timer_61 : decode bM_timer 61 = .ok (.goto 39, 3) := by decide +kernel
theorem dM_timer_64 : decode bM_timer 64 = .ok (.iload_n 2, 1) := by decide +kernel
theorem dM_timer_65 : decode bM_timer 65 = .ok (.iconst 1, 1) := by decide +kernel
theorem dM_timer_66 : decode bM_timer 66 = .ok (.if_icmp .ne 12, 3) := by decide +kernel
theorem dM_timer_69 : decode bM_timer 69 = .ok (.aload_n 0, 1) := by decide +kernel
theorem dM_timer_70 : decode bM_timer 70 = .ok (.getfield 13, 3) := by decide +kernel
theorem dM_timer_73 : decode bM_timer 73 = .ok (.iload_n 1, 1) := by decide +kernel
theorem dM_timer_74 : decode bM_timer 74 = .ok (.laload, 1) := by decide +kernel
theorem dM_timer_75 : decode bM_timer 75 = .ok (.goto 25, 3) := by decide +kernel
theorem dM_timer_78 : decode bM_timer 78 = .ok (.iload_n 2, 1) := by decide +kernel
theorem dM_timer_79 : decode bM_timer 79 = .ok (.iconst 2, 1) := by decide +kernel
theorem dM_timer_80 : decode bM_timer 80 = .ok (.if_icmp .ne 13, 3) := by decide +kernel
theorem dM_timer_83 : decode bM_timer 83 = .ok (.aload_n 0, 1) := by decide +kernel
theorem dM_timer_84 : decode bM_timer 84 = .ok (.getfield 17, 3) := by decide +kernel
theorem dM_timer_87 : decode bM_timer 87 = .ok (.iload_n 1, 1) := by decide +kernel
theorem dM_timer_88 : decode bM_timer 88 = .ok (.iaload, 1) := by decide +kernel
theorem dM_timer_89 : decode bM_timer 89 = .ok (.i2l, 1) := by decide +kernel
theorem dM_timer_90 : decode bM_timer 90 = .ok (.goto 10, 3) := by decide +kernel
theorem dM_timer_93 : decode bM_timer 93 = .ok (.aload_n 0, 1) := by decide +kernel
theorem dM_timer_94 : decode bM_timer 94 = .ok (.getfield 21, 3) := by decide +kernel
theorem dM_timer_97 : decode bM_timer 97 = .ok (.iload_n 1, 1) := by decide +kernel
theorem dM_timer_98 : decode bM_timer 98 = .ok (.iaload, 1) := by decide +kernel
theorem dM_timer_99 : decode bM_timer 99 = .ok (.i2l, 1) := by decide +kernel
theorem dM_timer_100 : decode bM_timer 100 = .ok (.lreturn, 1) := by decide +kernel
theorem dM_count_0 : decode bM_count 0 = .ok (.aload_n 0, 1) := by decide +kernel
theorem dM_count_1 : decode bM_count 1 = .ok (.iconst 0, 1) := by decide +kernel
theorem dM_count_2 : decode bM_count 2 = .ok (.putfield 24, 3) := by decide +kernel
theorem dM_count_5 : decode bM_count 5 = .ok (.iload_n 1, 1) := by decide +kernel
theorem dM_count_6 : decode bM_count 6 = .ok (.ifCond .lt 8, 3) := by decide +kernel
theorem dM_count_9 : decode bM_count 9 = .ok (.iload_n 1, 1) := by decide +kernel
theorem dM_count_10 : decode bM_count 10 = .ok (.iconst 2, 1) := by decide +kernel
theorem dM_count_11 : decode bM_count 11 = .ok (.if_icmp .le 10, 3) := by decide +kernel
theorem dM_count_14 : decode bM_count 14 = .ok (.aload_n 0, 1) := by decide +kernel
theorem dM_count_15 : decode bM_count 15 = .ok (.iconst 1, 1) := by decide +kernel
theorem dM_count_16 : decode bM_count 16 = .ok (.invokevirtual 38, 3) := by decide +kernel
theorem dM_count_19 : decode bM_count 19 = .ok (.i2l, 1) := by decide +kernel
theorem dM_count_20 : decode bM_count 20 = .ok (.lreturn, 1) := by decide +kernel
theorem dM_count_21 : decode bM_count 21 = .ok (.iconst 0, 1) := by decide +kernel
theorem dM_count_22 : decode bM_count 22 = .ok (.istore_n 2, 1) := by decide +kernel
theorem dM_count_23 : decode bM_count 23 = .ok (.iconst 0, 1) := by decide +kernel
theorem dM_count_24 : decode bM_count 24 = .ok (.istore_n 3, 1) := by decide +kernel
theorem dM_count_25 : decode bM_count 25 = .ok (.iload_n 3, 1) := by decide +kernel
theorem dM_count_26 : decode bM_count 26 = .ok (.bipush 100, 2) := by decide +kernel
theorem dM_count_28 : decode bM_count 28 = .ok (.if_icmp .ge 26, 3) := by decide +kernel
theorem dM_count_31 : decode bM_count 31 = .ok (.iload_n 2, 1) := by decide +kernel
theorem dM_count_32 : decode bM_count 32 = .ok (.aload_n 0, 1) := by decide +kernel
theorem dM_count_33 : decode bM_count 33 = .ok (.getfield 7, 3) := by decide +kernel
theorem dM_count_36 : decode bM_count 36 = .ok (.iload_n 3, 1) := by decide +kernel
theorem dM_count_37 : decode bM_count 37 = .ok (.baload, 1) := by decide +kernel
theorem dM_count_38 : decode bM_count 38 = .ok (.ifCond .eq 7, 3) := by decide +kernel
theorem dM_count_41 : decode bM_count 41 = .ok (.iconst 1, 1) := by decide +kernel
theorem dM_count_42 : decode bM_count 42 = .ok (.goto 4, 3) := by decide +kernel
theorem dM_count_45 : decode bM_count 45 = .ok (.iconst 0, 1) := by decide +kernel
theorem dM_count_46 : decode bM_count 46 = .ok (.iadd, 1) := by decide +kernel
theorem dM_count_47 : decode bM_count 47 = .ok (.istore_n 2, 1) := by decide +kernel
theorem dM_count_48 : decode bM_count 48 = .ok (.iinc 3 1, 3) := by decide +kernel
theorem dM_count_51 : decode bM_count 51 = .ok (.goto (-26), 3) := by decide +kernel
theorem dM_count_54 : decode bM_count 54 = .ok (.iload_n 1, 1) := by decide +kernel
theorem dM_count_55 : decode bM_count 55 = .ok (.ifCond .ne 10, 3) := by decide +kernel
theorem dM_count_58 : decode bM_count 58 = .ok (.aload_n 0, 1) := by decide +kernel
theorem dM_count_59 : decode bM_count 59 = .ok (.getfield 28, 3) := by decide +kernel
theorem dM_count_62 : decode bM_count 62 = .ok (.goto 18, 3) := by decide +kernel
theorem dM_count_65 : decode bM_count 65 = .ok (.iload_n 1, 1) := by decide +kernel
theorem dM_count_66 : decode bM_count 66 = .ok (.iconst 1, 1) := by decide +kernel
theorem dM_count_67 : decode bM_count 67 = .ok (.if_icmp .ne 8, 3) := by decide +kernel
theorem dM_count_70 : decode bM_count 70 = .ok (.iload_n 2, 1) := by decide +kernel
theorem dM_count_71 : decode bM_count 71 = .ok (.i2l, 1) := by decide +kernel
theorem dM_count_72 : decode bM_count 72 = .ok (.goto 8, 3) := by decide +kernel
theorem dM_count_75 : decode bM_count 75 = .ok (.aload_n 0, 1) := by decide +kernel
theorem dM_count_76 : decode bM_count 76 = .ok (.invokevirtual 49, 3) := by decide +kernel
theorem dM_count_79 : decode bM_count 79 = .ok (.i2l, 1) := by decide +kernel
theorem dM_count_80 : decode bM_count 80 = .ok (.lreturn, 1) := by decide +kernel
