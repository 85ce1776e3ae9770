theorem dX0_init_0 : decode cX0_init 0 = .ok (.aload_n 0, 1) := by decide +kernel
theorem dX0_init_1 : decode cX0_init 1 = .ok (.invokespecial 1, 3) := by decide +kernel
theorem dX0_init_4 : decode cX0_init 4 = .ok (.aload_n 0, 1) := by decide +kernel
theorem dX0_init_5 : decode cX0_init 5 = .ok (.iconst 0, 1) := by decide +kernel
theorem dX0_init_6 : decode cX0_init 6 = .ok (.putfield 7, 3) := by decide +kernel
theorem dX0_init_9 : decode cX0_init 9 = .ok (.aload_n 0, 1) := by decide +kernel
theorem dX0_init_10 : decode cX0_init 10 = .ok (.iload_n 1, 1) := by decide +kernel
theorem dX0_init_11 : decode cX0_init 11 = .ok (.iconst 0, 1) := by decide +kernel
theorem dX0_init_12 : decode cX0_init 12 = .ok (.invokestatic 13, 3) := by decide +kernel
theorem dX0_init_15 : decode cX0_init 15 = .ok (.newarray .byte, 2) := by decide +kernel
theorem dX0_init_17 : decode cX0_init 17 = .ok (.putfield 19, 3) := by decide +kernel
theorem dX0_init_20 : decode cX0_init 20 = .ok (.return_, 1) := by decide +kernel
theorem dX0_clear_0 : decode cX0_clear 0 = .ok (.aload_n 0, 1) := by decide +kernel
theorem dX0_clear_1 : decode cX0_clear 1 = .ok (.iconst 0, 1) := by decide +kernel
theorem dX0_clear_2 : decode cX0_clear 2 = .ok (.putfield 7, 3) := by decide +kernel
theorem dX0_clear_5 : decode cX0_clear 5 = .ok (.return_, 1) := by decide +kernel
theorem dX0_written_0 : decode cX0_written 0 = .ok (.aload_n 0, 1) := by decide +kernel
theorem dX0_written_1 : decode cX0_written 1 = .ok (.getfield 7, 3) := by decide +kernel
theorem dX0_written_4 : decode cX0_written 4 = .ok (.ireturn, 1) := by decide +kernel
theorem dX0_kept_0 : decode cX0_kept 0 = .ok (.aload_n 0, 1) := by decide +kernel
theorem dX0_kept_1 : decode cX0_kept 1 = .ok (.getfield 7, 3) := by decide +kernel
theorem dX0_kept_4 : decode cX0_kept 4 = .ok (.aload_n 0, 1) := by decide +kernel
theorem dX0_kept_5 : decode cX0_kept 5 = .ok (.getfield 19, 3) := by decide +kernel
theorem dX0_kept_8 : decode cX0_kept 8 = .ok (.arraylength, 1) := by decide +kernel
theorem dX0_kept_9 : decode cX0_kept 9 = .ok (.invokestatic 23, 3) := by decide +kernel
theorem dX0_kept_12 : decode cX0_kept 12 = .ok (.ireturn, 1) := by decide +kernel
theorem dX0_at_0 : decode cX0_at 0 = .ok (.iload_n 1, 1) := by decide +kernel
theorem dX0_at_1 : decode cX0_at 1 = .ok (.ifCond .lt 33, 3) := by decide +kernel
theorem dX0_at_4 : decode cX0_at 4 = .ok (.iload_n 1, 1) := by decide +kernel
theorem dX0_at_5 : decode cX0_at 5 = .ok (.aload_n 0, 1) := by decide +kernel
theorem dX0_at_6 : decode cX0_at 6 = .ok (.getfield 7, 3) := by decide +kernel
theorem dX0_at_9 : decode cX0_at 9 = .ok (.if_icmp .ge 25, 3) := by decide +kernel
theorem dX0_at_12 : decode cX0_at 12 = .ok (.iload_n 1, 1) := by decide +kernel
theorem dX0_at_13 : decode cX0_at 13 = .ok (.aload_n 0, 1) := by decide +kernel
theorem dX0_at_14 : decode cX0_at 14 = .ok (.getfield 19, 3) := by decide +kernel
theorem dX0_at_17 : decode cX0_at 17 = .ok (.arraylength, 1) := by decide +kernel
theorem dX0_at_18 : decode cX0_at 18 = .ok (.if_icmp .ge 16, 3) := by decide +kernel
theorem dX0_at_21 : decode cX0_at 21 = .ok (.aload_n 0, 1) := by decide +kernel
theorem dX0_at_22 : decode cX0_at 22 = .ok (.getfield 19, 3) := by decide +kernel
theorem dX0_at_25 : decode cX0_at 25 = .ok (.iload_n 1, 1) := by decide +kernel
theorem dX0_at_26 : decode cX0_at 26 = .ok (.baload, 1) := by decide +kernel
theorem dX0_at_27 : decode cX0_at 27 = .ok (.sipush 255, 3) := by decide +kernel
theorem dX0_at_30 : decode cX0_at 30 = .ok (.iand, 1) := by decide +kernel
theorem dX0_at_31 : decode cX0_at 31 = .ok (.goto 4, 3) := by decide +kernel
theorem dX0_at_34 : decode cX0_at 34 = .ok (.iconst 0, 1) := by decide +kernel
theorem dX0_at_35 : decode cX0_at 35 = .ok (.ireturn, 1) := by decide +kernel
theorem dX0_add_0 : decode cX0_add 0 = .ok (.aload_n 0, 1) := by decide +kernel
theorem dX0_add_1 : decode cX0_add 1 = .ok (.getfield 7, 3) := by decide +kernel
theorem dX0_add_4 : decode cX0_add 4 = .ok (.ifCond .lt 26, 3) := by decide +kernel
theorem dX0_add_7 : decode cX0_add 7 = .ok (.aload_n 0, 1) := by decide +kernel
theorem dX0_add_8 : decode cX0_add 8 = .ok (.getfield 7, 3) := by decide +kernel
theorem dX0_add_11 : decode cX0_add 11 = .ok (.aload_n 0, 1) := by decide +kernel
theorem dX0_add_12 : decode cX0_add 12 = .ok (.getfield 19, 3) := by decide +kernel
theorem dX0_add_15 : decode cX0_add 15 = .ok (.arraylength, 1) := by decide +kernel
theorem dX0_add_16 : decode cX0_add 16 = .ok (.if_icmp .ge 14, 3) := by decide +kernel
theorem dX0_add_19 : decode cX0_add 19 = .ok (.aload_n 0, 1) := by decide +kernel
theorem dX0_add_20 : decode cX0_add 20 = .ok (.getfield 19, 3) := by decide +kernel
theorem dX0_add_23 : decode cX0_add 23 = .ok (.aload_n 0, 1) := by decide +kernel
theorem dX0_add_24 : decode cX0_add 24 = .ok (.getfield 7, 3) := by decide +kernel
theorem dX0_add_27 : decode cX0_add 27 = .ok (.iload_n 1, 1) := by decide +kernel
theorem dX0_add_28 : decode cX0_add 28 = .ok (.i2b, 1) := by decide +kernel
theorem dX0_add_29 : decode cX0_add 29 = .ok (.bastore, 1) := by decide +kernel
theorem dX0_add_30 : decode cX0_add 30 = .ok (.aload_n 0, 1) := by decide +kernel
theorem dX0_add_31 : decode cX0_add 31 = .ok (.dup, 1) := by decide +kernel
theorem dX0_add_32 : decode cX0_add 32 = .ok (.getfield 7, 3) := by decide +kernel
theorem dX0_add_35 : decode cX0_add 35 = .ok (.iconst 1, 1) := by decide +kernel
theorem dX0_add_36 : decode cX0_add 36 = .ok (.iadd, 1) := by decide +kernel
theorem dX0_add_37 : decode cX0_add 37 = .ok (.putfield 7, 3) := by decide +kernel
theorem dX0_add_40 : decode cX0_add 40 = .ok (.return_, 1) := by decide +kernel
theorem dX0_addWord_0 : decode cX0_addWord 0 = .ok (.aload_n 0, 1) := by decide +kernel
theorem dX0_addWord_1 : decode cX0_addWord 1 = .ok (.iload_n 1, 1) := by decide +kernel
theorem dX0_addWord_2 : decode cX0_addWord 2 = .ok (.bipush 24, 2) := by decide +kernel
theorem dX0_addWord_4 : decode cX0_addWord 4 = .ok (.iushr, 1) := by decide +kernel
theorem dX0_addWord_5 : decode cX0_addWord 5 = .ok (.invokevirtual 26, 3) := by decide +kernel
theorem dX0_addWord_8 : decode cX0_addWord 8 = .ok (.aload_n 0, 1) := by decide +kernel
theorem dX0_addWord_9 : decode cX0_addWord 9 = .ok (.iload_n 1, 1) := by decide +kernel
theorem dX0_addWord_10 : decode cX0_addWord 10 = .ok (.bipush 16, 2) := by decide +kernel
theorem dX0_addWord_12 : decode cX0_addWord 12 = .ok (.iushr, 1) := by decide +kernel
theorem dX0_addWord_13 : decode cX0_addWord 13 = .ok (.invokevirtual 26, 3) := by decide +kernel
theorem dX0_addWord_16 : decode cX0_addWord 16 = .ok (.aload_n 0, 1) := by decide +kernel
theorem dX0_addWord_17 : decode cX0_addWord 17 = .ok (.iload_n 1, 1) := by decide +kernel
theorem dX0_addWord_18 : decode cX0_addWord 18 = .ok (.bipush 8, 2) := by decide +kernel
theorem dX0_addWord_20 : decode cX0_addWord 20 = .ok (.iushr, 1) := by decide +kernel
theorem dX0_addWord_21 : decode cX0_addWord 21 = .ok (.invokevirtual 26, 3) := by decide +kernel
theorem dX0_addWord_24 : decode cX0_addWord 24 = .ok (.aload_n 0, 1) := by decide +kernel
theorem dX0_addWord_25 : decode cX0_addWord 25 = .ok (.iload_n 1, 1) := by decide +kernel
theorem dX0_addWord_26 : decode cX0_addWord 26 = .ok (.invokevirtual 26, 3) := by decide +kernel
theorem dX0_addWord_29 : decode cX0_addWord 29 = .ok (.return_, 1) := by decide +kernel
theorem dX0_addDigits_0 : decode cX0_addDigits 0 = .ok (.iload_n 1, 1) := by decide +kernel
theorem dX0_addDigits_1 : decode cX0_addDigits 1 = .ok (.invokestatic 30, 3) := by decide +kernel
theorem dX0_addDigits_4 : decode cX0_addDigits 4 = .ok (.istore_n 2, 1) := by decide +kernel
theorem dX0_addDigits_5 : decode cX0_addDigits 5 = .ok (.iload_n 1, 1) := by decide +kernel
theorem dX0_addDigits_6 : decode cX0_addDigits 6 = .ok (.ifCond .ge 9, 3) := by decide +kernel
theorem dX0_addDigits_9 : decode cX0_addDigits 9 = .ok (.aload_n 0, 1) := by decide +kernel
theorem dX0_addDigits_10 : decode cX0_addDigits 10 = .ok (.bipush 45, 2) := by decide +kernel
theorem dX0_addDigits_12 : decode cX0_addDigits 12 = .ok (.invokevirtual 26, 3) := by decide +kernel
theorem dX0_addDigits_15 : decode cX0_addDigits 15 = .ok (.iload_n 2, 1) := by decide +kernel
theorem dX0_addDigits_16 : decode cX0_addDigits 16 = .ok (.bipush 100, 2) := by decide +kernel
theorem dX0_addDigits_18 : decode cX0_addDigits 18 = .ok (.if_icmp .lt 17, 3) := by decide +kernel
theorem dX0_addDigits_21 : decode cX0_addDigits 21 = .ok (.aload_n 0, 1) := by decide +kernel
theorem dX0_addDigits_22 : decode cX0_addDigits 22 = .ok (.bipush 48, 2) := by decide +kernel
theorem dX0_addDigits_24 : decode cX0_addDigits 24 = .ok (.iload_n 2, 1) := by decide +kernel
theorem dX0_addDigits_25 : decode cX0_addDigits 25 = .ok (.bipush 100, 2) := by decide +kernel
theorem dX0_addDigits_27 : decode cX0_addDigits 27 = .ok (.idiv, 1) := by decide +kernel
theorem dX0_addDigits_28 : decode cX0_addDigits 28 = .ok (.bipush 10, 2) := by decide +kernel
theorem dX0_addDigits_30 : decode cX0_addDigits 30 = .ok (.irem, 1) := by decide +kernel
theorem dX0_addDigits_31 : decode cX0_addDigits 31 = .ok (.iadd, 1) := by decide +kernel
theorem dX0_addDigits_32 : decode cX0_addDigits 32 = .ok (.invokevirtual 26, 3) := by decide +kernel
theorem dX0_addDigits_35 : decode cX0_addDigits 35 = .ok (.iload_n 2, 1) := by decide +kernel
theorem dX0_addDigits_36 : decode cX0_addDigits 36 = .ok (.bipush 10, 2) := by decide +kernel
theorem dX0_addDigits_38 : decode cX0_addDigits 38 = .ok (.if_icmp .lt 17, 3) := by decide +kernel
theorem dX0_addDigits_41 : decode cX0_addDigits 41 = .ok (.aload_n 0, 1) := by decide +kernel
theorem dX0_addDigits_42 : decode cX0_addDigits 42 = .ok (.bipush 48, 2) := by decide +kernel
theorem dX0_addDigits_44 : decode cX0_addDigits 44 = .ok (.iload_n 2, 1) := by decide +kernel
theorem dX0_addDigits_45 : decode cX0_addDigits 45 = .ok (.bipush 10, 2) := by decide +kernel
theorem dX0_addDigits_47 : decode cX0_addDigits 47 = .ok (.idiv, 1) := by decide +kernel
theorem dX0_addDigits_48 : decode cX0_addDigits 48 = .ok (.bipush 10, 2) := by decide +kernel
theorem dX0_addDigits_50 : decode cX0_addDigits 50 = .ok (.irem, 1) := by decide +kernel
theorem dX0_addDigits_51 : decode cX0_addDigits 51 = .ok (.iadd, 1) := by decide +kernel
theorem dX0_addDigits_52 : decode cX0_addDigits 52 = .ok (.invokevirtual 26, 3) := by decide +kernel
theorem dX0_addDigits_55 : decode cX0_addDigits 55 = .ok (.aload_n 0, 1) := by decide +kernel
theorem dX0_addDigits_56 : decode cX0_addDigits 56 = .ok (.bipush 48, 2) := by decide +kernel
theorem dX0_addDigits_58 : decode cX0_addDigits 58 = .ok (.iload_n 2, 1) := by decide +kernel
theorem dX0_addDigits_59 : decode cX0_addDigits 59 = .ok (.bipush 10, 2) := by decide +kernel
theorem dX0_addDigits_61 : decode cX0_addDigits 61 = .ok (.irem, 1) := by decide +kernel
theorem dX0_addDigits_62 : decode cX0_addDigits 62 = .ok (.iadd, 1) := by decide +kernel
theorem dX0_addDigits_63 : decode cX0_addDigits 63 = .ok (.invokevirtual 26, 3) := by decide +kernel
theorem dX0_addDigits_66 : decode cX0_addDigits 66 = .ok (.return_, 1) := by decide +kernel
theorem dX1_init_0 : decode cX1_init 0 = .ok (.aload_n 0, 1) := by decide +kernel
theorem dX1_init_1 : decode cX1_init 1 = .ok (.invokespecial 3, 3) := by decide +kernel
theorem dX1_init_4 : decode cX1_init 4 = .ok (.aload_n 0, 1) := by decide +kernel
theorem dX1_init_5 : decode cX1_init 5 = .ok (.new 9, 3) := by decide +kernel
theorem dX1_init_8 : decode cX1_init 8 = .ok (.dup, 1) := by decide +kernel
theorem dX1_init_9 : decode cX1_init 9 = .ok (.sipush 4000, 3) := by decide +kernel
theorem dX1_init_12 : decode cX1_init 12 = .ok (.invokespecial 11, 3) := by decide +kernel
theorem dX1_init_15 : decode cX1_init 15 = .ok (.putfield 14, 3) := by decide +kernel
theorem dX1_init_18 : decode cX1_init 18 = .ok (.aload_n 0, 1) := by decide +kernel
theorem dX1_init_19 : decode cX1_init 19 = .ok (.new 9, 3) := by decide +kernel
theorem dX1_init_22 : decode cX1_init 22 = .ok (.dup, 1) := by decide +kernel
theorem dX1_init_23 : decode cX1_init 23 = .ok (.sipush 601, 3) := by decide +kernel
theorem dX1_init_26 : decode cX1_init 26 = .ok (.invokespecial 11, 3) := by decide +kernel
theorem dX1_init_29 : decode cX1_init 29 = .ok (.putfield 20, 3) := by decide +kernel
theorem dX1_init_32 : decode cX1_init 32 = .ok (.aload_n 0, 1) := by decide +kernel
theorem dX1_init_33 : decode cX1_init 33 = .ok (.new 9, 3) := by decide +kernel
theorem dX1_init_36 : decode cX1_init 36 = .ok (.dup, 1) := by decide +kernel
theorem dX1_init_37 : decode cX1_init 37 = .ok (.sipush 301, 3) := by decide +kernel
theorem dX1_init_40 : decode cX1_init 40 = .ok (.invokespecial 11, 3) := by decide +kernel
theorem dX1_init_43 : decode cX1_init 43 = .ok (.putfield 23, 3) := by decide +kernel
theorem dX1_init_46 : decode cX1_init 46 = .ok (.aload_n 0, 1) := by decide +kernel
theorem dX1_init_47 : decode cX1_init 47 = .ok (.new 9, 3) := by decide +kernel
theorem dX1_init_50 : decode cX1_init 50 = .ok (.dup, 1) := by decide +kernel
theorem dX1_init_51 : decode cX1_init 51 = .ok (.sipush 4000, 3) := by decide +kernel
theorem dX1_init_54 : decode cX1_init 54 = .ok (.invokespecial 11, 3) := by decide +kernel
theorem dX1_init_57 : decode cX1_init 57 = .ok (.putfield 26, 3) := by decide +kernel
theorem dX1_init_60 : decode cX1_init 60 = .ok (.aload_n 0, 1) := by decide +kernel
theorem dX1_init_61 : decode cX1_init 61 = .ok (.new 9, 3) := by decide +kernel
theorem dX1_init_64 : decode cX1_init 64 = .ok (.dup, 1) := by decide +kernel
theorem dX1_init_65 : decode cX1_init 65 = .ok (.sipush 302, 3) := by decide +kernel
theorem dX1_init_68 : decode cX1_init 68 = .ok (.invokespecial 11, 3) := by decide +kernel
theorem dX1_init_71 : decode cX1_init 71 = .ok (.putfield 29, 3) := by decide +kernel
theorem dX1_init_74 : decode cX1_init 74 = .ok (.aload_n 0, 1) := by decide +kernel
theorem dX1_init_75 : decode cX1_init 75 = .ok (.new 9, 3) := by decide +kernel
theorem dX1_init_78 : decode cX1_init 78 = .ok (.dup, 1) := by decide +kernel
theorem dX1_init_79 : decode cX1_init 79 = .ok (.sipush 302, 3) := by decide +kernel
theorem dX1_init_82 : decode cX1_init 82 = .ok (.invokespecial 11, 3) := by decide +kernel
theorem dX1_init_85 : decode cX1_init 85 = .ok (.putfield 32, 3) := by decide +kernel
theorem dX1_init_88 : decode cX1_init 88 = .ok (.aload_n 0, 1) := by decide +kernel
theorem dX1_init_89 : decode cX1_init 89 = .ok (.iconst 0, 1) := by decide +kernel
theorem dX1_init_90 : decode cX1_init 90 = .ok (.putfield 35, 3) := by decide +kernel
theorem dX1_init_93 : decode cX1_init 93 = .ok (.aload_n 0, 1) := by decide +kernel
theorem dX1_init_94 : decode cX1_init 94 = .ok (.iconst 0, 1) := by decide +kernel
theorem dX1_init_95 : decode cX1_init 95 = .ok (.putfield 39, 3) := by decide +kernel
theorem dX1_init_98 : decode cX1_init 98 = .ok (.aload_n 0, 1) := by decide +kernel
theorem dX1_init_99 : decode cX1_init 99 = .ok (.iconst 0, 1) := by decide +kernel
theorem dX1_init_100 : decode cX1_init 100 = .ok (.putfield 42, 3) := by decide +kernel
theorem dX1_init_103 : decode cX1_init 103 = .ok (.aload_n 0, 1) := by decide +kernel
theorem dX1_init_104 : decode cX1_init 104 = .ok (.aload_n 1, 1) := by decide +kernel
theorem dX1_init_105 : decode cX1_init 105 = .ok (.putfield 45, 3) := by decide +kernel
theorem dX1_init_108 : decode cX1_init 108 = .ok (.return_, 1) := by decide +kernel
theorem dX1_numberAll_0 : decode cX1_numberAll 0 = .ok (.aload_n 0, 1) := by decide +kernel
theorem dX1_numberAll_1 : decode cX1_numberAll 1 = .ok (.aload_n 2, 1) := by decide +kernel
theorem dX1_numberAll_2 : decode cX1_numberAll 2 = .ok (.putfield 45, 3) := by decide +kernel
theorem dX1_numberAll_5 : decode cX1_numberAll 5 = .ok (.aload_n 0, 1) := by decide +kernel
theorem dX1_numberAll_6 : decode cX1_numberAll 6 = .ok (.iconst 0, 1) := by decide +kernel
theorem dX1_numberAll_7 : decode cX1_numberAll 7 = .ok (.putfield 35, 3) := by decide +kernel
theorem dX1_numberAll_10 : decode cX1_numberAll 10 = .ok (.aload_n 0, 1) := by decide +kernel
theorem dX1_numberAll_11 : decode cX1_numberAll 11 = .ok (.iconst 0, 1) := by decide +kernel
theorem dX1_numberAll_12 : decode cX1_numberAll 12 = .ok (.putfield 42, 3) := by decide +kernel
theorem dX1_numberAll_15 : decode cX1_numberAll 15 = .ok (.aload_n 0, 1) := by decide +kernel
theorem dX1_numberAll_16 : decode cX1_numberAll 16 = .ok (.aload_n 1, 1) := by decide +kernel
theorem dX1_numberAll_17 : decode cX1_numberAll 17 = .ok (.invokevirtual 49, 3) := by decide +kernel
theorem dX1_numberAll_20 : decode cX1_numberAll 20 = .ok (.putfield 39, 3) := by decide +kernel
theorem dX1_numberAll_23 : decode cX1_numberAll 23 = .ok (.iconst 1, 1) := by decide +kernel
theorem dX1_numberAll_24 : decode cX1_numberAll 24 = .ok (.istore_n 3, 1) := by decide +kernel
theorem dX1_numberAll_25 : decode cX1_numberAll 25 = .ok (.iload_n 3, 1) := by decide +kernel
theorem dX1_numberAll_26 : decode cX1_numberAll 26 = .ok (.aload_n 0, 1) := by decide +kernel
theorem dX1_numberAll_27 : decode cX1_numberAll 27 = .ok (.getfield 39, 3) := by decide +kernel
theorem dX1_numberAll_30 : decode cX1_numberAll 30 = .ok (.if_icmp .gt 15, 3) := by decide +kernel
theorem dX1_numberAll_33 : decode cX1_numberAll 33 = .ok (.aload_n 0, 1) := by decide +kernel
theorem dX1_numberAll_34 : decode cX1_numberAll 34 = .ok (.aload_n 1, 1) := by decide +kernel
theorem dX1_numberAll_35 : decode cX1_numberAll 35 = .ok (.iload_n 3, 1) := by decide +kernel
theorem dX1_numberAll_36 : decode cX1_numberAll 36 = .ok (.invokevirtual 55, 3) := by decide +kernel
theorem dX1_numberAll_39 : decode cX1_numberAll 39 = .ok (.iinc 3 1, 3) := by decide +kernel
theorem dX1_numberAll_42 : decode cX1_numberAll 42 = .ok (.goto (-17), 3) := by decide +kernel
theorem dX1_numberAll_45 : decode cX1_numberAll 45 = .ok (.iconst 1, 1) := by decide +kernel
theorem dX1_numberAll_46 : decode cX1_numberAll 46 = .ok (.istore_n 3, 1) := by decide +kernel
theorem dX1_numberAll_47 : decode cX1_numberAll 47 = .ok (.iload_n 3, 1) := by decide +kernel
theorem dX1_numberAll_48 : decode cX1_numberAll 48 = .ok (.aload_n 0, 1) := by decide +kernel
theorem dX1_numberAll_49 : decode cX1_numberAll 49 = .ok (.getfield 45, 3) := by decide +kernel
theorem dX1_numberAll_52 : decode cX1_numberAll 52 = .ok (.invokevirtual 49, 3) := by decide +kernel
theorem dX1_numberAll_55 : decode cX1_numberAll 55 = .ok (.if_icmp .gt 53, 3) := by decide +kernel
theorem dX1_numberAll_58 : decode cX1_numberAll 58 = .ok (.aload_n 0, 1) := by decide +kernel
theorem dX1_numberAll_59 : decode cX1_numberAll 59 = .ok (.getfield 45, 3) := by decide +kernel
theorem dX1_numberAll_62 : decode cX1_numberAll 62 = .ok (.iload_n 3, 1) := by decide +kernel
theorem dX1_numberAll_63 : decode cX1_numberAll 63 = .ok (.invokevirtual 59, 3) := by decide +kernel
theorem dX1_numberAll_66 : decode cX1_numberAll 66 = .ok (.ifCond .eq 15, 3) := by decide +kernel
theorem dX1_numberAll_69 : decode cX1_numberAll 69 = .ok (.aload_n 0, 1) := by decide +kernel
theorem dX1_numberAll_70 : decode cX1_numberAll 70 = .ok (.getfield 23, 3) := by decide +kernel
theorem dX1_numberAll_73 : decode cX1_numberAll 73 = .ok (.iload_n 3, 1) := by decide +kernel
theorem dX1_numberAll_74 : decode cX1_numberAll 74 = .ok (.iconst 0, 1) := by decide +kernel
theorem dX1_numberAll_75 : decode cX1_numberAll 75 = .ok (.invokevirtual 63, 3) := by decide +kernel
theorem dX1_numberAll_78 : decode cX1_numberAll 78 = .ok (.goto 24, 3) := by decide +kernel
theorem dX1_numberAll_81 : decode cX1_numberAll 81 = .ok (.aload_n 0, 1) := by decide +kernel
theorem dX1_numberAll_82 : decode cX1_numberAll 82 = .ok (.aload_n 0, 1) := by decide +kernel
theorem dX1_numberAll_83 : decode cX1_numberAll 83 = .ok (.getfield 45, 3) := by decide +kernel
theorem dX1_numberAll_86 : decode cX1_numberAll 86 = .ok (.iload_n 3, 1) := by decide +kernel
theorem dX1_numberAll_87 : decode cX1_numberAll 87 = .ok (.invokevirtual 55, 3) := by decide +kernel
theorem dX1_numberAll_90 : decode cX1_numberAll 90 = .ok (.aload_n 0, 1) := by decide +kernel
theorem dX1_numberAll_91 : decode cX1_numberAll 91 = .ok (.getfield 23, 3) := by decide +kernel
theorem dX1_numberAll_94 : decode cX1_numberAll 94 = .ok (.iload_n 3, 1) := by decide +kernel
theorem dX1_numberAll_95 : decode cX1_numberAll 95 = .ok (.aload_n 0, 1) := by decide +kernel
theorem dX1_numberAll_96 : decode cX1_numberAll 96 = .ok (.getfield 42, 3) := by decide +kernel
theorem dX1_numberAll_99 : decode cX1_numberAll 99 = .ok (.invokevirtual 63, 3) := by decide +kernel
theorem dX1_numberAll_102 : decode cX1_numberAll 102 = .ok (.iinc 3 1, 3) := by decide +kernel
theorem dX1_numberAll_105 : decode cX1_numberAll 105 = .ok (.goto (-58), 3) := by decide +kernel
theorem dX1_numberAll_108 : decode cX1_numberAll 108 = .ok (.aload_n 0, 1) := by decide +kernel
theorem dX1_numberAll_109 : decode cX1_numberAll 109 = .ok (.invokevirtual 67, 3) := by decide +kernel
theorem dX1_numberAll_112 : decode cX1_numberAll 112 = .ok (.return_, 1) := by decide +kernel
theorem dX1_ofFormula_0 : decode cX1_ofFormula 0 = .ok (.aload_n 0, 1) := by decide +kernel
theorem dX1_ofFormula_1 : decode cX1_ofFormula 1 = .ok (.getfield 39, 3) := by decide +kernel
theorem dX1_ofFormula_4 : decode cX1_ofFormula 4 = .ok (.ireturn, 1) := by decide +kernel
theorem dX1_inAll_0 : decode cX1_inAll 0 = .ok (.aload_n 0, 1) := by decide +kernel
theorem dX1_inAll_1 : decode cX1_inAll 1 = .ok (.getfield 42, 3) := by decide +kernel
theorem dX1_inAll_4 : decode cX1_inAll 4 = .ok (.ireturn, 1) := by decide +kernel
theorem dX1_steps_0 : decode cX1_steps 0 = .ok (.aload_n 0, 1) := by decide +kernel
theorem dX1_steps_1 : decode cX1_steps 1 = .ok (.getfield 45, 3) := by decide +kernel
theorem dX1_steps_4 : decode cX1_steps 4 = .ok (.invokevirtual 49, 3) := by decide +kernel
theorem dX1_steps_7 : decode cX1_steps 7 = .ok (.ireturn, 1) := by decide +kernel
theorem dX1_numberOfStep_0 : decode cX1_numberOfStep 0 = .ok (.aload_n 0, 1) := by decide +kernel
theorem dX1_numberOfStep_1 : decode cX1_numberOfStep 1 = .ok (.getfield 23, 3) := by decide +kernel
theorem dX1_numberOfStep_4 : decode cX1_numberOfStep 4 = .ok (.iload_n 1, 1) := by decide +kernel
theorem dX1_numberOfStep_5 : decode cX1_numberOfStep 5 = .ok (.invokevirtual 70, 3) := by decide +kernel
theorem dX1_numberOfStep_8 : decode cX1_numberOfStep 8 = .ok (.ireturn, 1) := by decide +kernel
theorem dX1_size_0 : decode cX1_size 0 = .ok (.aload_n 0, 1) := by decide +kernel
theorem dX1_size_1 : decode cX1_size 1 = .ok (.getfield 20, 3) := by decide +kernel
theorem dX1_size_4 : decode cX1_size 4 = .ok (.iload_n 1, 1) := by decide +kernel
theorem dX1_size_5 : decode cX1_size 5 = .ok (.invokevirtual 70, 3) := by decide +kernel
theorem dX1_size_8 : decode cX1_size 8 = .ok (.aload_n 0, 1) := by decide +kernel
theorem dX1_size_9 : decode cX1_size 9 = .ok (.getfield 20, 3) := by decide +kernel
theorem dX1_size_12 : decode cX1_size 12 = .ok (.iload_n 1, 1) := by decide +kernel
theorem dX1_size_13 : decode cX1_size 13 = .ok (.iconst 1, 1) := by decide +kernel
theorem dX1_size_14 : decode cX1_size 14 = .ok (.isub, 1) := by decide +kernel
theorem dX1_size_15 : decode cX1_size 15 = .ok (.invokevirtual 70, 3) := by decide +kernel
theorem dX1_size_18 : decode cX1_size 18 = .ok (.isub, 1) := by decide +kernel
theorem dX1_size_19 : decode cX1_size 19 = .ok (.ireturn, 1) := by decide +kernel
theorem dX1_literal_0 : decode cX1_literal 0 = .ok (.aload_n 0, 1) := by decide +kernel
theorem dX1_literal_1 : decode cX1_literal 1 = .ok (.getfield 20, 3) := by decide +kernel
theorem dX1_literal_4 : decode cX1_literal 4 = .ok (.iload_n 1, 1) := by decide +kernel
theorem dX1_literal_5 : decode cX1_literal 5 = .ok (.iconst 1, 1) := by decide +kernel
theorem dX1_literal_6 : decode cX1_literal 6 = .ok (.isub, 1) := by decide +kernel
theorem dX1_literal_7 : decode cX1_literal 7 = .ok (.invokevirtual 70, 3) := by decide +kernel
theorem dX1_literal_10 : decode cX1_literal 10 = .ok (.istore_n 3, 1) := by decide +kernel
theorem dX1_literal_11 : decode cX1_literal 11 = .ok (.iload_n 2, 1) := by decide +kernel
theorem dX1_literal_12 : decode cX1_literal 12 = .ok (.ifCond .lt 30, 3) := by decide +kernel
theorem dX1_literal_15 : decode cX1_literal 15 = .ok (.iload_n 2, 1) := by decide +kernel
theorem dX1_literal_16 : decode cX1_literal 16 = .ok (.aload_n 0, 1) := by decide +kernel
theorem dX1_literal_17 : decode cX1_literal 17 = .ok (.getfield 20, 3) := by decide +kernel
theorem dX1_literal_20 : decode cX1_literal 20 = .ok (.iload_n 1, 1) := by decide +kernel
theorem dX1_literal_21 : decode cX1_literal 21 = .ok (.invokevirtual 70, 3) := by decide +kernel
theorem dX1_literal_24 : decode cX1_literal 24 = .ok (.iload_n 3, 1) := by decide +kernel
theorem dX1_literal_25 : decode cX1_literal 25 = .ok (.isub, 1) := by decide +kernel
theorem dX1_literal_26 : decode cX1_literal 26 = .ok (.if_icmp .ge 16, 3) := by decide +kernel
theorem dX1_literal_29 : decode cX1_literal 29 = .ok (.aload_n 0, 1) := by decide +kernel
theorem dX1_literal_30 : decode cX1_literal 30 = .ok (.getfield 14, 3) := by decide +kernel
theorem dX1_literal_33 : decode cX1_literal 33 = .ok (.iload_n 3, 1) := by decide +kernel
theorem dX1_literal_34 : decode cX1_literal 34 = .ok (.iload_n 2, 1) := by decide +kernel
theorem dX1_literal_35 : decode cX1_literal 35 = .ok (.iadd, 1) := by decide +kernel
theorem dX1_literal_36 : decode cX1_literal 36 = .ok (.invokevirtual 70, 3) := by decide +kernel
theorem dX1_literal_39 : decode cX1_literal 39 = .ok (.goto 4, 3) := by decide +kernel
theorem dX1_literal_42 : decode cX1_literal 42 = .ok (.iconst 0, 1) := by decide +kernel
theorem dX1_literal_43 : decode cX1_literal 43 = .ok (.ireturn, 1) := by decide +kernel
theorem dX1_isAsStep_0 : decode cX1_isAsStep 0 = .ok (.aload_n 0, 1) := by decide +kernel
theorem dX1_isAsStep_1 : decode cX1_isAsStep 1 = .ok (.iload_n 1, 1) := by decide +kernel
theorem dX1_isAsStep_2 : decode cX1_isAsStep 2 = .ok (.invokevirtual 74, 3) := by decide +kernel
theorem dX1_isAsStep_5 : decode cX1_isAsStep 5 = .ok (.istore_n 3, 1) := by decide +kernel
theorem dX1_isAsStep_6 : decode cX1_isAsStep 6 = .ok (.iload_n 3, 1) := by decide +kernel
theorem dX1_isAsStep_7 : decode cX1_isAsStep 7 = .ok (.aload_n 0, 1) := by decide +kernel
theorem dX1_isAsStep_8 : decode cX1_isAsStep 8 = .ok (.getfield 45, 3) := by decide +kernel
theorem dX1_isAsStep_11 : decode cX1_isAsStep 11 = .ok (.iload_n 2, 1) := by decide +kernel
theorem dX1_isAsStep_12 : decode cX1_isAsStep 12 = .ok (.invokevirtual 77, 3) := by decide +kernel
theorem dX1_isAsStep_15 : decode cX1_isAsStep 15 = .ok (.if_icmp .eq 5, 3) := by decide +kernel
theorem dX1_isAsStep_18 : decode cX1_isAsStep 18 = .ok (.iconst 0, 1) := by decide +kernel
theorem dX1_isAsStep_19 : decode cX1_isAsStep 19 = .ok (.ireturn, 1) := by decide +kernel
theorem dX1_isAsStep_20 : decode cX1_isAsStep 20 = .ok (.iconst 0, 1) := by decide +kernel
theorem dX1_isAsStep_21 : decode cX1_isAsStep 21 = .ok (.istore 4, 2) := by decide +kernel
theorem dX1_isAsStep_23 : decode cX1_isAsStep 23 = .ok (.iload 4, 2) := by decide +kernel
theorem dX1_isAsStep_25 : decode cX1_isAsStep 25 = .ok (.iload_n 3, 1) := by decide +kernel
theorem dX1_isAsStep_26 : decode cX1_isAsStep 26 = .ok (.if_icmp .ge 29, 3) := by decide +kernel
theorem dX1_isAsStep_29 : decode cX1_isAsStep 29 = .ok (.aload_n 0, 1) := by decide +kernel
theorem dX1_isAsStep_30 : decode cX1_isAsStep 30 = .ok (.iload_n 1, 1) := by decide +kernel
theorem dX1_isAsStep_31 : decode cX1_isAsStep 31 = .ok (.aload_n 0, 1) := by decide +kernel
theorem dX1_isAsStep_32 : decode cX1_isAsStep 32 = .ok (.getfield 45, 3) := by decide +kernel
theorem dX1_isAsStep_35 : decode cX1_isAsStep 35 = .ok (.iload_n 2, 1) := by decide +kernel
theorem dX1_isAsStep_36 : decode cX1_isAsStep 36 = .ok (.iload 4, 2) := by decide +kernel
theorem dX1_isAsStep_38 : decode cX1_isAsStep 38 = .ok (.invokevirtual 78, 3) := by decide +kernel
theorem dX1_isAsStep_41 : decode cX1_isAsStep 41 = .ok (.invokevirtual 82, 3) := by decide +kernel
theorem dX1_isAsStep_44 : decode cX1_isAsStep 44 = .ok (.ifCond .ne 5, 3) := by decide +kernel
theorem dX1_isAsStep_47 : decode cX1_isAsStep 47 = .ok (.iconst 0, 1) := by decide +kernel
theorem dX1_isAsStep_48 : decode cX1_isAsStep 48 = .ok (.ireturn, 1) := by decide +kernel
theorem dX1_isAsStep_49 : decode cX1_isAsStep 49 = .ok (.iinc 4 1, 3) := by decide +kernel
theorem dX1_isAsStep_52 : decode cX1_isAsStep 52 = .ok (.goto (-29), 3) := by decide +kernel
theorem dX1_isAsStep_55 : decode cX1_isAsStep 55 = .ok (.iconst 1, 1) := by decide +kernel
theorem dX1_isAsStep_56 : decode cX1_isAsStep 56 = .ok (.ireturn, 1) := by decide +kernel
theorem dX1_firstUse_0 : decode cX1_firstUse 0 = .ok (.aload_n 0, 1) := by decide +kernel
theorem dX1_firstUse_1 : decode cX1_firstUse 1 = .ok (.getfield 29, 3) := by decide +kernel
theorem dX1_firstUse_4 : decode cX1_firstUse 4 = .ok (.iload_n 1, 1) := by decide +kernel
theorem dX1_firstUse_5 : decode cX1_firstUse 5 = .ok (.invokestatic 86, 3) := by decide +kernel
theorem dX1_firstUse_8 : decode cX1_firstUse 8 = .ok (.invokevirtual 70, 3) := by decide +kernel
theorem dX1_firstUse_11 : decode cX1_firstUse 11 = .ok (.ireturn, 1) := by decide +kernel
theorem dX1_endOfUses_0 : decode cX1_endOfUses 0 = .ok (.aload_n 0, 1) := by decide +kernel
theorem dX1_endOfUses_1 : decode cX1_endOfUses 1 = .ok (.getfield 32, 3) := by decide +kernel
theorem dX1_endOfUses_4 : decode cX1_endOfUses 4 = .ok (.iload_n 1, 1) := by decide +kernel
theorem dX1_endOfUses_5 : decode cX1_endOfUses 5 = .ok (.invokestatic 86, 3) := by decide +kernel
theorem dX1_endOfUses_8 : decode cX1_endOfUses 8 = .ok (.invokevirtual 70, 3) := by decide +kernel
theorem dX1_endOfUses_11 : decode cX1_endOfUses 11 = .ok (.ireturn, 1) := by decide +kernel
theorem dX1_user_0 : decode cX1_user 0 = .ok (.aload_n 0, 1) := by decide +kernel
theorem dX1_user_1 : decode cX1_user 1 = .ok (.getfield 26, 3) := by decide +kernel
theorem dX1_user_4 : decode cX1_user 4 = .ok (.iload_n 1, 1) := by decide +kernel
theorem dX1_user_5 : decode cX1_user 5 = .ok (.invokevirtual 70, 3) := by decide +kernel
theorem dX1_user_8 : decode cX1_user 8 = .ok (.ireturn, 1) := by decide +kernel
theorem dX1_contains_0 : decode cX1_contains 0 = .ok (.aload_n 0, 1) := by decide +kernel
theorem dX1_contains_1 : decode cX1_contains 1 = .ok (.getfield 20, 3) := by decide +kernel
theorem dX1_contains_4 : decode cX1_contains 4 = .ok (.iload_n 1, 1) := by decide +kernel
theorem dX1_contains_5 : decode cX1_contains 5 = .ok (.iconst 1, 1) := by decide +kernel
theorem dX1_contains_6 : decode cX1_contains 6 = .ok (.isub, 1) := by decide +kernel
theorem dX1_contains_7 : decode cX1_contains 7 = .ok (.invokevirtual 70, 3) := by decide +kernel
theorem dX1_contains_10 : decode cX1_contains 10 = .ok (.istore_n 3, 1) := by decide +kernel
theorem dX1_contains_11 : decode cX1_contains 11 = .ok (.iload_n 3, 1) := by decide +kernel
theorem dX1_contains_12 : decode cX1_contains 12 = .ok (.aload_n 0, 1) := by decide +kernel
theorem dX1_contains_13 : decode cX1_contains 13 = .ok (.getfield 20, 3) := by decide +kernel
theorem dX1_contains_16 : decode cX1_contains 16 = .ok (.iload_n 1, 1) := by decide +kernel
theorem dX1_contains_17 : decode cX1_contains 17 = .ok (.invokevirtual 70, 3) := by decide +kernel
theorem dX1_contains_20 : decode cX1_contains 20 = .ok (.if_icmp .ge 23, 3) := by decide +kernel
theorem dX1_contains_23 : decode cX1_contains 23 = .ok (.aload_n 0, 1) := by decide +kernel
theorem dX1_contains_24 : decode cX1_contains 24 = .ok (.getfield 14, 3) := by decide +kernel
theorem dX1_contains_27 : decode cX1_contains 27 = .ok (.iload_n 3, 1) := by decide +kernel
theorem dX1_contains_28 : decode cX1_contains 28 = .ok (.invokevirtual 70, 3) := by decide +kernel
theorem dX1_contains_31 : decode cX1_contains 31 = .ok (.iload_n 2, 1) := by decide +kernel
theorem dX1_contains_32 : decode cX1_contains 32 = .ok (.if_icmp .ne 5, 3) := by decide +kernel
theorem dX1_contains_35 : decode cX1_contains 35 = .ok (.iconst 1, 1) := by decide +kernel
theorem dX1_contains_36 : decode cX1_contains 36 = .ok (.ireturn, 1) := by decide +kernel
theorem dX1_contains_37 : decode cX1_contains 37 = .ok (.iinc 3 1, 3) := by decide +kernel
theorem dX1_contains_40 : decode cX1_contains 40 = .ok (.goto (-29), 3) := by decide +kernel
theorem dX1_contains_43 : decode cX1_contains 43 = .ok (.iconst 0, 1) := by decide +kernel
theorem dX1_contains_44 : decode cX1_contains 44 = .ok (.ireturn, 1) := by decide +kernel
theorem dX1_append_0 : decode cX1_append 0 = .ok (.aload_n 1, 1) := by decide +kernel
theorem dX1_append_1 : decode cX1_append 1 = .ok (.iload_n 2, 1) := by decide +kernel
theorem dX1_append_2 : decode cX1_append 2 = .ok (.invokevirtual 77, 3) := by decide +kernel
theorem dX1_append_5 : decode cX1_append 5 = .ok (.istore_n 3, 1) := by decide +kernel
theorem dX1_append_6 : decode cX1_append 6 = .ok (.iconst 0, 1) := by decide +kernel
theorem dX1_append_7 : decode cX1_append 7 = .ok (.istore 4, 2) := by decide +kernel
theorem dX1_append_9 : decode cX1_append 9 = .ok (.iload 4, 2) := by decide +kernel
theorem dX1_append_11 : decode cX1_append 11 = .ok (.iload_n 3, 1) := by decide +kernel
theorem dX1_append_12 : decode cX1_append 12 = .ok (.if_icmp .ge 30, 3) := by decide +kernel
theorem dX1_append_15 : decode cX1_append 15 = .ok (.aload_n 0, 1) := by decide +kernel
theorem dX1_append_16 : decode cX1_append 16 = .ok (.getfield 14, 3) := by decide +kernel
theorem dX1_append_19 : decode cX1_append 19 = .ok (.aload_n 0, 1) := by decide +kernel
theorem dX1_append_20 : decode cX1_append 20 = .ok (.getfield 35, 3) := by decide +kernel
theorem dX1_append_23 : decode cX1_append 23 = .ok (.iload 4, 2) := by decide +kernel
theorem dX1_append_25 : decode cX1_append 25 = .ok (.iadd, 1) := by decide +kernel
theorem dX1_append_26 : decode cX1_append 26 = .ok (.aload_n 1, 1) := by decide +kernel
theorem dX1_append_27 : decode cX1_append 27 = .ok (.iload_n 2, 1) := by decide +kernel
theorem dX1_append_28 : decode cX1_append 28 = .ok (.iload 4, 2) := by decide +kernel
theorem dX1_append_30 : decode cX1_append 30 = .ok (.invokevirtual 78, 3) := by decide +kernel
theorem dX1_append_33 : decode cX1_append 33 = .ok (.invokevirtual 63, 3) := by decide +kernel
theorem dX1_append_36 : decode cX1_append 36 = .ok (.iinc 4 1, 3) := by decide +kernel
theorem dX1_append_39 : decode cX1_append 39 = .ok (.goto (-30), 3) := by decide +kernel
theorem dX1_append_42 : decode cX1_append 42 = .ok (.aload_n 0, 1) := by decide +kernel
theorem dX1_append_43 : decode cX1_append 43 = .ok (.dup, 1) := by decide +kernel
theorem dX1_append_44 : decode cX1_append 44 = .ok (.getfield 35, 3) := by decide +kernel
theorem dX1_append_47 : decode cX1_append 47 = .ok (.iload_n 3, 1) := by decide +kernel
theorem dX1_append_48 : decode cX1_append 48 = .ok (.iadd, 1) := by decide +kernel
theorem dX1_append_49 : decode cX1_append 49 = .ok (.putfield 35, 3) := by decide +kernel
theorem dX1_append_52 : decode cX1_append 52 = .ok (.aload_n 0, 1) := by decide +kernel
theorem dX1_append_53 : decode cX1_append 53 = .ok (.dup, 1) := by decide +kernel
theorem dX1_append_54 : decode cX1_append 54 = .ok (.getfield 42, 3) := by decide +kernel
theorem dX1_append_57 : decode cX1_append 57 = .ok (.iconst 1, 1) := by decide +kernel
theorem dX1_append_58 : decode cX1_append 58 = .ok (.iadd, 1) := by decide +kernel
theorem dX1_append_59 : decode cX1_append 59 = .ok (.putfield 42, 3) := by decide +kernel
theorem dX1_append_62 : decode cX1_append 62 = .ok (.aload_n 0, 1) := by decide +kernel
theorem dX1_append_63 : decode cX1_append 63 = .ok (.getfield 20, 3) := by decide +kernel
theorem dX1_append_66 : decode cX1_append 66 = .ok (.aload_n 0, 1) := by decide +kernel
theorem dX1_append_67 : decode cX1_append 67 = .ok (.getfield 42, 3) := by decide +kernel
theorem dX1_append_70 : decode cX1_append 70 = .ok (.aload_n 0, 1) := by decide +kernel
theorem dX1_append_71 : decode cX1_append 71 = .ok (.getfield 35, 3) := by decide +kernel
theorem dX1_append_74 : decode cX1_append 74 = .ok (.invokevirtual 63, 3) := by decide +kernel
theorem dX1_append_77 : decode cX1_append 77 = .ok (.return_, 1) := by decide +kernel
theorem dX1_listUsers_0 : decode cX1_listUsers 0 = .ok (.aload_n 0, 1) := by decide +kernel
theorem dX1_listUsers_1 : decode cX1_listUsers 1 = .ok (.invokevirtual 89, 3) := by decide +kernel
theorem dX1_listUsers_4 : decode cX1_listUsers 4 = .ok (.iconst 1, 1) := by decide +kernel
theorem dX1_listUsers_5 : decode cX1_listUsers 5 = .ok (.istore_n 1, 1) := by decide +kernel
theorem dX1_listUsers_6 : decode cX1_listUsers 6 = .ok (.iload_n 1, 1) := by decide +kernel
theorem dX1_listUsers_7 : decode cX1_listUsers 7 = .ok (.aload_n 0, 1) := by decide +kernel
theorem dX1_listUsers_8 : decode cX1_listUsers 8 = .ok (.getfield 42, 3) := by decide +kernel
theorem dX1_listUsers_11 : decode cX1_listUsers 11 = .ok (.if_icmp .gt 76, 3) := by decide +kernel
theorem dX1_listUsers_14 : decode cX1_listUsers 14 = .ok (.aload_n 0, 1) := by decide +kernel
theorem dX1_listUsers_15 : decode cX1_listUsers 15 = .ok (.iload_n 1, 1) := by decide +kernel
theorem dX1_listUsers_16 : decode cX1_listUsers 16 = .ok (.invokevirtual 74, 3) := by decide +kernel
theorem dX1_listUsers_19 : decode cX1_listUsers 19 = .ok (.istore_n 2, 1) := by decide +kernel
theorem dX1_listUsers_20 : decode cX1_listUsers 20 = .ok (.iconst 0, 1) := by decide +kernel
theorem dX1_listUsers_21 : decode cX1_listUsers 21 = .ok (.istore_n 3, 1) := by decide +kernel
theorem dX1_listUsers_22 : decode cX1_listUsers 22 = .ok (.iload_n 3, 1) := by decide +kernel
theorem dX1_listUsers_23 : decode cX1_listUsers 23 = .ok (.iload_n 2, 1) := by decide +kernel
theorem dX1_listUsers_24 : decode cX1_listUsers 24 = .ok (.if_icmp .ge 57, 3) := by decide +kernel
theorem dX1_listUsers_27 : decode cX1_listUsers 27 = .ok (.aload_n 0, 1) := by decide +kernel
theorem dX1_listUsers_28 : decode cX1_listUsers 28 = .ok (.iload_n 1, 1) := by decide +kernel
theorem dX1_listUsers_29 : decode cX1_listUsers 29 = .ok (.iload_n 3, 1) := by decide +kernel
theorem dX1_listUsers_30 : decode cX1_listUsers 30 = .ok (.invokevirtual 92, 3) := by decide +kernel
theorem dX1_listUsers_33 : decode cX1_listUsers 33 = .ok (.invokestatic 86, 3) := by decide +kernel
theorem dX1_listUsers_36 : decode cX1_listUsers 36 = .ok (.istore 4, 2) := by decide +kernel
theorem dX1_listUsers_38 : decode cX1_listUsers 38 = .ok (.aload_n 0, 1) := by decide +kernel
theorem dX1_listUsers_39 : decode cX1_listUsers 39 = .ok (.getfield 26, 3) := by decide +kernel
theorem dX1_listUsers_42 : decode cX1_listUsers 42 = .ok (.aload_n 0, 1) := by decide +kernel
theorem dX1_listUsers_43 : decode cX1_listUsers 43 = .ok (.getfield 32, 3) := by decide +kernel
theorem dX1_listUsers_46 : decode cX1_listUsers 46 = .ok (.iload 4, 2) := by decide +kernel
theorem dX1_listUsers_48 : decode cX1_listUsers 48 = .ok (.invokevirtual 70, 3) := by decide +kernel
theorem dX1_listUsers_51 : decode cX1_listUsers 51 = .ok (.iload_n 1, 1) := by decide +kernel
theorem dX1_listUsers_52 : decode cX1_listUsers 52 = .ok (.invokevirtual 63, 3) := by decide +kernel
theorem dX1_listUsers_55 : decode cX1_listUsers 55 = .ok (.aload_n 0, 1) := by decide +kernel
theorem dX1_listUsers_56 : decode cX1_listUsers 56 = .ok (.getfield 32, 3) := by decide +kernel
theorem dX1_listUsers_59 : decode cX1_listUsers 59 = .ok (.iload 4, 2) := by decide +kernel
theorem dX1_listUsers_61 : decode cX1_listUsers 61 = .ok (.aload_n 0, 1) := by decide +kernel
theorem dX1_listUsers_62 : decode cX1_listUsers 62 = .ok (.getfield 32, 3) := by decide +kernel
theorem dX1_listUsers_65 : decode cX1_listUsers 65 = .ok (.iload 4, 2) := by decide +kernel
theorem dX1_listUsers_67 : decode cX1_listUsers 67 = .ok (.invokevirtual 70, 3) := by decide +kernel
theorem dX1_listUsers_70 : decode cX1_listUsers 70 = .ok (.iconst 1, 1) := by decide +kernel
theorem dX1_listUsers_71 : decode cX1_listUsers 71 = .ok (.iadd, 1) := by decide +kernel
theorem dX1_listUsers_72 : decode cX1_listUsers 72 = .ok (.invokevirtual 63, 3) := by decide +kernel
theorem dX1_listUsers_75 : decode cX1_listUsers 75 = .ok (.iinc 3 1, 3) := by decide +kernel
theorem dX1_listUsers_78 : decode cX1_listUsers 78 = .ok (.goto (-56), 3) := by decide +kernel
theorem dX1_listUsers_81 : decode cX1_listUsers 81 = .ok (.iinc 1 1, 3) := by decide +kernel
theorem dX1_listUsers_84 : decode cX1_listUsers 84 = .ok (.goto (-78), 3) := by decide +kernel
theorem dX1_listUsers_87 : decode cX1_listUsers 87 = .ok (.return_, 1) := by decide +kernel
theorem dX1_reserveUses_0 : decode cX1_reserveUses 0 = .ok (.aload_n 0, 1) := by decide +kernel
theorem dX1_reserveUses_1 : decode cX1_reserveUses 1 = .ok (.getfield 32, 3) := by decide +kernel
theorem dX1_reserveUses_4 : decode cX1_reserveUses 4 = .ok (.iconst 0, 1) := by decide +kernel
theorem dX1_reserveUses_5 : decode cX1_reserveUses 5 = .ok (.invokevirtual 93, 3) := by decide +kernel
theorem dX1_reserveUses_8 : decode cX1_reserveUses 8 = .ok (.iconst 0, 1) := by decide +kernel
theorem dX1_reserveUses_9 : decode cX1_reserveUses 9 = .ok (.istore_n 1, 1) := by decide +kernel
theorem dX1_reserveUses_10 : decode cX1_reserveUses 10 = .ok (.iload_n 1, 1) := by decide +kernel
theorem dX1_reserveUses_11 : decode cX1_reserveUses 11 = .ok (.aload_n 0, 1) := by decide +kernel
theorem dX1_reserveUses_12 : decode cX1_reserveUses 12 = .ok (.getfield 35, 3) := by decide +kernel
theorem dX1_reserveUses_15 : decode cX1_reserveUses 15 = .ok (.if_icmp .ge 39, 3) := by decide +kernel
theorem dX1_reserveUses_18 : decode cX1_reserveUses 18 = .ok (.aload_n 0, 1) := by decide +kernel
theorem dX1_reserveUses_19 : decode cX1_reserveUses 19 = .ok (.getfield 14, 3) := by decide +kernel
theorem dX1_reserveUses_22 : decode cX1_reserveUses 22 = .ok (.iload_n 1, 1) := by decide +kernel
theorem dX1_reserveUses_23 : decode cX1_reserveUses 23 = .ok (.invokevirtual 70, 3) := by decide +kernel
theorem dX1_reserveUses_26 : decode cX1_reserveUses 26 = .ok (.invokestatic 86, 3) := by decide +kernel
theorem dX1_reserveUses_29 : decode cX1_reserveUses 29 = .ok (.istore_n 2, 1) := by decide +kernel
theorem dX1_reserveUses_30 : decode cX1_reserveUses 30 = .ok (.aload_n 0, 1) := by decide +kernel
theorem dX1_reserveUses_31 : decode cX1_reserveUses 31 = .ok (.getfield 32, 3) := by decide +kernel
theorem dX1_reserveUses_34 : decode cX1_reserveUses 34 = .ok (.iload_n 2, 1) := by decide +kernel
theorem dX1_reserveUses_35 : decode cX1_reserveUses 35 = .ok (.aload_n 0, 1) := by decide +kernel
theorem dX1_reserveUses_36 : decode cX1_reserveUses 36 = .ok (.getfield 32, 3) := by decide +kernel
theorem dX1_reserveUses_39 : decode cX1_reserveUses 39 = .ok (.iload_n 2, 1) := by decide +kernel
theorem dX1_reserveUses_40 : decode cX1_reserveUses 40 = .ok (.invokevirtual 70, 3) := by decide +kernel
theorem dX1_reserveUses_43 : decode cX1_reserveUses 43 = .ok (.iconst 1, 1) := by decide +kernel
theorem dX1_reserveUses_44 : decode cX1_reserveUses 44 = .ok (.iadd, 1) := by decide +kernel
theorem dX1_reserveUses_45 : decode cX1_reserveUses 45 = .ok (.invokevirtual 63, 3) := by decide +kernel
theorem dX1_reserveUses_48 : decode cX1_reserveUses 48 = .ok (.iinc 1 1, 3) := by decide +kernel
theorem dX1_reserveUses_51 : decode cX1_reserveUses 51 = .ok (.goto (-41), 3) := by decide +kernel
theorem dX1_reserveUses_54 : decode cX1_reserveUses 54 = .ok (.iconst 0, 1) := by decide +kernel
theorem dX1_reserveUses_55 : decode cX1_reserveUses 55 = .ok (.istore_n 1, 1) := by decide +kernel
theorem dX1_reserveUses_56 : decode cX1_reserveUses 56 = .ok (.iconst 0, 1) := by decide +kernel
theorem dX1_reserveUses_57 : decode cX1_reserveUses 57 = .ok (.istore_n 2, 1) := by decide +kernel
theorem dX1_reserveUses_58 : decode cX1_reserveUses 58 = .ok (.iload_n 2, 1) := by decide +kernel
theorem dX1_reserveUses_59 : decode cX1_reserveUses 59 = .ok (.sipush 301, 3) := by decide +kernel
theorem dX1_reserveUses_62 : decode cX1_reserveUses 62 = .ok (.if_icmp .gt 40, 3) := by decide +kernel
theorem dX1_reserveUses_65 : decode cX1_reserveUses 65 = .ok (.aload_n 0, 1) := by decide +kernel
theorem dX1_reserveUses_66 : decode cX1_reserveUses 66 = .ok (.getfield 32, 3) := by decide +kernel
theorem dX1_reserveUses_69 : decode cX1_reserveUses 69 = .ok (.iload_n 2, 1) := by decide +kernel
theorem dX1_reserveUses_70 : decode cX1_reserveUses 70 = .ok (.invokevirtual 70, 3) := by decide +kernel
theorem dX1_reserveUses_73 : decode cX1_reserveUses 73 = .ok (.istore_n 3, 1) := by decide +kernel
theorem dX1_reserveUses_74 : decode cX1_reserveUses 74 = .ok (.aload_n 0, 1) := by decide +kernel
theorem dX1_reserveUses_75 : decode cX1_reserveUses 75 = .ok (.getfield 29, 3) := by decide +kernel
theorem dX1_reserveUses_78 : decode cX1_reserveUses 78 = .ok (.iload_n 2, 1) := by decide +kernel
theorem dX1_reserveUses_79 : decode cX1_reserveUses 79 = .ok (.iload_n 1, 1) := by decide +kernel
theorem dX1_reserveUses_80 : decode cX1_reserveUses 80 = .ok (.invokevirtual 63, 3) := by decide +kernel
theorem dX1_reserveUses_83 : decode cX1_reserveUses 83 = .ok (.aload_n 0, 1) := by decide +kernel
theorem dX1_reserveUses_84 : decode cX1_reserveUses 84 = .ok (.getfield 32, 3) := by decide +kernel
theorem dX1_reserveUses_87 : decode cX1_reserveUses 87 = .ok (.iload_n 2, 1) := by decide +kernel
theorem dX1_reserveUses_88 : decode cX1_reserveUses 88 = .ok (.iload_n 1, 1) := by decide +kernel
theorem dX1_reserveUses_89 : decode cX1_reserveUses 89 = .ok (.invokevirtual 63, 3) := by decide +kernel
theorem dX1_reserveUses_92 : decode cX1_reserveUses 92 = .ok (.iload_n 1, 1) := by decide +kernel
theorem dX1_reserveUses_93 : decode cX1_reserveUses 93 = .ok (.iload_n 3, 1) := by decide +kernel
theorem dX1_reserveUses_94 : decode cX1_reserveUses 94 = .ok (.iadd, 1) := by decide +kernel
theorem dX1_reserveUses_95 : decode cX1_reserveUses 95 = .ok (.istore_n 1, 1) := by decide +kernel
theorem dX1_reserveUses_96 : decode cX1_reserveUses 96 = .ok (.iinc 2 1, 3) := by decide +kernel
theorem dX1_reserveUses_99 : decode cX1_reserveUses 99 = .ok (.goto (-41), 3) := by decide +kernel
theorem dX1_reserveUses_102 : decode cX1_reserveUses 102 = .ok (.return_, 1) := by decide +kernel
theorem dX2_init_0 : decode cX2_init 0 = .ok (.aload_n 0, 1) := by decide +kernel
theorem dX2_init_1 : decode cX2_init 1 = .ok (.invokespecial 3, 3) := by decide +kernel
theorem dX2_init_4 : decode cX2_init 4 = .ok (.aload_n 0, 1) := by decide +kernel
theorem dX2_init_5 : decode cX2_init 5 = .ok (.new 9, 3) := by decide +kernel
theorem dX2_init_8 : decode cX2_init 8 = .ok (.dup, 1) := by decide +kernel
theorem dX2_init_9 : decode cX2_init 9 = .ok (.sipush 4000, 3) := by decide +kernel
theorem dX2_init_12 : decode cX2_init 12 = .ok (.invokespecial 11, 3) := by decide +kernel
theorem dX2_init_15 : decode cX2_init 15 = .ok (.putfield 14, 3) := by decide +kernel
theorem dX2_init_18 : decode cX2_init 18 = .ok (.aload_n 0, 1) := by decide +kernel
theorem dX2_init_19 : decode cX2_init 19 = .ok (.new 9, 3) := by decide +kernel
theorem dX2_init_22 : decode cX2_init 22 = .ok (.dup, 1) := by decide +kernel
theorem dX2_init_23 : decode cX2_init 23 = .ok (.sipush 601, 3) := by decide +kernel
theorem dX2_init_26 : decode cX2_init 26 = .ok (.invokespecial 11, 3) := by decide +kernel
theorem dX2_init_29 : decode cX2_init 29 = .ok (.putfield 20, 3) := by decide +kernel
theorem dX2_init_32 : decode cX2_init 32 = .ok (.aload_n 0, 1) := by decide +kernel
theorem dX2_init_33 : decode cX2_init 33 = .ok (.new 9, 3) := by decide +kernel
theorem dX2_init_36 : decode cX2_init 36 = .ok (.dup, 1) := by decide +kernel
theorem dX2_init_37 : decode cX2_init 37 = .ok (.sipush 601, 3) := by decide +kernel
theorem dX2_init_40 : decode cX2_init 40 = .ok (.invokespecial 11, 3) := by decide +kernel
theorem dX2_init_43 : decode cX2_init 43 = .ok (.putfield 23, 3) := by decide +kernel
theorem dX2_init_46 : decode cX2_init 46 = .ok (.aload_n 0, 1) := by decide +kernel
theorem dX2_init_47 : decode cX2_init 47 = .ok (.iconst 0, 1) := by decide +kernel
theorem dX2_init_48 : decode cX2_init 48 = .ok (.putfield 26, 3) := by decide +kernel
theorem dX2_init_51 : decode cX2_init 51 = .ok (.return_, 1) := by decide +kernel
theorem dX2_clear_0 : decode cX2_clear 0 = .ok (.aload_n 0, 1) := by decide +kernel
theorem dX2_clear_1 : decode cX2_clear 1 = .ok (.iconst 0, 1) := by decide +kernel
theorem dX2_clear_2 : decode cX2_clear 2 = .ok (.putfield 26, 3) := by decide +kernel
theorem dX2_clear_5 : decode cX2_clear 5 = .ok (.aload_n 0, 1) := by decide +kernel
theorem dX2_clear_6 : decode cX2_clear 6 = .ok (.getfield 20, 3) := by decide +kernel
theorem dX2_clear_9 : decode cX2_clear 9 = .ok (.iconst 0, 1) := by decide +kernel
theorem dX2_clear_10 : decode cX2_clear 10 = .ok (.invokevirtual 30, 3) := by decide +kernel
theorem dX2_clear_13 : decode cX2_clear 13 = .ok (.aload_n 0, 1) := by decide +kernel
theorem dX2_clear_14 : decode cX2_clear 14 = .ok (.getfield 23, 3) := by decide +kernel
theorem dX2_clear_17 : decode cX2_clear 17 = .ok (.iconst 0, 1) := by decide +kernel
theorem dX2_clear_18 : decode cX2_clear 18 = .ok (.invokevirtual 30, 3) := by decide +kernel
theorem dX2_clear_21 : decode cX2_clear 21 = .ok (.return_, 1) := by decide +kernel
theorem dX2_open_0 : decode cX2_open 0 = .ok (.aload_n 0, 1) := by decide +kernel
theorem dX2_open_1 : decode cX2_open 1 = .ok (.getfield 20, 3) := by decide +kernel
theorem dX2_open_4 : decode cX2_open 4 = .ok (.iload_n 1, 1) := by decide +kernel
theorem dX2_open_5 : decode cX2_open 5 = .ok (.aload_n 0, 1) := by decide +kernel
theorem dX2_open_6 : decode cX2_open 6 = .ok (.getfield 26, 3) := by decide +kernel
theorem dX2_open_9 : decode cX2_open 9 = .ok (.invokevirtual 33, 3) := by decide +kernel
theorem dX2_open_12 : decode cX2_open 12 = .ok (.aload_n 0, 1) := by decide +kernel
theorem dX2_open_13 : decode cX2_open 13 = .ok (.getfield 23, 3) := by decide +kernel
theorem dX2_open_16 : decode cX2_open 16 = .ok (.iload_n 1, 1) := by decide +kernel
theorem dX2_open_17 : decode cX2_open 17 = .ok (.aload_n 0, 1) := by decide +kernel
theorem dX2_open_18 : decode cX2_open 18 = .ok (.getfield 26, 3) := by decide +kernel
theorem dX2_open_21 : decode cX2_open 21 = .ok (.invokevirtual 33, 3) := by decide +kernel
theorem dX2_open_24 : decode cX2_open 24 = .ok (.return_, 1) := by decide +kernel
theorem dX2_add_0 : decode cX2_add 0 = .ok (.aload_n 0, 1) := by decide +kernel
theorem dX2_add_1 : decode cX2_add 1 = .ok (.getfield 26, 3) := by decide +kernel
theorem dX2_add_4 : decode cX2_add 4 = .ok (.sipush 4000, 3) := by decide +kernel
theorem dX2_add_7 : decode cX2_add 7 = .ok (.if_icmp .ge 37, 3) := by decide +kernel
theorem dX2_add_10 : decode cX2_add 10 = .ok (.aload_n 0, 1) := by decide +kernel
theorem dX2_add_11 : decode cX2_add 11 = .ok (.getfield 14, 3) := by decide +kernel
theorem dX2_add_14 : decode cX2_add 14 = .ok (.aload_n 0, 1) := by decide +kernel
theorem dX2_add_15 : decode cX2_add 15 = .ok (.getfield 26, 3) := by decide +kernel
theorem dX2_add_18 : decode cX2_add 18 = .ok (.iload_n 2, 1) := by decide +kernel
theorem dX2_add_19 : decode cX2_add 19 = .ok (.invokevirtual 33, 3) := by decide +kernel
theorem dX2_add_22 : decode cX2_add 22 = .ok (.aload_n 0, 1) := by decide +kernel
theorem dX2_add_23 : decode cX2_add 23 = .ok (.dup, 1) := by decide +kernel
theorem dX2_add_24 : decode cX2_add 24 = .ok (.getfield 26, 3) := by decide +kernel
theorem dX2_add_27 : decode cX2_add 27 = .ok (.iconst 1, 1) := by decide +kernel
theorem dX2_add_28 : decode cX2_add 28 = .ok (.iadd, 1) := by decide +kernel
theorem dX2_add_29 : decode cX2_add 29 = .ok (.putfield 26, 3) := by decide +kernel
theorem dX2_add_32 : decode cX2_add 32 = .ok (.aload_n 0, 1) := by decide +kernel
theorem dX2_add_33 : decode cX2_add 33 = .ok (.getfield 23, 3) := by decide +kernel
theorem dX2_add_36 : decode cX2_add 36 = .ok (.iload_n 1, 1) := by decide +kernel
theorem dX2_add_37 : decode cX2_add 37 = .ok (.aload_n 0, 1) := by decide +kernel
theorem dX2_add_38 : decode cX2_add 38 = .ok (.getfield 26, 3) := by decide +kernel
theorem dX2_add_41 : decode cX2_add 41 = .ok (.invokevirtual 33, 3) := by decide +kernel
theorem dX2_add_44 : decode cX2_add 44 = .ok (.return_, 1) := by decide +kernel
theorem dX2_drop_0 : decode cX2_drop 0 = .ok (.aload_n 0, 1) := by decide +kernel
theorem dX2_drop_1 : decode cX2_drop 1 = .ok (.aload_n 0, 1) := by decide +kernel
theorem dX2_drop_2 : decode cX2_drop 2 = .ok (.getfield 20, 3) := by decide +kernel
theorem dX2_drop_5 : decode cX2_drop 5 = .ok (.iload_n 1, 1) := by decide +kernel
theorem dX2_drop_6 : decode cX2_drop 6 = .ok (.invokevirtual 37, 3) := by decide +kernel
theorem dX2_drop_9 : decode cX2_drop 9 = .ok (.putfield 26, 3) := by decide +kernel
theorem dX2_drop_12 : decode cX2_drop 12 = .ok (.aload_n 0, 1) := by decide +kernel
theorem dX2_drop_13 : decode cX2_drop 13 = .ok (.getfield 23, 3) := by decide +kernel
theorem dX2_drop_16 : decode cX2_drop 16 = .ok (.iload_n 1, 1) := by decide +kernel
theorem dX2_drop_17 : decode cX2_drop 17 = .ok (.aload_n 0, 1) := by decide +kernel
theorem dX2_drop_18 : decode cX2_drop 18 = .ok (.getfield 26, 3) := by decide +kernel
theorem dX2_drop_21 : decode cX2_drop 21 = .ok (.invokevirtual 33, 3) := by decide +kernel
theorem dX2_drop_24 : decode cX2_drop 24 = .ok (.return_, 1) := by decide +kernel
theorem dX2_at_0 : decode cX2_at 0 = .ok (.aload_n 0, 1) := by decide +kernel
theorem dX2_at_1 : decode cX2_at 1 = .ok (.getfield 20, 3) := by decide +kernel
theorem dX2_at_4 : decode cX2_at 4 = .ok (.iload_n 1, 1) := by decide +kernel
theorem dX2_at_5 : decode cX2_at 5 = .ok (.invokevirtual 37, 3) := by decide +kernel
theorem dX2_at_8 : decode cX2_at 8 = .ok (.istore_n 3, 1) := by decide +kernel
theorem dX2_at_9 : decode cX2_at 9 = .ok (.iload_n 2, 1) := by decide +kernel
theorem dX2_at_10 : decode cX2_at 10 = .ok (.ifCond .lt 30, 3) := by decide +kernel
theorem dX2_at_13 : decode cX2_at 13 = .ok (.iload_n 2, 1) := by decide +kernel
theorem dX2_at_14 : decode cX2_at 14 = .ok (.aload_n 0, 1) := by decide +kernel
theorem dX2_at_15 : decode cX2_at 15 = .ok (.getfield 23, 3) := by decide +kernel
theorem dX2_at_18 : decode cX2_at 18 = .ok (.iload_n 1, 1) := by decide +kernel
theorem dX2_at_19 : decode cX2_at 19 = .ok (.invokevirtual 37, 3) := by decide +kernel
theorem dX2_at_22 : decode cX2_at 22 = .ok (.iload_n 3, 1) := by decide +kernel
theorem dX2_at_23 : decode cX2_at 23 = .ok (.isub, 1) := by decide +kernel
theorem dX2_at_24 : decode cX2_at 24 = .ok (.if_icmp .ge 16, 3) := by decide +kernel
theorem dX2_at_27 : decode cX2_at 27 = .ok (.aload_n 0, 1) := by decide +kernel
theorem dX2_at_28 : decode cX2_at 28 = .ok (.getfield 14, 3) := by decide +kernel
theorem dX2_at_31 : decode cX2_at 31 = .ok (.iload_n 3, 1) := by decide +kernel
theorem dX2_at_32 : decode cX2_at 32 = .ok (.iload_n 2, 1) := by decide +kernel
theorem dX2_at_33 : decode cX2_at 33 = .ok (.iadd, 1) := by decide +kernel
theorem dX2_at_34 : decode cX2_at 34 = .ok (.invokevirtual 37, 3) := by decide +kernel
theorem dX2_at_37 : decode cX2_at 37 = .ok (.goto 4, 3) := by decide +kernel
theorem dX2_at_40 : decode cX2_at 40 = .ok (.iconst 0, 1) := by decide +kernel
theorem dX2_at_41 : decode cX2_at 41 = .ok (.ireturn, 1) := by decide +kernel
theorem dX3_init_0 : decode cX3_init 0 = .ok (.aload_n 0, 1) := by decide +kernel
theorem dX3_init_1 : decode cX3_init 1 = .ok (.invokespecial 3, 3) := by decide +kernel
theorem dX3_init_4 : decode cX3_init 4 = .ok (.aload_n 0, 1) := by decide +kernel
theorem dX3_init_5 : decode cX3_init 5 = .ok (.new 9, 3) := by decide +kernel
theorem dX3_init_8 : decode cX3_init 8 = .ok (.dup, 1) := by decide +kernel
theorem dX3_init_9 : decode cX3_init 9 = .ok (.invokespecial 11, 3) := by decide +kernel
theorem dX3_init_12 : decode cX3_init 12 = .ok (.putfield 12, 3) := by decide +kernel
theorem dX3_init_15 : decode cX3_init 15 = .ok (.aload_n 0, 1) := by decide +kernel
theorem dX3_init_16 : decode cX3_init 16 = .ok (.new 18, 3) := by decide +kernel
theorem dX3_init_19 : decode cX3_init 19 = .ok (.dup, 1) := by decide +kernel
theorem dX3_init_20 : decode cX3_init 20 = .ok (.sipush 301, 3) := by decide +kernel
theorem dX3_init_23 : decode cX3_init 23 = .ok (.invokespecial 20, 3) := by decide +kernel
theorem dX3_init_26 : decode cX3_init 26 = .ok (.putfield 23, 3) := by decide +kernel
theorem dX3_init_29 : decode cX3_init 29 = .ok (.aload_n 0, 1) := by decide +kernel
theorem dX3_init_30 : decode cX3_init 30 = .ok (.iconst 0, 1) := by decide +kernel
theorem dX3_init_31 : decode cX3_init 31 = .ok (.putfield 27, 3) := by decide +kernel
theorem dX3_init_34 : decode cX3_init 34 = .ok (.aload_n 0, 1) := by decide +kernel
theorem dX3_init_35 : decode cX3_init 35 = .ok (.iconst 0, 1) := by decide +kernel
theorem dX3_init_36 : decode cX3_init 36 = .ok (.putfield 31, 3) := by decide +kernel
theorem dX3_init_39 : decode cX3_init 39 = .ok (.aload_n 0, 1) := by decide +kernel
theorem dX3_init_40 : decode cX3_init 40 = .ok (.iconst (-1), 1) := by decide +kernel
theorem dX3_init_41 : decode cX3_init 41 = .ok (.putfield 34, 3) := by decide +kernel
theorem dX3_init_44 : decode cX3_init 44 = .ok (.aload_n 0, 1) := by decide +kernel
theorem dX3_init_45 : decode cX3_init 45 = .ok (.iconst (-1), 1) := by decide +kernel
theorem dX3_init_46 : decode cX3_init 46 = .ok (.putfield 38, 3) := by decide +kernel
theorem dX3_init_49 : decode cX3_init 49 = .ok (.aload_n 0, 1) := by decide +kernel
theorem dX3_init_50 : decode cX3_init 50 = .ok (.iconst (-1), 1) := by decide +kernel
theorem dX3_init_51 : decode cX3_init 51 = .ok (.putfield 41, 3) := by decide +kernel
theorem dX3_init_54 : decode cX3_init 54 = .ok (.aload_n 0, 1) := by decide +kernel
theorem dX3_init_55 : decode cX3_init 55 = .ok (.iconst 0, 1) := by decide +kernel
theorem dX3_init_56 : decode cX3_init 56 = .ok (.putfield 44, 3) := by decide +kernel
theorem dX3_init_59 : decode cX3_init 59 = .ok (.aload_n 0, 1) := by decide +kernel
theorem dX3_init_60 : decode cX3_init 60 = .ok (.iconst 0, 1) := by decide +kernel
theorem dX3_init_61 : decode cX3_init 61 = .ok (.putfield 47, 3) := by decide +kernel
theorem dX3_init_64 : decode cX3_init 64 = .ok (.aload_n 0, 1) := by decide +kernel
theorem dX3_init_65 : decode cX3_init 65 = .ok (.aload_n 1, 1) := by decide +kernel
theorem dX3_init_66 : decode cX3_init 66 = .ok (.putfield 50, 3) := by decide +kernel
theorem dX3_init_69 : decode cX3_init 69 = .ok (.aload_n 0, 1) := by decide +kernel
theorem dX3_init_70 : decode cX3_init 70 = .ok (.new 54, 3) := by decide +kernel
theorem dX3_init_73 : decode cX3_init 73 = .ok (.dup, 1) := by decide +kernel
theorem dX3_init_74 : decode cX3_init 74 = .ok (.aload_n 1, 1) := by decide +kernel
theorem dX3_init_75 : decode cX3_init 75 = .ok (.invokespecial 56, 3) := by decide +kernel
theorem dX3_init_78 : decode cX3_init 78 = .ok (.putfield 59, 3) := by decide +kernel
theorem dX3_init_81 : decode cX3_init 81 = .ok (.return_, 1) := by decide +kernel
theorem dX3_forget_0 : decode cX3_forget 0 = .ok (.aload_n 0, 1) := by decide +kernel
theorem dX3_forget_1 : decode cX3_forget 1 = .ok (.getfield 59, 3) := by decide +kernel
theorem dX3_forget_4 : decode cX3_forget 4 = .ok (.invokevirtual 63, 3) := by decide +kernel
theorem dX3_forget_7 : decode cX3_forget 7 = .ok (.aload_n 0, 1) := by decide +kernel
theorem dX3_forget_8 : decode cX3_forget 8 = .ok (.getfield 12, 3) := by decide +kernel
theorem dX3_forget_11 : decode cX3_forget 11 = .ok (.invokevirtual 66, 3) := by decide +kernel
theorem dX3_forget_14 : decode cX3_forget 14 = .ok (.aload_n 0, 1) := by decide +kernel
theorem dX3_forget_15 : decode cX3_forget 15 = .ok (.getfield 23, 3) := by decide +kernel
theorem dX3_forget_18 : decode cX3_forget 18 = .ok (.iconst 0, 1) := by decide +kernel
theorem dX3_forget_19 : decode cX3_forget 19 = .ok (.invokevirtual 69, 3) := by decide +kernel
theorem dX3_forget_22 : decode cX3_forget 22 = .ok (.aload_n 0, 1) := by decide +kernel
theorem dX3_forget_23 : decode cX3_forget 23 = .ok (.iconst (-1), 1) := by decide +kernel
theorem dX3_forget_24 : decode cX3_forget 24 = .ok (.putfield 34, 3) := by decide +kernel
theorem dX3_forget_27 : decode cX3_forget 27 = .ok (.aload_n 0, 1) := by decide +kernel
theorem dX3_forget_28 : decode cX3_forget 28 = .ok (.iconst (-1), 1) := by decide +kernel
theorem dX3_forget_29 : decode cX3_forget 29 = .ok (.putfield 38, 3) := by decide +kernel
theorem dX3_forget_32 : decode cX3_forget 32 = .ok (.aload_n 0, 1) := by decide +kernel
theorem dX3_forget_33 : decode cX3_forget 33 = .ok (.iconst (-1), 1) := by decide +kernel
theorem dX3_forget_34 : decode cX3_forget 34 = .ok (.putfield 41, 3) := by decide +kernel
theorem dX3_forget_37 : decode cX3_forget 37 = .ok (.aload_n 0, 1) := by decide +kernel
theorem dX3_forget_38 : decode cX3_forget 38 = .ok (.iconst 0, 1) := by decide +kernel
theorem dX3_forget_39 : decode cX3_forget 39 = .ok (.putfield 44, 3) := by decide +kernel
theorem dX3_forget_42 : decode cX3_forget 42 = .ok (.aload_n 0, 1) := by decide +kernel
theorem dX3_forget_43 : decode cX3_forget 43 = .ok (.iconst 0, 1) := by decide +kernel
theorem dX3_forget_44 : decode cX3_forget 44 = .ok (.putfield 47, 3) := by decide +kernel
theorem dX3_forget_47 : decode cX3_forget 47 = .ok (.return_, 1) := by decide +kernel
theorem dX3_begin_0 : decode cX3_begin 0 = .ok (.aload_n 0, 1) := by decide +kernel
theorem dX3_begin_1 : decode cX3_begin 1 = .ok (.invokevirtual 72, 3) := by decide +kernel
theorem dX3_begin_4 : decode cX3_begin 4 = .ok (.aload_n 0, 1) := by decide +kernel
theorem dX3_begin_5 : decode cX3_begin 5 = .ok (.iload_n 1, 1) := by decide +kernel
theorem dX3_begin_6 : decode cX3_begin 6 = .ok (.putfield 27, 3) := by decide +kernel
theorem dX3_begin_9 : decode cX3_begin 9 = .ok (.aload_n 0, 1) := by decide +kernel
theorem dX3_begin_10 : decode cX3_begin 10 = .ok (.iload_n 2, 1) := by decide +kernel
theorem dX3_begin_11 : decode cX3_begin 11 = .ok (.putfield 31, 3) := by decide +kernel
theorem dX3_begin_14 : decode cX3_begin 14 = .ok (.aload_n 0, 1) := by decide +kernel
theorem dX3_begin_15 : decode cX3_begin 15 = .ok (.getfield 59, 3) := by decide +kernel
theorem dX3_begin_18 : decode cX3_begin 18 = .ok (.iload_n 3, 1) := by decide +kernel
theorem dX3_begin_19 : decode cX3_begin 19 = .ok (.invokevirtual 73, 3) := by decide +kernel
theorem dX3_begin_22 : decode cX3_begin 22 = .ok (.return_, 1) := by decide +kernel
theorem dX3_goForwards_0 : decode cX3_goForwards 0 = .ok (.aload_n 0, 1) := by decide +kernel
theorem dX3_goForwards_1 : decode cX3_goForwards 1 = .ok (.iconst 0, 1) := by decide +kernel
theorem dX3_goForwards_2 : decode cX3_goForwards 2 = .ok (.invokevirtual 76, 3) := by decide +kernel
theorem dX3_goForwards_5 : decode cX3_goForwards 5 = .ok (.aload_n 0, 1) := by decide +kernel
theorem dX3_goForwards_6 : decode cX3_goForwards 6 = .ok (.getfield 50, 3) := by decide +kernel
theorem dX3_goForwards_9 : decode cX3_goForwards 9 = .ok (.invokevirtual 79, 3) := by decide +kernel
theorem dX3_goForwards_12 : decode cX3_goForwards 12 = .ok (.istore_n 2, 1) := by decide +kernel
theorem dX3_goForwards_13 : decode cX3_goForwards 13 = .ok (.iconst 1, 1) := by decide +kernel
theorem dX3_goForwards_14 : decode cX3_goForwards 14 = .ok (.istore_n 3, 1) := by decide +kernel
theorem dX3_goForwards_15 : decode cX3_goForwards 15 = .ok (.iload_n 3, 1) := by decide +kernel
theorem dX3_goForwards_16 : decode cX3_goForwards 16 = .ok (.iload_n 2, 1) := by decide +kernel
theorem dX3_goForwards_17 : decode cX3_goForwards 17 = .ok (.if_icmp .gt 77, 3) := by decide +kernel
theorem dX3_goForwards_20 : decode cX3_goForwards 20 = .ok (.aload_n 0, 1) := by decide +kernel
theorem dX3_goForwards_21 : decode cX3_goForwards 21 = .ok (.getfield 34, 3) := by decide +kernel
theorem dX3_goForwards_24 : decode cX3_goForwards 24 = .ok (.iconst (-1), 1) := by decide +kernel
theorem dX3_goForwards_25 : decode cX3_goForwards 25 = .ok (.if_icmp .ne 69, 3) := by decide +kernel
theorem dX3_goForwards_28 : decode cX3_goForwards 28 = .ok (.aload_n 0, 1) := by decide +kernel
theorem dX3_goForwards_29 : decode cX3_goForwards 29 = .ok (.getfield 50, 3) := by decide +kernel
theorem dX3_goForwards_32 : decode cX3_goForwards 32 = .ok (.iload_n 3, 1) := by decide +kernel
theorem dX3_goForwards_33 : decode cX3_goForwards 33 = .ok (.invokevirtual 85, 3) := by decide +kernel
theorem dX3_goForwards_36 : decode cX3_goForwards 36 = .ok (.istore 4, 2) := by decide +kernel
theorem dX3_goForwards_38 : decode cX3_goForwards 38 = .ok (.iload 4, 2) := by decide +kernel
theorem dX3_goForwards_40 : decode cX3_goForwards 40 = .ok (.ifCond .ne 11, 3) := by decide +kernel
theorem dX3_goForwards_43 : decode cX3_goForwards 43 = .ok (.aload_n 0, 1) := by decide +kernel
theorem dX3_goForwards_44 : decode cX3_goForwards 44 = .ok (.iload_n 3, 1) := by decide +kernel
theorem dX3_goForwards_45 : decode cX3_goForwards 45 = .ok (.invokevirtual 89, 3) := by decide +kernel
theorem dX3_goForwards_48 : decode cX3_goForwards 48 = .ok (.goto 27, 3) := by decide +kernel
theorem dX3_goForwards_51 : decode cX3_goForwards 51 = .ok (.iload_n 1, 1) := by decide +kernel
theorem dX3_goForwards_52 : decode cX3_goForwards 52 = .ok (.ifCond .eq 13, 3) := by decide +kernel
theorem dX3_goForwards_55 : decode cX3_goForwards 55 = .ok (.aload_n 0, 1) := by decide +kernel
theorem dX3_goForwards_56 : decode cX3_goForwards 56 = .ok (.iload_n 3, 1) := by decide +kernel
theorem dX3_goForwards_57 : decode cX3_goForwards 57 = .ok (.iload 4, 2) := by decide +kernel
theorem dX3_goForwards_59 : decode cX3_goForwards 59 = .ok (.invokevirtual 92, 3) := by decide +kernel
theorem dX3_goForwards_62 : decode cX3_goForwards 62 = .ok (.ifCond .eq 13, 3) := by decide +kernel
theorem dX3_goForwards_65 : decode cX3_goForwards 65 = .ok (.aload_n 0, 1) := by decide +kernel
theorem dX3_goForwards_66 : decode cX3_goForwards 66 = .ok (.getfield 59, 3) := by decide +kernel
theorem dX3_goForwards_69 : decode cX3_goForwards 69 = .ok (.iload 4, 2) := by decide +kernel
theorem dX3_goForwards_71 : decode cX3_goForwards 71 = .ok (.iconst 1, 1) := by decide +kernel
theorem dX3_goForwards_72 : decode cX3_goForwards 72 = .ok (.invokevirtual 96, 3) := by decide +kernel
theorem dX3_goForwards_75 : decode cX3_goForwards 75 = .ok (.aload_n 0, 1) := by decide +kernel
theorem dX3_goForwards_76 : decode cX3_goForwards 76 = .ok (.getfield 34, 3) := by decide +kernel
theorem dX3_goForwards_79 : decode cX3_goForwards 79 = .ok (.iconst (-1), 1) := by decide +kernel
theorem dX3_goForwards_80 : decode cX3_goForwards 80 = .ok (.if_icmp .ne 8, 3) := by decide +kernel
theorem dX3_goForwards_83 : decode cX3_goForwards 83 = .ok (.aload_n 0, 1) := by decide +kernel
theorem dX3_goForwards_84 : decode cX3_goForwards 84 = .ok (.iload_n 3, 1) := by decide +kernel
theorem dX3_goForwards_85 : decode cX3_goForwards 85 = .ok (.invokevirtual 76, 3) := by decide +kernel
theorem dX3_goForwards_88 : decode cX3_goForwards 88 = .ok (.iinc 3 1, 3) := by decide +kernel
theorem dX3_goForwards_91 : decode cX3_goForwards 91 = .ok (.goto (-76), 3) := by decide +kernel
theorem dX3_goForwards_94 : decode cX3_goForwards 94 = .ok (.aload_n 0, 1) := by decide +kernel
theorem dX3_goForwards_95 : decode cX3_goForwards 95 = .ok (.getfield 34, 3) := by decide +kernel
theorem dX3_goForwards_98 : decode cX3_goForwards 98 = .ok (.iconst (-1), 1) := by decide +kernel
theorem dX3_goForwards_99 : decode cX3_goForwards 99 = .ok (.if_icmp .ne 8, 3) := by decide +kernel
theorem dX3_goForwards_102 : decode cX3_goForwards 102 = .ok (.aload_n 0, 1) := by decide +kernel
theorem dX3_goForwards_103 : decode cX3_goForwards 103 = .ok (.iconst 1, 1) := by decide +kernel
theorem dX3_goForwards_104 : decode cX3_goForwards 104 = .ok (.putfield 34, 3) := by decide +kernel
theorem dX3_goForwards_107 : decode cX3_goForwards 107 = .ok (.return_, 1) := by decide +kernel
theorem dX3_goBack_0 : decode cX3_goBack 0 = .ok (.aload_n 0, 1) := by decide +kernel
theorem dX3_goBack_1 : decode cX3_goBack 1 = .ok (.getfield 41, 3) := by decide +kernel
theorem dX3_goBack_4 : decode cX3_goBack 4 = .ok (.istore_n 1, 1) := by decide +kernel
theorem dX3_goBack_5 : decode cX3_goBack 5 = .ok (.iload_n 1, 1) := by decide +kernel
theorem dX3_goBack_6 : decode cX3_goBack 6 = .ok (.iconst 1, 1) := by decide +kernel
theorem dX3_goBack_7 : decode cX3_goBack 7 = .ok (.if_icmp .lt 64, 3) := by decide +kernel
theorem dX3_goBack_10 : decode cX3_goBack 10 = .ok (.aload_n 0, 1) := by decide +kernel
theorem dX3_goBack_11 : decode cX3_goBack 11 = .ok (.getfield 34, 3) := by decide +kernel
theorem dX3_goBack_14 : decode cX3_goBack 14 = .ok (.ifCond .ne 57, 3) := by decide +kernel
theorem dX3_goBack_17 : decode cX3_goBack 17 = .ok (.aload_n 0, 1) := by decide +kernel
theorem dX3_goBack_18 : decode cX3_goBack 18 = .ok (.getfield 50, 3) := by decide +kernel
theorem dX3_goBack_21 : decode cX3_goBack 21 = .ok (.iload_n 1, 1) := by decide +kernel
theorem dX3_goBack_22 : decode cX3_goBack 22 = .ok (.invokevirtual 85, 3) := by decide +kernel
theorem dX3_goBack_25 : decode cX3_goBack 25 = .ok (.istore_n 2, 1) := by decide +kernel
theorem dX3_goBack_26 : decode cX3_goBack 26 = .ok (.iload_n 2, 1) := by decide +kernel
theorem dX3_goBack_27 : decode cX3_goBack 27 = .ok (.ifCond .ne 11, 3) := by decide +kernel
theorem dX3_goBack_30 : decode cX3_goBack 30 = .ok (.aload_n 0, 1) := by decide +kernel
theorem dX3_goBack_31 : decode cX3_goBack 31 = .ok (.iload_n 1, 1) := by decide +kernel
theorem dX3_goBack_32 : decode cX3_goBack 32 = .ok (.invokevirtual 100, 3) := by decide +kernel
theorem dX3_goBack_35 : decode cX3_goBack 35 = .ok (.goto 30, 3) := by decide +kernel
theorem dX3_goBack_38 : decode cX3_goBack 38 = .ok (.aload_n 0, 1) := by decide +kernel
theorem dX3_goBack_39 : decode cX3_goBack 39 = .ok (.getfield 59, 3) := by decide +kernel
theorem dX3_goBack_42 : decode cX3_goBack 42 = .ok (.iload_n 2, 1) := by decide +kernel
theorem dX3_goBack_43 : decode cX3_goBack 43 = .ok (.iconst 0, 1) := by decide +kernel
theorem dX3_goBack_44 : decode cX3_goBack 44 = .ok (.invokevirtual 96, 3) := by decide +kernel
theorem dX3_goBack_47 : decode cX3_goBack 47 = .ok (.aload_n 0, 1) := by decide +kernel
theorem dX3_goBack_48 : decode cX3_goBack 48 = .ok (.getfield 59, 3) := by decide +kernel
theorem dX3_goBack_51 : decode cX3_goBack 51 = .ok (.iload_n 2, 1) := by decide +kernel
theorem dX3_goBack_52 : decode cX3_goBack 52 = .ok (.invokevirtual 103, 3) := by decide +kernel
theorem dX3_goBack_55 : decode cX3_goBack 55 = .ok (.ifCond .eq 10, 3) := by decide +kernel
theorem dX3_goBack_58 : decode cX3_goBack 58 = .ok (.aload_n 0, 1) := by decide +kernel
theorem dX3_goBack_59 : decode cX3_goBack 59 = .ok (.iload_n 1, 1) := by decide +kernel
theorem dX3_goBack_60 : decode cX3_goBack 60 = .ok (.iload_n 2, 1) := by decide +kernel
theorem dX3_goBack_61 : decode cX3_goBack 61 = .ok (.invokevirtual 92, 3) := by decide +kernel
theorem dX3_goBack_64 : decode cX3_goBack 64 = .ok (.pop, 1) := by decide +kernel
theorem dX3_goBack_65 : decode cX3_goBack 65 = .ok (.iinc 1 (-1), 3) := by decide +kernel
theorem dX3_goBack_68 : decode cX3_goBack 68 = .ok (.goto (-63), 3) := by decide +kernel
theorem dX3_goBack_71 : decode cX3_goBack 71 = .ok (.return_, 1) := by decide +kernel
theorem dX3_verdict_0 : decode cX3_verdict 0 = .ok (.aload_n 0, 1) := by decide +kernel
theorem dX3_verdict_1 : decode cX3_verdict 1 = .ok (.getfield 34, 3) := by decide +kernel
theorem dX3_verdict_4 : decode cX3_verdict 4 = .ok (.ireturn, 1) := by decide +kernel
theorem dX3_failedStep_0 : decode cX3_failedStep 0 = .ok (.aload_n 0, 1) := by decide +kernel
theorem dX3_failedStep_1 : decode cX3_failedStep 1 = .ok (.getfield 38, 3) := by decide +kernel
theorem dX3_failedStep_4 : decode cX3_failedStep 4 = .ok (.ireturn, 1) := by decide +kernel
theorem dX3_conflictStep_0 : decode cX3_conflictStep 0 = .ok (.aload_n 0, 1) := by decide +kernel
theorem dX3_conflictStep_1 : decode cX3_conflictStep 1 = .ok (.getfield 41, 3) := by decide +kernel
theorem dX3_conflictStep_4 : decode cX3_conflictStep 4 = .ok (.ireturn, 1) := by decide +kernel
theorem dX3_fuelLeft_0 : decode cX3_fuelLeft 0 = .ok (.aload_n 0, 1) := by decide +kernel
theorem dX3_fuelLeft_1 : decode cX3_fuelLeft 1 = .ok (.getfield 59, 3) := by decide +kernel
theorem dX3_fuelLeft_4 : decode cX3_fuelLeft 4 = .ok (.invokevirtual 107, 3) := by decide +kernel
theorem dX3_fuelLeft_7 : decode cX3_fuelLeft 7 = .ok (.ireturn, 1) := by decide +kernel
theorem dX3_heldByRup_0 : decode cX3_heldByRup 0 = .ok (.aload_n 0, 1) := by decide +kernel
theorem dX3_heldByRup_1 : decode cX3_heldByRup 1 = .ok (.getfield 44, 3) := by decide +kernel
theorem dX3_heldByRup_4 : decode cX3_heldByRup 4 = .ok (.ireturn, 1) := by decide +kernel
theorem dX3_heldByRat_0 : decode cX3_heldByRat 0 = .ok (.aload_n 0, 1) := by decide +kernel
theorem dX3_heldByRat_1 : decode cX3_heldByRat 1 = .ok (.getfield 47, 3) := by decide +kernel
theorem dX3_heldByRat_4 : decode cX3_heldByRat 4 = .ok (.ireturn, 1) := by decide +kernel
theorem dX3_isMarked_0 : decode cX3_isMarked 0 = .ok (.aload_n 0, 1) := by decide +kernel
theorem dX3_isMarked_1 : decode cX3_isMarked 1 = .ok (.getfield 59, 3) := by decide +kernel
theorem dX3_isMarked_4 : decode cX3_isMarked 4 = .ok (.iload_n 1, 1) := by decide +kernel
theorem dX3_isMarked_5 : decode cX3_isMarked 5 = .ok (.invokevirtual 103, 3) := by decide +kernel
theorem dX3_isMarked_8 : decode cX3_isMarked 8 = .ok (.ireturn, 1) := by decide +kernel
theorem dX3_markedBetween_0 : decode cX3_markedBetween 0 = .ok (.iconst 0, 1) := by decide +kernel
theorem dX3_markedBetween_1 : decode cX3_markedBetween 1 = .ok (.istore_n 3, 1) := by decide +kernel
theorem dX3_markedBetween_2 : decode cX3_markedBetween 2 = .ok (.iload_n 1, 1) := by decide +kernel
theorem dX3_markedBetween_3 : decode cX3_markedBetween 3 = .ok (.istore 4, 2) := by decide +kernel
theorem dX3_markedBetween_5 : decode cX3_markedBetween 5 = .ok (.iload 4, 2) := by decide +kernel
theorem dX3_markedBetween_7 : decode cX3_markedBetween 7 = .ok (.iload_n 2, 1) := by decide +kernel
theorem dX3_markedBetween_8 : decode cX3_markedBetween 8 = .ok (.if_icmp .gt 26, 3) := by decide +kernel
theorem dX3_markedBetween_11 : decode cX3_markedBetween 11 = .ok (.iload_n 3, 1) := by decide +kernel
theorem dX3_markedBetween_12 : decode cX3_markedBetween 12 = .ok (.aload_n 0, 1) := by decide +kernel
theorem dX3_markedBetween_13 : decode cX3_markedBetween 13 = .ok (.iload 4, 2) := by decide +kernel
theorem dX3_markedBetween_15 : decode cX3_markedBetween 15 = .ok (.invokevirtual 110, 3) := by decide +kernel
theorem dX3_markedBetween_18 : decode cX3_markedBetween 18 = .ok (.ifCond .eq 7, 3) := by decide +kernel
theorem dX3_markedBetween_21 : decode cX3_markedBetween 21 = .ok (.iconst 1, 1) := by decide +kernel
theorem dX3_markedBetween_22 : decode cX3_markedBetween 22 = .ok (.goto 4, 3) := by decide +kernel
theorem dX3_markedBetween_25 : decode cX3_markedBetween 25 = .ok (.iconst 0, 1) := by decide +kernel
theorem dX3_markedBetween_26 : decode cX3_markedBetween 26 = .ok (.iadd, 1) := by decide +kernel
theorem dX3_markedBetween_27 : decode cX3_markedBetween 27 = .ok (.istore_n 3, 1) := by decide +kernel
theorem dX3_markedBetween_28 : decode cX3_markedBetween 28 = .ok (.iinc 4 1, 3) := by decide +kernel
theorem dX3_markedBetween_31 : decode cX3_markedBetween 31 = .ok (.goto (-26), 3) := by decide +kernel
theorem dX3_markedBetween_34 : decode cX3_markedBetween 34 = .ok (.iload_n 3, 1) := by decide +kernel
theorem dX3_markedBetween_35 : decode cX3_markedBetween 35 = .ok (.ireturn, 1) := by decide +kernel
theorem dX3_hintOf_0 : decode cX3_hintOf 0 = .ok (.aload_n 0, 1) := by decide +kernel
theorem dX3_hintOf_1 : decode cX3_hintOf 1 = .ok (.getfield 12, 3) := by decide +kernel
theorem dX3_hintOf_4 : decode cX3_hintOf 4 = .ok (.iload_n 1, 1) := by decide +kernel
theorem dX3_hintOf_5 : decode cX3_hintOf 5 = .ok (.iload_n 2, 1) := by decide +kernel
theorem dX3_hintOf_6 : decode cX3_hintOf 6 = .ok (.invokevirtual 111, 3) := by decide +kernel
theorem dX3_hintOf_9 : decode cX3_hintOf 9 = .ok (.ireturn, 1) := by decide +kernel
theorem dX3_lastStepWeighed_0 : decode cX3_lastStepWeighed 0 = .ok (.aload_n 0, 1) := by decide +kernel
theorem dX3_lastStepWeighed_1 : decode cX3_lastStepWeighed 1 = .ok (.getfield 41, 3) := by decide +kernel
theorem dX3_lastStepWeighed_4 : decode cX3_lastStepWeighed 4 = .ok (.iconst (-1), 1) := by decide +kernel
theorem dX3_lastStepWeighed_5 : decode cX3_lastStepWeighed 5 = .ok (.if_icmp .ne 13, 3) := by decide +kernel
theorem dX3_lastStepWeighed_8 : decode cX3_lastStepWeighed 8 = .ok (.aload_n 0, 1) := by decide +kernel
theorem dX3_lastStepWeighed_9 : decode cX3_lastStepWeighed 9 = .ok (.getfield 50, 3) := by decide +kernel
theorem dX3_lastStepWeighed_12 : decode cX3_lastStepWeighed 12 = .ok (.invokevirtual 79, 3) := by decide +kernel
theorem dX3_lastStepWeighed_15 : decode cX3_lastStepWeighed 15 = .ok (.goto 7, 3) := by decide +kernel
theorem dX3_lastStepWeighed_18 : decode cX3_lastStepWeighed 18 = .ok (.aload_n 0, 1) := by decide +kernel
theorem dX3_lastStepWeighed_19 : decode cX3_lastStepWeighed 19 = .ok (.getfield 41, 3) := by decide +kernel
theorem dX3_lastStepWeighed_22 : decode cX3_lastStepWeighed 22 = .ok (.ireturn, 1) := by decide +kernel
theorem dX3_staysInProof_0 : decode cX3_staysInProof 0 = .ok (.aload_n 0, 1) := by decide +kernel
theorem dX3_staysInProof_1 : decode cX3_staysInProof 1 = .ok (.getfield 50, 3) := by decide +kernel
theorem dX3_staysInProof_4 : decode cX3_staysInProof 4 = .ok (.iload_n 1, 1) := by decide +kernel
theorem dX3_staysInProof_5 : decode cX3_staysInProof 5 = .ok (.invokevirtual 85, 3) := by decide +kernel
theorem dX3_staysInProof_8 : decode cX3_staysInProof 8 = .ok (.istore_n 2, 1) := by decide +kernel
theorem dX3_staysInProof_9 : decode cX3_staysInProof 9 = .ok (.iload_n 2, 1) := by decide +kernel
theorem dX3_staysInProof_10 : decode cX3_staysInProof 10 = .ok (.ifCond .eq 9, 3) := by decide +kernel
theorem dX3_staysInProof_13 : decode cX3_staysInProof 13 = .ok (.aload_n 0, 1) := by decide +kernel
theorem dX3_staysInProof_14 : decode cX3_staysInProof 14 = .ok (.iload_n 2, 1) := by decide +kernel
theorem dX3_staysInProof_15 : decode cX3_staysInProof 15 = .ok (.invokevirtual 110, 3) := by decide +kernel
theorem dX3_staysInProof_18 : decode cX3_staysInProof 18 = .ok (.ireturn, 1) := by decide +kernel
theorem dX3_staysInProof_19 : decode cX3_staysInProof 19 = .ok (.aload_n 0, 1) := by decide +kernel
theorem dX3_staysInProof_20 : decode cX3_staysInProof 20 = .ok (.getfield 23, 3) := by decide +kernel
theorem dX3_staysInProof_23 : decode cX3_staysInProof 23 = .ok (.iload_n 1, 1) := by decide +kernel
theorem dX3_staysInProof_24 : decode cX3_staysInProof 24 = .ok (.invokevirtual 115, 3) := by decide +kernel
theorem dX3_staysInProof_27 : decode cX3_staysInProof 27 = .ok (.istore_n 3, 1) := by decide +kernel
theorem dX3_staysInProof_28 : decode cX3_staysInProof 28 = .ok (.iload_n 3, 1) := by decide +kernel
theorem dX3_staysInProof_29 : decode cX3_staysInProof 29 = .ok (.ifCond .eq 26, 3) := by decide +kernel
theorem dX3_staysInProof_32 : decode cX3_staysInProof 32 = .ok (.iload_n 3, 1) := by decide +kernel
theorem dX3_staysInProof_33 : decode cX3_staysInProof 33 = .ok (.aload_n 0, 1) := by decide +kernel
theorem dX3_staysInProof_34 : decode cX3_staysInProof 34 = .ok (.getfield 50, 3) := by decide +kernel
theorem dX3_staysInProof_37 : decode cX3_staysInProof 37 = .ok (.invokevirtual 117, 3) := by decide +kernel
theorem dX3_staysInProof_40 : decode cX3_staysInProof 40 = .ok (.if_icmp .le 11, 3) := by decide +kernel
theorem dX3_staysInProof_43 : decode cX3_staysInProof 43 = .ok (.aload_n 0, 1) := by decide +kernel
theorem dX3_staysInProof_44 : decode cX3_staysInProof 44 = .ok (.iload_n 3, 1) := by decide +kernel
theorem dX3_staysInProof_45 : decode cX3_staysInProof 45 = .ok (.invokevirtual 110, 3) := by decide +kernel
theorem dX3_staysInProof_48 : decode cX3_staysInProof 48 = .ok (.ifCond .eq 7, 3) := by decide +kernel
theorem dX3_staysInProof_51 : decode cX3_staysInProof 51 = .ok (.iconst 1, 1) := by decide +kernel
theorem dX3_staysInProof_52 : decode cX3_staysInProof 52 = .ok (.goto 4, 3) := by decide +kernel
theorem dX3_staysInProof_55 : decode cX3_staysInProof 55 = .ok (.iconst 0, 1) := by decide +kernel
theorem dX3_staysInProof_56 : decode cX3_staysInProof 56 = .ok (.ireturn, 1) := by decide +kernel
theorem dX3_lookFromNothing_0 : decode cX3_lookFromNothing 0 = .ok (.aload_n 0, 1) := by decide +kernel
theorem dX3_lookFromNothing_1 : decode cX3_lookFromNothing 1 = .ok (.getfield 59, 3) := by decide +kernel
theorem dX3_lookFromNothing_4 : decode cX3_lookFromNothing 4 = .ok (.invokevirtual 120, 3) := by decide +kernel
theorem dX3_lookFromNothing_7 : decode cX3_lookFromNothing 7 = .ok (.aload_n 0, 1) := by decide +kernel
theorem dX3_lookFromNothing_8 : decode cX3_lookFromNothing 8 = .ok (.getfield 59, 3) := by decide +kernel
theorem dX3_lookFromNothing_11 : decode cX3_lookFromNothing 11 = .ok (.invokevirtual 123, 3) := by decide +kernel
theorem dX3_lookFromNothing_14 : decode cX3_lookFromNothing 14 = .ok (.istore_n 2, 1) := by decide +kernel
theorem dX3_lookFromNothing_15 : decode cX3_lookFromNothing 15 = .ok (.iload_n 2, 1) := by decide +kernel
theorem dX3_lookFromNothing_16 : decode cX3_lookFromNothing 16 = .ok (.iconst 2, 1) := by decide +kernel
theorem dX3_lookFromNothing_17 : decode cX3_lookFromNothing 17 = .ok (.if_icmp .ne 16, 3) := by decide +kernel
theorem dX3_lookFromNothing_20 : decode cX3_lookFromNothing 20 = .ok (.aload_n 0, 1) := by decide +kernel
theorem dX3_lookFromNothing_21 : decode cX3_lookFromNothing 21 = .ok (.iconst 2, 1) := by decide +kernel
theorem dX3_lookFromNothing_22 : decode cX3_lookFromNothing 22 = .ok (.putfield 34, 3) := by decide +kernel
theorem dX3_lookFromNothing_25 : decode cX3_lookFromNothing 25 = .ok (.aload_n 0, 1) := by decide +kernel
theorem dX3_lookFromNothing_26 : decode cX3_lookFromNothing 26 = .ok (.iconst 0, 1) := by decide +kernel
theorem dX3_lookFromNothing_27 : decode cX3_lookFromNothing 27 = .ok (.putfield 38, 3) := by decide +kernel
theorem dX3_lookFromNothing_30 : decode cX3_lookFromNothing 30 = .ok (.goto 38, 3) := by decide +kernel
theorem dX3_lookFromNothing_33 : decode cX3_lookFromNothing 33 = .ok (.iload_n 2, 1) := by decide +kernel
theorem dX3_lookFromNothing_34 : decode cX3_lookFromNothing 34 = .ok (.iconst 1, 1) := by decide +kernel
theorem dX3_lookFromNothing_35 : decode cX3_lookFromNothing 35 = .ok (.if_icmp .ne 33, 3) := by decide +kernel
theorem dX3_lookFromNothing_38 : decode cX3_lookFromNothing 38 = .ok (.aload_n 0, 1) := by decide +kernel
theorem dX3_lookFromNothing_39 : decode cX3_lookFromNothing 39 = .ok (.iconst 0, 1) := by decide +kernel
theorem dX3_lookFromNothing_40 : decode cX3_lookFromNothing 40 = .ok (.putfield 34, 3) := by decide +kernel
theorem dX3_lookFromNothing_43 : decode cX3_lookFromNothing 43 = .ok (.aload_n 0, 1) := by decide +kernel
theorem dX3_lookFromNothing_44 : decode cX3_lookFromNothing 44 = .ok (.iload_n 1, 1) := by decide +kernel
theorem dX3_lookFromNothing_45 : decode cX3_lookFromNothing 45 = .ok (.putfield 41, 3) := by decide +kernel
theorem dX3_lookFromNothing_48 : decode cX3_lookFromNothing 48 = .ok (.aload_n 0, 1) := by decide +kernel
theorem dX3_lookFromNothing_49 : decode cX3_lookFromNothing 49 = .ok (.getfield 12, 3) := by decide +kernel
theorem dX3_lookFromNothing_52 : decode cX3_lookFromNothing 52 = .ok (.iconst 0, 1) := by decide +kernel
theorem dX3_lookFromNothing_53 : decode cX3_lookFromNothing 53 = .ok (.invokevirtual 126, 3) := by decide +kernel
theorem dX3_lookFromNothing_56 : decode cX3_lookFromNothing 56 = .ok (.aload_n 0, 1) := by decide +kernel
theorem dX3_lookFromNothing_57 : decode cX3_lookFromNothing 57 = .ok (.getfield 59, 3) := by decide +kernel
theorem dX3_lookFromNothing_60 : decode cX3_lookFromNothing 60 = .ok (.invokevirtual 129, 3) := by decide +kernel
theorem dX3_lookFromNothing_63 : decode cX3_lookFromNothing 63 = .ok (.aload_n 0, 1) := by decide +kernel
theorem dX3_lookFromNothing_64 : decode cX3_lookFromNothing 64 = .ok (.iconst 0, 1) := by decide +kernel
theorem dX3_lookFromNothing_65 : decode cX3_lookFromNothing 65 = .ok (.invokevirtual 132, 3) := by decide +kernel
theorem dX3_lookFromNothing_68 : decode cX3_lookFromNothing 68 = .ok (.return_, 1) := by decide +kernel
theorem dX3_holds_0 : decode cX3_holds 0 = .ok (.aload_n 0, 1) := by decide +kernel
theorem dX3_holds_1 : decode cX3_holds 1 = .ok (.getfield 12, 3) := by decide +kernel
theorem dX3_holds_4 : decode cX3_holds 4 = .ok (.iload_n 2, 1) := by decide +kernel
theorem dX3_holds_5 : decode cX3_holds 5 = .ok (.invokevirtual 126, 3) := by decide +kernel
theorem dX3_holds_8 : decode cX3_holds 8 = .ok (.aload_n 0, 1) := by decide +kernel
theorem dX3_holds_9 : decode cX3_holds 9 = .ok (.getfield 59, 3) := by decide +kernel
theorem dX3_holds_12 : decode cX3_holds 12 = .ok (.invokevirtual 120, 3) := by decide +kernel
theorem dX3_holds_15 : decode cX3_holds 15 = .ok (.aload_n 0, 1) := by decide +kernel
theorem dX3_holds_16 : decode cX3_holds 16 = .ok (.getfield 59, 3) := by decide +kernel
theorem dX3_holds_19 : decode cX3_holds 19 = .ok (.iload_n 2, 1) := by decide +kernel
theorem dX3_holds_20 : decode cX3_holds 20 = .ok (.iconst 0, 1) := by decide +kernel
theorem dX3_holds_21 : decode cX3_holds 21 = .ok (.invokevirtual 135, 3) := by decide +kernel
theorem dX3_holds_24 : decode cX3_holds 24 = .ok (.aload_n 0, 1) := by decide +kernel
theorem dX3_holds_25 : decode cX3_holds 25 = .ok (.getfield 59, 3) := by decide +kernel
theorem dX3_holds_28 : decode cX3_holds 28 = .ok (.invokevirtual 123, 3) := by decide +kernel
theorem dX3_holds_31 : decode cX3_holds 31 = .ok (.istore_n 3, 1) := by decide +kernel
theorem dX3_holds_32 : decode cX3_holds 32 = .ok (.iload_n 3, 1) := by decide +kernel
theorem dX3_holds_33 : decode cX3_holds 33 = .ok (.iconst 1, 1) := by decide +kernel
theorem dX3_holds_34 : decode cX3_holds 34 = .ok (.if_icmp .ne 27, 3) := by decide +kernel
theorem dX3_holds_37 : decode cX3_holds 37 = .ok (.aload_n 0, 1) := by decide +kernel
theorem dX3_holds_38 : decode cX3_holds 38 = .ok (.getfield 59, 3) := by decide +kernel
theorem dX3_holds_41 : decode cX3_holds 41 = .ok (.invokevirtual 129, 3) := by decide +kernel
theorem dX3_holds_44 : decode cX3_holds 44 = .ok (.aload_n 0, 1) := by decide +kernel
theorem dX3_holds_45 : decode cX3_holds 45 = .ok (.iload_n 2, 1) := by decide +kernel
theorem dX3_holds_46 : decode cX3_holds 46 = .ok (.invokevirtual 132, 3) := by decide +kernel
theorem dX3_holds_49 : decode cX3_holds 49 = .ok (.aload_n 0, 1) := by decide +kernel
theorem dX3_holds_50 : decode cX3_holds 50 = .ok (.dup, 1) := by decide +kernel
theorem dX3_holds_51 : decode cX3_holds 51 = .ok (.getfield 44, 3) := by decide +kernel
theorem dX3_holds_54 : decode cX3_holds 54 = .ok (.iconst 1, 1) := by decide +kernel
theorem dX3_holds_55 : decode cX3_holds 55 = .ok (.iadd, 1) := by decide +kernel
theorem dX3_holds_56 : decode cX3_holds 56 = .ok (.putfield 44, 3) := by decide +kernel
theorem dX3_holds_59 : decode cX3_holds 59 = .ok (.iconst 1, 1) := by decide +kernel
theorem dX3_holds_60 : decode cX3_holds 60 = .ok (.ireturn, 1) := by decide +kernel
theorem dX3_holds_61 : decode cX3_holds 61 = .ok (.iload_n 3, 1) := by decide +kernel
theorem dX3_holds_62 : decode cX3_holds 62 = .ok (.ifCond .ne 44, 3) := by decide +kernel
theorem dX3_holds_65 : decode cX3_holds 65 = .ok (.aload_n 0, 1) := by decide +kernel
theorem dX3_holds_66 : decode cX3_holds 66 = .ok (.getfield 27, 3) := by decide +kernel
theorem dX3_holds_69 : decode cX3_holds 69 = .ok (.ifCond .eq 37, 3) := by decide +kernel
theorem dX3_holds_72 : decode cX3_holds 72 = .ok (.aload_n 0, 1) := by decide +kernel
theorem dX3_holds_73 : decode cX3_holds 73 = .ok (.getfield 50, 3) := by decide +kernel
theorem dX3_holds_76 : decode cX3_holds 76 = .ok (.iload_n 2, 1) := by decide +kernel
theorem dX3_holds_77 : decode cX3_holds 77 = .ok (.invokevirtual 139, 3) := by decide +kernel
theorem dX3_holds_80 : decode cX3_holds 80 = .ok (.ifCond .le 26, 3) := by decide +kernel
theorem dX3_holds_83 : decode cX3_holds 83 = .ok (.aload_n 0, 1) := by decide +kernel
theorem dX3_holds_84 : decode cX3_holds 84 = .ok (.iload_n 2, 1) := by decide +kernel
theorem dX3_holds_85 : decode cX3_holds 85 = .ok (.invokevirtual 142, 3) := by decide +kernel
theorem dX3_holds_88 : decode cX3_holds 88 = .ok (.istore_n 3, 1) := by decide +kernel
theorem dX3_holds_89 : decode cX3_holds 89 = .ok (.iload_n 3, 1) := by decide +kernel
theorem dX3_holds_90 : decode cX3_holds 90 = .ok (.iconst 1, 1) := by decide +kernel
theorem dX3_holds_91 : decode cX3_holds 91 = .ok (.if_icmp .ne 15, 3) := by decide +kernel
theorem dX3_holds_94 : decode cX3_holds 94 = .ok (.aload_n 0, 1) := by decide +kernel
theorem dX3_holds_95 : decode cX3_holds 95 = .ok (.dup, 1) := by decide +kernel
theorem dX3_holds_96 : decode cX3_holds 96 = .ok (.getfield 47, 3) := by decide +kernel
theorem dX3_holds_99 : decode cX3_holds 99 = .ok (.iconst 1, 1) := by decide +kernel
theorem dX3_holds_100 : decode cX3_holds 100 = .ok (.iadd, 1) := by decide +kernel
theorem dX3_holds_101 : decode cX3_holds 101 = .ok (.putfield 47, 3) := by decide +kernel
theorem dX3_holds_104 : decode cX3_holds 104 = .ok (.iconst 1, 1) := by decide +kernel
theorem dX3_holds_105 : decode cX3_holds 105 = .ok (.ireturn, 1) := by decide +kernel
theorem dX3_holds_106 : decode cX3_holds 106 = .ok (.aload_n 0, 1) := by decide +kernel
theorem dX3_holds_107 : decode cX3_holds 107 = .ok (.getfield 12, 3) := by decide +kernel
theorem dX3_holds_110 : decode cX3_holds 110 = .ok (.iload_n 2, 1) := by decide +kernel
theorem dX3_holds_111 : decode cX3_holds 111 = .ok (.invokevirtual 145, 3) := by decide +kernel
theorem dX3_holds_114 : decode cX3_holds 114 = .ok (.aload_n 0, 1) := by decide +kernel
theorem dX3_holds_115 : decode cX3_holds 115 = .ok (.iload_n 1, 1) := by decide +kernel
theorem dX3_holds_116 : decode cX3_holds 116 = .ok (.putfield 38, 3) := by decide +kernel
theorem dX3_holds_119 : decode cX3_holds 119 = .ok (.aload_n 0, 1) := by decide +kernel
theorem dX3_holds_120 : decode cX3_holds 120 = .ok (.iload_n 3, 1) := by decide +kernel
theorem dX3_holds_121 : decode cX3_holds 121 = .ok (.iconst 2, 1) := by decide +kernel
theorem dX3_holds_122 : decode cX3_holds 122 = .ok (.if_icmp .ne 7, 3) := by decide +kernel
theorem dX3_holds_125 : decode cX3_holds 125 = .ok (.iconst 2, 1) := by decide +kernel
theorem dX3_holds_126 : decode cX3_holds 126 = .ok (.goto 4, 3) := by decide +kernel
theorem dX3_holds_129 : decode cX3_holds 129 = .ok (.iconst 1, 1) := by decide +kernel
theorem dX3_holds_130 : decode cX3_holds 130 = .ok (.putfield 34, 3) := by decide +kernel
theorem dX3_holds_133 : decode cX3_holds 133 = .ok (.iconst 0, 1) := by decide +kernel
theorem dX3_holds_134 : decode cX3_holds 134 = .ok (.ireturn, 1) := by decide +kernel
theorem dX3_weighPartners_0 : decode cX3_weighPartners 0 = .ok (.aload_n 0, 1) := by decide +kernel
theorem dX3_weighPartners_1 : decode cX3_weighPartners 1 = .ok (.getfield 50, 3) := by decide +kernel
theorem dX3_weighPartners_4 : decode cX3_weighPartners 4 = .ok (.iload_n 1, 1) := by decide +kernel
theorem dX3_weighPartners_5 : decode cX3_weighPartners 5 = .ok (.iconst 0, 1) := by decide +kernel
theorem dX3_weighPartners_6 : decode cX3_weighPartners 6 = .ok (.invokevirtual 148, 3) := by decide +kernel
theorem dX3_weighPartners_9 : decode cX3_weighPartners 9 = .ok (.ineg, 1) := by decide +kernel
theorem dX3_weighPartners_10 : decode cX3_weighPartners 10 = .ok (.istore_n 2, 1) := by decide +kernel
theorem dX3_weighPartners_11 : decode cX3_weighPartners 11 = .ok (.aload_n 0, 1) := by decide +kernel
theorem dX3_weighPartners_12 : decode cX3_weighPartners 12 = .ok (.getfield 50, 3) := by decide +kernel
theorem dX3_weighPartners_15 : decode cX3_weighPartners 15 = .ok (.iload_n 2, 1) := by decide +kernel
theorem dX3_weighPartners_16 : decode cX3_weighPartners 16 = .ok (.invokevirtual 151, 3) := by decide +kernel
theorem dX3_weighPartners_19 : decode cX3_weighPartners 19 = .ok (.istore_n 3, 1) := by decide +kernel
theorem dX3_weighPartners_20 : decode cX3_weighPartners 20 = .ok (.aload_n 0, 1) := by decide +kernel
theorem dX3_weighPartners_21 : decode cX3_weighPartners 21 = .ok (.getfield 50, 3) := by decide +kernel
theorem dX3_weighPartners_24 : decode cX3_weighPartners 24 = .ok (.iload_n 2, 1) := by decide +kernel
theorem dX3_weighPartners_25 : decode cX3_weighPartners 25 = .ok (.invokevirtual 154, 3) := by decide +kernel
theorem dX3_weighPartners_28 : decode cX3_weighPartners 28 = .ok (.istore 4, 2) := by decide +kernel
theorem dX3_weighPartners_30 : decode cX3_weighPartners 30 = .ok (.iload 4, 2) := by decide +kernel
theorem dX3_weighPartners_32 : decode cX3_weighPartners 32 = .ok (.iload_n 3, 1) := by decide +kernel
theorem dX3_weighPartners_33 : decode cX3_weighPartners 33 = .ok (.if_icmp .ge 108, 3) := by decide +kernel
theorem dX3_weighPartners_36 : decode cX3_weighPartners 36 = .ok (.aload_n 0, 1) := by decide +kernel
theorem dX3_weighPartners_37 : decode cX3_weighPartners 37 = .ok (.getfield 50, 3) := by decide +kernel
theorem dX3_weighPartners_40 : decode cX3_weighPartners 40 = .ok (.iload 4, 2) := by decide +kernel
theorem dX3_weighPartners_42 : decode cX3_weighPartners 42 = .ok (.invokevirtual 157, 3) := by decide +kernel
theorem dX3_weighPartners_45 : decode cX3_weighPartners 45 = .ok (.istore 5, 2) := by decide +kernel
theorem dX3_weighPartners_47 : decode cX3_weighPartners 47 = .ok (.aload_n 0, 1) := by decide +kernel
theorem dX3_weighPartners_48 : decode cX3_weighPartners 48 = .ok (.getfield 59, 3) := by decide +kernel
theorem dX3_weighPartners_51 : decode cX3_weighPartners 51 = .ok (.iload 5, 2) := by decide +kernel
theorem dX3_weighPartners_53 : decode cX3_weighPartners 53 = .ok (.invokevirtual 160, 3) := by decide +kernel
theorem dX3_weighPartners_56 : decode cX3_weighPartners 56 = .ok (.ifCond .eq 79, 3) := by decide +kernel
theorem dX3_weighPartners_59 : decode cX3_weighPartners 59 = .ok (.aload_n 0, 1) := by decide +kernel
theorem dX3_weighPartners_60 : decode cX3_weighPartners 60 = .ok (.getfield 59, 3) := by decide +kernel
theorem dX3_weighPartners_63 : decode cX3_weighPartners 63 = .ok (.invokevirtual 120, 3) := by decide +kernel
theorem dX3_weighPartners_66 : decode cX3_weighPartners 66 = .ok (.aload_n 0, 1) := by decide +kernel
theorem dX3_weighPartners_67 : decode cX3_weighPartners 67 = .ok (.getfield 59, 3) := by decide +kernel
theorem dX3_weighPartners_70 : decode cX3_weighPartners 70 = .ok (.iload_n 1, 1) := by decide +kernel
theorem dX3_weighPartners_71 : decode cX3_weighPartners 71 = .ok (.iconst 0, 1) := by decide +kernel
theorem dX3_weighPartners_72 : decode cX3_weighPartners 72 = .ok (.invokevirtual 135, 3) := by decide +kernel
theorem dX3_weighPartners_75 : decode cX3_weighPartners 75 = .ok (.aload_n 0, 1) := by decide +kernel
theorem dX3_weighPartners_76 : decode cX3_weighPartners 76 = .ok (.getfield 59, 3) := by decide +kernel
theorem dX3_weighPartners_79 : decode cX3_weighPartners 79 = .ok (.iload 5, 2) := by decide +kernel
theorem dX3_weighPartners_81 : decode cX3_weighPartners 81 = .ok (.iload_n 2, 1) := by decide +kernel
theorem dX3_weighPartners_82 : decode cX3_weighPartners 82 = .ok (.invokevirtual 135, 3) := by decide +kernel
theorem dX3_weighPartners_85 : decode cX3_weighPartners 85 = .ok (.aload_n 0, 1) := by decide +kernel
theorem dX3_weighPartners_86 : decode cX3_weighPartners 86 = .ok (.getfield 59, 3) := by decide +kernel
theorem dX3_weighPartners_89 : decode cX3_weighPartners 89 = .ok (.invokevirtual 123, 3) := by decide +kernel
theorem dX3_weighPartners_92 : decode cX3_weighPartners 92 = .ok (.istore 6, 2) := by decide +kernel
theorem dX3_weighPartners_94 : decode cX3_weighPartners 94 = .ok (.iload 6, 2) := by decide +kernel
theorem dX3_weighPartners_96 : decode cX3_weighPartners 96 = .ok (.iconst 1, 1) := by decide +kernel
theorem dX3_weighPartners_97 : decode cX3_weighPartners 97 = .ok (.if_icmp .eq 6, 3) := by decide +kernel
theorem dX3_weighPartners_100 : decode cX3_weighPartners 100 = .ok (.iload 6, 2) := by decide +kernel
theorem dX3_weighPartners_102 : decode cX3_weighPartners 102 = .ok (.ireturn, 1) := by decide +kernel
theorem dX3_weighPartners_103 : decode cX3_weighPartners 103 = .ok (.aload_n 0, 1) := by decide +kernel
theorem dX3_weighPartners_104 : decode cX3_weighPartners 104 = .ok (.getfield 12, 3) := by decide +kernel
theorem dX3_weighPartners_107 : decode cX3_weighPartners 107 = .ok (.iload_n 1, 1) := by decide +kernel
theorem dX3_weighPartners_108 : decode cX3_weighPartners 108 = .ok (.iload 5, 2) := by decide +kernel
theorem dX3_weighPartners_110 : decode cX3_weighPartners 110 = .ok (.ineg, 1) := by decide +kernel
theorem dX3_weighPartners_111 : decode cX3_weighPartners 111 = .ok (.invokevirtual 163, 3) := by decide +kernel
theorem dX3_weighPartners_114 : decode cX3_weighPartners 114 = .ok (.aload_n 0, 1) := by decide +kernel
theorem dX3_weighPartners_115 : decode cX3_weighPartners 115 = .ok (.getfield 59, 3) := by decide +kernel
theorem dX3_weighPartners_118 : decode cX3_weighPartners 118 = .ok (.invokevirtual 129, 3) := by decide +kernel
theorem dX3_weighPartners_121 : decode cX3_weighPartners 121 = .ok (.aload_n 0, 1) := by decide +kernel
theorem dX3_weighPartners_122 : decode cX3_weighPartners 122 = .ok (.iload_n 1, 1) := by decide +kernel
theorem dX3_weighPartners_123 : decode cX3_weighPartners 123 = .ok (.invokevirtual 132, 3) := by decide +kernel
theorem dX3_weighPartners_126 : decode cX3_weighPartners 126 = .ok (.aload_n 0, 1) := by decide +kernel
theorem dX3_weighPartners_127 : decode cX3_weighPartners 127 = .ok (.getfield 59, 3) := by decide +kernel
theorem dX3_weighPartners_130 : decode cX3_weighPartners 130 = .ok (.iload 5, 2) := by decide +kernel
theorem dX3_weighPartners_132 : decode cX3_weighPartners 132 = .ok (.invokevirtual 166, 3) := by decide +kernel
theorem dX3_weighPartners_135 : decode cX3_weighPartners 135 = .ok (.iinc 4 1, 3) := by decide +kernel
theorem dX3_weighPartners_138 : decode cX3_weighPartners 138 = .ok (.goto (-108), 3) := by decide +kernel
theorem dX3_weighPartners_141 : decode cX3_weighPartners 141 = .ok (.iconst 1, 1) := by decide +kernel
theorem dX3_weighPartners_142 : decode cX3_weighPartners 142 = .ok (.ireturn, 1) := by decide +kernel
theorem dX3_keepUsed_0 : decode cX3_keepUsed 0 = .ok (.aload_n 0, 1) := by decide +kernel
theorem dX3_keepUsed_1 : decode cX3_keepUsed 1 = .ok (.getfield 59, 3) := by decide +kernel
theorem dX3_keepUsed_4 : decode cX3_keepUsed 4 = .ok (.invokevirtual 169, 3) := by decide +kernel
theorem dX3_keepUsed_7 : decode cX3_keepUsed 7 = .ok (.istore_n 2, 1) := by decide +kernel
theorem dX3_keepUsed_8 : decode cX3_keepUsed 8 = .ok (.iconst 0, 1) := by decide +kernel
theorem dX3_keepUsed_9 : decode cX3_keepUsed 9 = .ok (.istore_n 3, 1) := by decide +kernel
theorem dX3_keepUsed_10 : decode cX3_keepUsed 10 = .ok (.iload_n 3, 1) := by decide +kernel
theorem dX3_keepUsed_11 : decode cX3_keepUsed 11 = .ok (.iload_n 2, 1) := by decide +kernel
theorem dX3_keepUsed_12 : decode cX3_keepUsed 12 = .ok (.if_icmp .ge 38, 3) := by decide +kernel
theorem dX3_keepUsed_15 : decode cX3_keepUsed 15 = .ok (.aload_n 0, 1) := by decide +kernel
theorem dX3_keepUsed_16 : decode cX3_keepUsed 16 = .ok (.getfield 59, 3) := by decide +kernel
theorem dX3_keepUsed_19 : decode cX3_keepUsed 19 = .ok (.iload_n 3, 1) := by decide +kernel
theorem dX3_keepUsed_20 : decode cX3_keepUsed 20 = .ok (.invokevirtual 172, 3) := by decide +kernel
theorem dX3_keepUsed_23 : decode cX3_keepUsed 23 = .ok (.istore 4, 2) := by decide +kernel
theorem dX3_keepUsed_25 : decode cX3_keepUsed 25 = .ok (.aload_n 0, 1) := by decide +kernel
theorem dX3_keepUsed_26 : decode cX3_keepUsed 26 = .ok (.getfield 59, 3) := by decide +kernel
theorem dX3_keepUsed_29 : decode cX3_keepUsed 29 = .ok (.iload 4, 2) := by decide +kernel
theorem dX3_keepUsed_31 : decode cX3_keepUsed 31 = .ok (.invokevirtual 166, 3) := by decide +kernel
theorem dX3_keepUsed_34 : decode cX3_keepUsed 34 = .ok (.aload_n 0, 1) := by decide +kernel
theorem dX3_keepUsed_35 : decode cX3_keepUsed 35 = .ok (.getfield 12, 3) := by decide +kernel
theorem dX3_keepUsed_38 : decode cX3_keepUsed 38 = .ok (.iload_n 1, 1) := by decide +kernel
theorem dX3_keepUsed_39 : decode cX3_keepUsed 39 = .ok (.iload 4, 2) := by decide +kernel
theorem dX3_keepUsed_41 : decode cX3_keepUsed 41 = .ok (.invokevirtual 163, 3) := by decide +kernel
theorem dX3_keepUsed_44 : decode cX3_keepUsed 44 = .ok (.iinc 3 1, 3) := by decide +kernel
theorem dX3_keepUsed_47 : decode cX3_keepUsed 47 = .ok (.goto (-37), 3) := by decide +kernel
theorem dX3_keepUsed_50 : decode cX3_keepUsed 50 = .ok (.return_, 1) := by decide +kernel
theorem dX3_remove_0 : decode cX3_remove 0 = .ok (.aload_n 0, 1) := by decide +kernel
theorem dX3_remove_1 : decode cX3_remove 1 = .ok (.getfield 50, 3) := by decide +kernel
theorem dX3_remove_4 : decode cX3_remove 4 = .ok (.invokevirtual 175, 3) := by decide +kernel
theorem dX3_remove_7 : decode cX3_remove 7 = .ok (.istore_n 2, 1) := by decide +kernel
theorem dX3_remove_8 : decode cX3_remove 8 = .ok (.iload_n 2, 1) := by decide +kernel
theorem dX3_remove_9 : decode cX3_remove 9 = .ok (.iconst 1, 1) := by decide +kernel
theorem dX3_remove_10 : decode cX3_remove 10 = .ok (.if_icmp .lt 69, 3) := by decide +kernel
theorem dX3_remove_13 : decode cX3_remove 13 = .ok (.aload_n 0, 1) := by decide +kernel
theorem dX3_remove_14 : decode cX3_remove 14 = .ok (.getfield 59, 3) := by decide +kernel
theorem dX3_remove_17 : decode cX3_remove 17 = .ok (.iload_n 2, 1) := by decide +kernel
theorem dX3_remove_18 : decode cX3_remove 18 = .ok (.invokevirtual 160, 3) := by decide +kernel
theorem dX3_remove_21 : decode cX3_remove 21 = .ok (.ifCond .eq 52, 3) := by decide +kernel
theorem dX3_remove_24 : decode cX3_remove 24 = .ok (.aload_n 0, 1) := by decide +kernel
theorem dX3_remove_25 : decode cX3_remove 25 = .ok (.getfield 50, 3) := by decide +kernel
theorem dX3_remove_28 : decode cX3_remove 28 = .ok (.iload_n 2, 1) := by decide +kernel
theorem dX3_remove_29 : decode cX3_remove 29 = .ok (.iload_n 1, 1) := by decide +kernel
theorem dX3_remove_30 : decode cX3_remove 30 = .ok (.invokevirtual 178, 3) := by decide +kernel
theorem dX3_remove_33 : decode cX3_remove 33 = .ok (.ifCond .eq 40, 3) := by decide +kernel
theorem dX3_remove_36 : decode cX3_remove 36 = .ok (.aload_n 0, 1) := by decide +kernel
theorem dX3_remove_37 : decode cX3_remove 37 = .ok (.getfield 31, 3) := by decide +kernel
theorem dX3_remove_40 : decode cX3_remove 40 = .ok (.ifCond .eq 14, 3) := by decide +kernel
theorem dX3_remove_43 : decode cX3_remove 43 = .ok (.aload_n 0, 1) := by decide +kernel
theorem dX3_remove_44 : decode cX3_remove 44 = .ok (.getfield 59, 3) := by decide +kernel
theorem dX3_remove_47 : decode cX3_remove 47 = .ok (.iload_n 2, 1) := by decide +kernel
theorem dX3_remove_48 : decode cX3_remove 48 = .ok (.invokevirtual 181, 3) := by decide +kernel
theorem dX3_remove_51 : decode cX3_remove 51 = .ok (.ifCond .ne 21, 3) := by decide +kernel
theorem dX3_remove_54 : decode cX3_remove 54 = .ok (.aload_n 0, 1) := by decide +kernel
theorem dX3_remove_55 : decode cX3_remove 55 = .ok (.getfield 59, 3) := by decide +kernel
theorem dX3_remove_58 : decode cX3_remove 58 = .ok (.iload_n 2, 1) := by decide +kernel
theorem dX3_remove_59 : decode cX3_remove 59 = .ok (.iconst 0, 1) := by decide +kernel
theorem dX3_remove_60 : decode cX3_remove 60 = .ok (.invokevirtual 96, 3) := by decide +kernel
theorem dX3_remove_63 : decode cX3_remove 63 = .ok (.aload_n 0, 1) := by decide +kernel
theorem dX3_remove_64 : decode cX3_remove 64 = .ok (.getfield 23, 3) := by decide +kernel
theorem dX3_remove_67 : decode cX3_remove 67 = .ok (.iload_n 1, 1) := by decide +kernel
theorem dX3_remove_68 : decode cX3_remove 68 = .ok (.iload_n 2, 1) := by decide +kernel
theorem dX3_remove_69 : decode cX3_remove 69 = .ok (.invokevirtual 184, 3) := by decide +kernel
theorem dX3_remove_72 : decode cX3_remove 72 = .ok (.return_, 1) := by decide +kernel
theorem dX3_remove_73 : decode cX3_remove 73 = .ok (.iinc 2 (-1), 3) := by decide +kernel
theorem dX3_remove_76 : decode cX3_remove 76 = .ok (.goto (-68), 3) := by decide +kernel
theorem dX3_remove_79 : decode cX3_remove 79 = .ok (.return_, 1) := by decide +kernel
theorem dX3_putBack_0 : decode cX3_putBack 0 = .ok (.aload_n 0, 1) := by decide +kernel
theorem dX3_putBack_1 : decode cX3_putBack 1 = .ok (.getfield 23, 3) := by decide +kernel
theorem dX3_putBack_4 : decode cX3_putBack 4 = .ok (.iload_n 1, 1) := by decide +kernel
theorem dX3_putBack_5 : decode cX3_putBack 5 = .ok (.invokevirtual 115, 3) := by decide +kernel
theorem dX3_putBack_8 : decode cX3_putBack 8 = .ok (.istore_n 2, 1) := by decide +kernel
theorem dX3_putBack_9 : decode cX3_putBack 9 = .ok (.iload_n 2, 1) := by decide +kernel
theorem dX3_putBack_10 : decode cX3_putBack 10 = .ok (.ifCond .eq 12, 3) := by decide +kernel
theorem dX3_putBack_13 : decode cX3_putBack 13 = .ok (.aload_n 0, 1) := by decide +kernel
theorem dX3_putBack_14 : decode cX3_putBack 14 = .ok (.getfield 59, 3) := by decide +kernel
theorem dX3_putBack_17 : decode cX3_putBack 17 = .ok (.iload_n 2, 1) := by decide +kernel
theorem dX3_putBack_18 : decode cX3_putBack 18 = .ok (.iconst 1, 1) := by decide +kernel
theorem dX3_putBack_19 : decode cX3_putBack 19 = .ok (.invokevirtual 96, 3) := by decide +kernel
theorem dX3_putBack_22 : decode cX3_putBack 22 = .ok (.return_, 1) := by decide +kernel
theorem dX4_init_0 : decode cX4_init 0 = .ok (.aload_n 0, 1) := by decide +kernel
theorem dX4_init_1 : decode cX4_init 1 = .ok (.invokespecial 5, 3) := by decide +kernel
theorem dX4_init_4 : decode cX4_init 4 = .ok (.aload_n 0, 1) := by decide +kernel
theorem dX4_init_5 : decode cX4_init 5 = .ok (.new 11, 3) := by decide +kernel
theorem dX4_init_8 : decode cX4_init 8 = .ok (.dup, 1) := by decide +kernel
theorem dX4_init_9 : decode cX4_init 9 = .ok (.sipush 601, 3) := by decide +kernel
theorem dX4_init_12 : decode cX4_init 12 = .ok (.invokespecial 13, 3) := by decide +kernel
theorem dX4_init_15 : decode cX4_init 15 = .ok (.putfield 16, 3) := by decide +kernel
theorem dX4_init_18 : decode cX4_init 18 = .ok (.aload_n 0, 1) := by decide +kernel
theorem dX4_init_19 : decode cX4_init 19 = .ok (.new 11, 3) := by decide +kernel
theorem dX4_init_22 : decode cX4_init 22 = .ok (.dup, 1) := by decide +kernel
theorem dX4_init_23 : decode cX4_init 23 = .ok (.sipush 601, 3) := by decide +kernel
theorem dX4_init_26 : decode cX4_init 26 = .ok (.invokespecial 13, 3) := by decide +kernel
theorem dX4_init_29 : decode cX4_init 29 = .ok (.putfield 20, 3) := by decide +kernel
theorem dX4_init_32 : decode cX4_init 32 = .ok (.aload_n 0, 1) := by decide +kernel
theorem dX4_init_33 : decode cX4_init 33 = .ok (.new 11, 3) := by decide +kernel
theorem dX4_init_36 : decode cX4_init 36 = .ok (.dup, 1) := by decide +kernel
theorem dX4_init_37 : decode cX4_init 37 = .ok (.sipush 601, 3) := by decide +kernel
theorem dX4_init_40 : decode cX4_init 40 = .ok (.invokespecial 13, 3) := by decide +kernel
theorem dX4_init_43 : decode cX4_init 43 = .ok (.putfield 23, 3) := by decide +kernel
theorem dX4_init_46 : decode cX4_init 46 = .ok (.aload_n 0, 1) := by decide +kernel
theorem dX4_init_47 : decode cX4_init 47 = .ok (.new 11, 3) := by decide +kernel
theorem dX4_init_50 : decode cX4_init 50 = .ok (.dup, 1) := by decide +kernel
theorem dX4_init_51 : decode cX4_init 51 = .ok (.sipush 601, 3) := by decide +kernel
theorem dX4_init_54 : decode cX4_init 54 = .ok (.invokespecial 13, 3) := by decide +kernel
theorem dX4_init_57 : decode cX4_init 57 = .ok (.putfield 26, 3) := by decide +kernel
theorem dX4_init_60 : decode cX4_init 60 = .ok (.aload_n 0, 1) := by decide +kernel
theorem dX4_init_61 : decode cX4_init 61 = .ok (.new 11, 3) := by decide +kernel
theorem dX4_init_64 : decode cX4_init 64 = .ok (.dup, 1) := by decide +kernel
theorem dX4_init_65 : decode cX4_init 65 = .ok (.bipush 38, 2) := by decide +kernel
theorem dX4_init_67 : decode cX4_init 67 = .ok (.invokespecial 13, 3) := by decide +kernel
theorem dX4_init_70 : decode cX4_init 70 = .ok (.putfield 29, 3) := by decide +kernel
theorem dX4_init_73 : decode cX4_init 73 = .ok (.aload_n 0, 1) := by decide +kernel
theorem dX4_init_74 : decode cX4_init 74 = .ok (.new 11, 3) := by decide +kernel
theorem dX4_init_77 : decode cX4_init 77 = .ok (.dup, 1) := by decide +kernel
theorem dX4_init_78 : decode cX4_init 78 = .ok (.sipush 151, 3) := by decide +kernel
theorem dX4_init_81 : decode cX4_init 81 = .ok (.invokespecial 13, 3) := by decide +kernel
theorem dX4_init_84 : decode cX4_init 84 = .ok (.putfield 32, 3) := by decide +kernel
theorem dX4_init_87 : decode cX4_init 87 = .ok (.aload_n 0, 1) := by decide +kernel
theorem dX4_init_88 : decode cX4_init 88 = .ok (.new 11, 3) := by decide +kernel
theorem dX4_init_91 : decode cX4_init 91 = .ok (.dup, 1) := by decide +kernel
theorem dX4_init_92 : decode cX4_init 92 = .ok (.bipush 80, 2) := by decide +kernel
theorem dX4_init_94 : decode cX4_init 94 = .ok (.invokespecial 13, 3) := by decide +kernel
theorem dX4_init_97 : decode cX4_init 97 = .ok (.putfield 35, 3) := by decide +kernel
theorem dX4_init_100 : decode cX4_init 100 = .ok (.aload_n 0, 1) := by decide +kernel
theorem dX4_init_101 : decode cX4_init 101 = .ok (.new 11, 3) := by decide +kernel
theorem dX4_init_104 : decode cX4_init 104 = .ok (.dup, 1) := by decide +kernel
theorem dX4_init_105 : decode cX4_init 105 = .ok (.sipush 150, 3) := by decide +kernel
theorem dX4_init_108 : decode cX4_init 108 = .ok (.invokespecial 13, 3) := by decide +kernel
theorem dX4_init_111 : decode cX4_init 111 = .ok (.putfield 38, 3) := by decide +kernel
theorem dX4_init_114 : decode cX4_init 114 = .ok (.aload_n 0, 1) := by decide +kernel
theorem dX4_init_115 : decode cX4_init 115 = .ok (.new 11, 3) := by decide +kernel
theorem dX4_init_118 : decode cX4_init 118 = .ok (.dup, 1) := by decide +kernel
theorem dX4_init_119 : decode cX4_init 119 = .ok (.sipush 150, 3) := by decide +kernel
theorem dX4_init_122 : decode cX4_init 122 = .ok (.invokespecial 13, 3) := by decide +kernel
theorem dX4_init_125 : decode cX4_init 125 = .ok (.putfield 41, 3) := by decide +kernel
theorem dX4_init_128 : decode cX4_init 128 = .ok (.aload_n 0, 1) := by decide +kernel
theorem dX4_init_129 : decode cX4_init 129 = .ok (.new 11, 3) := by decide +kernel
theorem dX4_init_132 : decode cX4_init 132 = .ok (.dup, 1) := by decide +kernel
theorem dX4_init_133 : decode cX4_init 133 = .ok (.sipush 302, 3) := by decide +kernel
theorem dX4_init_136 : decode cX4_init 136 = .ok (.invokespecial 13, 3) := by decide +kernel
theorem dX4_init_139 : decode cX4_init 139 = .ok (.putfield 44, 3) := by decide +kernel
theorem dX4_init_142 : decode cX4_init 142 = .ok (.aload_n 0, 1) := by decide +kernel
theorem dX4_init_143 : decode cX4_init 143 = .ok (.new 11, 3) := by decide +kernel
theorem dX4_init_146 : decode cX4_init 146 = .ok (.dup, 1) := by decide +kernel
theorem dX4_init_147 : decode cX4_init 147 = .ok (.sipush 151, 3) := by decide +kernel
theorem dX4_init_150 : decode cX4_init 150 = .ok (.invokespecial 13, 3) := by decide +kernel
theorem dX4_init_153 : decode cX4_init 153 = .ok (.putfield 47, 3) := by decide +kernel
theorem dX4_init_156 : decode cX4_init 156 = .ok (.aload_n 0, 1) := by decide +kernel
theorem dX4_init_157 : decode cX4_init 157 = .ok (.iconst 0, 1) := by decide +kernel
theorem dX4_init_158 : decode cX4_init 158 = .ok (.putfield 50, 3) := by decide +kernel
theorem dX4_init_161 : decode cX4_init 161 = .ok (.aload_n 0, 1) := by decide +kernel
theorem dX4_init_162 : decode cX4_init 162 = .ok (.iconst 0, 1) := by decide +kernel
theorem dX4_init_163 : decode cX4_init 163 = .ok (.putfield 54, 3) := by decide +kernel
theorem dX4_init_166 : decode cX4_init 166 = .ok (.aload_n 0, 1) := by decide +kernel
theorem dX4_init_167 : decode cX4_init 167 = .ok (.iconst 0, 1) := by decide +kernel
theorem dX4_init_168 : decode cX4_init 168 = .ok (.putfield 57, 3) := by decide +kernel
theorem dX4_init_171 : decode cX4_init 171 = .ok (.aload_n 0, 1) := by decide +kernel
theorem dX4_init_172 : decode cX4_init 172 = .ok (.iconst 0, 1) := by decide +kernel
theorem dX4_init_173 : decode cX4_init 173 = .ok (.putfield 60, 3) := by decide +kernel
theorem dX4_init_176 : decode cX4_init 176 = .ok (.aload_n 0, 1) := by decide +kernel
theorem dX4_init_177 : decode cX4_init 177 = .ok (.iconst 0, 1) := by decide +kernel
theorem dX4_init_178 : decode cX4_init 178 = .ok (.putfield 63, 3) := by decide +kernel
theorem dX4_init_181 : decode cX4_init 181 = .ok (.aload_n 0, 1) := by decide +kernel
theorem dX4_init_182 : decode cX4_init 182 = .ok (.iconst 0, 1) := by decide +kernel
theorem dX4_init_183 : decode cX4_init 183 = .ok (.putfield 66, 3) := by decide +kernel
theorem dX4_init_186 : decode cX4_init 186 = .ok (.aload_n 0, 1) := by decide +kernel
theorem dX4_init_187 : decode cX4_init 187 = .ok (.aload_n 1, 1) := by decide +kernel
theorem dX4_init_188 : decode cX4_init 188 = .ok (.putfield 69, 3) := by decide +kernel
theorem dX4_init_191 : decode cX4_init 191 = .ok (.return_, 1) := by decide +kernel
theorem dX4_begin_0 : decode cX4_begin 0 = .ok (.aload_n 0, 1) := by decide +kernel
theorem dX4_begin_1 : decode cX4_begin 1 = .ok (.invokevirtual 73, 3) := by decide +kernel
theorem dX4_begin_4 : decode cX4_begin 4 = .ok (.aload_n 0, 1) := by decide +kernel
theorem dX4_begin_5 : decode cX4_begin 5 = .ok (.iload_n 1, 1) := by decide +kernel
theorem dX4_begin_6 : decode cX4_begin 6 = .ok (.putfield 66, 3) := by decide +kernel
theorem dX4_begin_9 : decode cX4_begin 9 = .ok (.aload_n 0, 1) := by decide +kernel
theorem dX4_begin_10 : decode cX4_begin 10 = .ok (.iconst 0, 1) := by decide +kernel
theorem dX4_begin_11 : decode cX4_begin 11 = .ok (.putfield 57, 3) := by decide +kernel
theorem dX4_begin_14 : decode cX4_begin 14 = .ok (.aload_n 0, 1) := by decide +kernel
theorem dX4_begin_15 : decode cX4_begin 15 = .ok (.iconst 0, 1) := by decide +kernel
theorem dX4_begin_16 : decode cX4_begin 16 = .ok (.putfield 50, 3) := by decide +kernel
theorem dX4_begin_19 : decode cX4_begin 19 = .ok (.aload_n 0, 1) := by decide +kernel
theorem dX4_begin_20 : decode cX4_begin 20 = .ok (.getfield 32, 3) := by decide +kernel
theorem dX4_begin_23 : decode cX4_begin 23 = .ok (.iconst 0, 1) := by decide +kernel
theorem dX4_begin_24 : decode cX4_begin 24 = .ok (.invokevirtual 76, 3) := by decide +kernel
theorem dX4_begin_27 : decode cX4_begin 27 = .ok (.iconst 1, 1) := by decide +kernel
theorem dX4_begin_28 : decode cX4_begin 28 = .ok (.istore_n 2, 1) := by decide +kernel
theorem dX4_begin_29 : decode cX4_begin 29 = .ok (.iload_n 2, 1) := by decide +kernel
theorem dX4_begin_30 : decode cX4_begin 30 = .ok (.aload_n 0, 1) := by decide +kernel
theorem dX4_begin_31 : decode cX4_begin 31 = .ok (.getfield 69, 3) := by decide +kernel
theorem dX4_begin_34 : decode cX4_begin 34 = .ok (.invokevirtual 79, 3) := by decide +kernel
theorem dX4_begin_37 : decode cX4_begin 37 = .ok (.if_icmp .gt 83, 3) := by decide +kernel
theorem dX4_begin_40 : decode cX4_begin 40 = .ok (.aload_n 0, 1) := by decide +kernel
theorem dX4_begin_41 : decode cX4_begin 41 = .ok (.getfield 16, 3) := by decide +kernel
theorem dX4_begin_44 : decode cX4_begin 44 = .ok (.iload_n 2, 1) := by decide +kernel
theorem dX4_begin_45 : decode cX4_begin 45 = .ok (.iload_n 2, 1) := by decide +kernel
theorem dX4_begin_46 : decode cX4_begin 46 = .ok (.aload_n 0, 1) := by decide +kernel
theorem dX4_begin_47 : decode cX4_begin 47 = .ok (.getfield 69, 3) := by decide +kernel
theorem dX4_begin_50 : decode cX4_begin 50 = .ok (.invokevirtual 85, 3) := by decide +kernel
theorem dX4_begin_53 : decode cX4_begin 53 = .ok (.if_icmp .gt 7, 3) := by decide +kernel
theorem dX4_begin_56 : decode cX4_begin 56 = .ok (.iconst 1, 1) := by decide +kernel
theorem dX4_begin_57 : decode cX4_begin 57 = .ok (.goto 4, 3) := by decide +kernel
theorem dX4_begin_60 : decode cX4_begin 60 = .ok (.iconst 0, 1) := by decide +kernel
theorem dX4_begin_61 : decode cX4_begin 61 = .ok (.invokevirtual 88, 3) := by decide +kernel
theorem dX4_begin_64 : decode cX4_begin 64 = .ok (.aload_n 0, 1) := by decide +kernel
theorem dX4_begin_65 : decode cX4_begin 65 = .ok (.getfield 23, 3) := by decide +kernel
theorem dX4_begin_68 : decode cX4_begin 68 = .ok (.iload_n 2, 1) := by decide +kernel
theorem dX4_begin_69 : decode cX4_begin 69 = .ok (.aload_n 0, 1) := by decide +kernel
theorem dX4_begin_70 : decode cX4_begin 70 = .ok (.getfield 69, 3) := by decide +kernel
theorem dX4_begin_73 : decode cX4_begin 73 = .ok (.iload_n 2, 1) := by decide +kernel
theorem dX4_begin_74 : decode cX4_begin 74 = .ok (.invokevirtual 92, 3) := by decide +kernel
theorem dX4_begin_77 : decode cX4_begin 77 = .ok (.invokevirtual 88, 3) := by decide +kernel
theorem dX4_begin_80 : decode cX4_begin 80 = .ok (.aload_n 0, 1) := by decide +kernel
theorem dX4_begin_81 : decode cX4_begin 81 = .ok (.getfield 69, 3) := by decide +kernel
theorem dX4_begin_84 : decode cX4_begin 84 = .ok (.iload_n 2, 1) := by decide +kernel
theorem dX4_begin_85 : decode cX4_begin 85 = .ok (.invokevirtual 92, 3) := by decide +kernel
theorem dX4_begin_88 : decode cX4_begin 88 = .ok (.iconst 1, 1) := by decide +kernel
theorem dX4_begin_89 : decode cX4_begin 89 = .ok (.if_icmp .gt 25, 3) := by decide +kernel
theorem dX4_begin_92 : decode cX4_begin 92 = .ok (.aload_n 0, 1) := by decide +kernel
theorem dX4_begin_93 : decode cX4_begin 93 = .ok (.getfield 26, 3) := by decide +kernel
theorem dX4_begin_96 : decode cX4_begin 96 = .ok (.aload_n 0, 1) := by decide +kernel
theorem dX4_begin_97 : decode cX4_begin 97 = .ok (.getfield 50, 3) := by decide +kernel
theorem dX4_begin_100 : decode cX4_begin 100 = .ok (.iload_n 2, 1) := by decide +kernel
theorem dX4_begin_101 : decode cX4_begin 101 = .ok (.invokevirtual 88, 3) := by decide +kernel
theorem dX4_begin_104 : decode cX4_begin 104 = .ok (.aload_n 0, 1) := by decide +kernel
theorem dX4_begin_105 : decode cX4_begin 105 = .ok (.dup, 1) := by decide +kernel
theorem dX4_begin_106 : decode cX4_begin 106 = .ok (.getfield 50, 3) := by decide +kernel
theorem dX4_begin_109 : decode cX4_begin 109 = .ok (.iconst 1, 1) := by decide +kernel
theorem dX4_begin_110 : decode cX4_begin 110 = .ok (.iadd, 1) := by decide +kernel
theorem dX4_begin_111 : decode cX4_begin 111 = .ok (.putfield 50, 3) := by decide +kernel
theorem dX4_begin_114 : decode cX4_begin 114 = .ok (.iinc 2 1, 3) := by decide +kernel
theorem dX4_begin_117 : decode cX4_begin 117 = .ok (.goto (-88), 3) := by decide +kernel
theorem dX4_begin_120 : decode cX4_begin 120 = .ok (.return_, 1) := by decide +kernel
theorem dX4_forget_0 : decode cX4_forget 0 = .ok (.aload_n 0, 1) := by decide +kernel
theorem dX4_forget_1 : decode cX4_forget 1 = .ok (.iconst 0, 1) := by decide +kernel
theorem dX4_forget_2 : decode cX4_forget 2 = .ok (.putfield 66, 3) := by decide +kernel
theorem dX4_forget_5 : decode cX4_forget 5 = .ok (.aload_n 0, 1) := by decide +kernel
theorem dX4_forget_6 : decode cX4_forget 6 = .ok (.getfield 20, 3) := by decide +kernel
theorem dX4_forget_9 : decode cX4_forget 9 = .ok (.iconst 0, 1) := by decide +kernel
theorem dX4_forget_10 : decode cX4_forget 10 = .ok (.invokevirtual 76, 3) := by decide +kernel
theorem dX4_forget_13 : decode cX4_forget 13 = .ok (.return_, 1) := by decide +kernel
theorem dX4_fuelLeft_0 : decode cX4_fuelLeft 0 = .ok (.aload_n 0, 1) := by decide +kernel
theorem dX4_fuelLeft_1 : decode cX4_fuelLeft 1 = .ok (.getfield 66, 3) := by decide +kernel
theorem dX4_fuelLeft_4 : decode cX4_fuelLeft 4 = .ok (.ireturn, 1) := by decide +kernel
theorem dX4_isActive_0 : decode cX4_isActive 0 = .ok (.aload_n 0, 1) := by decide +kernel
theorem dX4_isActive_1 : decode cX4_isActive 1 = .ok (.getfield 16, 3) := by decide +kernel
theorem dX4_isActive_4 : decode cX4_isActive 4 = .ok (.iload_n 1, 1) := by decide +kernel
theorem dX4_isActive_5 : decode cX4_isActive 5 = .ok (.invokevirtual 96, 3) := by decide +kernel
theorem dX4_isActive_8 : decode cX4_isActive 8 = .ok (.ifCond .eq 7, 3) := by decide +kernel
theorem dX4_isActive_11 : decode cX4_isActive 11 = .ok (.iconst 1, 1) := by decide +kernel
theorem dX4_isActive_12 : decode cX4_isActive 12 = .ok (.goto 4, 3) := by decide +kernel
theorem dX4_isActive_15 : decode cX4_isActive 15 = .ok (.iconst 0, 1) := by decide +kernel
theorem dX4_isActive_16 : decode cX4_isActive 16 = .ok (.ireturn, 1) := by decide +kernel
theorem dX4_setActive_0 : decode cX4_setActive 0 = .ok (.aload_n 0, 1) := by decide +kernel
theorem dX4_setActive_1 : decode cX4_setActive 1 = .ok (.getfield 16, 3) := by decide +kernel
theorem dX4_setActive_4 : decode cX4_setActive 4 = .ok (.iload_n 1, 1) := by decide +kernel
theorem dX4_setActive_5 : decode cX4_setActive 5 = .ok (.iload_n 2, 1) := by decide +kernel
theorem dX4_setActive_6 : decode cX4_setActive 6 = .ok (.ifCond .eq 7, 3) := by decide +kernel
theorem dX4_setActive_9 : decode cX4_setActive 9 = .ok (.iconst 1, 1) := by decide +kernel
theorem dX4_setActive_10 : decode cX4_setActive 10 = .ok (.goto 4, 3) := by decide +kernel
theorem dX4_setActive_13 : decode cX4_setActive 13 = .ok (.iconst 0, 1) := by decide +kernel
theorem dX4_setActive_14 : decode cX4_setActive 14 = .ok (.invokevirtual 88, 3) := by decide +kernel
theorem dX4_setActive_17 : decode cX4_setActive 17 = .ok (.return_, 1) := by decide +kernel
theorem dX4_isMarked_0 : decode cX4_isMarked 0 = .ok (.aload_n 0, 1) := by decide +kernel
theorem dX4_isMarked_1 : decode cX4_isMarked 1 = .ok (.getfield 20, 3) := by decide +kernel
theorem dX4_isMarked_4 : decode cX4_isMarked 4 = .ok (.iload_n 1, 1) := by decide +kernel
theorem dX4_isMarked_5 : decode cX4_isMarked 5 = .ok (.invokevirtual 96, 3) := by decide +kernel
theorem dX4_isMarked_8 : decode cX4_isMarked 8 = .ok (.ifCond .eq 7, 3) := by decide +kernel
theorem dX4_isMarked_11 : decode cX4_isMarked 11 = .ok (.iconst 1, 1) := by decide +kernel
theorem dX4_isMarked_12 : decode cX4_isMarked 12 = .ok (.goto 4, 3) := by decide +kernel
theorem dX4_isMarked_15 : decode cX4_isMarked 15 = .ok (.iconst 0, 1) := by decide +kernel
theorem dX4_isMarked_16 : decode cX4_isMarked 16 = .ok (.ireturn, 1) := by decide +kernel
theorem dX4_mark_0 : decode cX4_mark 0 = .ok (.aload_n 0, 1) := by decide +kernel
theorem dX4_mark_1 : decode cX4_mark 1 = .ok (.getfield 20, 3) := by decide +kernel
theorem dX4_mark_4 : decode cX4_mark 4 = .ok (.iload_n 1, 1) := by decide +kernel
theorem dX4_mark_5 : decode cX4_mark 5 = .ok (.iconst 1, 1) := by decide +kernel
theorem dX4_mark_6 : decode cX4_mark 6 = .ok (.invokevirtual 88, 3) := by decide +kernel
theorem dX4_mark_9 : decode cX4_mark 9 = .ok (.return_, 1) := by decide +kernel
theorem dX4_restart_0 : decode cX4_restart 0 = .ok (.iconst 0, 1) := by decide +kernel
theorem dX4_restart_1 : decode cX4_restart 1 = .ok (.istore_n 1, 1) := by decide +kernel
theorem dX4_restart_2 : decode cX4_restart 2 = .ok (.iload_n 1, 1) := by decide +kernel
theorem dX4_restart_3 : decode cX4_restart 3 = .ok (.aload_n 0, 1) := by decide +kernel
theorem dX4_restart_4 : decode cX4_restart 4 = .ok (.getfield 57, 3) := by decide +kernel
theorem dX4_restart_7 : decode cX4_restart 7 = .ok (.if_icmp .ge 21, 3) := by decide +kernel
theorem dX4_restart_10 : decode cX4_restart 10 = .ok (.aload_n 0, 1) := by decide +kernel
theorem dX4_restart_11 : decode cX4_restart 11 = .ok (.aload_n 0, 1) := by decide +kernel
theorem dX4_restart_12 : decode cX4_restart 12 = .ok (.getfield 38, 3) := by decide +kernel
theorem dX4_restart_15 : decode cX4_restart 15 = .ok (.iload_n 1, 1) := by decide +kernel
theorem dX4_restart_16 : decode cX4_restart 16 = .ok (.invokevirtual 96, 3) := by decide +kernel
theorem dX4_restart_19 : decode cX4_restart 19 = .ok (.invokevirtual 99, 3) := by decide +kernel
theorem dX4_restart_22 : decode cX4_restart 22 = .ok (.iinc 1 1, 3) := by decide +kernel
theorem dX4_restart_25 : decode cX4_restart 25 = .ok (.goto (-23), 3) := by decide +kernel
theorem dX4_restart_28 : decode cX4_restart 28 = .ok (.aload_n 0, 1) := by decide +kernel
theorem dX4_restart_29 : decode cX4_restart 29 = .ok (.iconst 0, 1) := by decide +kernel
theorem dX4_restart_30 : decode cX4_restart 30 = .ok (.putfield 57, 3) := by decide +kernel
theorem dX4_restart_33 : decode cX4_restart 33 = .ok (.aload_n 0, 1) := by decide +kernel
theorem dX4_restart_34 : decode cX4_restart 34 = .ok (.iconst 0, 1) := by decide +kernel
theorem dX4_restart_35 : decode cX4_restart 35 = .ok (.putfield 54, 3) := by decide +kernel
theorem dX4_restart_38 : decode cX4_restart 38 = .ok (.aload_n 0, 1) := by decide +kernel
theorem dX4_restart_39 : decode cX4_restart 39 = .ok (.iconst 0, 1) := by decide +kernel
theorem dX4_restart_40 : decode cX4_restart 40 = .ok (.putfield 63, 3) := by decide +kernel
theorem dX4_restart_43 : decode cX4_restart 43 = .ok (.aload_n 0, 1) := by decide +kernel
theorem dX4_restart_44 : decode cX4_restart 44 = .ok (.getfield 29, 3) := by decide +kernel
theorem dX4_restart_47 : decode cX4_restart 47 = .ok (.iconst 0, 1) := by decide +kernel
theorem dX4_restart_48 : decode cX4_restart 48 = .ok (.invokevirtual 76, 3) := by decide +kernel
theorem dX4_restart_51 : decode cX4_restart 51 = .ok (.iconst 0, 1) := by decide +kernel
theorem dX4_restart_52 : decode cX4_restart 52 = .ok (.istore_n 1, 1) := by decide +kernel
theorem dX4_restart_53 : decode cX4_restart 53 = .ok (.iload_n 1, 1) := by decide +kernel
theorem dX4_restart_54 : decode cX4_restart 54 = .ok (.aload_n 0, 1) := by decide +kernel
theorem dX4_restart_55 : decode cX4_restart 55 = .ok (.getfield 50, 3) := by decide +kernel
theorem dX4_restart_58 : decode cX4_restart 58 = .ok (.if_icmp .ge 21, 3) := by decide +kernel
theorem dX4_restart_61 : decode cX4_restart 61 = .ok (.aload_n 0, 1) := by decide +kernel
theorem dX4_restart_62 : decode cX4_restart 62 = .ok (.aload_n 0, 1) := by decide +kernel
theorem dX4_restart_63 : decode cX4_restart 63 = .ok (.getfield 26, 3) := by decide +kernel
theorem dX4_restart_66 : decode cX4_restart 66 = .ok (.iload_n 1, 1) := by decide +kernel
theorem dX4_restart_67 : decode cX4_restart 67 = .ok (.invokevirtual 96, 3) := by decide +kernel
theorem dX4_restart_70 : decode cX4_restart 70 = .ok (.invokevirtual 102, 3) := by decide +kernel
theorem dX4_restart_73 : decode cX4_restart 73 = .ok (.iinc 1 1, 3) := by decide +kernel
theorem dX4_restart_76 : decode cX4_restart 76 = .ok (.goto (-23), 3) := by decide +kernel
theorem dX4_restart_79 : decode cX4_restart 79 = .ok (.return_, 1) := by decide +kernel
theorem dX4_assumeOpposites_0 : decode cX4_assumeOpposites 0 = .ok (.aload_n 0, 1) := by decide +kernel
theorem dX4_assumeOpposites_1 : decode cX4_assumeOpposites 1 = .ok (.getfield 69, 3) := by decide +kernel
theorem dX4_assumeOpposites_4 : decode cX4_assumeOpposites 4 = .ok (.iload_n 1, 1) := by decide +kernel
theorem dX4_assumeOpposites_5 : decode cX4_assumeOpposites 5 = .ok (.invokevirtual 92, 3) := by decide +kernel
theorem dX4_assumeOpposites_8 : decode cX4_assumeOpposites 8 = .ok (.istore_n 3, 1) := by decide +kernel
theorem dX4_assumeOpposites_9 : decode cX4_assumeOpposites 9 = .ok (.iconst 0, 1) := by decide +kernel
theorem dX4_assumeOpposites_10 : decode cX4_assumeOpposites 10 = .ok (.istore 4, 2) := by decide +kernel
theorem dX4_assumeOpposites_12 : decode cX4_assumeOpposites 12 = .ok (.iload 4, 2) := by decide +kernel
theorem dX4_assumeOpposites_14 : decode cX4_assumeOpposites 14 = .ok (.iload_n 3, 1) := by decide +kernel
theorem dX4_assumeOpposites_15 : decode cX4_assumeOpposites 15 = .ok (.if_icmp .ge 51, 3) := by decide +kernel
theorem dX4_assumeOpposites_18 : decode cX4_assumeOpposites 18 = .ok (.aload_n 0, 1) := by decide +kernel
theorem dX4_assumeOpposites_19 : decode cX4_assumeOpposites 19 = .ok (.getfield 69, 3) := by decide +kernel
theorem dX4_assumeOpposites_22 : decode cX4_assumeOpposites 22 = .ok (.iload_n 1, 1) := by decide +kernel
theorem dX4_assumeOpposites_23 : decode cX4_assumeOpposites 23 = .ok (.iload 4, 2) := by decide +kernel
theorem dX4_assumeOpposites_25 : decode cX4_assumeOpposites 25 = .ok (.invokevirtual 105, 3) := by decide +kernel
theorem dX4_assumeOpposites_28 : decode cX4_assumeOpposites 28 = .ok (.istore 5, 2) := by decide +kernel
theorem dX4_assumeOpposites_30 : decode cX4_assumeOpposites 30 = .ok (.iload 5, 2) := by decide +kernel
theorem dX4_assumeOpposites_32 : decode cX4_assumeOpposites 32 = .ok (.iload_n 2, 1) := by decide +kernel
theorem dX4_assumeOpposites_33 : decode cX4_assumeOpposites 33 = .ok (.if_icmp .eq 27, 3) := by decide +kernel
theorem dX4_assumeOpposites_36 : decode cX4_assumeOpposites 36 = .ok (.aload_n 0, 1) := by decide +kernel
theorem dX4_assumeOpposites_37 : decode cX4_assumeOpposites 37 = .ok (.getfield 35, 3) := by decide +kernel
theorem dX4_assumeOpposites_40 : decode cX4_assumeOpposites 40 = .ok (.aload_n 0, 1) := by decide +kernel
theorem dX4_assumeOpposites_41 : decode cX4_assumeOpposites 41 = .ok (.getfield 54, 3) := by decide +kernel
theorem dX4_assumeOpposites_44 : decode cX4_assumeOpposites 44 = .ok (.iload 5, 2) := by decide +kernel
theorem dX4_assumeOpposites_46 : decode cX4_assumeOpposites 46 = .ok (.ineg, 1) := by decide +kernel
theorem dX4_assumeOpposites_47 : decode cX4_assumeOpposites 47 = .ok (.invokevirtual 88, 3) := by decide +kernel
theorem dX4_assumeOpposites_50 : decode cX4_assumeOpposites 50 = .ok (.aload_n 0, 1) := by decide +kernel
theorem dX4_assumeOpposites_51 : decode cX4_assumeOpposites 51 = .ok (.dup, 1) := by decide +kernel
theorem dX4_assumeOpposites_52 : decode cX4_assumeOpposites 52 = .ok (.getfield 54, 3) := by decide +kernel
theorem dX4_assumeOpposites_55 : decode cX4_assumeOpposites 55 = .ok (.iconst 1, 1) := by decide +kernel
theorem dX4_assumeOpposites_56 : decode cX4_assumeOpposites 56 = .ok (.iadd, 1) := by decide +kernel
theorem dX4_assumeOpposites_57 : decode cX4_assumeOpposites 57 = .ok (.putfield 54, 3) := by decide +kernel
theorem dX4_assumeOpposites_60 : decode cX4_assumeOpposites 60 = .ok (.iinc 4 1, 3) := by decide +kernel
theorem dX4_assumeOpposites_63 : decode cX4_assumeOpposites 63 = .ok (.goto (-51), 3) := by decide +kernel
theorem dX4_assumeOpposites_66 : decode cX4_assumeOpposites 66 = .ok (.return_, 1) := by decide +kernel
theorem dX4_run_0 : decode cX4_run 0 = .ok (.iconst 0, 1) := by decide +kernel
theorem dX4_run_1 : decode cX4_run 1 = .ok (.istore_n 1, 1) := by decide +kernel
theorem dX4_run_2 : decode cX4_run 2 = .ok (.iload_n 1, 1) := by decide +kernel
theorem dX4_run_3 : decode cX4_run 3 = .ok (.aload_n 0, 1) := by decide +kernel
theorem dX4_run_4 : decode cX4_run 4 = .ok (.getfield 54, 3) := by decide +kernel
theorem dX4_run_7 : decode cX4_run 7 = .ok (.if_icmp .ge 45, 3) := by decide +kernel
theorem dX4_run_10 : decode cX4_run 10 = .ok (.aload_n 0, 1) := by decide +kernel
theorem dX4_run_11 : decode cX4_run 11 = .ok (.getfield 35, 3) := by decide +kernel
theorem dX4_run_14 : decode cX4_run 14 = .ok (.iload_n 1, 1) := by decide +kernel
theorem dX4_run_15 : decode cX4_run 15 = .ok (.invokevirtual 96, 3) := by decide +kernel
theorem dX4_run_18 : decode cX4_run 18 = .ok (.istore_n 2, 1) := by decide +kernel
theorem dX4_run_19 : decode cX4_run 19 = .ok (.aload_n 0, 1) := by decide +kernel
theorem dX4_run_20 : decode cX4_run 20 = .ok (.iload_n 2, 1) := by decide +kernel
theorem dX4_run_21 : decode cX4_run 21 = .ok (.invokevirtual 109, 3) := by decide +kernel
theorem dX4_run_24 : decode cX4_run 24 = .ok (.istore_n 3, 1) := by decide +kernel
theorem dX4_run_25 : decode cX4_run 25 = .ok (.iload_n 3, 1) := by decide +kernel
theorem dX4_run_26 : decode cX4_run 26 = .ok (.ifCond .ge 5, 3) := by decide +kernel
theorem dX4_run_29 : decode cX4_run 29 = .ok (.iconst 1, 1) := by decide +kernel
theorem dX4_run_30 : decode cX4_run 30 = .ok (.ireturn, 1) := by decide +kernel
theorem dX4_run_31 : decode cX4_run 31 = .ok (.iload_n 3, 1) := by decide +kernel
theorem dX4_run_32 : decode cX4_run 32 = .ok (.ifCond .ne 14, 3) := by decide +kernel
theorem dX4_run_35 : decode cX4_run 35 = .ok (.aload_n 0, 1) := by decide +kernel
theorem dX4_run_36 : decode cX4_run 36 = .ok (.iload_n 2, 1) := by decide +kernel
theorem dX4_run_37 : decode cX4_run 37 = .ok (.iconst 0, 1) := by decide +kernel
theorem dX4_run_38 : decode cX4_run 38 = .ok (.invokevirtual 112, 3) := by decide +kernel
theorem dX4_run_41 : decode cX4_run 41 = .ok (.ifCond .ne 5, 3) := by decide +kernel
theorem dX4_run_44 : decode cX4_run 44 = .ok (.iconst 2, 1) := by decide +kernel
theorem dX4_run_45 : decode cX4_run 45 = .ok (.ireturn, 1) := by decide +kernel
theorem dX4_run_46 : decode cX4_run 46 = .ok (.iinc 1 1, 3) := by decide +kernel
theorem dX4_run_49 : decode cX4_run 49 = .ok (.goto (-47), 3) := by decide +kernel
theorem dX4_run_52 : decode cX4_run 52 = .ok (.iconst 0, 1) := by decide +kernel
theorem dX4_run_53 : decode cX4_run 53 = .ok (.istore_n 1, 1) := by decide +kernel
theorem dX4_run_54 : decode cX4_run 54 = .ok (.iload_n 1, 1) := by decide +kernel
theorem dX4_run_55 : decode cX4_run 55 = .ok (.sipush 600, 3) := by decide +kernel
theorem dX4_run_58 : decode cX4_run 58 = .ok (.if_icmp .gt 56, 3) := by decide +kernel
theorem dX4_run_61 : decode cX4_run 61 = .ok (.aload_n 0, 1) := by decide +kernel
theorem dX4_run_62 : decode cX4_run 62 = .ok (.invokevirtual 116, 3) := by decide +kernel
theorem dX4_run_65 : decode cX4_run 65 = .ok (.istore_n 2, 1) := by decide +kernel
theorem dX4_run_66 : decode cX4_run 66 = .ok (.iload_n 2, 1) := by decide +kernel
theorem dX4_run_67 : decode cX4_run 67 = .ok (.ifCond .ne 5, 3) := by decide +kernel
theorem dX4_run_70 : decode cX4_run 70 = .ok (.iconst 0, 1) := by decide +kernel
theorem dX4_run_71 : decode cX4_run 71 = .ok (.ireturn, 1) := by decide +kernel
theorem dX4_run_72 : decode cX4_run 72 = .ok (.aload_n 0, 1) := by decide +kernel
theorem dX4_run_73 : decode cX4_run 73 = .ok (.iload_n 2, 1) := by decide +kernel
theorem dX4_run_74 : decode cX4_run 74 = .ok (.invokevirtual 119, 3) := by decide +kernel
theorem dX4_run_77 : decode cX4_run 77 = .ok (.ifCond .ne 31, 3) := by decide +kernel
theorem dX4_run_80 : decode cX4_run 80 = .ok (.aload_n 0, 1) := by decide +kernel
theorem dX4_run_81 : decode cX4_run 81 = .ok (.iload_n 2, 1) := by decide +kernel
theorem dX4_run_82 : decode cX4_run 82 = .ok (.invokevirtual 123, 3) := by decide +kernel
theorem dX4_run_85 : decode cX4_run 85 = .ok (.istore_n 3, 1) := by decide +kernel
theorem dX4_run_86 : decode cX4_run 86 = .ok (.iload_n 3, 1) := by decide +kernel
theorem dX4_run_87 : decode cX4_run 87 = .ok (.ifCond .ne 10, 3) := by decide +kernel
theorem dX4_run_90 : decode cX4_run 90 = .ok (.aload_n 0, 1) := by decide +kernel
theorem dX4_run_91 : decode cX4_run 91 = .ok (.iload_n 2, 1) := by decide +kernel
theorem dX4_run_92 : decode cX4_run 92 = .ok (.putfield 63, 3) := by decide +kernel
theorem dX4_run_95 : decode cX4_run 95 = .ok (.iconst 1, 1) := by decide +kernel
theorem dX4_run_96 : decode cX4_run 96 = .ok (.ireturn, 1) := by decide +kernel
theorem dX4_run_97 : decode cX4_run 97 = .ok (.aload_n 0, 1) := by decide +kernel
theorem dX4_run_98 : decode cX4_run 98 = .ok (.iload_n 3, 1) := by decide +kernel
theorem dX4_run_99 : decode cX4_run 99 = .ok (.iload_n 2, 1) := by decide +kernel
theorem dX4_run_100 : decode cX4_run 100 = .ok (.invokevirtual 112, 3) := by decide +kernel
theorem dX4_run_103 : decode cX4_run 103 = .ok (.ifCond .ne 5, 3) := by decide +kernel
theorem dX4_run_106 : decode cX4_run 106 = .ok (.iconst 2, 1) := by decide +kernel
theorem dX4_run_107 : decode cX4_run 107 = .ok (.ireturn, 1) := by decide +kernel
theorem dX4_run_108 : decode cX4_run 108 = .ok (.iinc 1 1, 3) := by decide +kernel
theorem dX4_run_111 : decode cX4_run 111 = .ok (.goto (-57), 3) := by decide +kernel
theorem dX4_run_114 : decode cX4_run 114 = .ok (.iconst 0, 1) := by decide +kernel
theorem dX4_run_115 : decode cX4_run 115 = .ok (.ireturn, 1) := by decide +kernel
theorem dX4_isReason_0 : decode cX4_isReason 0 = .ok (.iconst 0, 1) := by decide +kernel
theorem dX4_isReason_1 : decode cX4_isReason 1 = .ok (.istore_n 2, 1) := by decide +kernel
theorem dX4_isReason_2 : decode cX4_isReason 2 = .ok (.iload_n 2, 1) := by decide +kernel
theorem dX4_isReason_3 : decode cX4_isReason 3 = .ok (.aload_n 0, 1) := by decide +kernel
theorem dX4_isReason_4 : decode cX4_isReason 4 = .ok (.getfield 57, 3) := by decide +kernel
theorem dX4_isReason_7 : decode cX4_isReason 7 = .ok (.if_icmp .ge 23, 3) := by decide +kernel
theorem dX4_isReason_10 : decode cX4_isReason 10 = .ok (.aload_n 0, 1) := by decide +kernel
theorem dX4_isReason_11 : decode cX4_isReason 11 = .ok (.getfield 41, 3) := by decide +kernel
theorem dX4_isReason_14 : decode cX4_isReason 14 = .ok (.iload_n 2, 1) := by decide +kernel
theorem dX4_isReason_15 : decode cX4_isReason 15 = .ok (.invokevirtual 96, 3) := by decide +kernel
theorem dX4_isReason_18 : decode cX4_isReason 18 = .ok (.iload_n 1, 1) := by decide +kernel
theorem dX4_isReason_19 : decode cX4_isReason 19 = .ok (.if_icmp .ne 5, 3) := by decide +kernel
theorem dX4_isReason_22 : decode cX4_isReason 22 = .ok (.iconst 1, 1) := by decide +kernel
theorem dX4_isReason_23 : decode cX4_isReason 23 = .ok (.ireturn, 1) := by decide +kernel
theorem dX4_isReason_24 : decode cX4_isReason 24 = .ok (.iinc 2 1, 3) := by decide +kernel
theorem dX4_isReason_27 : decode cX4_isReason 27 = .ok (.goto (-25), 3) := by decide +kernel
theorem dX4_isReason_30 : decode cX4_isReason 30 = .ok (.iconst 0, 1) := by decide +kernel
theorem dX4_isReason_31 : decode cX4_isReason 31 = .ok (.ireturn, 1) := by decide +kernel
theorem dX4_gatherUsed_0 : decode cX4_gatherUsed 0 = .ok (.aload_n 0, 1) := by decide +kernel
theorem dX4_gatherUsed_1 : decode cX4_gatherUsed 1 = .ok (.iconst 0, 1) := by decide +kernel
theorem dX4_gatherUsed_2 : decode cX4_gatherUsed 2 = .ok (.putfield 60, 3) := by decide +kernel
theorem dX4_gatherUsed_5 : decode cX4_gatherUsed 5 = .ok (.aload_n 0, 1) := by decide +kernel
theorem dX4_gatherUsed_6 : decode cX4_gatherUsed 6 = .ok (.getfield 63, 3) := by decide +kernel
theorem dX4_gatherUsed_9 : decode cX4_gatherUsed 9 = .ok (.ifCond .ne 4, 3) := by decide +kernel
theorem dX4_gatherUsed_12 : decode cX4_gatherUsed 12 = .ok (.return_, 1) := by decide +kernel
theorem dX4_gatherUsed_13 : decode cX4_gatherUsed 13 = .ok (.aload_n 0, 1) := by decide +kernel
theorem dX4_gatherUsed_14 : decode cX4_gatherUsed 14 = .ok (.getfield 44, 3) := by decide +kernel
theorem dX4_gatherUsed_17 : decode cX4_gatherUsed 17 = .ok (.iconst 0, 1) := by decide +kernel
theorem dX4_gatherUsed_18 : decode cX4_gatherUsed 18 = .ok (.invokevirtual 76, 3) := by decide +kernel
theorem dX4_gatherUsed_21 : decode cX4_gatherUsed 21 = .ok (.aload_n 0, 1) := by decide +kernel
theorem dX4_gatherUsed_22 : decode cX4_gatherUsed 22 = .ok (.aload_n 0, 1) := by decide +kernel
theorem dX4_gatherUsed_23 : decode cX4_gatherUsed 23 = .ok (.getfield 63, 3) := by decide +kernel
theorem dX4_gatherUsed_26 : decode cX4_gatherUsed 26 = .ok (.invokevirtual 126, 3) := by decide +kernel
theorem dX4_gatherUsed_29 : decode cX4_gatherUsed 29 = .ok (.aload_n 0, 1) := by decide +kernel
theorem dX4_gatherUsed_30 : decode cX4_gatherUsed 30 = .ok (.getfield 57, 3) := by decide +kernel
theorem dX4_gatherUsed_33 : decode cX4_gatherUsed 33 = .ok (.istore_n 1, 1) := by decide +kernel
theorem dX4_gatherUsed_34 : decode cX4_gatherUsed 34 = .ok (.aload_n 0, 1) := by decide +kernel
theorem dX4_gatherUsed_35 : decode cX4_gatherUsed 35 = .ok (.getfield 57, 3) := by decide +kernel
theorem dX4_gatherUsed_38 : decode cX4_gatherUsed 38 = .ok (.iconst 1, 1) := by decide +kernel
theorem dX4_gatherUsed_39 : decode cX4_gatherUsed 39 = .ok (.isub, 1) := by decide +kernel
theorem dX4_gatherUsed_40 : decode cX4_gatherUsed 40 = .ok (.istore_n 2, 1) := by decide +kernel
theorem dX4_gatherUsed_41 : decode cX4_gatherUsed 41 = .ok (.iload_n 2, 1) := by decide +kernel
theorem dX4_gatherUsed_42 : decode cX4_gatherUsed 42 = .ok (.ifCond .lt 60, 3) := by decide +kernel
theorem dX4_gatherUsed_45 : decode cX4_gatherUsed 45 = .ok (.aload_n 0, 1) := by decide +kernel
theorem dX4_gatherUsed_46 : decode cX4_gatherUsed 46 = .ok (.getfield 41, 3) := by decide +kernel
theorem dX4_gatherUsed_49 : decode cX4_gatherUsed 49 = .ok (.iload_n 2, 1) := by decide +kernel
theorem dX4_gatherUsed_50 : decode cX4_gatherUsed 50 = .ok (.invokevirtual 96, 3) := by decide +kernel
theorem dX4_gatherUsed_53 : decode cX4_gatherUsed 53 = .ok (.istore_n 3, 1) := by decide +kernel
theorem dX4_gatherUsed_54 : decode cX4_gatherUsed 54 = .ok (.iload_n 3, 1) := by decide +kernel
theorem dX4_gatherUsed_55 : decode cX4_gatherUsed 55 = .ok (.ifCond .eq 41, 3) := by decide +kernel
theorem dX4_gatherUsed_58 : decode cX4_gatherUsed 58 = .ok (.aload_n 0, 1) := by decide +kernel
theorem dX4_gatherUsed_59 : decode cX4_gatherUsed 59 = .ok (.getfield 44, 3) := by decide +kernel
theorem dX4_gatherUsed_62 : decode cX4_gatherUsed 62 = .ok (.aload_n 0, 1) := by decide +kernel
theorem dX4_gatherUsed_63 : decode cX4_gatherUsed 63 = .ok (.getfield 38, 3) := by decide +kernel
theorem dX4_gatherUsed_66 : decode cX4_gatherUsed 66 = .ok (.iload_n 2, 1) := by decide +kernel
theorem dX4_gatherUsed_67 : decode cX4_gatherUsed 67 = .ok (.invokevirtual 96, 3) := by decide +kernel
theorem dX4_gatherUsed_70 : decode cX4_gatherUsed 70 = .ok (.invokestatic 129, 3) := by decide +kernel
theorem dX4_gatherUsed_73 : decode cX4_gatherUsed 73 = .ok (.invokevirtual 96, 3) := by decide +kernel
theorem dX4_gatherUsed_76 : decode cX4_gatherUsed 76 = .ok (.ifCond .eq 20, 3) := by decide +kernel
theorem dX4_gatherUsed_79 : decode cX4_gatherUsed 79 = .ok (.aload_n 0, 1) := by decide +kernel
theorem dX4_gatherUsed_80 : decode cX4_gatherUsed 80 = .ok (.iload_n 3, 1) := by decide +kernel
theorem dX4_gatherUsed_81 : decode cX4_gatherUsed 81 = .ok (.invokevirtual 126, 3) := by decide +kernel
theorem dX4_gatherUsed_84 : decode cX4_gatherUsed 84 = .ok (.iinc 1 (-1), 3) := by decide +kernel
theorem dX4_gatherUsed_87 : decode cX4_gatherUsed 87 = .ok (.aload_n 0, 1) := by decide +kernel
theorem dX4_gatherUsed_88 : decode cX4_gatherUsed 88 = .ok (.getfield 47, 3) := by decide +kernel
theorem dX4_gatherUsed_91 : decode cX4_gatherUsed 91 = .ok (.iload_n 1, 1) := by decide +kernel
theorem dX4_gatherUsed_92 : decode cX4_gatherUsed 92 = .ok (.iload_n 3, 1) := by decide +kernel
theorem dX4_gatherUsed_93 : decode cX4_gatherUsed 93 = .ok (.invokevirtual 88, 3) := by decide +kernel
theorem dX4_gatherUsed_96 : decode cX4_gatherUsed 96 = .ok (.iinc 2 (-1), 3) := by decide +kernel
theorem dX4_gatherUsed_99 : decode cX4_gatherUsed 99 = .ok (.goto (-58), 3) := by decide +kernel
theorem dX4_gatherUsed_102 : decode cX4_gatherUsed 102 = .ok (.iload_n 1, 1) := by decide +kernel
theorem dX4_gatherUsed_103 : decode cX4_gatherUsed 103 = .ok (.istore_n 2, 1) := by decide +kernel
theorem dX4_gatherUsed_104 : decode cX4_gatherUsed 104 = .ok (.iload_n 2, 1) := by decide +kernel
theorem dX4_gatherUsed_105 : decode cX4_gatherUsed 105 = .ok (.aload_n 0, 1) := by decide +kernel
theorem dX4_gatherUsed_106 : decode cX4_gatherUsed 106 = .ok (.getfield 57, 3) := by decide +kernel
theorem dX4_gatherUsed_109 : decode cX4_gatherUsed 109 = .ok (.if_icmp .ge 27, 3) := by decide +kernel
theorem dX4_gatherUsed_112 : decode cX4_gatherUsed 112 = .ok (.aload_n 0, 1) := by decide +kernel
theorem dX4_gatherUsed_113 : decode cX4_gatherUsed 113 = .ok (.getfield 47, 3) := by decide +kernel
theorem dX4_gatherUsed_116 : decode cX4_gatherUsed 116 = .ok (.iload_n 2, 1) := by decide +kernel
theorem dX4_gatherUsed_117 : decode cX4_gatherUsed 117 = .ok (.iload_n 1, 1) := by decide +kernel
theorem dX4_gatherUsed_118 : decode cX4_gatherUsed 118 = .ok (.isub, 1) := by decide +kernel
theorem dX4_gatherUsed_119 : decode cX4_gatherUsed 119 = .ok (.aload_n 0, 1) := by decide +kernel
theorem dX4_gatherUsed_120 : decode cX4_gatherUsed 120 = .ok (.getfield 47, 3) := by decide +kernel
theorem dX4_gatherUsed_123 : decode cX4_gatherUsed 123 = .ok (.iload_n 2, 1) := by decide +kernel
theorem dX4_gatherUsed_124 : decode cX4_gatherUsed 124 = .ok (.invokevirtual 96, 3) := by decide +kernel
theorem dX4_gatherUsed_127 : decode cX4_gatherUsed 127 = .ok (.invokevirtual 88, 3) := by decide +kernel
theorem dX4_gatherUsed_130 : decode cX4_gatherUsed 130 = .ok (.iinc 2 1, 3) := by decide +kernel
theorem dX4_gatherUsed_133 : decode cX4_gatherUsed 133 = .ok (.goto (-29), 3) := by decide +kernel
theorem dX4_gatherUsed_136 : decode cX4_gatherUsed 136 = .ok (.aload_n 0, 1) := by decide +kernel
theorem dX4_gatherUsed_137 : decode cX4_gatherUsed 137 = .ok (.aload_n 0, 1) := by decide +kernel
theorem dX4_gatherUsed_138 : decode cX4_gatherUsed 138 = .ok (.getfield 57, 3) := by decide +kernel
theorem dX4_gatherUsed_141 : decode cX4_gatherUsed 141 = .ok (.iload_n 1, 1) := by decide +kernel
theorem dX4_gatherUsed_142 : decode cX4_gatherUsed 142 = .ok (.isub, 1) := by decide +kernel
theorem dX4_gatherUsed_143 : decode cX4_gatherUsed 143 = .ok (.putfield 60, 3) := by decide +kernel
theorem dX4_gatherUsed_146 : decode cX4_gatherUsed 146 = .ok (.aload_n 0, 1) := by decide +kernel
theorem dX4_gatherUsed_147 : decode cX4_gatherUsed 147 = .ok (.getfield 47, 3) := by decide +kernel
theorem dX4_gatherUsed_150 : decode cX4_gatherUsed 150 = .ok (.aload_n 0, 1) := by decide +kernel
theorem dX4_gatherUsed_151 : decode cX4_gatherUsed 151 = .ok (.getfield 60, 3) := by decide +kernel
theorem dX4_gatherUsed_154 : decode cX4_gatherUsed 154 = .ok (.aload_n 0, 1) := by decide +kernel
theorem dX4_gatherUsed_155 : decode cX4_gatherUsed 155 = .ok (.getfield 63, 3) := by decide +kernel
theorem dX4_gatherUsed_158 : decode cX4_gatherUsed 158 = .ok (.invokevirtual 88, 3) := by decide +kernel
theorem dX4_gatherUsed_161 : decode cX4_gatherUsed 161 = .ok (.aload_n 0, 1) := by decide +kernel
theorem dX4_gatherUsed_162 : decode cX4_gatherUsed 162 = .ok (.dup, 1) := by decide +kernel
theorem dX4_gatherUsed_163 : decode cX4_gatherUsed 163 = .ok (.getfield 60, 3) := by decide +kernel
theorem dX4_gatherUsed_166 : decode cX4_gatherUsed 166 = .ok (.iconst 1, 1) := by decide +kernel
theorem dX4_gatherUsed_167 : decode cX4_gatherUsed 167 = .ok (.iadd, 1) := by decide +kernel
theorem dX4_gatherUsed_168 : decode cX4_gatherUsed 168 = .ok (.putfield 60, 3) := by decide +kernel
theorem dX4_gatherUsed_171 : decode cX4_gatherUsed 171 = .ok (.return_, 1) := by decide +kernel
theorem dX4_usedCount_0 : decode cX4_usedCount 0 = .ok (.aload_n 0, 1) := by decide +kernel
theorem dX4_usedCount_1 : decode cX4_usedCount 1 = .ok (.getfield 60, 3) := by decide +kernel
theorem dX4_usedCount_4 : decode cX4_usedCount 4 = .ok (.ireturn, 1) := by decide +kernel
theorem dX4_usedAt_0 : decode cX4_usedAt 0 = .ok (.aload_n 0, 1) := by decide +kernel
theorem dX4_usedAt_1 : decode cX4_usedAt 1 = .ok (.getfield 47, 3) := by decide +kernel
theorem dX4_usedAt_4 : decode cX4_usedAt 4 = .ok (.iload_n 1, 1) := by decide +kernel
theorem dX4_usedAt_5 : decode cX4_usedAt 5 = .ok (.invokevirtual 96, 3) := by decide +kernel
theorem dX4_usedAt_8 : decode cX4_usedAt 8 = .ok (.ireturn, 1) := by decide +kernel
theorem dX4_wantOpposites_0 : decode cX4_wantOpposites 0 = .ok (.aload_n 0, 1) := by decide +kernel
theorem dX4_wantOpposites_1 : decode cX4_wantOpposites 1 = .ok (.getfield 69, 3) := by decide +kernel
theorem dX4_wantOpposites_4 : decode cX4_wantOpposites 4 = .ok (.iload_n 1, 1) := by decide +kernel
theorem dX4_wantOpposites_5 : decode cX4_wantOpposites 5 = .ok (.invokevirtual 92, 3) := by decide +kernel
theorem dX4_wantOpposites_8 : decode cX4_wantOpposites 8 = .ok (.istore_n 2, 1) := by decide +kernel
theorem dX4_wantOpposites_9 : decode cX4_wantOpposites 9 = .ok (.iconst 0, 1) := by decide +kernel
theorem dX4_wantOpposites_10 : decode cX4_wantOpposites 10 = .ok (.istore_n 3, 1) := by decide +kernel
theorem dX4_wantOpposites_11 : decode cX4_wantOpposites 11 = .ok (.iload_n 3, 1) := by decide +kernel
theorem dX4_wantOpposites_12 : decode cX4_wantOpposites 12 = .ok (.iload_n 2, 1) := by decide +kernel
theorem dX4_wantOpposites_13 : decode cX4_wantOpposites 13 = .ok (.if_icmp .ge 30, 3) := by decide +kernel
theorem dX4_wantOpposites_16 : decode cX4_wantOpposites 16 = .ok (.aload_n 0, 1) := by decide +kernel
theorem dX4_wantOpposites_17 : decode cX4_wantOpposites 17 = .ok (.getfield 44, 3) := by decide +kernel
theorem dX4_wantOpposites_20 : decode cX4_wantOpposites 20 = .ok (.aload_n 0, 1) := by decide +kernel
theorem dX4_wantOpposites_21 : decode cX4_wantOpposites 21 = .ok (.getfield 69, 3) := by decide +kernel
theorem dX4_wantOpposites_24 : decode cX4_wantOpposites 24 = .ok (.iload_n 1, 1) := by decide +kernel
theorem dX4_wantOpposites_25 : decode cX4_wantOpposites 25 = .ok (.iload_n 3, 1) := by decide +kernel
theorem dX4_wantOpposites_26 : decode cX4_wantOpposites 26 = .ok (.invokevirtual 105, 3) := by decide +kernel
theorem dX4_wantOpposites_29 : decode cX4_wantOpposites 29 = .ok (.ineg, 1) := by decide +kernel
theorem dX4_wantOpposites_30 : decode cX4_wantOpposites 30 = .ok (.invokestatic 129, 3) := by decide +kernel
theorem dX4_wantOpposites_33 : decode cX4_wantOpposites 33 = .ok (.iconst 1, 1) := by decide +kernel
theorem dX4_wantOpposites_34 : decode cX4_wantOpposites 34 = .ok (.invokevirtual 88, 3) := by decide +kernel
theorem dX4_wantOpposites_37 : decode cX4_wantOpposites 37 = .ok (.iinc 3 1, 3) := by decide +kernel
theorem dX4_wantOpposites_40 : decode cX4_wantOpposites 40 = .ok (.goto (-29), 3) := by decide +kernel
theorem dX4_wantOpposites_43 : decode cX4_wantOpposites 43 = .ok (.return_, 1) := by decide +kernel
theorem dX4_truthOf_0 : decode cX4_truthOf 0 = .ok (.aload_n 0, 1) := by decide +kernel
theorem dX4_truthOf_1 : decode cX4_truthOf 1 = .ok (.getfield 32, 3) := by decide +kernel
theorem dX4_truthOf_4 : decode cX4_truthOf 4 = .ok (.iload_n 1, 1) := by decide +kernel
theorem dX4_truthOf_5 : decode cX4_truthOf 5 = .ok (.invokestatic 132, 3) := by decide +kernel
theorem dX4_truthOf_8 : decode cX4_truthOf 8 = .ok (.invokevirtual 96, 3) := by decide +kernel
theorem dX4_truthOf_11 : decode cX4_truthOf 11 = .ok (.istore_n 2, 1) := by decide +kernel
theorem dX4_truthOf_12 : decode cX4_truthOf 12 = .ok (.iload_n 1, 1) := by decide +kernel
theorem dX4_truthOf_13 : decode cX4_truthOf 13 = .ok (.ifCond .le 7, 3) := by decide +kernel
theorem dX4_truthOf_16 : decode cX4_truthOf 16 = .ok (.iload_n 2, 1) := by decide +kernel
theorem dX4_truthOf_17 : decode cX4_truthOf 17 = .ok (.goto 5, 3) := by decide +kernel
theorem dX4_truthOf_20 : decode cX4_truthOf 20 = .ok (.iload_n 2, 1) := by decide +kernel
theorem dX4_truthOf_21 : decode cX4_truthOf 21 = .ok (.ineg, 1) := by decide +kernel
theorem dX4_truthOf_22 : decode cX4_truthOf 22 = .ok (.ireturn, 1) := by decide +kernel
theorem dX4_isSatisfied_0 : decode cX4_isSatisfied 0 = .ok (.aload_n 0, 1) := by decide +kernel
theorem dX4_isSatisfied_1 : decode cX4_isSatisfied 1 = .ok (.getfield 69, 3) := by decide +kernel
theorem dX4_isSatisfied_4 : decode cX4_isSatisfied 4 = .ok (.iload_n 1, 1) := by decide +kernel
theorem dX4_isSatisfied_5 : decode cX4_isSatisfied 5 = .ok (.invokevirtual 92, 3) := by decide +kernel
theorem dX4_isSatisfied_8 : decode cX4_isSatisfied 8 = .ok (.istore_n 2, 1) := by decide +kernel
theorem dX4_isSatisfied_9 : decode cX4_isSatisfied 9 = .ok (.iconst 0, 1) := by decide +kernel
theorem dX4_isSatisfied_10 : decode cX4_isSatisfied 10 = .ok (.istore_n 3, 1) := by decide +kernel
theorem dX4_isSatisfied_11 : decode cX4_isSatisfied 11 = .ok (.iload_n 3, 1) := by decide +kernel
theorem dX4_isSatisfied_12 : decode cX4_isSatisfied 12 = .ok (.iload_n 2, 1) := by decide +kernel
theorem dX4_isSatisfied_13 : decode cX4_isSatisfied 13 = .ok (.if_icmp .ge 27, 3) := by decide +kernel
theorem dX4_isSatisfied_16 : decode cX4_isSatisfied 16 = .ok (.aload_n 0, 1) := by decide +kernel
theorem dX4_isSatisfied_17 : decode cX4_isSatisfied 17 = .ok (.aload_n 0, 1) := by decide +kernel
theorem dX4_isSatisfied_18 : decode cX4_isSatisfied 18 = .ok (.getfield 69, 3) := by decide +kernel
theorem dX4_isSatisfied_21 : decode cX4_isSatisfied 21 = .ok (.iload_n 1, 1) := by decide +kernel
theorem dX4_isSatisfied_22 : decode cX4_isSatisfied 22 = .ok (.iload_n 3, 1) := by decide +kernel
theorem dX4_isSatisfied_23 : decode cX4_isSatisfied 23 = .ok (.invokevirtual 105, 3) := by decide +kernel
theorem dX4_isSatisfied_26 : decode cX4_isSatisfied 26 = .ok (.invokevirtual 109, 3) := by decide +kernel
theorem dX4_isSatisfied_29 : decode cX4_isSatisfied 29 = .ok (.ifCond .le 5, 3) := by decide +kernel
theorem dX4_isSatisfied_32 : decode cX4_isSatisfied 32 = .ok (.iconst 1, 1) := by decide +kernel
theorem dX4_isSatisfied_33 : decode cX4_isSatisfied 33 = .ok (.ireturn, 1) := by decide +kernel
theorem dX4_isSatisfied_34 : decode cX4_isSatisfied 34 = .ok (.iinc 3 1, 3) := by decide +kernel
theorem dX4_isSatisfied_37 : decode cX4_isSatisfied 37 = .ok (.goto (-26), 3) := by decide +kernel
theorem dX4_isSatisfied_40 : decode cX4_isSatisfied 40 = .ok (.iconst 0, 1) := by decide +kernel
theorem dX4_isSatisfied_41 : decode cX4_isSatisfied 41 = .ok (.ireturn, 1) := by decide +kernel
theorem dX4_openLiteral_0 : decode cX4_openLiteral 0 = .ok (.aload_n 0, 1) := by decide +kernel
theorem dX4_openLiteral_1 : decode cX4_openLiteral 1 = .ok (.getfield 69, 3) := by decide +kernel
theorem dX4_openLiteral_4 : decode cX4_openLiteral 4 = .ok (.iload_n 1, 1) := by decide +kernel
theorem dX4_openLiteral_5 : decode cX4_openLiteral 5 = .ok (.invokevirtual 92, 3) := by decide +kernel
theorem dX4_openLiteral_8 : decode cX4_openLiteral 8 = .ok (.istore_n 2, 1) := by decide +kernel
theorem dX4_openLiteral_9 : decode cX4_openLiteral 9 = .ok (.iconst 0, 1) := by decide +kernel
theorem dX4_openLiteral_10 : decode cX4_openLiteral 10 = .ok (.istore_n 3, 1) := by decide +kernel
theorem dX4_openLiteral_11 : decode cX4_openLiteral 11 = .ok (.iload_n 3, 1) := by decide +kernel
theorem dX4_openLiteral_12 : decode cX4_openLiteral 12 = .ok (.iload_n 2, 1) := by decide +kernel
theorem dX4_openLiteral_13 : decode cX4_openLiteral 13 = .ok (.if_icmp .ge 32, 3) := by decide +kernel
theorem dX4_openLiteral_16 : decode cX4_openLiteral 16 = .ok (.aload_n 0, 1) := by decide +kernel
theorem dX4_openLiteral_17 : decode cX4_openLiteral 17 = .ok (.getfield 69, 3) := by decide +kernel
theorem dX4_openLiteral_20 : decode cX4_openLiteral 20 = .ok (.iload_n 1, 1) := by decide +kernel
theorem dX4_openLiteral_21 : decode cX4_openLiteral 21 = .ok (.iload_n 3, 1) := by decide +kernel
theorem dX4_openLiteral_22 : decode cX4_openLiteral 22 = .ok (.invokevirtual 105, 3) := by decide +kernel
theorem dX4_openLiteral_25 : decode cX4_openLiteral 25 = .ok (.istore 4, 2) := by decide +kernel
theorem dX4_openLiteral_27 : decode cX4_openLiteral 27 = .ok (.aload_n 0, 1) := by decide +kernel
theorem dX4_openLiteral_28 : decode cX4_openLiteral 28 = .ok (.iload 4, 2) := by decide +kernel
theorem dX4_openLiteral_30 : decode cX4_openLiteral 30 = .ok (.invokevirtual 109, 3) := by decide +kernel
theorem dX4_openLiteral_33 : decode cX4_openLiteral 33 = .ok (.ifCond .ne 6, 3) := by decide +kernel
theorem dX4_openLiteral_36 : decode cX4_openLiteral 36 = .ok (.iload 4, 2) := by decide +kernel
theorem dX4_openLiteral_38 : decode cX4_openLiteral 38 = .ok (.ireturn, 1) := by decide +kernel
theorem dX4_openLiteral_39 : decode cX4_openLiteral 39 = .ok (.iinc 3 1, 3) := by decide +kernel
theorem dX4_openLiteral_42 : decode cX4_openLiteral 42 = .ok (.goto (-31), 3) := by decide +kernel
theorem dX4_openLiteral_45 : decode cX4_openLiteral 45 = .ok (.iconst 0, 1) := by decide +kernel
theorem dX4_openLiteral_46 : decode cX4_openLiteral 46 = .ok (.ireturn, 1) := by decide +kernel
theorem dX4_makeTrue_0 : decode cX4_makeTrue 0 = .ok (.aload_n 0, 1) := by decide +kernel
theorem dX4_makeTrue_1 : decode cX4_makeTrue 1 = .ok (.getfield 66, 3) := by decide +kernel
theorem dX4_makeTrue_4 : decode cX4_makeTrue 4 = .ok (.ifCond .gt 5, 3) := by decide +kernel
theorem dX4_makeTrue_7 : decode cX4_makeTrue 7 = .ok (.iconst 0, 1) := by decide +kernel
theorem dX4_makeTrue_8 : decode cX4_makeTrue 8 = .ok (.ireturn, 1) := by decide +kernel
theorem dX4_makeTrue_9 : decode cX4_makeTrue 9 = .ok (.aload_n 0, 1) := by decide +kernel
theorem dX4_makeTrue_10 : decode cX4_makeTrue 10 = .ok (.dup, 1) := by decide +kernel
theorem dX4_makeTrue_11 : decode cX4_makeTrue 11 = .ok (.getfield 66, 3) := by decide +kernel
theorem dX4_makeTrue_14 : decode cX4_makeTrue 14 = .ok (.iconst 1, 1) := by decide +kernel
theorem dX4_makeTrue_15 : decode cX4_makeTrue 15 = .ok (.isub, 1) := by decide +kernel
theorem dX4_makeTrue_16 : decode cX4_makeTrue 16 = .ok (.putfield 66, 3) := by decide +kernel
theorem dX4_makeTrue_19 : decode cX4_makeTrue 19 = .ok (.aload_n 0, 1) := by decide +kernel
theorem dX4_makeTrue_20 : decode cX4_makeTrue 20 = .ok (.getfield 32, 3) := by decide +kernel
theorem dX4_makeTrue_23 : decode cX4_makeTrue 23 = .ok (.iload_n 1, 1) := by decide +kernel
theorem dX4_makeTrue_24 : decode cX4_makeTrue 24 = .ok (.invokestatic 132, 3) := by decide +kernel
theorem dX4_makeTrue_27 : decode cX4_makeTrue 27 = .ok (.iload_n 1, 1) := by decide +kernel
theorem dX4_makeTrue_28 : decode cX4_makeTrue 28 = .ok (.ifCond .le 7, 3) := by decide +kernel
theorem dX4_makeTrue_31 : decode cX4_makeTrue 31 = .ok (.iconst 1, 1) := by decide +kernel
theorem dX4_makeTrue_32 : decode cX4_makeTrue 32 = .ok (.goto 4, 3) := by decide +kernel
theorem dX4_makeTrue_35 : decode cX4_makeTrue 35 = .ok (.iconst (-1), 1) := by decide +kernel
theorem dX4_makeTrue_36 : decode cX4_makeTrue 36 = .ok (.invokevirtual 88, 3) := by decide +kernel
theorem dX4_makeTrue_39 : decode cX4_makeTrue 39 = .ok (.aload_n 0, 1) := by decide +kernel
theorem dX4_makeTrue_40 : decode cX4_makeTrue 40 = .ok (.getfield 38, 3) := by decide +kernel
theorem dX4_makeTrue_43 : decode cX4_makeTrue 43 = .ok (.aload_n 0, 1) := by decide +kernel
theorem dX4_makeTrue_44 : decode cX4_makeTrue 44 = .ok (.getfield 57, 3) := by decide +kernel
theorem dX4_makeTrue_47 : decode cX4_makeTrue 47 = .ok (.iload_n 1, 1) := by decide +kernel
theorem dX4_makeTrue_48 : decode cX4_makeTrue 48 = .ok (.invokevirtual 88, 3) := by decide +kernel
theorem dX4_makeTrue_51 : decode cX4_makeTrue 51 = .ok (.aload_n 0, 1) := by decide +kernel
theorem dX4_makeTrue_52 : decode cX4_makeTrue 52 = .ok (.getfield 41, 3) := by decide +kernel
theorem dX4_makeTrue_55 : decode cX4_makeTrue 55 = .ok (.aload_n 0, 1) := by decide +kernel
theorem dX4_makeTrue_56 : decode cX4_makeTrue 56 = .ok (.getfield 57, 3) := by decide +kernel
theorem dX4_makeTrue_59 : decode cX4_makeTrue 59 = .ok (.iload_n 2, 1) := by decide +kernel
theorem dX4_makeTrue_60 : decode cX4_makeTrue 60 = .ok (.invokevirtual 88, 3) := by decide +kernel
theorem dX4_makeTrue_63 : decode cX4_makeTrue 63 = .ok (.aload_n 0, 1) := by decide +kernel
theorem dX4_makeTrue_64 : decode cX4_makeTrue 64 = .ok (.dup, 1) := by decide +kernel
theorem dX4_makeTrue_65 : decode cX4_makeTrue 65 = .ok (.getfield 57, 3) := by decide +kernel
theorem dX4_makeTrue_68 : decode cX4_makeTrue 68 = .ok (.iconst 1, 1) := by decide +kernel
theorem dX4_makeTrue_69 : decode cX4_makeTrue 69 = .ok (.iadd, 1) := by decide +kernel
theorem dX4_makeTrue_70 : decode cX4_makeTrue 70 = .ok (.putfield 57, 3) := by decide +kernel
theorem dX4_makeTrue_73 : decode cX4_makeTrue 73 = .ok (.aload_n 0, 1) := by decide +kernel
theorem dX4_makeTrue_74 : decode cX4_makeTrue 74 = .ok (.getfield 69, 3) := by decide +kernel
theorem dX4_makeTrue_77 : decode cX4_makeTrue 77 = .ok (.iload_n 1, 1) := by decide +kernel
theorem dX4_makeTrue_78 : decode cX4_makeTrue 78 = .ok (.ineg, 1) := by decide +kernel
theorem dX4_makeTrue_79 : decode cX4_makeTrue 79 = .ok (.invokevirtual 137, 3) := by decide +kernel
theorem dX4_makeTrue_82 : decode cX4_makeTrue 82 = .ok (.istore_n 3, 1) := by decide +kernel
theorem dX4_makeTrue_83 : decode cX4_makeTrue 83 = .ok (.aload_n 0, 1) := by decide +kernel
theorem dX4_makeTrue_84 : decode cX4_makeTrue 84 = .ok (.getfield 69, 3) := by decide +kernel
theorem dX4_makeTrue_87 : decode cX4_makeTrue 87 = .ok (.iload_n 1, 1) := by decide +kernel
theorem dX4_makeTrue_88 : decode cX4_makeTrue 88 = .ok (.ineg, 1) := by decide +kernel
theorem dX4_makeTrue_89 : decode cX4_makeTrue 89 = .ok (.invokevirtual 140, 3) := by decide +kernel
theorem dX4_makeTrue_92 : decode cX4_makeTrue 92 = .ok (.istore 4, 2) := by decide +kernel
theorem dX4_makeTrue_94 : decode cX4_makeTrue 94 = .ok (.iload 4, 2) := by decide +kernel
theorem dX4_makeTrue_96 : decode cX4_makeTrue 96 = .ok (.iload_n 3, 1) := by decide +kernel
theorem dX4_makeTrue_97 : decode cX4_makeTrue 97 = .ok (.if_icmp .ge 56, 3) := by decide +kernel
theorem dX4_makeTrue_100 : decode cX4_makeTrue 100 = .ok (.aload_n 0, 1) := by decide +kernel
theorem dX4_makeTrue_101 : decode cX4_makeTrue 101 = .ok (.getfield 69, 3) := by decide +kernel
theorem dX4_makeTrue_104 : decode cX4_makeTrue 104 = .ok (.iload 4, 2) := by decide +kernel
theorem dX4_makeTrue_106 : decode cX4_makeTrue 106 = .ok (.invokevirtual 143, 3) := by decide +kernel
theorem dX4_makeTrue_109 : decode cX4_makeTrue 109 = .ok (.istore 5, 2) := by decide +kernel
theorem dX4_makeTrue_111 : decode cX4_makeTrue 111 = .ok (.aload_n 0, 1) := by decide +kernel
theorem dX4_makeTrue_112 : decode cX4_makeTrue 112 = .ok (.getfield 23, 3) := by decide +kernel
theorem dX4_makeTrue_115 : decode cX4_makeTrue 115 = .ok (.iload 5, 2) := by decide +kernel
theorem dX4_makeTrue_117 : decode cX4_makeTrue 117 = .ok (.invokevirtual 96, 3) := by decide +kernel
theorem dX4_makeTrue_120 : decode cX4_makeTrue 120 = .ok (.iconst 1, 1) := by decide +kernel
theorem dX4_makeTrue_121 : decode cX4_makeTrue 121 = .ok (.isub, 1) := by decide +kernel
theorem dX4_makeTrue_122 : decode cX4_makeTrue 122 = .ok (.istore 6, 2) := by decide +kernel
theorem dX4_makeTrue_124 : decode cX4_makeTrue 124 = .ok (.aload_n 0, 1) := by decide +kernel
theorem dX4_makeTrue_125 : decode cX4_makeTrue 125 = .ok (.getfield 23, 3) := by decide +kernel
theorem dX4_makeTrue_128 : decode cX4_makeTrue 128 = .ok (.iload 5, 2) := by decide +kernel
theorem dX4_makeTrue_130 : decode cX4_makeTrue 130 = .ok (.iload 6, 2) := by decide +kernel
theorem dX4_makeTrue_132 : decode cX4_makeTrue 132 = .ok (.invokevirtual 88, 3) := by decide +kernel
theorem dX4_makeTrue_135 : decode cX4_makeTrue 135 = .ok (.iload 6, 2) := by decide +kernel
theorem dX4_makeTrue_137 : decode cX4_makeTrue 137 = .ok (.iconst 1, 1) := by decide +kernel
theorem dX4_makeTrue_138 : decode cX4_makeTrue 138 = .ok (.if_icmp .ne 9, 3) := by decide +kernel
theorem dX4_makeTrue_141 : decode cX4_makeTrue 141 = .ok (.aload_n 0, 1) := by decide +kernel
theorem dX4_makeTrue_142 : decode cX4_makeTrue 142 = .ok (.iload 5, 2) := by decide +kernel
theorem dX4_makeTrue_144 : decode cX4_makeTrue 144 = .ok (.invokevirtual 102, 3) := by decide +kernel
theorem dX4_makeTrue_147 : decode cX4_makeTrue 147 = .ok (.iinc 4 1, 3) := by decide +kernel
theorem dX4_makeTrue_150 : decode cX4_makeTrue 150 = .ok (.goto (-56), 3) := by decide +kernel
theorem dX4_makeTrue_153 : decode cX4_makeTrue 153 = .ok (.iconst 1, 1) := by decide +kernel
theorem dX4_makeTrue_154 : decode cX4_makeTrue 154 = .ok (.ireturn, 1) := by decide +kernel
theorem dX4_takeBack_0 : decode cX4_takeBack 0 = .ok (.aload_n 0, 1) := by decide +kernel
theorem dX4_takeBack_1 : decode cX4_takeBack 1 = .ok (.getfield 32, 3) := by decide +kernel
theorem dX4_takeBack_4 : decode cX4_takeBack 4 = .ok (.iload_n 1, 1) := by decide +kernel
theorem dX4_takeBack_5 : decode cX4_takeBack 5 = .ok (.invokestatic 132, 3) := by decide +kernel
theorem dX4_takeBack_8 : decode cX4_takeBack 8 = .ok (.iconst 0, 1) := by decide +kernel
theorem dX4_takeBack_9 : decode cX4_takeBack 9 = .ok (.invokevirtual 88, 3) := by decide +kernel
theorem dX4_takeBack_12 : decode cX4_takeBack 12 = .ok (.aload_n 0, 1) := by decide +kernel
theorem dX4_takeBack_13 : decode cX4_takeBack 13 = .ok (.getfield 69, 3) := by decide +kernel
theorem dX4_takeBack_16 : decode cX4_takeBack 16 = .ok (.iload_n 1, 1) := by decide +kernel
theorem dX4_takeBack_17 : decode cX4_takeBack 17 = .ok (.ineg, 1) := by decide +kernel
theorem dX4_takeBack_18 : decode cX4_takeBack 18 = .ok (.invokevirtual 137, 3) := by decide +kernel
theorem dX4_takeBack_21 : decode cX4_takeBack 21 = .ok (.istore_n 2, 1) := by decide +kernel
theorem dX4_takeBack_22 : decode cX4_takeBack 22 = .ok (.aload_n 0, 1) := by decide +kernel
theorem dX4_takeBack_23 : decode cX4_takeBack 23 = .ok (.getfield 69, 3) := by decide +kernel
theorem dX4_takeBack_26 : decode cX4_takeBack 26 = .ok (.iload_n 1, 1) := by decide +kernel
theorem dX4_takeBack_27 : decode cX4_takeBack 27 = .ok (.ineg, 1) := by decide +kernel
theorem dX4_takeBack_28 : decode cX4_takeBack 28 = .ok (.invokevirtual 140, 3) := by decide +kernel
theorem dX4_takeBack_31 : decode cX4_takeBack 31 = .ok (.istore_n 3, 1) := by decide +kernel
theorem dX4_takeBack_32 : decode cX4_takeBack 32 = .ok (.iload_n 3, 1) := by decide +kernel
theorem dX4_takeBack_33 : decode cX4_takeBack 33 = .ok (.iload_n 2, 1) := by decide +kernel
theorem dX4_takeBack_34 : decode cX4_takeBack 34 = .ok (.if_icmp .ge 39, 3) := by decide +kernel
theorem dX4_takeBack_37 : decode cX4_takeBack 37 = .ok (.aload_n 0, 1) := by decide +kernel
theorem dX4_takeBack_38 : decode cX4_takeBack 38 = .ok (.getfield 69, 3) := by decide +kernel
theorem dX4_takeBack_41 : decode cX4_takeBack 41 = .ok (.iload_n 3, 1) := by decide +kernel
theorem dX4_takeBack_42 : decode cX4_takeBack 42 = .ok (.invokevirtual 143, 3) := by decide +kernel
theorem dX4_takeBack_45 : decode cX4_takeBack 45 = .ok (.istore 4, 2) := by decide +kernel
theorem dX4_takeBack_47 : decode cX4_takeBack 47 = .ok (.aload_n 0, 1) := by decide +kernel
theorem dX4_takeBack_48 : decode cX4_takeBack 48 = .ok (.getfield 23, 3) := by decide +kernel
theorem dX4_takeBack_51 : decode cX4_takeBack 51 = .ok (.iload 4, 2) := by decide +kernel
theorem dX4_takeBack_53 : decode cX4_takeBack 53 = .ok (.aload_n 0, 1) := by decide +kernel
theorem dX4_takeBack_54 : decode cX4_takeBack 54 = .ok (.getfield 23, 3) := by decide +kernel
theorem dX4_takeBack_57 : decode cX4_takeBack 57 = .ok (.iload 4, 2) := by decide +kernel
theorem dX4_takeBack_59 : decode cX4_takeBack 59 = .ok (.invokevirtual 96, 3) := by decide +kernel
theorem dX4_takeBack_62 : decode cX4_takeBack 62 = .ok (.iconst 1, 1) := by decide +kernel
theorem dX4_takeBack_63 : decode cX4_takeBack 63 = .ok (.iadd, 1) := by decide +kernel
theorem dX4_takeBack_64 : decode cX4_takeBack 64 = .ok (.invokevirtual 88, 3) := by decide +kernel
theorem dX4_takeBack_67 : decode cX4_takeBack 67 = .ok (.iinc 3 1, 3) := by decide +kernel
theorem dX4_takeBack_70 : decode cX4_takeBack 70 = .ok (.goto (-38), 3) := by decide +kernel
theorem dX4_takeBack_73 : decode cX4_takeBack 73 = .ok (.return_, 1) := by decide +kernel
theorem dX4_makeReady_0 : decode cX4_makeReady 0 = .ok (.aload_n 0, 1) := by decide +kernel
theorem dX4_makeReady_1 : decode cX4_makeReady 1 = .ok (.getfield 16, 3) := by decide +kernel
theorem dX4_makeReady_4 : decode cX4_makeReady 4 = .ok (.iload_n 1, 1) := by decide +kernel
theorem dX4_makeReady_5 : decode cX4_makeReady 5 = .ok (.invokevirtual 96, 3) := by decide +kernel
theorem dX4_makeReady_8 : decode cX4_makeReady 8 = .ok (.ifCond .eq 52, 3) := by decide +kernel
theorem dX4_makeReady_11 : decode cX4_makeReady 11 = .ok (.aload_n 0, 1) := by decide +kernel
theorem dX4_makeReady_12 : decode cX4_makeReady 12 = .ok (.getfield 20, 3) := by decide +kernel
theorem dX4_makeReady_15 : decode cX4_makeReady 15 = .ok (.iload_n 1, 1) := by decide +kernel
theorem dX4_makeReady_16 : decode cX4_makeReady 16 = .ok (.invokevirtual 96, 3) := by decide +kernel
theorem dX4_makeReady_19 : decode cX4_makeReady 19 = .ok (.ifCond .eq 7, 3) := by decide +kernel
theorem dX4_makeReady_22 : decode cX4_makeReady 22 = .ok (.iload_n 1, 1) := by decide +kernel
theorem dX4_makeReady_23 : decode cX4_makeReady 23 = .ok (.goto 8, 3) := by decide +kernel
theorem dX4_makeReady_26 : decode cX4_makeReady 26 = .ok (.sipush 608, 3) := by decide +kernel
theorem dX4_makeReady_29 : decode cX4_makeReady 29 = .ok (.iload_n 1, 1) := by decide +kernel
theorem dX4_makeReady_30 : decode cX4_makeReady 30 = .ok (.iadd, 1) := by decide +kernel
theorem dX4_makeReady_31 : decode cX4_makeReady 31 = .ok (.istore_n 2, 1) := by decide +kernel
theorem dX4_makeReady_32 : decode cX4_makeReady 32 = .ok (.iload_n 2, 1) := by decide +kernel
theorem dX4_makeReady_33 : decode cX4_makeReady 33 = .ok (.bipush 32, 2) := by decide +kernel
theorem dX4_makeReady_35 : decode cX4_makeReady 35 = .ok (.idiv, 1) := by decide +kernel
theorem dX4_makeReady_36 : decode cX4_makeReady 36 = .ok (.istore_n 3, 1) := by decide +kernel
theorem dX4_makeReady_37 : decode cX4_makeReady 37 = .ok (.aload_n 0, 1) := by decide +kernel
theorem dX4_makeReady_38 : decode cX4_makeReady 38 = .ok (.getfield 29, 3) := by decide +kernel
theorem dX4_makeReady_41 : decode cX4_makeReady 41 = .ok (.iload_n 3, 1) := by decide +kernel
theorem dX4_makeReady_42 : decode cX4_makeReady 42 = .ok (.aload_n 0, 1) := by decide +kernel
theorem dX4_makeReady_43 : decode cX4_makeReady 43 = .ok (.getfield 29, 3) := by decide +kernel
theorem dX4_makeReady_46 : decode cX4_makeReady 46 = .ok (.iload_n 3, 1) := by decide +kernel
theorem dX4_makeReady_47 : decode cX4_makeReady 47 = .ok (.invokevirtual 96, 3) := by decide +kernel
theorem dX4_makeReady_50 : decode cX4_makeReady 50 = .ok (.iconst 1, 1) := by decide +kernel
theorem dX4_makeReady_51 : decode cX4_makeReady 51 = .ok (.iload_n 2, 1) := by decide +kernel
theorem dX4_makeReady_52 : decode cX4_makeReady 52 = .ok (.bipush 32, 2) := by decide +kernel
theorem dX4_makeReady_54 : decode cX4_makeReady 54 = .ok (.irem, 1) := by decide +kernel
theorem dX4_makeReady_55 : decode cX4_makeReady 55 = .ok (.ishl, 1) := by decide +kernel
theorem dX4_makeReady_56 : decode cX4_makeReady 56 = .ok (.ior, 1) := by decide +kernel
theorem dX4_makeReady_57 : decode cX4_makeReady 57 = .ok (.invokevirtual 88, 3) := by decide +kernel
theorem dX4_makeReady_60 : decode cX4_makeReady 60 = .ok (.return_, 1) := by decide +kernel
theorem dX4_takeFirstReady_0 : decode cX4_takeFirstReady 0 = .ok (.iconst 0, 1) := by decide +kernel
theorem dX4_takeFirstReady_1 : decode cX4_takeFirstReady 1 = .ok (.istore_n 1, 1) := by decide +kernel
theorem dX4_takeFirstReady_2 : decode cX4_takeFirstReady 2 = .ok (.iload_n 1, 1) := by decide +kernel
theorem dX4_takeFirstReady_3 : decode cX4_takeFirstReady 3 = .ok (.bipush 38, 2) := by decide +kernel
theorem dX4_takeFirstReady_5 : decode cX4_takeFirstReady 5 = .ok (.if_icmp .ge 71, 3) := by decide +kernel
theorem dX4_takeFirstReady_8 : decode cX4_takeFirstReady 8 = .ok (.aload_n 0, 1) := by decide +kernel
theorem dX4_takeFirstReady_9 : decode cX4_takeFirstReady 9 = .ok (.getfield 29, 3) := by decide +kernel
theorem dX4_takeFirstReady_12 : decode cX4_takeFirstReady 12 = .ok (.iload_n 1, 1) := by decide +kernel
theorem dX4_takeFirstReady_13 : decode cX4_takeFirstReady 13 = .ok (.invokevirtual 96, 3) := by decide +kernel
theorem dX4_takeFirstReady_16 : decode cX4_takeFirstReady 16 = .ok (.istore_n 2, 1) := by decide +kernel
theorem dX4_takeFirstReady_17 : decode cX4_takeFirstReady 17 = .ok (.iload_n 2, 1) := by decide +kernel
theorem dX4_takeFirstReady_18 : decode cX4_takeFirstReady 18 = .ok (.ifCond .eq 52, 3) := by decide +kernel
theorem dX4_takeFirstReady_21 : decode cX4_takeFirstReady 21 = .ok (.iload_n 2, 1) := by decide +kernel
theorem dX4_takeFirstReady_22 : decode cX4_takeFirstReady 22 = .ok (.iload_n 2, 1) := by decide +kernel
theorem dX4_takeFirstReady_23 : decode cX4_takeFirstReady 23 = .ok (.ineg, 1) := by decide +kernel
theorem dX4_takeFirstReady_24 : decode cX4_takeFirstReady 24 = .ok (.iand, 1) := by decide +kernel
theorem dX4_takeFirstReady_25 : decode cX4_takeFirstReady 25 = .ok (.istore_n 3, 1) := by decide +kernel
theorem dX4_takeFirstReady_26 : decode cX4_takeFirstReady 26 = .ok (.aload_n 0, 1) := by decide +kernel
theorem dX4_takeFirstReady_27 : decode cX4_takeFirstReady 27 = .ok (.getfield 29, 3) := by decide +kernel
theorem dX4_takeFirstReady_30 : decode cX4_takeFirstReady 30 = .ok (.iload_n 1, 1) := by decide +kernel
theorem dX4_takeFirstReady_31 : decode cX4_takeFirstReady 31 = .ok (.iload_n 2, 1) := by decide +kernel
theorem dX4_takeFirstReady_32 : decode cX4_takeFirstReady 32 = .ok (.iload_n 3, 1) := by decide +kernel
theorem dX4_takeFirstReady_33 : decode cX4_takeFirstReady 33 = .ok (.ixor, 1) := by decide +kernel
theorem dX4_takeFirstReady_34 : decode cX4_takeFirstReady 34 = .ok (.invokevirtual 88, 3) := by decide +kernel
theorem dX4_takeFirstReady_37 : decode cX4_takeFirstReady 37 = .ok (.iload_n 1, 1) := by decide +kernel
theorem dX4_takeFirstReady_38 : decode cX4_takeFirstReady 38 = .ok (.bipush 32, 2) := by decide +kernel
theorem dX4_takeFirstReady_40 : decode cX4_takeFirstReady 40 = .ok (.imul, 1) := by decide +kernel
theorem dX4_takeFirstReady_41 : decode cX4_takeFirstReady 41 = .ok (.iload_n 3, 1) := by decide +kernel
theorem dX4_takeFirstReady_42 : decode cX4_takeFirstReady 42 = .ok (.iconst 1, 1) := by decide +kernel
theorem dX4_takeFirstReady_43 : decode cX4_takeFirstReady 43 = .ok (.isub, 1) := by decide +kernel
theorem dX4_takeFirstReady_44 : decode cX4_takeFirstReady 44 = .ok (.invokestatic 146, 3) := by decide +kernel
theorem dX4_takeFirstReady_47 : decode cX4_takeFirstReady 47 = .ok (.iadd, 1) := by decide +kernel
theorem dX4_takeFirstReady_48 : decode cX4_takeFirstReady 48 = .ok (.istore 4, 2) := by decide +kernel
theorem dX4_takeFirstReady_50 : decode cX4_takeFirstReady 50 = .ok (.iload 4, 2) := by decide +kernel
theorem dX4_takeFirstReady_52 : decode cX4_takeFirstReady 52 = .ok (.sipush 608, 3) := by decide +kernel
theorem dX4_takeFirstReady_55 : decode cX4_takeFirstReady 55 = .ok (.if_icmp .lt 12, 3) := by decide +kernel
theorem dX4_takeFirstReady_58 : decode cX4_takeFirstReady 58 = .ok (.iload 4, 2) := by decide +kernel
theorem dX4_takeFirstReady_60 : decode cX4_takeFirstReady 60 = .ok (.sipush 608, 3) := by decide +kernel
theorem dX4_takeFirstReady_63 : decode cX4_takeFirstReady 63 = .ok (.isub, 1) := by decide +kernel
theorem dX4_takeFirstReady_64 : decode cX4_takeFirstReady 64 = .ok (.goto 5, 3) := by decide +kernel
theorem dX4_takeFirstReady_67 : decode cX4_takeFirstReady 67 = .ok (.iload 4, 2) := by decide +kernel
theorem dX4_takeFirstReady_69 : decode cX4_takeFirstReady 69 = .ok (.ireturn, 1) := by decide +kernel
theorem dX4_takeFirstReady_70 : decode cX4_takeFirstReady 70 = .ok (.iinc 1 1, 3) := by decide +kernel
theorem dX4_takeFirstReady_73 : decode cX4_takeFirstReady 73 = .ok (.goto (-71), 3) := by decide +kernel
theorem dX4_takeFirstReady_76 : decode cX4_takeFirstReady 76 = .ok (.iconst 0, 1) := by decide +kernel
theorem dX4_takeFirstReady_77 : decode cX4_takeFirstReady 77 = .ok (.ireturn, 1) := by decide +kernel
theorem dX5_init_0 : decode cX5_init 0 = .ok (.aload_n 0, 1) := by decide +kernel
theorem dX5_init_1 : decode cX5_init 1 = .ok (.invokespecial 3, 3) := by decide +kernel
theorem dX5_init_4 : decode cX5_init 4 = .ok (.aload_n 0, 1) := by decide +kernel
theorem dX5_init_5 : decode cX5_init 5 = .ok (.iconst 0, 1) := by decide +kernel
theorem dX5_init_6 : decode cX5_init 6 = .ok (.putfield 9, 3) := by decide +kernel
theorem dX5_init_9 : decode cX5_init 9 = .ok (.aload_n 0, 1) := by decide +kernel
theorem dX5_init_10 : decode cX5_init 10 = .ok (.iconst 0, 1) := by decide +kernel
theorem dX5_init_11 : decode cX5_init 11 = .ok (.putfield 15, 3) := by decide +kernel
theorem dX5_init_14 : decode cX5_init 14 = .ok (.aload_n 0, 1) := by decide +kernel
theorem dX5_init_15 : decode cX5_init 15 = .ok (.iconst 0, 1) := by decide +kernel
theorem dX5_init_16 : decode cX5_init 16 = .ok (.putfield 18, 3) := by decide +kernel
theorem dX5_init_19 : decode cX5_init 19 = .ok (.aload_n 0, 1) := by decide +kernel
theorem dX5_init_20 : decode cX5_init 20 = .ok (.iconst 0, 1) := by decide +kernel
theorem dX5_init_21 : decode cX5_init 21 = .ok (.putfield 21, 3) := by decide +kernel
theorem dX5_init_24 : decode cX5_init 24 = .ok (.aload_n 0, 1) := by decide +kernel
theorem dX5_init_25 : decode cX5_init 25 = .ok (.iconst 0, 1) := by decide +kernel
theorem dX5_init_26 : decode cX5_init 26 = .ok (.putfield 24, 3) := by decide +kernel
theorem dX5_init_29 : decode cX5_init 29 = .ok (.aload_n 0, 1) := by decide +kernel
theorem dX5_init_30 : decode cX5_init 30 = .ok (.iconst (-1), 1) := by decide +kernel
theorem dX5_init_31 : decode cX5_init 31 = .ok (.putfield 27, 3) := by decide +kernel
theorem dX5_init_34 : decode cX5_init 34 = .ok (.aload_n 0, 1) := by decide +kernel
theorem dX5_init_35 : decode cX5_init 35 = .ok (.new 30, 3) := by decide +kernel
theorem dX5_init_38 : decode cX5_init 38 = .ok (.dup, 1) := by decide +kernel
theorem dX5_init_39 : decode cX5_init 39 = .ok (.aload_n 1, 1) := by decide +kernel
theorem dX5_init_40 : decode cX5_init 40 = .ok (.invokespecial 32, 3) := by decide +kernel
theorem dX5_init_43 : decode cX5_init 43 = .ok (.putfield 35, 3) := by decide +kernel
theorem dX5_init_46 : decode cX5_init 46 = .ok (.aload_n 0, 1) := by decide +kernel
theorem dX5_init_47 : decode cX5_init 47 = .ok (.aload_n 1, 1) := by decide +kernel
theorem dX5_init_48 : decode cX5_init 48 = .ok (.putfield 39, 3) := by decide +kernel
theorem dX5_init_51 : decode cX5_init 51 = .ok (.aload_n 0, 1) := by decide +kernel
theorem dX5_init_52 : decode cX5_init 52 = .ok (.aload_n 2, 1) := by decide +kernel
theorem dX5_init_53 : decode cX5_init 53 = .ok (.putfield 43, 3) := by decide +kernel
theorem dX5_init_56 : decode cX5_init 56 = .ok (.return_, 1) := by decide +kernel
theorem dX5_kind_0 : decode cX5_kind 0 = .ok (.aload_n 0, 1) := by decide +kernel
theorem dX5_kind_1 : decode cX5_kind 1 = .ok (.getfield 24, 3) := by decide +kernel
theorem dX5_kind_4 : decode cX5_kind 4 = .ok (.ireturn, 1) := by decide +kernel
theorem dX5_place_0 : decode cX5_place 0 = .ok (.aload_n 0, 1) := by decide +kernel
theorem dX5_place_1 : decode cX5_place 1 = .ok (.getfield 27, 3) := by decide +kernel
theorem dX5_place_4 : decode cX5_place 4 = .ok (.ireturn, 1) := by decide +kernel
theorem dX5_readFormula_0 : decode cX5_readFormula 0 = .ok (.aload_n 0, 1) := by decide +kernel
theorem dX5_readFormula_1 : decode cX5_readFormula 1 = .ok (.aload_n 1, 1) := by decide +kernel
theorem dX5_readFormula_2 : decode cX5_readFormula 2 = .ok (.iload_n 2, 1) := by decide +kernel
theorem dX5_readFormula_3 : decode cX5_readFormula 3 = .ok (.aload_n 3, 1) := by decide +kernel
theorem dX5_readFormula_4 : decode cX5_readFormula 4 = .ok (.invokevirtual 47, 3) := by decide +kernel
theorem dX5_readFormula_7 : decode cX5_readFormula 7 = .ok (.aload_n 0, 1) := by decide +kernel
theorem dX5_readFormula_8 : decode cX5_readFormula 8 = .ok (.ldc 51, 2) := by decide +kernel
theorem dX5_readFormula_10 : decode cX5_readFormula 10 = .ok (.invokevirtual 53, 3) := by decide +kernel
theorem dX5_readFormula_13 : decode cX5_readFormula 13 = .ok (.aload_n 0, 1) := by decide +kernel
theorem dX5_readFormula_14 : decode cX5_readFormula 14 = .ok (.ldc 57, 2) := by decide +kernel
theorem dX5_readFormula_16 : decode cX5_readFormula 16 = .ok (.invokevirtual 53, 3) := by decide +kernel
theorem dX5_readFormula_19 : decode cX5_readFormula 19 = .ok (.aload_n 0, 1) := by decide +kernel
theorem dX5_readFormula_20 : decode cX5_readFormula 20 = .ok (.sipush 150, 3) := by decide +kernel
theorem dX5_readFormula_23 : decode cX5_readFormula 23 = .ok (.invokevirtual 59, 3) := by decide +kernel
theorem dX5_readFormula_26 : decode cX5_readFormula 26 = .ok (.istore 4, 2) := by decide +kernel
theorem dX5_readFormula_28 : decode cX5_readFormula 28 = .ok (.aload_n 0, 1) := by decide +kernel
theorem dX5_readFormula_29 : decode cX5_readFormula 29 = .ok (.sipush 300, 3) := by decide +kernel
theorem dX5_readFormula_32 : decode cX5_readFormula 32 = .ok (.invokevirtual 59, 3) := by decide +kernel
theorem dX5_readFormula_35 : decode cX5_readFormula 35 = .ok (.istore 5, 2) := by decide +kernel
theorem dX5_readFormula_37 : decode cX5_readFormula 37 = .ok (.aload_n 0, 1) := by decide +kernel
theorem dX5_readFormula_38 : decode cX5_readFormula 38 = .ok (.getfield 43, 3) := by decide +kernel
theorem dX5_readFormula_41 : decode cX5_readFormula 41 = .ok (.iload 4, 2) := by decide +kernel
theorem dX5_readFormula_43 : decode cX5_readFormula 43 = .ok (.invokevirtual 63, 3) := by decide +kernel
theorem dX5_readFormula_46 : decode cX5_readFormula 46 = .ok (.iconst 1, 1) := by decide +kernel
theorem dX5_readFormula_47 : decode cX5_readFormula 47 = .ok (.istore 6, 2) := by decide +kernel
theorem dX5_readFormula_49 : decode cX5_readFormula 49 = .ok (.iload 6, 2) := by decide +kernel
theorem dX5_readFormula_51 : decode cX5_readFormula 51 = .ok (.iload 5, 2) := by decide +kernel
theorem dX5_readFormula_53 : decode cX5_readFormula 53 = .ok (.if_icmp .gt 30, 3) := by decide +kernel
theorem dX5_readFormula_56 : decode cX5_readFormula 56 = .ok (.aload_n 0, 1) := by decide +kernel
theorem dX5_readFormula_57 : decode cX5_readFormula 57 = .ok (.getfield 24, 3) := by decide +kernel
theorem dX5_readFormula_60 : decode cX5_readFormula 60 = .ok (.ifCond .ne 23, 3) := by decide +kernel
theorem dX5_readFormula_63 : decode cX5_readFormula 63 = .ok (.aload_n 0, 1) := by decide +kernel
theorem dX5_readFormula_64 : decode cX5_readFormula 64 = .ok (.iload 4, 2) := by decide +kernel
theorem dX5_readFormula_66 : decode cX5_readFormula 66 = .ok (.invokevirtual 69, 3) := by decide +kernel
theorem dX5_readFormula_69 : decode cX5_readFormula 69 = .ok (.aload_n 0, 1) := by decide +kernel
theorem dX5_readFormula_70 : decode cX5_readFormula 70 = .ok (.getfield 43, 3) := by decide +kernel
theorem dX5_readFormula_73 : decode cX5_readFormula 73 = .ok (.iconst 0, 1) := by decide +kernel
theorem dX5_readFormula_74 : decode cX5_readFormula 74 = .ok (.invokevirtual 72, 3) := by decide +kernel
theorem dX5_readFormula_77 : decode cX5_readFormula 77 = .ok (.iinc 6 1, 3) := by decide +kernel
theorem dX5_readFormula_80 : decode cX5_readFormula 80 = .ok (.goto (-31), 3) := by decide +kernel
theorem dX5_readFormula_83 : decode cX5_readFormula 83 = .ok (.aload_n 0, 1) := by decide +kernel
theorem dX5_readFormula_84 : decode cX5_readFormula 84 = .ok (.getfield 24, 3) := by decide +kernel
theorem dX5_readFormula_87 : decode cX5_readFormula 87 = .ok (.ifCond .ne 25, 3) := by decide +kernel
theorem dX5_readFormula_90 : decode cX5_readFormula 90 = .ok (.aload_n 0, 1) := by decide +kernel
theorem dX5_readFormula_91 : decode cX5_readFormula 91 = .ok (.getfield 35, 3) := by decide +kernel
theorem dX5_readFormula_94 : decode cX5_readFormula 94 = .ok (.invokevirtual 76, 3) := by decide +kernel
theorem dX5_readFormula_97 : decode cX5_readFormula 97 = .ok (.ifCond .eq 15, 3) := by decide +kernel
theorem dX5_readFormula_100 : decode cX5_readFormula 100 = .ok (.aload_n 0, 1) := by decide +kernel
theorem dX5_readFormula_101 : decode cX5_readFormula 101 = .ok (.iconst 1, 1) := by decide +kernel
theorem dX5_readFormula_102 : decode cX5_readFormula 102 = .ok (.aload_n 0, 1) := by decide +kernel
theorem dX5_readFormula_103 : decode cX5_readFormula 103 = .ok (.getfield 35, 3) := by decide +kernel
theorem dX5_readFormula_106 : decode cX5_readFormula 106 = .ok (.invokevirtual 80, 3) := by decide +kernel
theorem dX5_readFormula_109 : decode cX5_readFormula 109 = .ok (.invokevirtual 84, 3) := by decide +kernel
theorem dX5_readFormula_112 : decode cX5_readFormula 112 = .ok (.return_, 1) := by decide +kernel
theorem dX5_readTextProof_0 : decode cX5_readTextProof 0 = .ok (.aload_n 0, 1) := by decide +kernel
theorem dX5_readTextProof_1 : decode cX5_readTextProof 1 = .ok (.aload_n 1, 1) := by decide +kernel
theorem dX5_readTextProof_2 : decode cX5_readTextProof 2 = .ok (.iload_n 2, 1) := by decide +kernel
theorem dX5_readTextProof_3 : decode cX5_readTextProof 3 = .ok (.aload_n 3, 1) := by decide +kernel
theorem dX5_readTextProof_4 : decode cX5_readTextProof 4 = .ok (.invokevirtual 47, 3) := by decide +kernel
theorem dX5_readTextProof_7 : decode cX5_readTextProof 7 = .ok (.iconst 1, 1) := by decide +kernel
theorem dX5_readTextProof_8 : decode cX5_readTextProof 8 = .ok (.istore 4, 2) := by decide +kernel
theorem dX5_readTextProof_10 : decode cX5_readTextProof 10 = .ok (.iload 4, 2) := by decide +kernel
theorem dX5_readTextProof_12 : decode cX5_readTextProof 12 = .ok (.sipush 301, 3) := by decide +kernel
theorem dX5_readTextProof_15 : decode cX5_readTextProof 15 = .ok (.if_icmp .gt 82, 3) := by decide +kernel
theorem dX5_readTextProof_18 : decode cX5_readTextProof 18 = .ok (.aload_n 0, 1) := by decide +kernel
theorem dX5_readTextProof_19 : decode cX5_readTextProof 19 = .ok (.getfield 24, 3) := by decide +kernel
theorem dX5_readTextProof_22 : decode cX5_readTextProof 22 = .ok (.ifCond .ne 75, 3) := by decide +kernel
theorem dX5_readTextProof_25 : decode cX5_readTextProof 25 = .ok (.aload_n 0, 1) := by decide +kernel
theorem dX5_readTextProof_26 : decode cX5_readTextProof 26 = .ok (.getfield 35, 3) := by decide +kernel
theorem dX5_readTextProof_29 : decode cX5_readTextProof 29 = .ok (.invokevirtual 76, 3) := by decide +kernel
theorem dX5_readTextProof_32 : decode cX5_readTextProof 32 = .ok (.ifCond .eq 65, 3) := by decide +kernel
theorem dX5_readTextProof_35 : decode cX5_readTextProof 35 = .ok (.aload_n 0, 1) := by decide +kernel
theorem dX5_readTextProof_36 : decode cX5_readTextProof 36 = .ok (.getfield 35, 3) := by decide +kernel
theorem dX5_readTextProof_39 : decode cX5_readTextProof 39 = .ok (.ldc 88, 2) := by decide +kernel
theorem dX5_readTextProof_41 : decode cX5_readTextProof 41 = .ok (.invokevirtual 90, 3) := by decide +kernel
theorem dX5_readTextProof_44 : decode cX5_readTextProof 44 = .ok (.istore 5, 2) := by decide +kernel
theorem dX5_readTextProof_46 : decode cX5_readTextProof 46 = .ok (.iload 5, 2) := by decide +kernel
theorem dX5_readTextProof_48 : decode cX5_readTextProof 48 = .ok (.ifCond .ne 10, 3) := by decide +kernel
theorem dX5_readTextProof_51 : decode cX5_readTextProof 51 = .ok (.aload_n 0, 1) := by decide +kernel
theorem dX5_readTextProof_52 : decode cX5_readTextProof 52 = .ok (.getfield 35, 3) := by decide +kernel
theorem dX5_readTextProof_55 : decode cX5_readTextProof 55 = .ok (.invokevirtual 94, 3) := by decide +kernel
theorem dX5_readTextProof_58 : decode cX5_readTextProof 58 = .ok (.iload 4, 2) := by decide +kernel
theorem dX5_readTextProof_60 : decode cX5_readTextProof 60 = .ok (.sipush 300, 3) := by decide +kernel
theorem dX5_readTextProof_63 : decode cX5_readTextProof 63 = .ok (.if_icmp .le 12, 3) := by decide +kernel
theorem dX5_readTextProof_66 : decode cX5_readTextProof 66 = .ok (.aload_n 0, 1) := by decide +kernel
theorem dX5_readTextProof_67 : decode cX5_readTextProof 67 = .ok (.iload 5, 2) := by decide +kernel
theorem dX5_readTextProof_69 : decode cX5_readTextProof 69 = .ok (.invokevirtual 97, 3) := by decide +kernel
theorem dX5_readTextProof_72 : decode cX5_readTextProof 72 = .ok (.goto 19, 3) := by decide +kernel
theorem dX5_readTextProof_75 : decode cX5_readTextProof 75 = .ok (.aload_n 0, 1) := by decide +kernel
theorem dX5_readTextProof_76 : decode cX5_readTextProof 76 = .ok (.sipush 150, 3) := by decide +kernel
theorem dX5_readTextProof_79 : decode cX5_readTextProof 79 = .ok (.invokevirtual 69, 3) := by decide +kernel
theorem dX5_readTextProof_82 : decode cX5_readTextProof 82 = .ok (.aload_n 0, 1) := by decide +kernel
theorem dX5_readTextProof_83 : decode cX5_readTextProof 83 = .ok (.getfield 43, 3) := by decide +kernel
theorem dX5_readTextProof_86 : decode cX5_readTextProof 86 = .ok (.iload 5, 2) := by decide +kernel
theorem dX5_readTextProof_88 : decode cX5_readTextProof 88 = .ok (.invokevirtual 72, 3) := by decide +kernel
theorem dX5_readTextProof_91 : decode cX5_readTextProof 91 = .ok (.iinc 4 1, 3) := by decide +kernel
theorem dX5_readTextProof_94 : decode cX5_readTextProof 94 = .ok (.goto (-84), 3) := by decide +kernel
theorem dX5_readTextProof_97 : decode cX5_readTextProof 97 = .ok (.return_, 1) := by decide +kernel
theorem dX5_readByteProof_0 : decode cX5_readByteProof 0 = .ok (.aload_n 0, 1) := by decide +kernel
theorem dX5_readByteProof_1 : decode cX5_readByteProof 1 = .ok (.aload_n 1, 1) := by decide +kernel
theorem dX5_readByteProof_2 : decode cX5_readByteProof 2 = .ok (.iload_n 2, 1) := by decide +kernel
theorem dX5_readByteProof_3 : decode cX5_readByteProof 3 = .ok (.aload_n 3, 1) := by decide +kernel
theorem dX5_readByteProof_4 : decode cX5_readByteProof 4 = .ok (.invokevirtual 47, 3) := by decide +kernel
theorem dX5_readByteProof_7 : decode cX5_readByteProof 7 = .ok (.iconst 1, 1) := by decide +kernel
theorem dX5_readByteProof_8 : decode cX5_readByteProof 8 = .ok (.istore 4, 2) := by decide +kernel
theorem dX5_readByteProof_10 : decode cX5_readByteProof 10 = .ok (.iload 4, 2) := by decide +kernel
theorem dX5_readByteProof_12 : decode cX5_readByteProof 12 = .ok (.sipush 301, 3) := by decide +kernel
theorem dX5_readByteProof_15 : decode cX5_readByteProof 15 = .ok (.if_icmp .gt 119, 3) := by decide +kernel
theorem dX5_readByteProof_18 : decode cX5_readByteProof 18 = .ok (.aload_n 0, 1) := by decide +kernel
theorem dX5_readByteProof_19 : decode cX5_readByteProof 19 = .ok (.getfield 24, 3) := by decide +kernel
theorem dX5_readByteProof_22 : decode cX5_readByteProof 22 = .ok (.ifCond .ne 112, 3) := by decide +kernel
theorem dX5_readByteProof_25 : decode cX5_readByteProof 25 = .ok (.aload_n 0, 1) := by decide +kernel
theorem dX5_readByteProof_26 : decode cX5_readByteProof 26 = .ok (.getfield 15, 3) := by decide +kernel
theorem dX5_readByteProof_29 : decode cX5_readByteProof 29 = .ok (.aload_n 0, 1) := by decide +kernel
theorem dX5_readByteProof_30 : decode cX5_readByteProof 30 = .ok (.getfield 9, 3) := by decide +kernel
theorem dX5_readByteProof_33 : decode cX5_readByteProof 33 = .ok (.if_icmp .ge 101, 3) := by decide +kernel
theorem dX5_readByteProof_36 : decode cX5_readByteProof 36 = .ok (.aload_n 0, 1) := by decide +kernel
theorem dX5_readByteProof_37 : decode cX5_readByteProof 37 = .ok (.getfield 39, 3) := by decide +kernel
theorem dX5_readByteProof_40 : decode cX5_readByteProof 40 = .ok (.aload_n 0, 1) := by decide +kernel
theorem dX5_readByteProof_41 : decode cX5_readByteProof 41 = .ok (.getfield 15, 3) := by decide +kernel
theorem dX5_readByteProof_44 : decode cX5_readByteProof 44 = .ok (.invokevirtual 100, 3) := by decide +kernel
theorem dX5_readByteProof_47 : decode cX5_readByteProof 47 = .ok (.istore 5, 2) := by decide +kernel
theorem dX5_readByteProof_49 : decode cX5_readByteProof 49 = .ok (.iload 5, 2) := by decide +kernel
theorem dX5_readByteProof_51 : decode cX5_readByteProof 51 = .ok (.bipush 97, 2) := by decide +kernel
theorem dX5_readByteProof_53 : decode cX5_readByteProof 53 = .ok (.if_icmp .eq 22, 3) := by decide +kernel
theorem dX5_readByteProof_56 : decode cX5_readByteProof 56 = .ok (.iload 5, 2) := by decide +kernel
theorem dX5_readByteProof_58 : decode cX5_readByteProof 58 = .ok (.bipush 100, 2) := by decide +kernel
theorem dX5_readByteProof_60 : decode cX5_readByteProof 60 = .ok (.if_icmp .eq 15, 3) := by decide +kernel
theorem dX5_readByteProof_63 : decode cX5_readByteProof 63 = .ok (.aload_n 0, 1) := by decide +kernel
theorem dX5_readByteProof_64 : decode cX5_readByteProof 64 = .ok (.iconst 1, 1) := by decide +kernel
theorem dX5_readByteProof_65 : decode cX5_readByteProof 65 = .ok (.aload_n 0, 1) := by decide +kernel
theorem dX5_readByteProof_66 : decode cX5_readByteProof 66 = .ok (.getfield 15, 3) := by decide +kernel
theorem dX5_readByteProof_69 : decode cX5_readByteProof 69 = .ok (.invokevirtual 84, 3) := by decide +kernel
theorem dX5_readByteProof_72 : decode cX5_readByteProof 72 = .ok (.goto 56, 3) := by decide +kernel
theorem dX5_readByteProof_75 : decode cX5_readByteProof 75 = .ok (.iload 4, 2) := by decide +kernel
theorem dX5_readByteProof_77 : decode cX5_readByteProof 77 = .ok (.sipush 300, 3) := by decide +kernel
theorem dX5_readByteProof_80 : decode cX5_readByteProof 80 = .ok (.if_icmp .le 15, 3) := by decide +kernel
theorem dX5_readByteProof_83 : decode cX5_readByteProof 83 = .ok (.aload_n 0, 1) := by decide +kernel
theorem dX5_readByteProof_84 : decode cX5_readByteProof 84 = .ok (.iconst 3, 1) := by decide +kernel
theorem dX5_readByteProof_85 : decode cX5_readByteProof 85 = .ok (.aload_n 0, 1) := by decide +kernel
theorem dX5_readByteProof_86 : decode cX5_readByteProof 86 = .ok (.getfield 15, 3) := by decide +kernel
theorem dX5_readByteProof_89 : decode cX5_readByteProof 89 = .ok (.invokevirtual 84, 3) := by decide +kernel
theorem dX5_readByteProof_92 : decode cX5_readByteProof 92 = .ok (.goto 36, 3) := by decide +kernel
theorem dX5_readByteProof_95 : decode cX5_readByteProof 95 = .ok (.aload_n 0, 1) := by decide +kernel
theorem dX5_readByteProof_96 : decode cX5_readByteProof 96 = .ok (.dup, 1) := by decide +kernel
theorem dX5_readByteProof_97 : decode cX5_readByteProof 97 = .ok (.getfield 15, 3) := by decide +kernel
theorem dX5_readByteProof_100 : decode cX5_readByteProof 100 = .ok (.iconst 1, 1) := by decide +kernel
theorem dX5_readByteProof_101 : decode cX5_readByteProof 101 = .ok (.iadd, 1) := by decide +kernel
theorem dX5_readByteProof_102 : decode cX5_readByteProof 102 = .ok (.putfield 15, 3) := by decide +kernel
theorem dX5_readByteProof_105 : decode cX5_readByteProof 105 = .ok (.aload_n 0, 1) := by decide +kernel
theorem dX5_readByteProof_106 : decode cX5_readByteProof 106 = .ok (.invokevirtual 105, 3) := by decide +kernel
theorem dX5_readByteProof_109 : decode cX5_readByteProof 109 = .ok (.aload_n 0, 1) := by decide +kernel
theorem dX5_readByteProof_110 : decode cX5_readByteProof 110 = .ok (.getfield 43, 3) := by decide +kernel
theorem dX5_readByteProof_113 : decode cX5_readByteProof 113 = .ok (.iload 5, 2) := by decide +kernel
theorem dX5_readByteProof_115 : decode cX5_readByteProof 115 = .ok (.bipush 100, 2) := by decide +kernel
theorem dX5_readByteProof_117 : decode cX5_readByteProof 117 = .ok (.if_icmp .ne 7, 3) := by decide +kernel
theorem dX5_readByteProof_120 : decode cX5_readByteProof 120 = .ok (.iconst 1, 1) := by decide +kernel
theorem dX5_readByteProof_121 : decode cX5_readByteProof 121 = .ok (.goto 4, 3) := by decide +kernel
theorem dX5_readByteProof_124 : decode cX5_readByteProof 124 = .ok (.iconst 0, 1) := by decide +kernel
theorem dX5_readByteProof_125 : decode cX5_readByteProof 125 = .ok (.invokevirtual 72, 3) := by decide +kernel
theorem dX5_readByteProof_128 : decode cX5_readByteProof 128 = .ok (.iinc 4 1, 3) := by decide +kernel
theorem dX5_readByteProof_131 : decode cX5_readByteProof 131 = .ok (.goto (-121), 3) := by decide +kernel
theorem dX5_readByteProof_134 : decode cX5_readByteProof 134 = .ok (.return_, 1) := by decide +kernel
theorem dX5_begin_0 : decode cX5_begin 0 = .ok (.aload_n 0, 1) := by decide +kernel
theorem dX5_begin_1 : decode cX5_begin 1 = .ok (.getfield 35, 3) := by decide +kernel
theorem dX5_begin_4 : decode cX5_begin 4 = .ok (.aload_n 1, 1) := by decide +kernel
theorem dX5_begin_5 : decode cX5_begin 5 = .ok (.iload_n 2, 1) := by decide +kernel
theorem dX5_begin_6 : decode cX5_begin 6 = .ok (.invokevirtual 108, 3) := by decide +kernel
theorem dX5_begin_9 : decode cX5_begin 9 = .ok (.aload_n 0, 1) := by decide +kernel
theorem dX5_begin_10 : decode cX5_begin 10 = .ok (.aload_n 1, 1) := by decide +kernel
theorem dX5_begin_11 : decode cX5_begin 11 = .ok (.putfield 39, 3) := by decide +kernel
theorem dX5_begin_14 : decode cX5_begin 14 = .ok (.aload_n 0, 1) := by decide +kernel
theorem dX5_begin_15 : decode cX5_begin 15 = .ok (.iload_n 2, 1) := by decide +kernel
theorem dX5_begin_16 : decode cX5_begin 16 = .ok (.putfield 9, 3) := by decide +kernel
theorem dX5_begin_19 : decode cX5_begin 19 = .ok (.aload_n 0, 1) := by decide +kernel
theorem dX5_begin_20 : decode cX5_begin 20 = .ok (.aload_n 3, 1) := by decide +kernel
theorem dX5_begin_21 : decode cX5_begin 21 = .ok (.putfield 43, 3) := by decide +kernel
theorem dX5_begin_24 : decode cX5_begin 24 = .ok (.aload_n 0, 1) := by decide +kernel
theorem dX5_begin_25 : decode cX5_begin 25 = .ok (.getfield 43, 3) := by decide +kernel
theorem dX5_begin_28 : decode cX5_begin 28 = .ok (.invokevirtual 111, 3) := by decide +kernel
theorem dX5_begin_31 : decode cX5_begin 31 = .ok (.aload_n 0, 1) := by decide +kernel
theorem dX5_begin_32 : decode cX5_begin 32 = .ok (.iconst 0, 1) := by decide +kernel
theorem dX5_begin_33 : decode cX5_begin 33 = .ok (.putfield 15, 3) := by decide +kernel
theorem dX5_begin_36 : decode cX5_begin 36 = .ok (.aload_n 0, 1) := by decide +kernel
theorem dX5_begin_37 : decode cX5_begin 37 = .ok (.iconst 0, 1) := by decide +kernel
theorem dX5_begin_38 : decode cX5_begin 38 = .ok (.putfield 21, 3) := by decide +kernel
theorem dX5_begin_41 : decode cX5_begin 41 = .ok (.aload_n 0, 1) := by decide +kernel
theorem dX5_begin_42 : decode cX5_begin 42 = .ok (.iconst 0, 1) := by decide +kernel
theorem dX5_begin_43 : decode cX5_begin 43 = .ok (.putfield 24, 3) := by decide +kernel
theorem dX5_begin_46 : decode cX5_begin 46 = .ok (.aload_n 0, 1) := by decide +kernel
theorem dX5_begin_47 : decode cX5_begin 47 = .ok (.iconst (-1), 1) := by decide +kernel
theorem dX5_begin_48 : decode cX5_begin 48 = .ok (.putfield 27, 3) := by decide +kernel
theorem dX5_begin_51 : decode cX5_begin 51 = .ok (.return_, 1) := by decide +kernel
theorem dX5_blame_0 : decode cX5_blame 0 = .ok (.aload_n 0, 1) := by decide +kernel
theorem dX5_blame_1 : decode cX5_blame 1 = .ok (.iload_n 1, 1) := by decide +kernel
theorem dX5_blame_2 : decode cX5_blame 2 = .ok (.putfield 24, 3) := by decide +kernel
theorem dX5_blame_5 : decode cX5_blame 5 = .ok (.aload_n 0, 1) := by decide +kernel
theorem dX5_blame_6 : decode cX5_blame 6 = .ok (.iload_n 2, 1) := by decide +kernel
theorem dX5_blame_7 : decode cX5_blame 7 = .ok (.putfield 27, 3) := by decide +kernel
theorem dX5_blame_10 : decode cX5_blame 10 = .ok (.return_, 1) := by decide +kernel
theorem dX5_expectWord_0 : decode cX5_expectWord 0 = .ok (.aload_n 0, 1) := by decide +kernel
theorem dX5_expectWord_1 : decode cX5_expectWord 1 = .ok (.getfield 24, 3) := by decide +kernel
theorem dX5_expectWord_4 : decode cX5_expectWord 4 = .ok (.ifCond .ne 36, 3) := by decide +kernel
theorem dX5_expectWord_7 : decode cX5_expectWord 7 = .ok (.aload_n 0, 1) := by decide +kernel
theorem dX5_expectWord_8 : decode cX5_expectWord 8 = .ok (.getfield 35, 3) := by decide +kernel
theorem dX5_expectWord_11 : decode cX5_expectWord 11 = .ok (.invokevirtual 76, 3) := by decide +kernel
theorem dX5_expectWord_14 : decode cX5_expectWord 14 = .ok (.ifCond .eq 14, 3) := by decide +kernel
theorem dX5_expectWord_17 : decode cX5_expectWord 17 = .ok (.aload_n 0, 1) := by decide +kernel
theorem dX5_expectWord_18 : decode cX5_expectWord 18 = .ok (.getfield 35, 3) := by decide +kernel
theorem dX5_expectWord_21 : decode cX5_expectWord 21 = .ok (.aload_n 1, 1) := by decide +kernel
theorem dX5_expectWord_22 : decode cX5_expectWord 22 = .ok (.invokevirtual 90, 3) := by decide +kernel
theorem dX5_expectWord_25 : decode cX5_expectWord 25 = .ok (.ifCond .ne 15, 3) := by decide +kernel
theorem dX5_expectWord_28 : decode cX5_expectWord 28 = .ok (.aload_n 0, 1) := by decide +kernel
theorem dX5_expectWord_29 : decode cX5_expectWord 29 = .ok (.iconst 1, 1) := by decide +kernel
theorem dX5_expectWord_30 : decode cX5_expectWord 30 = .ok (.aload_n 0, 1) := by decide +kernel
theorem dX5_expectWord_31 : decode cX5_expectWord 31 = .ok (.getfield 35, 3) := by decide +kernel
theorem dX5_expectWord_34 : decode cX5_expectWord 34 = .ok (.invokevirtual 80, 3) := by decide +kernel
theorem dX5_expectWord_37 : decode cX5_expectWord 37 = .ok (.invokevirtual 84, 3) := by decide +kernel
theorem dX5_expectWord_40 : decode cX5_expectWord 40 = .ok (.return_, 1) := by decide +kernel
theorem dX5_expectNumber_0 : decode cX5_expectNumber 0 = .ok (.aload_n 0, 1) := by decide +kernel
theorem dX5_expectNumber_1 : decode cX5_expectNumber 1 = .ok (.getfield 24, 3) := by decide +kernel
theorem dX5_expectNumber_4 : decode cX5_expectNumber 4 = .ok (.ifCond .eq 5, 3) := by decide +kernel
theorem dX5_expectNumber_7 : decode cX5_expectNumber 7 = .ok (.iconst 0, 1) := by decide +kernel
theorem dX5_expectNumber_8 : decode cX5_expectNumber 8 = .ok (.ireturn, 1) := by decide +kernel
theorem dX5_expectNumber_9 : decode cX5_expectNumber 9 = .ok (.aload_n 0, 1) := by decide +kernel
theorem dX5_expectNumber_10 : decode cX5_expectNumber 10 = .ok (.getfield 35, 3) := by decide +kernel
theorem dX5_expectNumber_13 : decode cX5_expectNumber 13 = .ok (.invokevirtual 76, 3) := by decide +kernel
theorem dX5_expectNumber_16 : decode cX5_expectNumber 16 = .ok (.pop, 1) := by decide +kernel
theorem dX5_expectNumber_17 : decode cX5_expectNumber 17 = .ok (.aload_n 0, 1) := by decide +kernel
theorem dX5_expectNumber_18 : decode cX5_expectNumber 18 = .ok (.iload_n 1, 1) := by decide +kernel
theorem dX5_expectNumber_19 : decode cX5_expectNumber 19 = .ok (.invokevirtual 114, 3) := by decide +kernel
theorem dX5_expectNumber_22 : decode cX5_expectNumber 22 = .ok (.istore_n 2, 1) := by decide +kernel
theorem dX5_expectNumber_23 : decode cX5_expectNumber 23 = .ok (.iload_n 2, 1) := by decide +kernel
theorem dX5_expectNumber_24 : decode cX5_expectNumber 24 = .ok (.ifCond .ne 15, 3) := by decide +kernel
theorem dX5_expectNumber_27 : decode cX5_expectNumber 27 = .ok (.aload_n 0, 1) := by decide +kernel
theorem dX5_expectNumber_28 : decode cX5_expectNumber 28 = .ok (.getfield 35, 3) := by decide +kernel
theorem dX5_expectNumber_31 : decode cX5_expectNumber 31 = .ok (.invokevirtual 117, 3) := by decide +kernel
theorem dX5_expectNumber_34 : decode cX5_expectNumber 34 = .ok (.ifCond .ge 5, 3) := by decide +kernel
theorem dX5_expectNumber_37 : decode cX5_expectNumber 37 = .ok (.iconst 2, 1) := by decide +kernel
theorem dX5_expectNumber_38 : decode cX5_expectNumber 38 = .ok (.istore_n 2, 1) := by decide +kernel
theorem dX5_expectNumber_39 : decode cX5_expectNumber 39 = .ok (.iload_n 2, 1) := by decide +kernel
theorem dX5_expectNumber_40 : decode cX5_expectNumber 40 = .ok (.ifCond .eq 17, 3) := by decide +kernel
theorem dX5_expectNumber_43 : decode cX5_expectNumber 43 = .ok (.aload_n 0, 1) := by decide +kernel
theorem dX5_expectNumber_44 : decode cX5_expectNumber 44 = .ok (.iload_n 2, 1) := by decide +kernel
theorem dX5_expectNumber_45 : decode cX5_expectNumber 45 = .ok (.aload_n 0, 1) := by decide +kernel
theorem dX5_expectNumber_46 : decode cX5_expectNumber 46 = .ok (.getfield 35, 3) := by decide +kernel
theorem dX5_expectNumber_49 : decode cX5_expectNumber 49 = .ok (.invokevirtual 80, 3) := by decide +kernel
theorem dX5_expectNumber_52 : decode cX5_expectNumber 52 = .ok (.invokevirtual 84, 3) := by decide +kernel
theorem dX5_expectNumber_55 : decode cX5_expectNumber 55 = .ok (.iconst 0, 1) := by decide +kernel
theorem dX5_expectNumber_56 : decode cX5_expectNumber 56 = .ok (.ireturn, 1) := by decide +kernel
theorem dX5_expectNumber_57 : decode cX5_expectNumber 57 = .ok (.aload_n 0, 1) := by decide +kernel
theorem dX5_expectNumber_58 : decode cX5_expectNumber 58 = .ok (.getfield 35, 3) := by decide +kernel
theorem dX5_expectNumber_61 : decode cX5_expectNumber 61 = .ok (.invokevirtual 117, 3) := by decide +kernel
theorem dX5_expectNumber_64 : decode cX5_expectNumber 64 = .ok (.ireturn, 1) := by decide +kernel
theorem dX5_faultOfToken_0 : decode cX5_faultOfToken 0 = .ok (.aload_n 0, 1) := by decide +kernel
theorem dX5_faultOfToken_1 : decode cX5_faultOfToken 1 = .ok (.getfield 35, 3) := by decide +kernel
theorem dX5_faultOfToken_4 : decode cX5_faultOfToken 4 = .ok (.invokevirtual 120, 3) := by decide +kernel
theorem dX5_faultOfToken_7 : decode cX5_faultOfToken 7 = .ok (.ifCond .ne 5, 3) := by decide +kernel
theorem dX5_faultOfToken_10 : decode cX5_faultOfToken 10 = .ok (.iconst 1, 1) := by decide +kernel
theorem dX5_faultOfToken_11 : decode cX5_faultOfToken 11 = .ok (.ireturn, 1) := by decide +kernel
theorem dX5_faultOfToken_12 : decode cX5_faultOfToken 12 = .ok (.aload_n 0, 1) := by decide +kernel
theorem dX5_faultOfToken_13 : decode cX5_faultOfToken 13 = .ok (.getfield 35, 3) := by decide +kernel
theorem dX5_faultOfToken_16 : decode cX5_faultOfToken 16 = .ok (.invokevirtual 117, 3) := by decide +kernel
theorem dX5_faultOfToken_19 : decode cX5_faultOfToken 19 = .ok (.invokestatic 123, 3) := by decide +kernel
theorem dX5_faultOfToken_22 : decode cX5_faultOfToken 22 = .ok (.iload_n 1, 1) := by decide +kernel
theorem dX5_faultOfToken_23 : decode cX5_faultOfToken 23 = .ok (.if_icmp .le 7, 3) := by decide +kernel
theorem dX5_faultOfToken_26 : decode cX5_faultOfToken 26 = .ok (.iconst 2, 1) := by decide +kernel
theorem dX5_faultOfToken_27 : decode cX5_faultOfToken 27 = .ok (.goto 4, 3) := by decide +kernel
theorem dX5_faultOfToken_30 : decode cX5_faultOfToken 30 = .ok (.iconst 0, 1) := by decide +kernel
theorem dX5_faultOfToken_31 : decode cX5_faultOfToken 31 = .ok (.ireturn, 1) := by decide +kernel
theorem dX5_blameStepTooMany_0 : decode cX5_blameStepTooMany 0 = .ok (.iconst 0, 1) := by decide +kernel
theorem dX5_blameStepTooMany_1 : decode cX5_blameStepTooMany 1 = .ok (.istore_n 2, 1) := by decide +kernel
theorem dX5_blameStepTooMany_2 : decode cX5_blameStepTooMany 2 = .ok (.iload_n 1, 1) := by decide +kernel
theorem dX5_blameStepTooMany_3 : decode cX5_blameStepTooMany 3 = .ok (.ifCond .ne 21, 3) := by decide +kernel
theorem dX5_blameStepTooMany_6 : decode cX5_blameStepTooMany 6 = .ok (.aload_n 0, 1) := by decide +kernel
theorem dX5_blameStepTooMany_7 : decode cX5_blameStepTooMany 7 = .ok (.getfield 35, 3) := by decide +kernel
theorem dX5_blameStepTooMany_10 : decode cX5_blameStepTooMany 10 = .ok (.invokevirtual 76, 3) := by decide +kernel
theorem dX5_blameStepTooMany_13 : decode cX5_blameStepTooMany 13 = .ok (.ifCond .eq 11, 3) := by decide +kernel
theorem dX5_blameStepTooMany_16 : decode cX5_blameStepTooMany 16 = .ok (.aload_n 0, 1) := by decide +kernel
theorem dX5_blameStepTooMany_17 : decode cX5_blameStepTooMany 17 = .ok (.sipush 150, 3) := by decide +kernel
theorem dX5_blameStepTooMany_20 : decode cX5_blameStepTooMany 20 = .ok (.invokevirtual 114, 3) := by decide +kernel
theorem dX5_blameStepTooMany_23 : decode cX5_blameStepTooMany 23 = .ok (.istore_n 2, 1) := by decide +kernel
theorem dX5_blameStepTooMany_24 : decode cX5_blameStepTooMany 24 = .ok (.aload_n 0, 1) := by decide +kernel
theorem dX5_blameStepTooMany_25 : decode cX5_blameStepTooMany 25 = .ok (.iload_n 2, 1) := by decide +kernel
theorem dX5_blameStepTooMany_26 : decode cX5_blameStepTooMany 26 = .ok (.ifCond .ne 7, 3) := by decide +kernel
theorem dX5_blameStepTooMany_29 : decode cX5_blameStepTooMany 29 = .ok (.iconst 3, 1) := by decide +kernel
theorem dX5_blameStepTooMany_30 : decode cX5_blameStepTooMany 30 = .ok (.goto 4, 3) := by decide +kernel
theorem dX5_blameStepTooMany_33 : decode cX5_blameStepTooMany 33 = .ok (.iload_n 2, 1) := by decide +kernel
theorem dX5_blameStepTooMany_34 : decode cX5_blameStepTooMany 34 = .ok (.aload_n 0, 1) := by decide +kernel
theorem dX5_blameStepTooMany_35 : decode cX5_blameStepTooMany 35 = .ok (.getfield 35, 3) := by decide +kernel
theorem dX5_blameStepTooMany_38 : decode cX5_blameStepTooMany 38 = .ok (.invokevirtual 80, 3) := by decide +kernel
theorem dX5_blameStepTooMany_41 : decode cX5_blameStepTooMany 41 = .ok (.invokevirtual 84, 3) := by decide +kernel
theorem dX5_blameStepTooMany_44 : decode cX5_blameStepTooMany 44 = .ok (.return_, 1) := by decide +kernel
theorem dX5_readRow_0 : decode cX5_readRow 0 = .ok (.aload_n 0, 1) := by decide +kernel
theorem dX5_readRow_1 : decode cX5_readRow 1 = .ok (.iconst 0, 1) := by decide +kernel
theorem dX5_readRow_2 : decode cX5_readRow 2 = .ok (.putfield 18, 3) := by decide +kernel
theorem dX5_readRow_5 : decode cX5_readRow 5 = .ok (.iconst 0, 1) := by decide +kernel
theorem dX5_readRow_6 : decode cX5_readRow 6 = .ok (.istore_n 2, 1) := by decide +kernel
theorem dX5_readRow_7 : decode cX5_readRow 7 = .ok (.iload_n 2, 1) := by decide +kernel
theorem dX5_readRow_8 : decode cX5_readRow 8 = .ok (.bipush 40, 2) := by decide +kernel
theorem dX5_readRow_10 : decode cX5_readRow 10 = .ok (.if_icmp .gt 78, 3) := by decide +kernel
theorem dX5_readRow_13 : decode cX5_readRow 13 = .ok (.aload_n 0, 1) := by decide +kernel
theorem dX5_readRow_14 : decode cX5_readRow 14 = .ok (.getfield 24, 3) := by decide +kernel
theorem dX5_readRow_17 : decode cX5_readRow 17 = .ok (.ifCond .ne 71, 3) := by decide +kernel
theorem dX5_readRow_20 : decode cX5_readRow 20 = .ok (.aload_n 0, 1) := by decide +kernel
theorem dX5_readRow_21 : decode cX5_readRow 21 = .ok (.getfield 35, 3) := by decide +kernel
theorem dX5_readRow_24 : decode cX5_readRow 24 = .ok (.invokevirtual 76, 3) := by decide +kernel
theorem dX5_readRow_27 : decode cX5_readRow 27 = .ok (.pop, 1) := by decide +kernel
theorem dX5_readRow_28 : decode cX5_readRow 28 = .ok (.aload_n 0, 1) := by decide +kernel
theorem dX5_readRow_29 : decode cX5_readRow 29 = .ok (.iload_n 1, 1) := by decide +kernel
theorem dX5_readRow_30 : decode cX5_readRow 30 = .ok (.invokevirtual 114, 3) := by decide +kernel
theorem dX5_readRow_33 : decode cX5_readRow 33 = .ok (.istore_n 3, 1) := by decide +kernel
theorem dX5_readRow_34 : decode cX5_readRow 34 = .ok (.iload_n 3, 1) := by decide +kernel
theorem dX5_readRow_35 : decode cX5_readRow 35 = .ok (.ifCond .eq 18, 3) := by decide +kernel
theorem dX5_readRow_38 : decode cX5_readRow 38 = .ok (.aload_n 0, 1) := by decide +kernel
theorem dX5_readRow_39 : decode cX5_readRow 39 = .ok (.iload_n 3, 1) := by decide +kernel
theorem dX5_readRow_40 : decode cX5_readRow 40 = .ok (.aload_n 0, 1) := by decide +kernel
theorem dX5_readRow_41 : decode cX5_readRow 41 = .ok (.getfield 35, 3) := by decide +kernel
theorem dX5_readRow_44 : decode cX5_readRow 44 = .ok (.invokevirtual 80, 3) := by decide +kernel
theorem dX5_readRow_47 : decode cX5_readRow 47 = .ok (.invokevirtual 84, 3) := by decide +kernel
theorem dX5_readRow_50 : decode cX5_readRow 50 = .ok (.goto 32, 3) := by decide +kernel
theorem dX5_readRow_53 : decode cX5_readRow 53 = .ok (.aload_n 0, 1) := by decide +kernel
theorem dX5_readRow_54 : decode cX5_readRow 54 = .ok (.getfield 35, 3) := by decide +kernel
theorem dX5_readRow_57 : decode cX5_readRow 57 = .ok (.invokevirtual 117, 3) := by decide +kernel
theorem dX5_readRow_60 : decode cX5_readRow 60 = .ok (.ifCond .ne 4, 3) := by decide +kernel
theorem dX5_readRow_63 : decode cX5_readRow 63 = .ok (.return_, 1) := by decide +kernel
theorem dX5_readRow_64 : decode cX5_readRow 64 = .ok (.aload_n 0, 1) := by decide +kernel
theorem dX5_readRow_65 : decode cX5_readRow 65 = .ok (.aload_n 0, 1) := by decide +kernel
theorem dX5_readRow_66 : decode cX5_readRow 66 = .ok (.getfield 35, 3) := by decide +kernel
theorem dX5_readRow_69 : decode cX5_readRow 69 = .ok (.invokevirtual 117, 3) := by decide +kernel
theorem dX5_readRow_72 : decode cX5_readRow 72 = .ok (.aload_n 0, 1) := by decide +kernel
theorem dX5_readRow_73 : decode cX5_readRow 73 = .ok (.getfield 35, 3) := by decide +kernel
theorem dX5_readRow_76 : decode cX5_readRow 76 = .ok (.invokevirtual 80, 3) := by decide +kernel
theorem dX5_readRow_79 : decode cX5_readRow 79 = .ok (.invokevirtual 128, 3) := by decide +kernel
theorem dX5_readRow_82 : decode cX5_readRow 82 = .ok (.iinc 2 1, 3) := by decide +kernel
theorem dX5_readRow_85 : decode cX5_readRow 85 = .ok (.goto (-78), 3) := by decide +kernel
theorem dX5_readRow_88 : decode cX5_readRow 88 = .ok (.return_, 1) := by decide +kernel
theorem dX5_takeLiteral_0 : decode cX5_takeLiteral 0 = .ok (.aload_n 0, 1) := by decide +kernel
theorem dX5_takeLiteral_1 : decode cX5_takeLiteral 1 = .ok (.dup, 1) := by decide +kernel
theorem dX5_takeLiteral_2 : decode cX5_takeLiteral 2 = .ok (.getfield 18, 3) := by decide +kernel
theorem dX5_takeLiteral_5 : decode cX5_takeLiteral 5 = .ok (.iconst 1, 1) := by decide +kernel
theorem dX5_takeLiteral_6 : decode cX5_takeLiteral 6 = .ok (.iadd, 1) := by decide +kernel
theorem dX5_takeLiteral_7 : decode cX5_takeLiteral 7 = .ok (.putfield 18, 3) := by decide +kernel
theorem dX5_takeLiteral_10 : decode cX5_takeLiteral 10 = .ok (.aload_n 0, 1) := by decide +kernel
theorem dX5_takeLiteral_11 : decode cX5_takeLiteral 11 = .ok (.dup, 1) := by decide +kernel
theorem dX5_takeLiteral_12 : decode cX5_takeLiteral 12 = .ok (.getfield 21, 3) := by decide +kernel
theorem dX5_takeLiteral_15 : decode cX5_takeLiteral 15 = .ok (.iconst 1, 1) := by decide +kernel
theorem dX5_takeLiteral_16 : decode cX5_takeLiteral 16 = .ok (.iadd, 1) := by decide +kernel
theorem dX5_takeLiteral_17 : decode cX5_takeLiteral 17 = .ok (.putfield 21, 3) := by decide +kernel
theorem dX5_takeLiteral_20 : decode cX5_takeLiteral 20 = .ok (.aload_n 0, 1) := by decide +kernel
theorem dX5_takeLiteral_21 : decode cX5_takeLiteral 21 = .ok (.getfield 18, 3) := by decide +kernel
theorem dX5_takeLiteral_24 : decode cX5_takeLiteral 24 = .ok (.bipush 40, 2) := by decide +kernel
theorem dX5_takeLiteral_26 : decode cX5_takeLiteral 26 = .ok (.if_icmp .gt 13, 3) := by decide +kernel
theorem dX5_takeLiteral_29 : decode cX5_takeLiteral 29 = .ok (.aload_n 0, 1) := by decide +kernel
theorem dX5_takeLiteral_30 : decode cX5_takeLiteral 30 = .ok (.getfield 21, 3) := by decide +kernel
theorem dX5_takeLiteral_33 : decode cX5_takeLiteral 33 = .ok (.sipush 2000, 3) := by decide +kernel
theorem dX5_takeLiteral_36 : decode cX5_takeLiteral 36 = .ok (.if_icmp .le 12, 3) := by decide +kernel
theorem dX5_takeLiteral_39 : decode cX5_takeLiteral 39 = .ok (.aload_n 0, 1) := by decide +kernel
theorem dX5_takeLiteral_40 : decode cX5_takeLiteral 40 = .ok (.iconst 3, 1) := by decide +kernel
theorem dX5_takeLiteral_41 : decode cX5_takeLiteral 41 = .ok (.iload_n 2, 1) := by decide +kernel
theorem dX5_takeLiteral_42 : decode cX5_takeLiteral 42 = .ok (.invokevirtual 84, 3) := by decide +kernel
theorem dX5_takeLiteral_45 : decode cX5_takeLiteral 45 = .ok (.goto 11, 3) := by decide +kernel
theorem dX5_takeLiteral_48 : decode cX5_takeLiteral 48 = .ok (.aload_n 0, 1) := by decide +kernel
theorem dX5_takeLiteral_49 : decode cX5_takeLiteral 49 = .ok (.getfield 43, 3) := by decide +kernel
theorem dX5_takeLiteral_52 : decode cX5_takeLiteral 52 = .ok (.iload_n 1, 1) := by decide +kernel
theorem dX5_takeLiteral_53 : decode cX5_takeLiteral 53 = .ok (.invokevirtual 131, 3) := by decide +kernel
theorem dX5_takeLiteral_56 : decode cX5_takeLiteral 56 = .ok (.return_, 1) := by decide +kernel
theorem dX5_readByteRow_0 : decode cX5_readByteRow 0 = .ok (.aload_n 0, 1) := by decide +kernel
theorem dX5_readByteRow_1 : decode cX5_readByteRow 1 = .ok (.iconst 0, 1) := by decide +kernel
theorem dX5_readByteRow_2 : decode cX5_readByteRow 2 = .ok (.putfield 18, 3) := by decide +kernel
theorem dX5_readByteRow_5 : decode cX5_readByteRow 5 = .ok (.iconst 0, 1) := by decide +kernel
theorem dX5_readByteRow_6 : decode cX5_readByteRow 6 = .ok (.istore_n 1, 1) := by decide +kernel
theorem dX5_readByteRow_7 : decode cX5_readByteRow 7 = .ok (.iload_n 1, 1) := by decide +kernel
theorem dX5_readByteRow_8 : decode cX5_readByteRow 8 = .ok (.bipush 40, 2) := by decide +kernel
theorem dX5_readByteRow_10 : decode cX5_readByteRow 10 = .ok (.if_icmp .gt 68, 3) := by decide +kernel
theorem dX5_readByteRow_13 : decode cX5_readByteRow 13 = .ok (.aload_n 0, 1) := by decide +kernel
theorem dX5_readByteRow_14 : decode cX5_readByteRow 14 = .ok (.getfield 24, 3) := by decide +kernel
theorem dX5_readByteRow_17 : decode cX5_readByteRow 17 = .ok (.ifCond .ne 61, 3) := by decide +kernel
theorem dX5_readByteRow_20 : decode cX5_readByteRow 20 = .ok (.aload_n 0, 1) := by decide +kernel
theorem dX5_readByteRow_21 : decode cX5_readByteRow 21 = .ok (.getfield 15, 3) := by decide +kernel
theorem dX5_readByteRow_24 : decode cX5_readByteRow 24 = .ok (.aload_n 0, 1) := by decide +kernel
theorem dX5_readByteRow_25 : decode cX5_readByteRow 25 = .ok (.getfield 9, 3) := by decide +kernel
theorem dX5_readByteRow_28 : decode cX5_readByteRow 28 = .ok (.if_icmp .lt 15, 3) := by decide +kernel
theorem dX5_readByteRow_31 : decode cX5_readByteRow 31 = .ok (.aload_n 0, 1) := by decide +kernel
theorem dX5_readByteRow_32 : decode cX5_readByteRow 32 = .ok (.iconst 1, 1) := by decide +kernel
theorem dX5_readByteRow_33 : decode cX5_readByteRow 33 = .ok (.aload_n 0, 1) := by decide +kernel
theorem dX5_readByteRow_34 : decode cX5_readByteRow 34 = .ok (.getfield 9, 3) := by decide +kernel
theorem dX5_readByteRow_37 : decode cX5_readByteRow 37 = .ok (.invokevirtual 84, 3) := by decide +kernel
theorem dX5_readByteRow_40 : decode cX5_readByteRow 40 = .ok (.goto 32, 3) := by decide +kernel
theorem dX5_readByteRow_43 : decode cX5_readByteRow 43 = .ok (.aload_n 0, 1) := by decide +kernel
theorem dX5_readByteRow_44 : decode cX5_readByteRow 44 = .ok (.getfield 39, 3) := by decide +kernel
theorem dX5_readByteRow_47 : decode cX5_readByteRow 47 = .ok (.aload_n 0, 1) := by decide +kernel
theorem dX5_readByteRow_48 : decode cX5_readByteRow 48 = .ok (.getfield 15, 3) := by decide +kernel
theorem dX5_readByteRow_51 : decode cX5_readByteRow 51 = .ok (.invokevirtual 100, 3) := by decide +kernel
theorem dX5_readByteRow_54 : decode cX5_readByteRow 54 = .ok (.ifCond .ne 14, 3) := by decide +kernel
theorem dX5_readByteRow_57 : decode cX5_readByteRow 57 = .ok (.aload_n 0, 1) := by decide +kernel
theorem dX5_readByteRow_58 : decode cX5_readByteRow 58 = .ok (.dup, 1) := by decide +kernel
theorem dX5_readByteRow_59 : decode cX5_readByteRow 59 = .ok (.getfield 15, 3) := by decide +kernel
theorem dX5_readByteRow_62 : decode cX5_readByteRow 62 = .ok (.iconst 1, 1) := by decide +kernel
theorem dX5_readByteRow_63 : decode cX5_readByteRow 63 = .ok (.iadd, 1) := by decide +kernel
theorem dX5_readByteRow_64 : decode cX5_readByteRow 64 = .ok (.putfield 15, 3) := by decide +kernel
theorem dX5_readByteRow_67 : decode cX5_readByteRow 67 = .ok (.return_, 1) := by decide +kernel
theorem dX5_readByteRow_68 : decode cX5_readByteRow 68 = .ok (.aload_n 0, 1) := by decide +kernel
theorem dX5_readByteRow_69 : decode cX5_readByteRow 69 = .ok (.invokevirtual 134, 3) := by decide +kernel
theorem dX5_readByteRow_72 : decode cX5_readByteRow 72 = .ok (.iinc 1 1, 3) := by decide +kernel
theorem dX5_readByteRow_75 : decode cX5_readByteRow 75 = .ok (.goto (-68), 3) := by decide +kernel
theorem dX5_readByteRow_78 : decode cX5_readByteRow 78 = .ok (.return_, 1) := by decide +kernel
theorem dX5_readByteLiteral_0 : decode cX5_readByteLiteral 0 = .ok (.aload_n 0, 1) := by decide +kernel
theorem dX5_readByteLiteral_1 : decode cX5_readByteLiteral 1 = .ok (.getfield 15, 3) := by decide +kernel
theorem dX5_readByteLiteral_4 : decode cX5_readByteLiteral 4 = .ok (.istore_n 1, 1) := by decide +kernel
theorem dX5_readByteLiteral_5 : decode cX5_readByteLiteral 5 = .ok (.aload_n 0, 1) := by decide +kernel
theorem dX5_readByteLiteral_6 : decode cX5_readByteLiteral 6 = .ok (.getfield 39, 3) := by decide +kernel
theorem dX5_readByteLiteral_9 : decode cX5_readByteLiteral 9 = .ok (.iload_n 1, 1) := by decide +kernel
theorem dX5_readByteLiteral_10 : decode cX5_readByteLiteral 10 = .ok (.invokevirtual 100, 3) := by decide +kernel
theorem dX5_readByteLiteral_13 : decode cX5_readByteLiteral 13 = .ok (.istore_n 2, 1) := by decide +kernel
theorem dX5_readByteLiteral_14 : decode cX5_readByteLiteral 14 = .ok (.aload_n 0, 1) := by decide +kernel
theorem dX5_readByteLiteral_15 : decode cX5_readByteLiteral 15 = .ok (.dup, 1) := by decide +kernel
theorem dX5_readByteLiteral_16 : decode cX5_readByteLiteral 16 = .ok (.getfield 15, 3) := by decide +kernel
theorem dX5_readByteLiteral_19 : decode cX5_readByteLiteral 19 = .ok (.iconst 1, 1) := by decide +kernel
theorem dX5_readByteLiteral_20 : decode cX5_readByteLiteral 20 = .ok (.iadd, 1) := by decide +kernel
theorem dX5_readByteLiteral_21 : decode cX5_readByteLiteral 21 = .ok (.putfield 15, 3) := by decide +kernel
theorem dX5_readByteLiteral_24 : decode cX5_readByteLiteral 24 = .ok (.iload_n 2, 1) := by decide +kernel
theorem dX5_readByteLiteral_25 : decode cX5_readByteLiteral 25 = .ok (.sipush 128, 3) := by decide +kernel
theorem dX5_readByteLiteral_28 : decode cX5_readByteLiteral 28 = .ok (.if_icmp .lt 76, 3) := by decide +kernel
theorem dX5_readByteLiteral_31 : decode cX5_readByteLiteral 31 = .ok (.aload_n 0, 1) := by decide +kernel
theorem dX5_readByteLiteral_32 : decode cX5_readByteLiteral 32 = .ok (.getfield 15, 3) := by decide +kernel
theorem dX5_readByteLiteral_35 : decode cX5_readByteLiteral 35 = .ok (.aload_n 0, 1) := by decide +kernel
theorem dX5_readByteLiteral_36 : decode cX5_readByteLiteral 36 = .ok (.getfield 9, 3) := by decide +kernel
theorem dX5_readByteLiteral_39 : decode cX5_readByteLiteral 39 = .ok (.if_icmp .lt 13, 3) := by decide +kernel
theorem dX5_readByteLiteral_42 : decode cX5_readByteLiteral 42 = .ok (.aload_n 0, 1) := by decide +kernel
theorem dX5_readByteLiteral_43 : decode cX5_readByteLiteral 43 = .ok (.iconst 1, 1) := by decide +kernel
theorem dX5_readByteLiteral_44 : decode cX5_readByteLiteral 44 = .ok (.aload_n 0, 1) := by decide +kernel
theorem dX5_readByteLiteral_45 : decode cX5_readByteLiteral 45 = .ok (.getfield 9, 3) := by decide +kernel
theorem dX5_readByteLiteral_48 : decode cX5_readByteLiteral 48 = .ok (.invokevirtual 84, 3) := by decide +kernel
theorem dX5_readByteLiteral_51 : decode cX5_readByteLiteral 51 = .ok (.return_, 1) := by decide +kernel
theorem dX5_readByteLiteral_52 : decode cX5_readByteLiteral 52 = .ok (.aload_n 0, 1) := by decide +kernel
theorem dX5_readByteLiteral_53 : decode cX5_readByteLiteral 53 = .ok (.getfield 39, 3) := by decide +kernel
theorem dX5_readByteLiteral_56 : decode cX5_readByteLiteral 56 = .ok (.aload_n 0, 1) := by decide +kernel
theorem dX5_readByteLiteral_57 : decode cX5_readByteLiteral 57 = .ok (.getfield 15, 3) := by decide +kernel
theorem dX5_readByteLiteral_60 : decode cX5_readByteLiteral 60 = .ok (.invokevirtual 100, 3) := by decide +kernel
theorem dX5_readByteLiteral_63 : decode cX5_readByteLiteral 63 = .ok (.istore_n 3, 1) := by decide +kernel
theorem dX5_readByteLiteral_64 : decode cX5_readByteLiteral 64 = .ok (.iload_n 3, 1) := by decide +kernel
theorem dX5_readByteLiteral_65 : decode cX5_readByteLiteral 65 = .ok (.ifCond .eq 10, 3) := by decide +kernel
theorem dX5_readByteLiteral_68 : decode cX5_readByteLiteral 68 = .ok (.iload_n 3, 1) := by decide +kernel
theorem dX5_readByteLiteral_69 : decode cX5_readByteLiteral 69 = .ok (.sipush 128, 3) := by decide +kernel
theorem dX5_readByteLiteral_72 : decode cX5_readByteLiteral 72 = .ok (.if_icmp .lt 10, 3) := by decide +kernel
theorem dX5_readByteLiteral_75 : decode cX5_readByteLiteral 75 = .ok (.aload_n 0, 1) := by decide +kernel
theorem dX5_readByteLiteral_76 : decode cX5_readByteLiteral 76 = .ok (.iconst 1, 1) := by decide +kernel
theorem dX5_readByteLiteral_77 : decode cX5_readByteLiteral 77 = .ok (.iload_n 1, 1) := by decide +kernel
theorem dX5_readByteLiteral_78 : decode cX5_readByteLiteral 78 = .ok (.invokevirtual 84, 3) := by decide +kernel
theorem dX5_readByteLiteral_81 : decode cX5_readByteLiteral 81 = .ok (.return_, 1) := by decide +kernel
theorem dX5_readByteLiteral_82 : decode cX5_readByteLiteral 82 = .ok (.iload_n 2, 1) := by decide +kernel
theorem dX5_readByteLiteral_83 : decode cX5_readByteLiteral 83 = .ok (.sipush 128, 3) := by decide +kernel
theorem dX5_readByteLiteral_86 : decode cX5_readByteLiteral 86 = .ok (.isub, 1) := by decide +kernel
theorem dX5_readByteLiteral_87 : decode cX5_readByteLiteral 87 = .ok (.sipush 128, 3) := by decide +kernel
theorem dX5_readByteLiteral_90 : decode cX5_readByteLiteral 90 = .ok (.iload_n 3, 1) := by decide +kernel
theorem dX5_readByteLiteral_91 : decode cX5_readByteLiteral 91 = .ok (.imul, 1) := by decide +kernel
theorem dX5_readByteLiteral_92 : decode cX5_readByteLiteral 92 = .ok (.iadd, 1) := by decide +kernel
theorem dX5_readByteLiteral_93 : decode cX5_readByteLiteral 93 = .ok (.istore_n 2, 1) := by decide +kernel
theorem dX5_readByteLiteral_94 : decode cX5_readByteLiteral 94 = .ok (.aload_n 0, 1) := by decide +kernel
theorem dX5_readByteLiteral_95 : decode cX5_readByteLiteral 95 = .ok (.dup, 1) := by decide +kernel
theorem dX5_readByteLiteral_96 : decode cX5_readByteLiteral 96 = .ok (.getfield 15, 3) := by decide +kernel
theorem dX5_readByteLiteral_99 : decode cX5_readByteLiteral 99 = .ok (.iconst 1, 1) := by decide +kernel
theorem dX5_readByteLiteral_100 : decode cX5_readByteLiteral 100 = .ok (.iadd, 1) := by decide +kernel
theorem dX5_readByteLiteral_101 : decode cX5_readByteLiteral 101 = .ok (.putfield 15, 3) := by decide +kernel
theorem dX5_readByteLiteral_104 : decode cX5_readByteLiteral 104 = .ok (.iload_n 2, 1) := by decide +kernel
theorem dX5_readByteLiteral_105 : decode cX5_readByteLiteral 105 = .ok (.iconst 2, 1) := by decide +kernel
theorem dX5_readByteLiteral_106 : decode cX5_readByteLiteral 106 = .ok (.if_icmp .lt 10, 3) := by decide +kernel
theorem dX5_readByteLiteral_109 : decode cX5_readByteLiteral 109 = .ok (.iload_n 2, 1) := by decide +kernel
theorem dX5_readByteLiteral_110 : decode cX5_readByteLiteral 110 = .ok (.sipush 301, 3) := by decide +kernel
theorem dX5_readByteLiteral_113 : decode cX5_readByteLiteral 113 = .ok (.if_icmp .le 12, 3) := by decide +kernel
theorem dX5_readByteLiteral_116 : decode cX5_readByteLiteral 116 = .ok (.aload_n 0, 1) := by decide +kernel
theorem dX5_readByteLiteral_117 : decode cX5_readByteLiteral 117 = .ok (.iconst 2, 1) := by decide +kernel
theorem dX5_readByteLiteral_118 : decode cX5_readByteLiteral 118 = .ok (.iload_n 1, 1) := by decide +kernel
theorem dX5_readByteLiteral_119 : decode cX5_readByteLiteral 119 = .ok (.invokevirtual 84, 3) := by decide +kernel
theorem dX5_readByteLiteral_122 : decode cX5_readByteLiteral 122 = .ok (.goto 24, 3) := by decide +kernel
theorem dX5_readByteLiteral_125 : decode cX5_readByteLiteral 125 = .ok (.aload_n 0, 1) := by decide +kernel
theorem dX5_readByteLiteral_126 : decode cX5_readByteLiteral 126 = .ok (.iload_n 2, 1) := by decide +kernel
theorem dX5_readByteLiteral_127 : decode cX5_readByteLiteral 127 = .ok (.iconst 1, 1) := by decide +kernel
theorem dX5_readByteLiteral_128 : decode cX5_readByteLiteral 128 = .ok (.iand, 1) := by decide +kernel
theorem dX5_readByteLiteral_129 : decode cX5_readByteLiteral 129 = .ok (.ifCond .ne 9, 3) := by decide +kernel
theorem dX5_readByteLiteral_132 : decode cX5_readByteLiteral 132 = .ok (.iload_n 2, 1) := by decide +kernel
theorem dX5_readByteLiteral_133 : decode cX5_readByteLiteral 133 = .ok (.iconst 2, 1) := by decide +kernel
theorem dX5_readByteLiteral_134 : decode cX5_readByteLiteral 134 = .ok (.idiv, 1) := by decide +kernel
theorem dX5_readByteLiteral_135 : decode cX5_readByteLiteral 135 = .ok (.goto 7, 3) := by decide +kernel
theorem dX5_readByteLiteral_138 : decode cX5_readByteLiteral 138 = .ok (.iload_n 2, 1) := by decide +kernel
theorem dX5_readByteLiteral_139 : decode cX5_readByteLiteral 139 = .ok (.iconst 2, 1) := by decide +kernel
theorem dX5_readByteLiteral_140 : decode cX5_readByteLiteral 140 = .ok (.idiv, 1) := by decide +kernel
theorem dX5_readByteLiteral_141 : decode cX5_readByteLiteral 141 = .ok (.ineg, 1) := by decide +kernel
theorem dX5_readByteLiteral_142 : decode cX5_readByteLiteral 142 = .ok (.iload_n 1, 1) := by decide +kernel
theorem dX5_readByteLiteral_143 : decode cX5_readByteLiteral 143 = .ok (.invokevirtual 128, 3) := by decide +kernel
theorem dX5_readByteLiteral_146 : decode cX5_readByteLiteral 146 = .ok (.return_, 1) := by decide +kernel
theorem dX6_init_0 : decode cX6_init 0 = .ok (.aload_n 0, 1) := by decide +kernel
theorem dX6_init_1 : decode cX6_init 1 = .ok (.invokespecial 1, 3) := by decide +kernel
theorem dX6_init_4 : decode cX6_init 4 = .ok (.aload_n 0, 1) := by decide +kernel
theorem dX6_init_5 : decode cX6_init 5 = .ok (.iload_n 1, 1) := by decide +kernel
theorem dX6_init_6 : decode cX6_init 6 = .ok (.iconst 0, 1) := by decide +kernel
theorem dX6_init_7 : decode cX6_init 7 = .ok (.invokestatic 7, 3) := by decide +kernel
theorem dX6_init_10 : decode cX6_init 10 = .ok (.newarray .int, 2) := by decide +kernel
theorem dX6_init_12 : decode cX6_init 12 = .ok (.putfield 13, 3) := by decide +kernel
theorem dX6_init_15 : decode cX6_init 15 = .ok (.return_, 1) := by decide +kernel
theorem dX6_at_0 : decode cX6_at 0 = .ok (.iload_n 1, 1) := by decide +kernel
theorem dX6_at_1 : decode cX6_at 1 = .ok (.ifCond .lt 21, 3) := by decide +kernel
theorem dX6_at_4 : decode cX6_at 4 = .ok (.iload_n 1, 1) := by decide +kernel
theorem dX6_at_5 : decode cX6_at 5 = .ok (.aload_n 0, 1) := by decide +kernel
theorem dX6_at_6 : decode cX6_at 6 = .ok (.getfield 13, 3) := by decide +kernel
theorem dX6_at_9 : decode cX6_at 9 = .ok (.arraylength, 1) := by decide +kernel
theorem dX6_at_10 : decode cX6_at 10 = .ok (.if_icmp .ge 12, 3) := by decide +kernel
theorem dX6_at_13 : decode cX6_at 13 = .ok (.aload_n 0, 1) := by decide +kernel
theorem dX6_at_14 : decode cX6_at 14 = .ok (.getfield 13, 3) := by decide +kernel
theorem dX6_at_17 : decode cX6_at 17 = .ok (.iload_n 1, 1) := by decide +kernel
theorem dX6_at_18 : decode cX6_at 18 = .ok (.iaload, 1) := by decide +kernel
theorem dX6_at_19 : decode cX6_at 19 = .ok (.goto 4, 3) := by decide +kernel
theorem dX6_at_22 : decode cX6_at 22 = .ok (.iconst 0, 1) := by decide +kernel
theorem dX6_at_23 : decode cX6_at 23 = .ok (.ireturn, 1) := by decide +kernel
theorem dX6_put_0 : decode cX6_put 0 = .ok (.iload_n 1, 1) := by decide +kernel
theorem dX6_put_1 : decode cX6_put 1 = .ok (.ifCond .lt 19, 3) := by decide +kernel
theorem dX6_put_4 : decode cX6_put 4 = .ok (.iload_n 1, 1) := by decide +kernel
theorem dX6_put_5 : decode cX6_put 5 = .ok (.aload_n 0, 1) := by decide +kernel
theorem dX6_put_6 : decode cX6_put 6 = .ok (.getfield 13, 3) := by decide +kernel
theorem dX6_put_9 : decode cX6_put 9 = .ok (.arraylength, 1) := by decide +kernel
theorem dX6_put_10 : decode cX6_put 10 = .ok (.if_icmp .ge 10, 3) := by decide +kernel
theorem dX6_put_13 : decode cX6_put 13 = .ok (.aload_n 0, 1) := by decide +kernel
theorem dX6_put_14 : decode cX6_put 14 = .ok (.getfield 13, 3) := by decide +kernel
theorem dX6_put_17 : decode cX6_put 17 = .ok (.iload_n 1, 1) := by decide +kernel
theorem dX6_put_18 : decode cX6_put 18 = .ok (.iload_n 2, 1) := by decide +kernel
theorem dX6_put_19 : decode cX6_put 19 = .ok (.iastore, 1) := by decide +kernel
theorem dX6_put_20 : decode cX6_put 20 = .ok (.return_, 1) := by decide +kernel
theorem dX6_fill_0 : decode cX6_fill 0 = .ok (.aload_n 0, 1) := by decide +kernel
theorem dX6_fill_1 : decode cX6_fill 1 = .ok (.getfield 13, 3) := by decide +kernel
theorem dX6_fill_4 : decode cX6_fill 4 = .ok (.iload_n 1, 1) := by decide +kernel
theorem dX6_fill_5 : decode cX6_fill 5 = .ok (.invokestatic 19, 3) := by decide +kernel
theorem dX6_fill_8 : decode cX6_fill 8 = .ok (.return_, 1) := by decide +kernel
theorem dX7_init_0 : decode cX7_init 0 = .ok (.aload_n 0, 1) := by decide +kernel
theorem dX7_init_1 : decode cX7_init 1 = .ok (.invokespecial 3, 3) := by decide +kernel
theorem dX7_init_4 : decode cX7_init 4 = .ok (.aload_n 0, 1) := by decide +kernel
theorem dX7_init_5 : decode cX7_init 5 = .ok (.new 9, 3) := by decide +kernel
theorem dX7_init_8 : decode cX7_init 8 = .ok (.dup, 1) := by decide +kernel
theorem dX7_init_9 : decode cX7_init 9 = .ok (.sipush 2000, 3) := by decide +kernel
theorem dX7_init_12 : decode cX7_init 12 = .ok (.invokespecial 11, 3) := by decide +kernel
theorem dX7_init_15 : decode cX7_init 15 = .ok (.putfield 14, 3) := by decide +kernel
theorem dX7_init_18 : decode cX7_init 18 = .ok (.aload_n 0, 1) := by decide +kernel
theorem dX7_init_19 : decode cX7_init 19 = .ok (.new 9, 3) := by decide +kernel
theorem dX7_init_22 : decode cX7_init 22 = .ok (.dup, 1) := by decide +kernel
theorem dX7_init_23 : decode cX7_init 23 = .ok (.sipush 301, 3) := by decide +kernel
theorem dX7_init_26 : decode cX7_init 26 = .ok (.invokespecial 11, 3) := by decide +kernel
theorem dX7_init_29 : decode cX7_init 29 = .ok (.putfield 20, 3) := by decide +kernel
theorem dX7_init_32 : decode cX7_init 32 = .ok (.aload_n 0, 1) := by decide +kernel
theorem dX7_init_33 : decode cX7_init 33 = .ok (.new 9, 3) := by decide +kernel
theorem dX7_init_36 : decode cX7_init 36 = .ok (.dup, 1) := by decide +kernel
theorem dX7_init_37 : decode cX7_init 37 = .ok (.sipush 301, 3) := by decide +kernel
theorem dX7_init_40 : decode cX7_init 40 = .ok (.invokespecial 11, 3) := by decide +kernel
theorem dX7_init_43 : decode cX7_init 43 = .ok (.putfield 23, 3) := by decide +kernel
theorem dX7_init_46 : decode cX7_init 46 = .ok (.aload_n 0, 1) := by decide +kernel
theorem dX7_init_47 : decode cX7_init 47 = .ok (.iconst 0, 1) := by decide +kernel
theorem dX7_init_48 : decode cX7_init 48 = .ok (.putfield 26, 3) := by decide +kernel
theorem dX7_init_51 : decode cX7_init 51 = .ok (.aload_n 0, 1) := by decide +kernel
theorem dX7_init_52 : decode cX7_init 52 = .ok (.iconst 0, 1) := by decide +kernel
theorem dX7_init_53 : decode cX7_init 53 = .ok (.putfield 30, 3) := by decide +kernel
theorem dX7_init_56 : decode cX7_init 56 = .ok (.aload_n 0, 1) := by decide +kernel
theorem dX7_init_57 : decode cX7_init 57 = .ok (.iconst 0, 1) := by decide +kernel
theorem dX7_init_58 : decode cX7_init 58 = .ok (.putfield 33, 3) := by decide +kernel
theorem dX7_init_61 : decode cX7_init 61 = .ok (.return_, 1) := by decide +kernel
theorem dX7_clear_0 : decode cX7_clear 0 = .ok (.aload_n 0, 1) := by decide +kernel
theorem dX7_clear_1 : decode cX7_clear 1 = .ok (.iconst 0, 1) := by decide +kernel
theorem dX7_clear_2 : decode cX7_clear 2 = .ok (.putfield 26, 3) := by decide +kernel
theorem dX7_clear_5 : decode cX7_clear 5 = .ok (.aload_n 0, 1) := by decide +kernel
theorem dX7_clear_6 : decode cX7_clear 6 = .ok (.iconst 0, 1) := by decide +kernel
theorem dX7_clear_7 : decode cX7_clear 7 = .ok (.putfield 30, 3) := by decide +kernel
theorem dX7_clear_10 : decode cX7_clear 10 = .ok (.aload_n 0, 1) := by decide +kernel
theorem dX7_clear_11 : decode cX7_clear 11 = .ok (.iconst 0, 1) := by decide +kernel
theorem dX7_clear_12 : decode cX7_clear 12 = .ok (.putfield 33, 3) := by decide +kernel
theorem dX7_clear_15 : decode cX7_clear 15 = .ok (.return_, 1) := by decide +kernel
theorem dX7_rows_0 : decode cX7_rows 0 = .ok (.aload_n 0, 1) := by decide +kernel
theorem dX7_rows_1 : decode cX7_rows 1 = .ok (.getfield 26, 3) := by decide +kernel
theorem dX7_rows_4 : decode cX7_rows 4 = .ok (.ireturn, 1) := by decide +kernel
theorem dX7_variables_0 : decode cX7_variables 0 = .ok (.aload_n 0, 1) := by decide +kernel
theorem dX7_variables_1 : decode cX7_variables 1 = .ok (.getfield 33, 3) := by decide +kernel
theorem dX7_variables_4 : decode cX7_variables 4 = .ok (.ireturn, 1) := by decide +kernel
theorem dX7_setVariables_0 : decode cX7_setVariables 0 = .ok (.aload_n 0, 1) := by decide +kernel
theorem dX7_setVariables_1 : decode cX7_setVariables 1 = .ok (.iload_n 1, 1) := by decide +kernel
theorem dX7_setVariables_2 : decode cX7_setVariables 2 = .ok (.putfield 33, 3) := by decide +kernel
theorem dX7_setVariables_5 : decode cX7_setVariables 5 = .ok (.return_, 1) := by decide +kernel
theorem dX7_add_0 : decode cX7_add 0 = .ok (.aload_n 0, 1) := by decide +kernel
theorem dX7_add_1 : decode cX7_add 1 = .ok (.getfield 20, 3) := by decide +kernel
theorem dX7_add_4 : decode cX7_add 4 = .ok (.aload_n 0, 1) := by decide +kernel
theorem dX7_add_5 : decode cX7_add 5 = .ok (.getfield 26, 3) := by decide +kernel
theorem dX7_add_8 : decode cX7_add 8 = .ok (.invokevirtual 36, 3) := by decide +kernel
theorem dX7_add_11 : decode cX7_add 11 = .ok (.istore_n 2, 1) := by decide +kernel
theorem dX7_add_12 : decode cX7_add 12 = .ok (.iload_n 2, 1) := by decide +kernel
theorem dX7_add_13 : decode cX7_add 13 = .ok (.aload_n 0, 1) := by decide +kernel
theorem dX7_add_14 : decode cX7_add 14 = .ok (.getfield 30, 3) := by decide +kernel
theorem dX7_add_17 : decode cX7_add 17 = .ok (.if_icmp .ge 22, 3) := by decide +kernel
theorem dX7_add_20 : decode cX7_add 20 = .ok (.aload_n 0, 1) := by decide +kernel
theorem dX7_add_21 : decode cX7_add 21 = .ok (.getfield 14, 3) := by decide +kernel
theorem dX7_add_24 : decode cX7_add 24 = .ok (.iload_n 2, 1) := by decide +kernel
theorem dX7_add_25 : decode cX7_add 25 = .ok (.invokevirtual 36, 3) := by decide +kernel
theorem dX7_add_28 : decode cX7_add 28 = .ok (.iload_n 1, 1) := by decide +kernel
theorem dX7_add_29 : decode cX7_add 29 = .ok (.if_icmp .ne 4, 3) := by decide +kernel
theorem dX7_add_32 : decode cX7_add 32 = .ok (.return_, 1) := by decide +kernel
theorem dX7_add_33 : decode cX7_add 33 = .ok (.iinc 2 1, 3) := by decide +kernel
theorem dX7_add_36 : decode cX7_add 36 = .ok (.goto (-24), 3) := by decide +kernel
theorem dX7_add_39 : decode cX7_add 39 = .ok (.aload_n 0, 1) := by decide +kernel
theorem dX7_add_40 : decode cX7_add 40 = .ok (.getfield 14, 3) := by decide +kernel
theorem dX7_add_43 : decode cX7_add 43 = .ok (.aload_n 0, 1) := by decide +kernel
theorem dX7_add_44 : decode cX7_add 44 = .ok (.getfield 30, 3) := by decide +kernel
theorem dX7_add_47 : decode cX7_add 47 = .ok (.iload_n 1, 1) := by decide +kernel
theorem dX7_add_48 : decode cX7_add 48 = .ok (.invokevirtual 40, 3) := by decide +kernel
theorem dX7_add_51 : decode cX7_add 51 = .ok (.aload_n 0, 1) := by decide +kernel
theorem dX7_add_52 : decode cX7_add 52 = .ok (.dup, 1) := by decide +kernel
theorem dX7_add_53 : decode cX7_add 53 = .ok (.getfield 30, 3) := by decide +kernel
theorem dX7_add_56 : decode cX7_add 56 = .ok (.iconst 1, 1) := by decide +kernel
theorem dX7_add_57 : decode cX7_add 57 = .ok (.iadd, 1) := by decide +kernel
theorem dX7_add_58 : decode cX7_add 58 = .ok (.putfield 30, 3) := by decide +kernel
theorem dX7_add_61 : decode cX7_add 61 = .ok (.return_, 1) := by decide +kernel
theorem dX7_closeRow_0 : decode cX7_closeRow 0 = .ok (.aload_n 0, 1) := by decide +kernel
theorem dX7_closeRow_1 : decode cX7_closeRow 1 = .ok (.dup, 1) := by decide +kernel
theorem dX7_closeRow_2 : decode cX7_closeRow 2 = .ok (.getfield 26, 3) := by decide +kernel
theorem dX7_closeRow_5 : decode cX7_closeRow 5 = .ok (.iconst 1, 1) := by decide +kernel
theorem dX7_closeRow_6 : decode cX7_closeRow 6 = .ok (.iadd, 1) := by decide +kernel
theorem dX7_closeRow_7 : decode cX7_closeRow 7 = .ok (.putfield 26, 3) := by decide +kernel
theorem dX7_closeRow_10 : decode cX7_closeRow 10 = .ok (.aload_n 0, 1) := by decide +kernel
theorem dX7_closeRow_11 : decode cX7_closeRow 11 = .ok (.getfield 20, 3) := by decide +kernel
theorem dX7_closeRow_14 : decode cX7_closeRow 14 = .ok (.aload_n 0, 1) := by decide +kernel
theorem dX7_closeRow_15 : decode cX7_closeRow 15 = .ok (.getfield 26, 3) := by decide +kernel
theorem dX7_closeRow_18 : decode cX7_closeRow 18 = .ok (.aload_n 0, 1) := by decide +kernel
theorem dX7_closeRow_19 : decode cX7_closeRow 19 = .ok (.getfield 30, 3) := by decide +kernel
theorem dX7_closeRow_22 : decode cX7_closeRow 22 = .ok (.invokevirtual 40, 3) := by decide +kernel
theorem dX7_closeRow_25 : decode cX7_closeRow 25 = .ok (.aload_n 0, 1) := by decide +kernel
theorem dX7_closeRow_26 : decode cX7_closeRow 26 = .ok (.getfield 23, 3) := by decide +kernel
theorem dX7_closeRow_29 : decode cX7_closeRow 29 = .ok (.aload_n 0, 1) := by decide +kernel
theorem dX7_closeRow_30 : decode cX7_closeRow 30 = .ok (.getfield 26, 3) := by decide +kernel
theorem dX7_closeRow_33 : decode cX7_closeRow 33 = .ok (.iload_n 1, 1) := by decide +kernel
theorem dX7_closeRow_34 : decode cX7_closeRow 34 = .ok (.ifCond .eq 7, 3) := by decide +kernel
theorem dX7_closeRow_37 : decode cX7_closeRow 37 = .ok (.iconst 1, 1) := by decide +kernel
theorem dX7_closeRow_38 : decode cX7_closeRow 38 = .ok (.goto 4, 3) := by decide +kernel
theorem dX7_closeRow_41 : decode cX7_closeRow 41 = .ok (.iconst 0, 1) := by decide +kernel
theorem dX7_closeRow_42 : decode cX7_closeRow 42 = .ok (.invokevirtual 40, 3) := by decide +kernel
theorem dX7_closeRow_45 : decode cX7_closeRow 45 = .ok (.return_, 1) := by decide +kernel
theorem dX7_isDeletion_0 : decode cX7_isDeletion 0 = .ok (.aload_n 0, 1) := by decide +kernel
theorem dX7_isDeletion_1 : decode cX7_isDeletion 1 = .ok (.getfield 23, 3) := by decide +kernel
theorem dX7_isDeletion_4 : decode cX7_isDeletion 4 = .ok (.iload_n 1, 1) := by decide +kernel
theorem dX7_isDeletion_5 : decode cX7_isDeletion 5 = .ok (.invokevirtual 36, 3) := by decide +kernel
theorem dX7_isDeletion_8 : decode cX7_isDeletion 8 = .ok (.ifCond .eq 7, 3) := by decide +kernel
theorem dX7_isDeletion_11 : decode cX7_isDeletion 11 = .ok (.iconst 1, 1) := by decide +kernel
theorem dX7_isDeletion_12 : decode cX7_isDeletion 12 = .ok (.goto 4, 3) := by decide +kernel
theorem dX7_isDeletion_15 : decode cX7_isDeletion 15 = .ok (.iconst 0, 1) := by decide +kernel
theorem dX7_isDeletion_16 : decode cX7_isDeletion 16 = .ok (.ireturn, 1) := by decide +kernel
theorem dX7_size_0 : decode cX7_size 0 = .ok (.aload_n 0, 1) := by decide +kernel
theorem dX7_size_1 : decode cX7_size 1 = .ok (.getfield 20, 3) := by decide +kernel
theorem dX7_size_4 : decode cX7_size 4 = .ok (.iload_n 1, 1) := by decide +kernel
theorem dX7_size_5 : decode cX7_size 5 = .ok (.invokevirtual 36, 3) := by decide +kernel
theorem dX7_size_8 : decode cX7_size 8 = .ok (.aload_n 0, 1) := by decide +kernel
theorem dX7_size_9 : decode cX7_size 9 = .ok (.getfield 20, 3) := by decide +kernel
theorem dX7_size_12 : decode cX7_size 12 = .ok (.iload_n 1, 1) := by decide +kernel
theorem dX7_size_13 : decode cX7_size 13 = .ok (.iconst 1, 1) := by decide +kernel
theorem dX7_size_14 : decode cX7_size 14 = .ok (.isub, 1) := by decide +kernel
theorem dX7_size_15 : decode cX7_size 15 = .ok (.invokevirtual 36, 3) := by decide +kernel
theorem dX7_size_18 : decode cX7_size 18 = .ok (.isub, 1) := by decide +kernel
theorem dX7_size_19 : decode cX7_size 19 = .ok (.ireturn, 1) := by decide +kernel
theorem dX7_literal_0 : decode cX7_literal 0 = .ok (.iload_n 2, 1) := by decide +kernel
theorem dX7_literal_1 : decode cX7_literal 1 = .ok (.ifCond .lt 34, 3) := by decide +kernel
theorem dX7_literal_4 : decode cX7_literal 4 = .ok (.iload_n 2, 1) := by decide +kernel
theorem dX7_literal_5 : decode cX7_literal 5 = .ok (.aload_n 0, 1) := by decide +kernel
theorem dX7_literal_6 : decode cX7_literal 6 = .ok (.iload_n 1, 1) := by decide +kernel
theorem dX7_literal_7 : decode cX7_literal 7 = .ok (.invokevirtual 44, 3) := by decide +kernel
theorem dX7_literal_10 : decode cX7_literal 10 = .ok (.if_icmp .ge 25, 3) := by decide +kernel
theorem dX7_literal_13 : decode cX7_literal 13 = .ok (.aload_n 0, 1) := by decide +kernel
theorem dX7_literal_14 : decode cX7_literal 14 = .ok (.getfield 14, 3) := by decide +kernel
theorem dX7_literal_17 : decode cX7_literal 17 = .ok (.aload_n 0, 1) := by decide +kernel
theorem dX7_literal_18 : decode cX7_literal 18 = .ok (.getfield 20, 3) := by decide +kernel
theorem dX7_literal_21 : decode cX7_literal 21 = .ok (.iload_n 1, 1) := by decide +kernel
theorem dX7_literal_22 : decode cX7_literal 22 = .ok (.iconst 1, 1) := by decide +kernel
theorem dX7_literal_23 : decode cX7_literal 23 = .ok (.isub, 1) := by decide +kernel
theorem dX7_literal_24 : decode cX7_literal 24 = .ok (.invokevirtual 36, 3) := by decide +kernel
theorem dX7_literal_27 : decode cX7_literal 27 = .ok (.iload_n 2, 1) := by decide +kernel
theorem dX7_literal_28 : decode cX7_literal 28 = .ok (.iadd, 1) := by decide +kernel
theorem dX7_literal_29 : decode cX7_literal 29 = .ok (.invokevirtual 36, 3) := by decide +kernel
theorem dX7_literal_32 : decode cX7_literal 32 = .ok (.goto 4, 3) := by decide +kernel
theorem dX7_literal_35 : decode cX7_literal 35 = .ok (.iconst 0, 1) := by decide +kernel
theorem dX7_literal_36 : decode cX7_literal 36 = .ok (.ireturn, 1) := by decide +kernel
theorem dX8_init_0 : decode cX8_init 0 = .ok (.aload_n 0, 1) := by decide +kernel
theorem dX8_init_1 : decode cX8_init 1 = .ok (.invokespecial 1, 3) := by decide +kernel
theorem dX8_init_4 : decode cX8_init 4 = .ok (.aload_n 0, 1) := by decide +kernel
theorem dX8_init_5 : decode cX8_init 5 = .ok (.iconst 0, 1) := by decide +kernel
theorem dX8_init_6 : decode cX8_init 6 = .ok (.putfield 7, 3) := by decide +kernel
theorem dX8_init_9 : decode cX8_init 9 = .ok (.aload_n 0, 1) := by decide +kernel
theorem dX8_init_10 : decode cX8_init 10 = .ok (.iconst 0, 1) := by decide +kernel
theorem dX8_init_11 : decode cX8_init 11 = .ok (.putfield 13, 3) := by decide +kernel
theorem dX8_init_14 : decode cX8_init 14 = .ok (.aload_n 0, 1) := by decide +kernel
theorem dX8_init_15 : decode cX8_init 15 = .ok (.iconst 0, 1) := by decide +kernel
theorem dX8_init_16 : decode cX8_init 16 = .ok (.putfield 16, 3) := by decide +kernel
theorem dX8_init_19 : decode cX8_init 19 = .ok (.aload_n 0, 1) := by decide +kernel
theorem dX8_init_20 : decode cX8_init 20 = .ok (.aload_n 1, 1) := by decide +kernel
theorem dX8_init_21 : decode cX8_init 21 = .ok (.putfield 19, 3) := by decide +kernel
theorem dX8_init_24 : decode cX8_init 24 = .ok (.return_, 1) := by decide +kernel
theorem dX8_begin_0 : decode cX8_begin 0 = .ok (.aload_n 0, 1) := by decide +kernel
theorem dX8_begin_1 : decode cX8_begin 1 = .ok (.aload_n 1, 1) := by decide +kernel
theorem dX8_begin_2 : decode cX8_begin 2 = .ok (.putfield 19, 3) := by decide +kernel
theorem dX8_begin_5 : decode cX8_begin 5 = .ok (.aload_n 0, 1) := by decide +kernel
theorem dX8_begin_6 : decode cX8_begin 6 = .ok (.iload_n 2, 1) := by decide +kernel
theorem dX8_begin_7 : decode cX8_begin 7 = .ok (.putfield 7, 3) := by decide +kernel
theorem dX8_begin_10 : decode cX8_begin 10 = .ok (.aload_n 0, 1) := by decide +kernel
theorem dX8_begin_11 : decode cX8_begin 11 = .ok (.iconst 0, 1) := by decide +kernel
theorem dX8_begin_12 : decode cX8_begin 12 = .ok (.putfield 13, 3) := by decide +kernel
theorem dX8_begin_15 : decode cX8_begin 15 = .ok (.aload_n 0, 1) := by decide +kernel
theorem dX8_begin_16 : decode cX8_begin 16 = .ok (.iconst 0, 1) := by decide +kernel
theorem dX8_begin_17 : decode cX8_begin 17 = .ok (.putfield 16, 3) := by decide +kernel
theorem dX8_begin_20 : decode cX8_begin 20 = .ok (.return_, 1) := by decide +kernel
theorem dX8_start_0 : decode cX8_start 0 = .ok (.aload_n 0, 1) := by decide +kernel
theorem dX8_start_1 : decode cX8_start 1 = .ok (.getfield 13, 3) := by decide +kernel
theorem dX8_start_4 : decode cX8_start 4 = .ok (.ireturn, 1) := by decide +kernel
theorem dX8_next_0 : decode cX8_next 0 = .ok (.iconst 0, 1) := by decide +kernel
theorem dX8_next_1 : decode cX8_next 1 = .ok (.istore_n 1, 1) := by decide +kernel
theorem dX8_next_2 : decode cX8_next 2 = .ok (.aload_n 0, 1) := by decide +kernel
theorem dX8_next_3 : decode cX8_next 3 = .ok (.getfield 16, 3) := by decide +kernel
theorem dX8_next_6 : decode cX8_next 6 = .ok (.istore_n 2, 1) := by decide +kernel
theorem dX8_next_7 : decode cX8_next 7 = .ok (.iload_n 2, 1) := by decide +kernel
theorem dX8_next_8 : decode cX8_next 8 = .ok (.aload_n 0, 1) := by decide +kernel
theorem dX8_next_9 : decode cX8_next 9 = .ok (.getfield 7, 3) := by decide +kernel
theorem dX8_next_12 : decode cX8_next 12 = .ok (.if_icmp .ge 76, 3) := by decide +kernel
theorem dX8_next_15 : decode cX8_next 15 = .ok (.aload_n 0, 1) := by decide +kernel
theorem dX8_next_16 : decode cX8_next 16 = .ok (.getfield 19, 3) := by decide +kernel
theorem dX8_next_19 : decode cX8_next 19 = .ok (.iload_n 2, 1) := by decide +kernel
theorem dX8_next_20 : decode cX8_next 20 = .ok (.invokevirtual 23, 3) := by decide +kernel
theorem dX8_next_23 : decode cX8_next 23 = .ok (.istore_n 3, 1) := by decide +kernel
theorem dX8_next_24 : decode cX8_next 24 = .ok (.iload_n 2, 1) := by decide +kernel
theorem dX8_next_25 : decode cX8_next 25 = .ok (.ifCond .eq 18, 3) := by decide +kernel
theorem dX8_next_28 : decode cX8_next 28 = .ok (.aload_n 0, 1) := by decide +kernel
theorem dX8_next_29 : decode cX8_next 29 = .ok (.getfield 19, 3) := by decide +kernel
theorem dX8_next_32 : decode cX8_next 32 = .ok (.iload_n 2, 1) := by decide +kernel
theorem dX8_next_33 : decode cX8_next 33 = .ok (.iconst 1, 1) := by decide +kernel
theorem dX8_next_34 : decode cX8_next 34 = .ok (.isub, 1) := by decide +kernel
theorem dX8_next_35 : decode cX8_next 35 = .ok (.invokevirtual 23, 3) := by decide +kernel
theorem dX8_next_38 : decode cX8_next 38 = .ok (.bipush 10, 2) := by decide +kernel
theorem dX8_next_40 : decode cX8_next 40 = .ok (.if_icmp .ne 15, 3) := by decide +kernel
theorem dX8_next_43 : decode cX8_next 43 = .ok (.iload_n 3, 1) := by decide +kernel
theorem dX8_next_44 : decode cX8_next 44 = .ok (.bipush 99, 2) := by decide +kernel
theorem dX8_next_46 : decode cX8_next 46 = .ok (.if_icmp .ne 7, 3) := by decide +kernel
theorem dX8_next_49 : decode cX8_next 49 = .ok (.iconst 1, 1) := by decide +kernel
theorem dX8_next_50 : decode cX8_next 50 = .ok (.goto 4, 3) := by decide +kernel
theorem dX8_next_53 : decode cX8_next 53 = .ok (.iconst 0, 1) := by decide +kernel
theorem dX8_next_54 : decode cX8_next 54 = .ok (.istore_n 1, 1) := by decide +kernel
theorem dX8_next_55 : decode cX8_next 55 = .ok (.iload_n 1, 1) := by decide +kernel
theorem dX8_next_56 : decode cX8_next 56 = .ok (.ifCond .ne 26, 3) := by decide +kernel
theorem dX8_next_59 : decode cX8_next 59 = .ok (.iload_n 3, 1) := by decide +kernel
theorem dX8_next_60 : decode cX8_next 60 = .ok (.invokestatic 29, 3) := by decide +kernel
theorem dX8_next_63 : decode cX8_next 63 = .ok (.ifCond .ne 19, 3) := by decide +kernel
theorem dX8_next_66 : decode cX8_next 66 = .ok (.aload_n 0, 1) := by decide +kernel
theorem dX8_next_67 : decode cX8_next 67 = .ok (.iload_n 2, 1) := by decide +kernel
theorem dX8_next_68 : decode cX8_next 68 = .ok (.putfield 13, 3) := by decide +kernel
theorem dX8_next_71 : decode cX8_next 71 = .ok (.aload_n 0, 1) := by decide +kernel
theorem dX8_next_72 : decode cX8_next 72 = .ok (.aload_n 0, 1) := by decide +kernel
theorem dX8_next_73 : decode cX8_next 73 = .ok (.iload_n 2, 1) := by decide +kernel
theorem dX8_next_74 : decode cX8_next 74 = .ok (.invokevirtual 33, 3) := by decide +kernel
theorem dX8_next_77 : decode cX8_next 77 = .ok (.putfield 16, 3) := by decide +kernel
theorem dX8_next_80 : decode cX8_next 80 = .ok (.iconst 1, 1) := by decide +kernel
theorem dX8_next_81 : decode cX8_next 81 = .ok (.ireturn, 1) := by decide +kernel
theorem dX8_next_82 : decode cX8_next 82 = .ok (.iinc 2 1, 3) := by decide +kernel
theorem dX8_next_85 : decode cX8_next 85 = .ok (.goto (-78), 3) := by decide +kernel
theorem dX8_next_88 : decode cX8_next 88 = .ok (.aload_n 0, 1) := by decide +kernel
theorem dX8_next_89 : decode cX8_next 89 = .ok (.aload_n 0, 1) := by decide +kernel
theorem dX8_next_90 : decode cX8_next 90 = .ok (.getfield 7, 3) := by decide +kernel
theorem dX8_next_93 : decode cX8_next 93 = .ok (.putfield 13, 3) := by decide +kernel
theorem dX8_next_96 : decode cX8_next 96 = .ok (.aload_n 0, 1) := by decide +kernel
theorem dX8_next_97 : decode cX8_next 97 = .ok (.aload_n 0, 1) := by decide +kernel
theorem dX8_next_98 : decode cX8_next 98 = .ok (.getfield 7, 3) := by decide +kernel
theorem dX8_next_101 : decode cX8_next 101 = .ok (.putfield 16, 3) := by decide +kernel
theorem dX8_next_104 : decode cX8_next 104 = .ok (.iconst 0, 1) := by decide +kernel
theorem dX8_next_105 : decode cX8_next 105 = .ok (.ireturn, 1) := by decide +kernel
theorem dX8_putBack_0 : decode cX8_putBack 0 = .ok (.aload_n 0, 1) := by decide +kernel
theorem dX8_putBack_1 : decode cX8_putBack 1 = .ok (.aload_n 0, 1) := by decide +kernel
theorem dX8_putBack_2 : decode cX8_putBack 2 = .ok (.getfield 13, 3) := by decide +kernel
theorem dX8_putBack_5 : decode cX8_putBack 5 = .ok (.putfield 16, 3) := by decide +kernel
theorem dX8_putBack_8 : decode cX8_putBack 8 = .ok (.return_, 1) := by decide +kernel
theorem dX8_spells_0 : decode cX8_spells 0 = .ok (.aload_n 1, 1) := by decide +kernel
theorem dX8_spells_1 : decode cX8_spells 1 = .ok (.invokevirtual 36, 3) := by decide +kernel
theorem dX8_spells_4 : decode cX8_spells 4 = .ok (.istore_n 2, 1) := by decide +kernel
theorem dX8_spells_5 : decode cX8_spells 5 = .ok (.aload_n 0, 1) := by decide +kernel
theorem dX8_spells_6 : decode cX8_spells 6 = .ok (.getfield 16, 3) := by decide +kernel
theorem dX8_spells_9 : decode cX8_spells 9 = .ok (.aload_n 0, 1) := by decide +kernel
theorem dX8_spells_10 : decode cX8_spells 10 = .ok (.getfield 13, 3) := by decide +kernel
theorem dX8_spells_13 : decode cX8_spells 13 = .ok (.isub, 1) := by decide +kernel
theorem dX8_spells_14 : decode cX8_spells 14 = .ok (.iload_n 2, 1) := by decide +kernel
theorem dX8_spells_15 : decode cX8_spells 15 = .ok (.if_icmp .eq 5, 3) := by decide +kernel
theorem dX8_spells_18 : decode cX8_spells 18 = .ok (.iconst 0, 1) := by decide +kernel
theorem dX8_spells_19 : decode cX8_spells 19 = .ok (.ireturn, 1) := by decide +kernel
theorem dX8_spells_20 : decode cX8_spells 20 = .ok (.iconst 0, 1) := by decide +kernel
theorem dX8_spells_21 : decode cX8_spells 21 = .ok (.istore_n 3, 1) := by decide +kernel
theorem dX8_spells_22 : decode cX8_spells 22 = .ok (.iload_n 3, 1) := by decide +kernel
theorem dX8_spells_23 : decode cX8_spells 23 = .ok (.iload_n 2, 1) := by decide +kernel
theorem dX8_spells_24 : decode cX8_spells 24 = .ok (.if_icmp .ge 32, 3) := by decide +kernel
theorem dX8_spells_27 : decode cX8_spells 27 = .ok (.aload_n 0, 1) := by decide +kernel
theorem dX8_spells_28 : decode cX8_spells 28 = .ok (.getfield 19, 3) := by decide +kernel
theorem dX8_spells_31 : decode cX8_spells 31 = .ok (.aload_n 0, 1) := by decide +kernel
theorem dX8_spells_32 : decode cX8_spells 32 = .ok (.getfield 13, 3) := by decide +kernel
theorem dX8_spells_35 : decode cX8_spells 35 = .ok (.iload_n 3, 1) := by decide +kernel
theorem dX8_spells_36 : decode cX8_spells 36 = .ok (.iadd, 1) := by decide +kernel
theorem dX8_spells_37 : decode cX8_spells 37 = .ok (.invokevirtual 23, 3) := by decide +kernel
theorem dX8_spells_40 : decode cX8_spells 40 = .ok (.aload_n 1, 1) := by decide +kernel
theorem dX8_spells_41 : decode cX8_spells 41 = .ok (.iload_n 3, 1) := by decide +kernel
theorem dX8_spells_42 : decode cX8_spells 42 = .ok (.invokevirtual 42, 3) := by decide +kernel
theorem dX8_spells_45 : decode cX8_spells 45 = .ok (.if_icmp .eq 5, 3) := by decide +kernel
theorem dX8_spells_48 : decode cX8_spells 48 = .ok (.iconst 0, 1) := by decide +kernel
theorem dX8_spells_49 : decode cX8_spells 49 = .ok (.ireturn, 1) := by decide +kernel
theorem dX8_spells_50 : decode cX8_spells 50 = .ok (.iinc 3 1, 3) := by decide +kernel
theorem dX8_spells_53 : decode cX8_spells 53 = .ok (.goto (-31), 3) := by decide +kernel
theorem dX8_spells_56 : decode cX8_spells 56 = .ok (.iconst 1, 1) := by decide +kernel
theorem dX8_spells_57 : decode cX8_spells 57 = .ok (.ireturn, 1) := by decide +kernel
theorem dX8_isNumber_0 : decode cX8_isNumber 0 = .ok (.aload_n 0, 1) := by decide +kernel
theorem dX8_isNumber_1 : decode cX8_isNumber 1 = .ok (.invokevirtual 46, 3) := by decide +kernel
theorem dX8_isNumber_4 : decode cX8_isNumber 4 = .ok (.istore_n 1, 1) := by decide +kernel
theorem dX8_isNumber_5 : decode cX8_isNumber 5 = .ok (.aload_n 0, 1) := by decide +kernel
theorem dX8_isNumber_6 : decode cX8_isNumber 6 = .ok (.getfield 16, 3) := by decide +kernel
theorem dX8_isNumber_9 : decode cX8_isNumber 9 = .ok (.iload_n 1, 1) := by decide +kernel
theorem dX8_isNumber_10 : decode cX8_isNumber 10 = .ok (.isub, 1) := by decide +kernel
theorem dX8_isNumber_11 : decode cX8_isNumber 11 = .ok (.istore_n 2, 1) := by decide +kernel
theorem dX8_isNumber_12 : decode cX8_isNumber 12 = .ok (.iload_n 2, 1) := by decide +kernel
theorem dX8_isNumber_13 : decode cX8_isNumber 13 = .ok (.iconst 1, 1) := by decide +kernel
theorem dX8_isNumber_14 : decode cX8_isNumber 14 = .ok (.if_icmp .lt 9, 3) := by decide +kernel
theorem dX8_isNumber_17 : decode cX8_isNumber 17 = .ok (.iload_n 2, 1) := by decide +kernel
theorem dX8_isNumber_18 : decode cX8_isNumber 18 = .ok (.bipush 6, 2) := by decide +kernel
theorem dX8_isNumber_20 : decode cX8_isNumber 20 = .ok (.if_icmp .le 5, 3) := by decide +kernel
theorem dX8_isNumber_23 : decode cX8_isNumber 23 = .ok (.iconst 0, 1) := by decide +kernel
theorem dX8_isNumber_24 : decode cX8_isNumber 24 = .ok (.ireturn, 1) := by decide +kernel
theorem dX8_isNumber_25 : decode cX8_isNumber 25 = .ok (.iload_n 1, 1) := by decide +kernel
theorem dX8_isNumber_26 : decode cX8_isNumber 26 = .ok (.istore_n 3, 1) := by decide +kernel
theorem dX8_isNumber_27 : decode cX8_isNumber 27 = .ok (.iload_n 3, 1) := by decide +kernel
theorem dX8_isNumber_28 : decode cX8_isNumber 28 = .ok (.aload_n 0, 1) := by decide +kernel
theorem dX8_isNumber_29 : decode cX8_isNumber 29 = .ok (.getfield 16, 3) := by decide +kernel
theorem dX8_isNumber_32 : decode cX8_isNumber 32 = .ok (.if_icmp .ge 35, 3) := by decide +kernel
theorem dX8_isNumber_35 : decode cX8_isNumber 35 = .ok (.aload_n 0, 1) := by decide +kernel
theorem dX8_isNumber_36 : decode cX8_isNumber 36 = .ok (.getfield 19, 3) := by decide +kernel
theorem dX8_isNumber_39 : decode cX8_isNumber 39 = .ok (.iload_n 3, 1) := by decide +kernel
theorem dX8_isNumber_40 : decode cX8_isNumber 40 = .ok (.invokevirtual 23, 3) := by decide +kernel
theorem dX8_isNumber_43 : decode cX8_isNumber 43 = .ok (.istore 4, 2) := by decide +kernel
theorem dX8_isNumber_45 : decode cX8_isNumber 45 = .ok (.iload 4, 2) := by decide +kernel
theorem dX8_isNumber_47 : decode cX8_isNumber 47 = .ok (.bipush 48, 2) := by decide +kernel
theorem dX8_isNumber_49 : decode cX8_isNumber 49 = .ok (.if_icmp .lt 10, 3) := by decide +kernel
theorem dX8_isNumber_52 : decode cX8_isNumber 52 = .ok (.iload 4, 2) := by decide +kernel
theorem dX8_isNumber_54 : decode cX8_isNumber 54 = .ok (.bipush 57, 2) := by decide +kernel
theorem dX8_isNumber_56 : decode cX8_isNumber 56 = .ok (.if_icmp .le 5, 3) := by decide +kernel
theorem dX8_isNumber_59 : decode cX8_isNumber 59 = .ok (.iconst 0, 1) := by decide +kernel
theorem dX8_isNumber_60 : decode cX8_isNumber 60 = .ok (.ireturn, 1) := by decide +kernel
theorem dX8_isNumber_61 : decode cX8_isNumber 61 = .ok (.iinc 3 1, 3) := by decide +kernel
theorem dX8_isNumber_64 : decode cX8_isNumber 64 = .ok (.goto (-37), 3) := by decide +kernel
theorem dX8_isNumber_67 : decode cX8_isNumber 67 = .ok (.iconst 1, 1) := by decide +kernel
theorem dX8_isNumber_68 : decode cX8_isNumber 68 = .ok (.ireturn, 1) := by decide +kernel
theorem dX8_number_0 : decode cX8_number 0 = .ok (.aload_n 0, 1) := by decide +kernel
theorem dX8_number_1 : decode cX8_number 1 = .ok (.invokevirtual 46, 3) := by decide +kernel
theorem dX8_number_4 : decode cX8_number 4 = .ok (.istore_n 1, 1) := by decide +kernel
theorem dX8_number_5 : decode cX8_number 5 = .ok (.iconst 0, 1) := by decide +kernel
theorem dX8_number_6 : decode cX8_number 6 = .ok (.istore_n 2, 1) := by decide +kernel
theorem dX8_number_7 : decode cX8_number 7 = .ok (.iload_n 1, 1) := by decide +kernel
theorem dX8_number_8 : decode cX8_number 8 = .ok (.istore_n 3, 1) := by decide +kernel
theorem dX8_number_9 : decode cX8_number 9 = .ok (.iload_n 3, 1) := by decide +kernel
theorem dX8_number_10 : decode cX8_number 10 = .ok (.aload_n 0, 1) := by decide +kernel
theorem dX8_number_11 : decode cX8_number 11 = .ok (.getfield 16, 3) := by decide +kernel
theorem dX8_number_14 : decode cX8_number 14 = .ok (.if_icmp .ge 26, 3) := by decide +kernel
theorem dX8_number_17 : decode cX8_number 17 = .ok (.bipush 10, 2) := by decide +kernel
theorem dX8_number_19 : decode cX8_number 19 = .ok (.iload_n 2, 1) := by decide +kernel
theorem dX8_number_20 : decode cX8_number 20 = .ok (.imul, 1) := by decide +kernel
theorem dX8_number_21 : decode cX8_number 21 = .ok (.aload_n 0, 1) := by decide +kernel
theorem dX8_number_22 : decode cX8_number 22 = .ok (.getfield 19, 3) := by decide +kernel
theorem dX8_number_25 : decode cX8_number 25 = .ok (.iload_n 3, 1) := by decide +kernel
theorem dX8_number_26 : decode cX8_number 26 = .ok (.invokevirtual 23, 3) := by decide +kernel
theorem dX8_number_29 : decode cX8_number 29 = .ok (.iadd, 1) := by decide +kernel
theorem dX8_number_30 : decode cX8_number 30 = .ok (.bipush 48, 2) := by decide +kernel
theorem dX8_number_32 : decode cX8_number 32 = .ok (.isub, 1) := by decide +kernel
theorem dX8_number_33 : decode cX8_number 33 = .ok (.istore_n 2, 1) := by decide +kernel
theorem dX8_number_34 : decode cX8_number 34 = .ok (.iinc 3 1, 3) := by decide +kernel
theorem dX8_number_37 : decode cX8_number 37 = .ok (.goto (-28), 3) := by decide +kernel
theorem dX8_number_40 : decode cX8_number 40 = .ok (.iload_n 1, 1) := by decide +kernel
theorem dX8_number_41 : decode cX8_number 41 = .ok (.aload_n 0, 1) := by decide +kernel
theorem dX8_number_42 : decode cX8_number 42 = .ok (.getfield 13, 3) := by decide +kernel
theorem dX8_number_45 : decode cX8_number 45 = .ok (.if_icmp .le 8, 3) := by decide +kernel
theorem dX8_number_48 : decode cX8_number 48 = .ok (.iload_n 2, 1) := by decide +kernel
theorem dX8_number_49 : decode cX8_number 49 = .ok (.ineg, 1) := by decide +kernel
theorem dX8_number_50 : decode cX8_number 50 = .ok (.goto 4, 3) := by decide +kernel
theorem dX8_number_53 : decode cX8_number 53 = .ok (.iload_n 2, 1) := by decide +kernel
theorem dX8_number_54 : decode cX8_number 54 = .ok (.ireturn, 1) := by decide +kernel
theorem dX8_firstDigit_0 : decode cX8_firstDigit 0 = .ok (.aload_n 0, 1) := by decide +kernel
theorem dX8_firstDigit_1 : decode cX8_firstDigit 1 = .ok (.getfield 19, 3) := by decide +kernel
theorem dX8_firstDigit_4 : decode cX8_firstDigit 4 = .ok (.aload_n 0, 1) := by decide +kernel
theorem dX8_firstDigit_5 : decode cX8_firstDigit 5 = .ok (.getfield 13, 3) := by decide +kernel
theorem dX8_firstDigit_8 : decode cX8_firstDigit 8 = .ok (.invokevirtual 23, 3) := by decide +kernel
theorem dX8_firstDigit_11 : decode cX8_firstDigit 11 = .ok (.bipush 45, 2) := by decide +kernel
theorem dX8_firstDigit_13 : decode cX8_firstDigit 13 = .ok (.if_icmp .ne 12, 3) := by decide +kernel
theorem dX8_firstDigit_16 : decode cX8_firstDigit 16 = .ok (.aload_n 0, 1) := by decide +kernel
theorem dX8_firstDigit_17 : decode cX8_firstDigit 17 = .ok (.getfield 13, 3) := by decide +kernel
theorem dX8_firstDigit_20 : decode cX8_firstDigit 20 = .ok (.iconst 1, 1) := by decide +kernel
theorem dX8_firstDigit_21 : decode cX8_firstDigit 21 = .ok (.iadd, 1) := by decide +kernel
theorem dX8_firstDigit_22 : decode cX8_firstDigit 22 = .ok (.goto 7, 3) := by decide +kernel
theorem dX8_firstDigit_25 : decode cX8_firstDigit 25 = .ok (.aload_n 0, 1) := by decide +kernel
theorem dX8_firstDigit_26 : decode cX8_firstDigit 26 = .ok (.getfield 13, 3) := by decide +kernel
theorem dX8_firstDigit_29 : decode cX8_firstDigit 29 = .ok (.ireturn, 1) := by decide +kernel
theorem dX8_endOfToken_0 : decode cX8_endOfToken 0 = .ok (.iload_n 1, 1) := by decide +kernel
theorem dX8_endOfToken_1 : decode cX8_endOfToken 1 = .ok (.istore_n 2, 1) := by decide +kernel
theorem dX8_endOfToken_2 : decode cX8_endOfToken 2 = .ok (.iload_n 2, 1) := by decide +kernel
theorem dX8_endOfToken_3 : decode cX8_endOfToken 3 = .ok (.aload_n 0, 1) := by decide +kernel
theorem dX8_endOfToken_4 : decode cX8_endOfToken 4 = .ok (.getfield 7, 3) := by decide +kernel
theorem dX8_endOfToken_7 : decode cX8_endOfToken 7 = .ok (.if_icmp .ge 25, 3) := by decide +kernel
theorem dX8_endOfToken_10 : decode cX8_endOfToken 10 = .ok (.aload_n 0, 1) := by decide +kernel
theorem dX8_endOfToken_11 : decode cX8_endOfToken 11 = .ok (.getfield 19, 3) := by decide +kernel
theorem dX8_endOfToken_14 : decode cX8_endOfToken 14 = .ok (.iload_n 2, 1) := by decide +kernel
theorem dX8_endOfToken_15 : decode cX8_endOfToken 15 = .ok (.invokevirtual 23, 3) := by decide +kernel
theorem dX8_endOfToken_18 : decode cX8_endOfToken 18 = .ok (.invokestatic 29, 3) := by decide +kernel
theorem dX8_endOfToken_21 : decode cX8_endOfToken 21 = .ok (.ifCond .eq 5, 3) := by decide +kernel
theorem dX8_endOfToken_24 : decode cX8_endOfToken 24 = .ok (.iload_n 2, 1) := by decide +kernel
theorem dX8_endOfToken_25 : decode cX8_endOfToken 25 = .ok (.ireturn, 1) := by decide +kernel
theorem dX8_endOfToken_26 : decode cX8_endOfToken 26 = .ok (.iinc 2 1, 3) := by decide +kernel
theorem dX8_endOfToken_29 : decode cX8_endOfToken 29 = .ok (.goto (-27), 3) := by decide +kernel
theorem dX8_endOfToken_32 : decode cX8_endOfToken 32 = .ok (.aload_n 0, 1) := by decide +kernel
theorem dX8_endOfToken_33 : decode cX8_endOfToken 33 = .ok (.getfield 7, 3) := by decide +kernel
theorem dX8_endOfToken_36 : decode cX8_endOfToken 36 = .ok (.ireturn, 1) := by decide +kernel
theorem dX8_isGap_0 : decode cX8_isGap 0 = .ok (.iload_n 0, 1) := by decide +kernel
theorem dX8_isGap_1 : decode cX8_isGap 1 = .ok (.bipush 32, 2) := by decide +kernel
theorem dX8_isGap_3 : decode cX8_isGap 3 = .ok (.if_icmp .eq 21, 3) := by decide +kernel
theorem dX8_isGap_6 : decode cX8_isGap 6 = .ok (.iload_n 0, 1) := by decide +kernel
theorem dX8_isGap_7 : decode cX8_isGap 7 = .ok (.bipush 9, 2) := by decide +kernel
theorem dX8_isGap_9 : decode cX8_isGap 9 = .ok (.if_icmp .eq 15, 3) := by decide +kernel
theorem dX8_isGap_12 : decode cX8_isGap 12 = .ok (.iload_n 0, 1) := by decide +kernel
theorem dX8_isGap_13 : decode cX8_isGap 13 = .ok (.bipush 13, 2) := by decide +kernel
theorem dX8_isGap_15 : decode cX8_isGap 15 = .ok (.if_icmp .eq 9, 3) := by decide +kernel
theorem dX8_isGap_18 : decode cX8_isGap 18 = .ok (.iload_n 0, 1) := by decide +kernel
theorem dX8_isGap_19 : decode cX8_isGap 19 = .ok (.bipush 10, 2) := by decide +kernel
theorem dX8_isGap_21 : decode cX8_isGap 21 = .ok (.if_icmp .ne 7, 3) := by decide +kernel
theorem dX8_isGap_24 : decode cX8_isGap 24 = .ok (.iconst 1, 1) := by decide +kernel
theorem dX8_isGap_25 : decode cX8_isGap 25 = .ok (.goto 4, 3) := by decide +kernel
theorem dX8_isGap_28 : decode cX8_isGap 28 = .ok (.iconst 0, 1) := by decide +kernel
theorem dX8_isGap_29 : decode cX8_isGap 29 = .ok (.ireturn, 1) := by decide +kernel
theorem dX9_init_0 : decode cX9_init 0 = .ok (.aload_n 0, 1) := by decide +kernel
theorem dX9_init_1 : decode cX9_init 1 = .ok (.invokespecial 3, 3) := by decide +kernel
theorem dX9_init_4 : decode cX9_init 4 = .ok (.aload_n 0, 1) := by decide +kernel
theorem dX9_init_5 : decode cX9_init 5 = .ok (.new 9, 3) := by decide +kernel
theorem dX9_init_8 : decode cX9_init 8 = .ok (.dup, 1) := by decide +kernel
theorem dX9_init_9 : decode cX9_init 9 = .ok (.sipush 6000, 3) := by decide +kernel
theorem dX9_init_12 : decode cX9_init 12 = .ok (.invokespecial 11, 3) := by decide +kernel
theorem dX9_init_15 : decode cX9_init 15 = .ok (.putfield 14, 3) := by decide +kernel
theorem dX9_init_18 : decode cX9_init 18 = .ok (.aload_n 0, 1) := by decide +kernel
theorem dX9_init_19 : decode cX9_init 19 = .ok (.new 9, 3) := by decide +kernel
theorem dX9_init_22 : decode cX9_init 22 = .ok (.dup, 1) := by decide +kernel
theorem dX9_init_23 : decode cX9_init 23 = .ok (.sipush 6000, 3) := by decide +kernel
theorem dX9_init_26 : decode cX9_init 26 = .ok (.invokespecial 11, 3) := by decide +kernel
theorem dX9_init_29 : decode cX9_init 29 = .ok (.putfield 18, 3) := by decide +kernel
theorem dX9_init_32 : decode cX9_init 32 = .ok (.aload_n 0, 1) := by decide +kernel
theorem dX9_init_33 : decode cX9_init 33 = .ok (.new 21, 3) := by decide +kernel
theorem dX9_init_36 : decode cX9_init 36 = .ok (.dup, 1) := by decide +kernel
theorem dX9_init_37 : decode cX9_init 37 = .ok (.invokespecial 23, 3) := by decide +kernel
theorem dX9_init_40 : decode cX9_init 40 = .ok (.putfield 24, 3) := by decide +kernel
theorem dX9_init_43 : decode cX9_init 43 = .ok (.aload_n 0, 1) := by decide +kernel
theorem dX9_init_44 : decode cX9_init 44 = .ok (.new 21, 3) := by decide +kernel
theorem dX9_init_47 : decode cX9_init 47 = .ok (.dup, 1) := by decide +kernel
theorem dX9_init_48 : decode cX9_init 48 = .ok (.invokespecial 23, 3) := by decide +kernel
theorem dX9_init_51 : decode cX9_init 51 = .ok (.putfield 28, 3) := by decide +kernel
theorem dX9_init_54 : decode cX9_init 54 = .ok (.aload_n 0, 1) := by decide +kernel
theorem dX9_init_55 : decode cX9_init 55 = .ok (.new 21, 3) := by decide +kernel
theorem dX9_init_58 : decode cX9_init 58 = .ok (.dup, 1) := by decide +kernel
theorem dX9_init_59 : decode cX9_init 59 = .ok (.invokespecial 23, 3) := by decide +kernel
theorem dX9_init_62 : decode cX9_init 62 = .ok (.putfield 31, 3) := by decide +kernel
theorem dX9_init_65 : decode cX9_init 65 = .ok (.aload_n 0, 1) := by decide +kernel
theorem dX9_init_66 : decode cX9_init 66 = .ok (.new 34, 3) := by decide +kernel
theorem dX9_init_69 : decode cX9_init 69 = .ok (.dup, 1) := by decide +kernel
theorem dX9_init_70 : decode cX9_init 70 = .ok (.aload_n 0, 1) := by decide +kernel
theorem dX9_init_71 : decode cX9_init 71 = .ok (.getfield 14, 3) := by decide +kernel
theorem dX9_init_74 : decode cX9_init 74 = .ok (.aload_n 0, 1) := by decide +kernel
theorem dX9_init_75 : decode cX9_init 75 = .ok (.getfield 31, 3) := by decide +kernel
theorem dX9_init_78 : decode cX9_init 78 = .ok (.invokespecial 36, 3) := by decide +kernel
theorem dX9_init_81 : decode cX9_init 81 = .ok (.putfield 39, 3) := by decide +kernel
theorem dX9_init_84 : decode cX9_init 84 = .ok (.aload_n 0, 1) := by decide +kernel
theorem dX9_init_85 : decode cX9_init 85 = .ok (.new 43, 3) := by decide +kernel
theorem dX9_init_88 : decode cX9_init 88 = .ok (.dup, 1) := by decide +kernel
theorem dX9_init_89 : decode cX9_init 89 = .ok (.aload_n 0, 1) := by decide +kernel
theorem dX9_init_90 : decode cX9_init 90 = .ok (.getfield 28, 3) := by decide +kernel
theorem dX9_init_93 : decode cX9_init 93 = .ok (.invokespecial 45, 3) := by decide +kernel
theorem dX9_init_96 : decode cX9_init 96 = .ok (.putfield 48, 3) := by decide +kernel
theorem dX9_init_99 : decode cX9_init 99 = .ok (.aload_n 0, 1) := by decide +kernel
theorem dX9_init_100 : decode cX9_init 100 = .ok (.new 52, 3) := by decide +kernel
theorem dX9_init_103 : decode cX9_init 103 = .ok (.dup, 1) := by decide +kernel
theorem dX9_init_104 : decode cX9_init 104 = .ok (.aload_n 0, 1) := by decide +kernel
theorem dX9_init_105 : decode cX9_init 105 = .ok (.getfield 48, 3) := by decide +kernel
theorem dX9_init_108 : decode cX9_init 108 = .ok (.invokespecial 54, 3) := by decide +kernel
theorem dX9_init_111 : decode cX9_init 111 = .ok (.putfield 57, 3) := by decide +kernel
theorem dX9_init_114 : decode cX9_init 114 = .ok (.aload_n 0, 1) := by decide +kernel
theorem dX9_init_115 : decode cX9_init 115 = .ok (.iconst 0, 1) := by decide +kernel
theorem dX9_init_116 : decode cX9_init 116 = .ok (.putfield 61, 3) := by decide +kernel
theorem dX9_init_119 : decode cX9_init 119 = .ok (.aload_n 0, 1) := by decide +kernel
theorem dX9_init_120 : decode cX9_init 120 = .ok (.iconst (-1), 1) := by decide +kernel
theorem dX9_init_121 : decode cX9_init 121 = .ok (.putfield 65, 3) := by decide +kernel
theorem dX9_init_124 : decode cX9_init 124 = .ok (.return_, 1) := by decide +kernel
theorem dX9_feed_0 : decode cX9_feed 0 = .ok (.aload_n 0, 1) := by decide +kernel
theorem dX9_feed_1 : decode cX9_feed 1 = .ok (.getfield 14, 3) := by decide +kernel
theorem dX9_feed_4 : decode cX9_feed 4 = .ok (.invokevirtual 68, 3) := by decide +kernel
theorem dX9_feed_7 : decode cX9_feed 7 = .ok (.bipush 20, 2) := by decide +kernel
theorem dX9_feed_9 : decode cX9_feed 9 = .ok (.iadd, 1) := by decide +kernel
theorem dX9_feed_10 : decode cX9_feed 10 = .ok (.sipush 6000, 3) := by decide +kernel
theorem dX9_feed_13 : decode cX9_feed 13 = .ok (.if_icmp .le 5, 3) := by decide +kernel
theorem dX9_feed_16 : decode cX9_feed 16 = .ok (.iconst (-1), 1) := by decide +kernel
theorem dX9_feed_17 : decode cX9_feed 17 = .ok (.ireturn, 1) := by decide +kernel
theorem dX9_feed_18 : decode cX9_feed 18 = .ok (.aload_n 0, 1) := by decide +kernel
theorem dX9_feed_19 : decode cX9_feed 19 = .ok (.getfield 14, 3) := by decide +kernel
theorem dX9_feed_22 : decode cX9_feed 22 = .ok (.iload_n 1, 1) := by decide +kernel
theorem dX9_feed_23 : decode cX9_feed 23 = .ok (.invokevirtual 72, 3) := by decide +kernel
theorem dX9_feed_26 : decode cX9_feed 26 = .ok (.aload_n 0, 1) := by decide +kernel
theorem dX9_feed_27 : decode cX9_feed 27 = .ok (.getfield 14, 3) := by decide +kernel
theorem dX9_feed_30 : decode cX9_feed 30 = .ok (.iload_n 2, 1) := by decide +kernel
theorem dX9_feed_31 : decode cX9_feed 31 = .ok (.invokevirtual 72, 3) := by decide +kernel
theorem dX9_feed_34 : decode cX9_feed 34 = .ok (.aload_n 0, 1) := by decide +kernel
theorem dX9_feed_35 : decode cX9_feed 35 = .ok (.getfield 14, 3) := by decide +kernel
theorem dX9_feed_38 : decode cX9_feed 38 = .ok (.iload_n 3, 1) := by decide +kernel
theorem dX9_feed_39 : decode cX9_feed 39 = .ok (.invokevirtual 72, 3) := by decide +kernel
theorem dX9_feed_42 : decode cX9_feed 42 = .ok (.aload_n 0, 1) := by decide +kernel
theorem dX9_feed_43 : decode cX9_feed 43 = .ok (.getfield 14, 3) := by decide +kernel
theorem dX9_feed_46 : decode cX9_feed 46 = .ok (.iload 4, 2) := by decide +kernel
theorem dX9_feed_48 : decode cX9_feed 48 = .ok (.invokevirtual 72, 3) := by decide +kernel
theorem dX9_feed_51 : decode cX9_feed 51 = .ok (.aload_n 0, 1) := by decide +kernel
theorem dX9_feed_52 : decode cX9_feed 52 = .ok (.getfield 14, 3) := by decide +kernel
theorem dX9_feed_55 : decode cX9_feed 55 = .ok (.iload 5, 2) := by decide +kernel
theorem dX9_feed_57 : decode cX9_feed 57 = .ok (.invokevirtual 72, 3) := by decide +kernel
theorem dX9_feed_60 : decode cX9_feed 60 = .ok (.aload_n 0, 1) := by decide +kernel
theorem dX9_feed_61 : decode cX9_feed 61 = .ok (.getfield 14, 3) := by decide +kernel
theorem dX9_feed_64 : decode cX9_feed 64 = .ok (.invokevirtual 68, 3) := by decide +kernel
theorem dX9_feed_67 : decode cX9_feed 67 = .ok (.ireturn, 1) := by decide +kernel
theorem dX9_formula_0 : decode cX9_formula 0 = .ok (.aload_n 0, 1) := by decide +kernel
theorem dX9_formula_1 : decode cX9_formula 1 = .ok (.iload_n 1, 1) := by decide +kernel
theorem dX9_formula_2 : decode cX9_formula 2 = .ok (.invokevirtual 75, 3) := by decide +kernel
theorem dX9_formula_5 : decode cX9_formula 5 = .ok (.ifCond .ne 13, 3) := by decide +kernel
theorem dX9_formula_8 : decode cX9_formula 8 = .ok (.new 79, 3) := by decide +kernel
theorem dX9_formula_11 : decode cX9_formula 11 = .ok (.dup, 1) := by decide +kernel
theorem dX9_formula_12 : decode cX9_formula 12 = .ok (.ldc 81, 2) := by decide +kernel
theorem dX9_formula_14 : decode cX9_formula 14 = .ok (.invokespecial 83, 3) := by decide +kernel
theorem dX9_formula_17 : decode cX9_formula 17 = .ok (.athrow, 1) := by decide +kernel
theorem dX9_formula_18 : decode cX9_formula 18 = .ok (.aload_n 0, 1) := by decide +kernel
theorem dX9_formula_19 : decode cX9_formula 19 = .ok (.getfield 39, 3) := by decide +kernel
theorem dX9_formula_22 : decode cX9_formula 22 = .ok (.aload_n 0, 1) := by decide +kernel
theorem dX9_formula_23 : decode cX9_formula 23 = .ok (.getfield 14, 3) := by decide +kernel
theorem dX9_formula_26 : decode cX9_formula 26 = .ok (.iload_n 1, 1) := by decide +kernel
theorem dX9_formula_27 : decode cX9_formula 27 = .ok (.aload_n 0, 1) := by decide +kernel
theorem dX9_formula_28 : decode cX9_formula 28 = .ok (.getfield 31, 3) := by decide +kernel
theorem dX9_formula_31 : decode cX9_formula 31 = .ok (.invokevirtual 86, 3) := by decide +kernel
theorem dX9_formula_34 : decode cX9_formula 34 = .ok (.aload_n 0, 1) := by decide +kernel
theorem dX9_formula_35 : decode cX9_formula 35 = .ok (.invokevirtual 90, 3) := by decide +kernel
theorem dX9_formula_38 : decode cX9_formula 38 = .ok (.aload_n 0, 1) := by decide +kernel
theorem dX9_formula_39 : decode cX9_formula 39 = .ok (.getfield 61, 3) := by decide +kernel
theorem dX9_formula_42 : decode cX9_formula 42 = .ok (.ifCond .ne 32, 3) := by decide +kernel
theorem dX9_formula_45 : decode cX9_formula 45 = .ok (.aload_n 0, 1) := by decide +kernel
theorem dX9_formula_46 : decode cX9_formula 46 = .ok (.getfield 24, 3) := by decide +kernel
theorem dX9_formula_49 : decode cX9_formula 49 = .ok (.astore_n 2, 1) := by decide +kernel
theorem dX9_formula_50 : decode cX9_formula 50 = .ok (.aload_n 0, 1) := by decide +kernel
theorem dX9_formula_51 : decode cX9_formula 51 = .ok (.aload_n 0, 1) := by decide +kernel
theorem dX9_formula_52 : decode cX9_formula 52 = .ok (.getfield 31, 3) := by decide +kernel
theorem dX9_formula_55 : decode cX9_formula 55 = .ok (.putfield 24, 3) := by decide +kernel
theorem dX9_formula_58 : decode cX9_formula 58 = .ok (.aload_n 0, 1) := by decide +kernel
theorem dX9_formula_59 : decode cX9_formula 59 = .ok (.aload_n 2, 1) := by decide +kernel
theorem dX9_formula_60 : decode cX9_formula 60 = .ok (.putfield 31, 3) := by decide +kernel
theorem dX9_formula_63 : decode cX9_formula 63 = .ok (.aload_n 0, 1) := by decide +kernel
theorem dX9_formula_64 : decode cX9_formula 64 = .ok (.getfield 28, 3) := by decide +kernel
theorem dX9_formula_67 : decode cX9_formula 67 = .ok (.invokevirtual 93, 3) := by decide +kernel
theorem dX9_formula_70 : decode cX9_formula 70 = .ok (.aload_n 0, 1) := by decide +kernel
theorem dX9_formula_71 : decode cX9_formula 71 = .ok (.invokevirtual 96, 3) := by decide +kernel
theorem dX9_formula_74 : decode cX9_formula 74 = .ok (.aload_n 0, 1) := by decide +kernel
theorem dX9_formula_75 : decode cX9_formula 75 = .ok (.getfield 61, 3) := by decide +kernel
theorem dX9_formula_78 : decode cX9_formula 78 = .ok (.ireturn, 1) := by decide +kernel
theorem dX9_proof_0 : decode cX9_proof 0 = .ok (.aload_n 0, 1) := by decide +kernel
theorem dX9_proof_1 : decode cX9_proof 1 = .ok (.iload_n 1, 1) := by decide +kernel
theorem dX9_proof_2 : decode cX9_proof 2 = .ok (.invokevirtual 75, 3) := by decide +kernel
theorem dX9_proof_5 : decode cX9_proof 5 = .ok (.ifCond .ne 13, 3) := by decide +kernel
theorem dX9_proof_8 : decode cX9_proof 8 = .ok (.new 79, 3) := by decide +kernel
theorem dX9_proof_11 : decode cX9_proof 11 = .ok (.dup, 1) := by decide +kernel
theorem dX9_proof_12 : decode cX9_proof 12 = .ok (.ldc 81, 2) := by decide +kernel
theorem dX9_proof_14 : decode cX9_proof 14 = .ok (.invokespecial 83, 3) := by decide +kernel
theorem dX9_proof_17 : decode cX9_proof 17 = .ok (.athrow, 1) := by decide +kernel
theorem dX9_proof_18 : decode cX9_proof 18 = .ok (.iload_n 2, 1) := by decide +kernel
theorem dX9_proof_19 : decode cX9_proof 19 = .ok (.ifCond .eq 22, 3) := by decide +kernel
theorem dX9_proof_22 : decode cX9_proof 22 = .ok (.aload_n 0, 1) := by decide +kernel
theorem dX9_proof_23 : decode cX9_proof 23 = .ok (.getfield 39, 3) := by decide +kernel
theorem dX9_proof_26 : decode cX9_proof 26 = .ok (.aload_n 0, 1) := by decide +kernel
theorem dX9_proof_27 : decode cX9_proof 27 = .ok (.getfield 14, 3) := by decide +kernel
theorem dX9_proof_30 : decode cX9_proof 30 = .ok (.iload_n 1, 1) := by decide +kernel
theorem dX9_proof_31 : decode cX9_proof 31 = .ok (.aload_n 0, 1) := by decide +kernel
theorem dX9_proof_32 : decode cX9_proof 32 = .ok (.getfield 31, 3) := by decide +kernel
theorem dX9_proof_35 : decode cX9_proof 35 = .ok (.invokevirtual 99, 3) := by decide +kernel
theorem dX9_proof_38 : decode cX9_proof 38 = .ok (.goto 19, 3) := by decide +kernel
theorem dX9_proof_41 : decode cX9_proof 41 = .ok (.aload_n 0, 1) := by decide +kernel
theorem dX9_proof_42 : decode cX9_proof 42 = .ok (.getfield 39, 3) := by decide +kernel
theorem dX9_proof_45 : decode cX9_proof 45 = .ok (.aload_n 0, 1) := by decide +kernel
theorem dX9_proof_46 : decode cX9_proof 46 = .ok (.getfield 14, 3) := by decide +kernel
theorem dX9_proof_49 : decode cX9_proof 49 = .ok (.iload_n 1, 1) := by decide +kernel
theorem dX9_proof_50 : decode cX9_proof 50 = .ok (.aload_n 0, 1) := by decide +kernel
theorem dX9_proof_51 : decode cX9_proof 51 = .ok (.getfield 31, 3) := by decide +kernel
theorem dX9_proof_54 : decode cX9_proof 54 = .ok (.invokevirtual 102, 3) := by decide +kernel
theorem dX9_proof_57 : decode cX9_proof 57 = .ok (.aload_n 0, 1) := by decide +kernel
theorem dX9_proof_58 : decode cX9_proof 58 = .ok (.invokevirtual 90, 3) := by decide +kernel
theorem dX9_proof_61 : decode cX9_proof 61 = .ok (.aload_n 0, 1) := by decide +kernel
theorem dX9_proof_62 : decode cX9_proof 62 = .ok (.getfield 61, 3) := by decide +kernel
theorem dX9_proof_65 : decode cX9_proof 65 = .ok (.ifCond .ne 7, 3) := by decide +kernel
theorem dX9_proof_68 : decode cX9_proof 68 = .ok (.aload_n 0, 1) := by decide +kernel
theorem dX9_proof_69 : decode cX9_proof 69 = .ok (.invokevirtual 105, 3) := by decide +kernel
theorem dX9_proof_72 : decode cX9_proof 72 = .ok (.aload_n 0, 1) := by decide +kernel
theorem dX9_proof_73 : decode cX9_proof 73 = .ok (.getfield 61, 3) := by decide +kernel
theorem dX9_proof_76 : decode cX9_proof 76 = .ok (.ireturn, 1) := by decide +kernel
theorem dX9_fault_0 : decode cX9_fault 0 = .ok (.iload_n 1, 1) := by decide +kernel
theorem dX9_fault_1 : decode cX9_fault 1 = .ok (.lookupswitch 37 #[(0, 27), (1, 32)], 27) := by decide +kernel
theorem dX9_fault_28 : decode cX9_fault 28 = .ok (.aload_n 0, 1) := by decide +kernel
theorem dX9_fault_29 : decode cX9_fault 29 = .ok (.getfield 61, 3) := by decide +kernel
theorem dX9_fault_32 : decode cX9_fault 32 = .ok (.ireturn, 1) := by decide +kernel
theorem dX9_fault_33 : decode cX9_fault 33 = .ok (.aload_n 0, 1) := by decide +kernel
theorem dX9_fault_34 : decode cX9_fault 34 = .ok (.getfield 65, 3) := by decide +kernel
theorem dX9_fault_37 : decode cX9_fault 37 = .ok (.ireturn, 1) := by decide +kernel
theorem dX9_fault_38 : decode cX9_fault 38 = .ok (.new 108, 3) := by decide +kernel
theorem dX9_fault_41 : decode cX9_fault 41 = .ok (.dup, 1) := by decide +kernel
theorem dX9_fault_42 : decode cX9_fault 42 = .ok (.ldc 110, 2) := by decide +kernel
theorem dX9_fault_44 : decode cX9_fault 44 = .ok (.invokespecial 112, 3) := by decide +kernel
theorem dX9_fault_47 : decode cX9_fault 47 = .ok (.athrow, 1) := by decide +kernel
theorem dX9_weigh_0 : decode cX9_weigh 0 = .ok (.iload 4, 2) := by decide +kernel
theorem dX9_weigh_2 : decode cX9_weigh 2 = .ok (.ifCond .lt 11, 3) := by decide +kernel
theorem dX9_weigh_5 : decode cX9_weigh 5 = .ok (.iload 4, 2) := by decide +kernel
theorem dX9_weigh_7 : decode cX9_weigh 7 = .ok (.sipush 20000, 3) := by decide +kernel
theorem dX9_weigh_10 : decode cX9_weigh 10 = .ok (.if_icmp .le 13, 3) := by decide +kernel
theorem dX9_weigh_13 : decode cX9_weigh 13 = .ok (.new 79, 3) := by decide +kernel
theorem dX9_weigh_16 : decode cX9_weigh 16 = .ok (.dup, 1) := by decide +kernel
theorem dX9_weigh_17 : decode cX9_weigh 17 = .ok (.ldc 113, 2) := by decide +kernel
theorem dX9_weigh_19 : decode cX9_weigh 19 = .ok (.invokespecial 83, 3) := by decide +kernel
theorem dX9_weigh_22 : decode cX9_weigh 22 = .ok (.athrow, 1) := by decide +kernel
theorem dX9_weigh_23 : decode cX9_weigh 23 = .ok (.aload_n 0, 1) := by decide +kernel
theorem dX9_weigh_24 : decode cX9_weigh 24 = .ok (.getfield 57, 3) := by decide +kernel
theorem dX9_weigh_27 : decode cX9_weigh 27 = .ok (.iload_n 2, 1) := by decide +kernel
theorem dX9_weigh_28 : decode cX9_weigh 28 = .ok (.iload_n 3, 1) := by decide +kernel
theorem dX9_weigh_29 : decode cX9_weigh 29 = .ok (.iload 4, 2) := by decide +kernel
theorem dX9_weigh_31 : decode cX9_weigh 31 = .ok (.invokevirtual 115, 3) := by decide +kernel
theorem dX9_weigh_34 : decode cX9_weigh 34 = .ok (.aload_n 0, 1) := by decide +kernel
theorem dX9_weigh_35 : decode cX9_weigh 35 = .ok (.getfield 57, 3) := by decide +kernel
theorem dX9_weigh_38 : decode cX9_weigh 38 = .ok (.iload_n 1, 1) := by decide +kernel
theorem dX9_weigh_39 : decode cX9_weigh 39 = .ok (.ifCond .ne 7, 3) := by decide +kernel
theorem dX9_weigh_42 : decode cX9_weigh 42 = .ok (.iconst 1, 1) := by decide +kernel
theorem dX9_weigh_43 : decode cX9_weigh 43 = .ok (.goto 4, 3) := by decide +kernel
theorem dX9_weigh_46 : decode cX9_weigh 46 = .ok (.iconst 0, 1) := by decide +kernel
theorem dX9_weigh_47 : decode cX9_weigh 47 = .ok (.invokevirtual 119, 3) := by decide +kernel
theorem dX9_weigh_50 : decode cX9_weigh 50 = .ok (.iload_n 1, 1) := by decide +kernel
theorem dX9_weigh_51 : decode cX9_weigh 51 = .ok (.ifCond .eq 10, 3) := by decide +kernel
theorem dX9_weigh_54 : decode cX9_weigh 54 = .ok (.aload_n 0, 1) := by decide +kernel
theorem dX9_weigh_55 : decode cX9_weigh 55 = .ok (.getfield 57, 3) := by decide +kernel
theorem dX9_weigh_58 : decode cX9_weigh 58 = .ok (.invokevirtual 123, 3) := by decide +kernel
theorem dX9_weigh_61 : decode cX9_weigh 61 = .ok (.aload_n 0, 1) := by decide +kernel
theorem dX9_weigh_62 : decode cX9_weigh 62 = .ok (.getfield 57, 3) := by decide +kernel
theorem dX9_weigh_65 : decode cX9_weigh 65 = .ok (.invokevirtual 126, 3) := by decide +kernel
theorem dX9_weigh_68 : decode cX9_weigh 68 = .ok (.ireturn, 1) := by decide +kernel
theorem dX9_count_0 : decode cX9_count 0 = .ok (.iload_n 1, 1) := by decide +kernel
theorem dX9_count_1 : decode cX9_count 1 = .ok (.tableswitch 183 0 11 #[63, 71, 79, 87, 95, 111, 135, 143, 151, 159, 167, 175], 63) := by decide +kernel
theorem dX9_count_64 : decode cX9_count 64 = .ok (.aload_n 0, 1) := by decide +kernel
theorem dX9_count_65 : decode cX9_count 65 = .ok (.getfield 57, 3) := by decide +kernel
theorem dX9_count_68 : decode cX9_count 68 = .ok (.invokevirtual 126, 3) := by decide +kernel
theorem dX9_count_71 : decode cX9_count 71 = .ok (.ireturn, 1) := by decide +kernel
theorem dX9_count_72 : decode cX9_count 72 = .ok (.aload_n 0, 1) := by decide +kernel
theorem dX9_count_73 : decode cX9_count 73 = .ok (.getfield 57, 3) := by decide +kernel
theorem dX9_count_76 : decode cX9_count 76 = .ok (.invokevirtual 129, 3) := by decide +kernel
theorem dX9_count_79 : decode cX9_count 79 = .ok (.ireturn, 1) := by decide +kernel
theorem dX9_count_80 : decode cX9_count 80 = .ok (.aload_n 0, 1) := by decide +kernel
theorem dX9_count_81 : decode cX9_count 81 = .ok (.getfield 57, 3) := by decide +kernel
theorem dX9_count_84 : decode cX9_count 84 = .ok (.invokevirtual 132, 3) := by decide +kernel
theorem dX9_count_87 : decode cX9_count 87 = .ok (.ireturn, 1) := by decide +kernel
theorem dX9_count_88 : decode cX9_count 88 = .ok (.aload_n 0, 1) := by decide +kernel
theorem dX9_count_89 : decode cX9_count 89 = .ok (.getfield 57, 3) := by decide +kernel
theorem dX9_count_92 : decode cX9_count 92 = .ok (.invokevirtual 135, 3) := by decide +kernel
theorem dX9_count_95 : decode cX9_count 95 = .ok (.ireturn, 1) := by decide +kernel
theorem dX9_count_96 : decode cX9_count 96 = .ok (.aload_n 0, 1) := by decide +kernel
theorem dX9_count_97 : decode cX9_count 97 = .ok (.getfield 57, 3) := by decide +kernel
theorem dX9_count_100 : decode cX9_count 100 = .ok (.iconst 1, 1) := by decide +kernel
theorem dX9_count_101 : decode cX9_count 101 = .ok (.aload_n 0, 1) := by decide +kernel
theorem dX9_count_102 : decode cX9_count 102 = .ok (.getfield 48, 3) := by decide +kernel
theorem dX9_count_105 : decode cX9_count 105 = .ok (.invokevirtual 138, 3) := by decide +kernel
theorem dX9_count_108 : decode cX9_count 108 = .ok (.invokevirtual 141, 3) := by decide +kernel
theorem dX9_count_111 : decode cX9_count 111 = .ok (.ireturn, 1) := by decide +kernel
theorem dX9_count_112 : decode cX9_count 112 = .ok (.aload_n 0, 1) := by decide +kernel
theorem dX9_count_113 : decode cX9_count 113 = .ok (.getfield 57, 3) := by decide +kernel
theorem dX9_count_116 : decode cX9_count 116 = .ok (.aload_n 0, 1) := by decide +kernel
theorem dX9_count_117 : decode cX9_count 117 = .ok (.getfield 48, 3) := by decide +kernel
theorem dX9_count_120 : decode cX9_count 120 = .ok (.invokevirtual 138, 3) := by decide +kernel
theorem dX9_count_123 : decode cX9_count 123 = .ok (.iconst 1, 1) := by decide +kernel
theorem dX9_count_124 : decode cX9_count 124 = .ok (.iadd, 1) := by decide +kernel
theorem dX9_count_125 : decode cX9_count 125 = .ok (.aload_n 0, 1) := by decide +kernel
theorem dX9_count_126 : decode cX9_count 126 = .ok (.getfield 48, 3) := by decide +kernel
theorem dX9_count_129 : decode cX9_count 129 = .ok (.invokevirtual 145, 3) := by decide +kernel
theorem dX9_count_132 : decode cX9_count 132 = .ok (.invokevirtual 141, 3) := by decide +kernel
theorem dX9_count_135 : decode cX9_count 135 = .ok (.ireturn, 1) := by decide +kernel
theorem dX9_count_136 : decode cX9_count 136 = .ok (.aload_n 0, 1) := by decide +kernel
theorem dX9_count_137 : decode cX9_count 137 = .ok (.getfield 57, 3) := by decide +kernel
theorem dX9_count_140 : decode cX9_count 140 = .ok (.invokevirtual 148, 3) := by decide +kernel
theorem dX9_count_143 : decode cX9_count 143 = .ok (.ireturn, 1) := by decide +kernel
theorem dX9_count_144 : decode cX9_count 144 = .ok (.aload_n 0, 1) := by decide +kernel
theorem dX9_count_145 : decode cX9_count 145 = .ok (.getfield 57, 3) := by decide +kernel
theorem dX9_count_148 : decode cX9_count 148 = .ok (.invokevirtual 151, 3) := by decide +kernel
theorem dX9_count_151 : decode cX9_count 151 = .ok (.ireturn, 1) := by decide +kernel
theorem dX9_count_152 : decode cX9_count 152 = .ok (.aload_n 0, 1) := by decide +kernel
theorem dX9_count_153 : decode cX9_count 153 = .ok (.getfield 48, 3) := by decide +kernel
theorem dX9_count_156 : decode cX9_count 156 = .ok (.invokevirtual 138, 3) := by decide +kernel
theorem dX9_count_159 : decode cX9_count 159 = .ok (.ireturn, 1) := by decide +kernel
theorem dX9_count_160 : decode cX9_count 160 = .ok (.aload_n 0, 1) := by decide +kernel
theorem dX9_count_161 : decode cX9_count 161 = .ok (.getfield 28, 3) := by decide +kernel
theorem dX9_count_164 : decode cX9_count 164 = .ok (.invokevirtual 154, 3) := by decide +kernel
theorem dX9_count_167 : decode cX9_count 167 = .ok (.ireturn, 1) := by decide +kernel
theorem dX9_count_168 : decode cX9_count 168 = .ok (.aload_n 0, 1) := by decide +kernel
theorem dX9_count_169 : decode cX9_count 169 = .ok (.getfield 24, 3) := by decide +kernel
theorem dX9_count_172 : decode cX9_count 172 = .ok (.invokevirtual 157, 3) := by decide +kernel
theorem dX9_count_175 : decode cX9_count 175 = .ok (.ireturn, 1) := by decide +kernel
theorem dX9_count_176 : decode cX9_count 176 = .ok (.aload_n 0, 1) := by decide +kernel
theorem dX9_count_177 : decode cX9_count 177 = .ok (.getfield 14, 3) := by decide +kernel
theorem dX9_count_180 : decode cX9_count 180 = .ok (.invokevirtual 68, 3) := by decide +kernel
theorem dX9_count_183 : decode cX9_count 183 = .ok (.ireturn, 1) := by decide +kernel
theorem dX9_count_184 : decode cX9_count 184 = .ok (.new 108, 3) := by decide +kernel
theorem dX9_count_187 : decode cX9_count 187 = .ok (.dup, 1) := by decide +kernel
theorem dX9_count_188 : decode cX9_count 188 = .ok (.ldc 160, 2) := by decide +kernel
theorem dX9_count_190 : decode cX9_count 190 = .ok (.invokespecial 112, 3) := by decide +kernel
theorem dX9_count_193 : decode cX9_count 193 = .ok (.athrow, 1) := by decide +kernel
theorem dX9_clause_0 : decode cX9_clause 0 = .ok (.iload_n 1, 1) := by decide +kernel
theorem dX9_clause_1 : decode cX9_clause 1 = .ok (.iconst 1, 1) := by decide +kernel
theorem dX9_clause_2 : decode cX9_clause 2 = .ok (.if_icmp .lt 18, 3) := by decide +kernel
theorem dX9_clause_5 : decode cX9_clause 5 = .ok (.iload_n 1, 1) := by decide +kernel
theorem dX9_clause_6 : decode cX9_clause 6 = .ok (.aload_n 0, 1) := by decide +kernel
theorem dX9_clause_7 : decode cX9_clause 7 = .ok (.getfield 48, 3) := by decide +kernel
theorem dX9_clause_10 : decode cX9_clause 10 = .ok (.invokevirtual 145, 3) := by decide +kernel
theorem dX9_clause_13 : decode cX9_clause 13 = .ok (.if_icmp .gt 7, 3) := by decide +kernel
theorem dX9_clause_16 : decode cX9_clause 16 = .ok (.iload_n 2, 1) := by decide +kernel
theorem dX9_clause_17 : decode cX9_clause 17 = .ok (.ifCond .ge 13, 3) := by decide +kernel
theorem dX9_clause_20 : decode cX9_clause 20 = .ok (.new 108, 3) := by decide +kernel
theorem dX9_clause_23 : decode cX9_clause 23 = .ok (.dup, 1) := by decide +kernel
theorem dX9_clause_24 : decode cX9_clause 24 = .ok (.ldc 162, 2) := by decide +kernel
theorem dX9_clause_26 : decode cX9_clause 26 = .ok (.invokespecial 112, 3) := by decide +kernel
theorem dX9_clause_29 : decode cX9_clause 29 = .ok (.athrow, 1) := by decide +kernel
theorem dX9_clause_30 : decode cX9_clause 30 = .ok (.iload_n 2, 1) := by decide +kernel
theorem dX9_clause_31 : decode cX9_clause 31 = .ok (.lookupswitch 51 #[(0, 25), (1, 42)], 25) := by decide +kernel
theorem dX9_clause_56 : decode cX9_clause 56 = .ok (.aload_n 0, 1) := by decide +kernel
theorem dX9_clause_57 : decode cX9_clause 57 = .ok (.getfield 57, 3) := by decide +kernel
theorem dX9_clause_60 : decode cX9_clause 60 = .ok (.iload_n 1, 1) := by decide +kernel
theorem dX9_clause_61 : decode cX9_clause 61 = .ok (.invokevirtual 164, 3) := by decide +kernel
theorem dX9_clause_64 : decode cX9_clause 64 = .ok (.ifCond .eq 7, 3) := by decide +kernel
theorem dX9_clause_67 : decode cX9_clause 67 = .ok (.iconst 1, 1) := by decide +kernel
theorem dX9_clause_68 : decode cX9_clause 68 = .ok (.goto 4, 3) := by decide +kernel
theorem dX9_clause_71 : decode cX9_clause 71 = .ok (.iconst 0, 1) := by decide +kernel
theorem dX9_clause_72 : decode cX9_clause 72 = .ok (.ireturn, 1) := by decide +kernel
theorem dX9_clause_73 : decode cX9_clause 73 = .ok (.aload_n 0, 1) := by decide +kernel
theorem dX9_clause_74 : decode cX9_clause 74 = .ok (.getfield 48, 3) := by decide +kernel
theorem dX9_clause_77 : decode cX9_clause 77 = .ok (.iload_n 1, 1) := by decide +kernel
theorem dX9_clause_78 : decode cX9_clause 78 = .ok (.invokevirtual 167, 3) := by decide +kernel
theorem dX9_clause_81 : decode cX9_clause 81 = .ok (.ireturn, 1) := by decide +kernel
theorem dX9_clause_82 : decode cX9_clause 82 = .ok (.aload_n 0, 1) := by decide +kernel
theorem dX9_clause_83 : decode cX9_clause 83 = .ok (.getfield 48, 3) := by decide +kernel
theorem dX9_clause_86 : decode cX9_clause 86 = .ok (.iload_n 1, 1) := by decide +kernel
theorem dX9_clause_87 : decode cX9_clause 87 = .ok (.iload_n 2, 1) := by decide +kernel
theorem dX9_clause_88 : decode cX9_clause 88 = .ok (.iconst 2, 1) := by decide +kernel
theorem dX9_clause_89 : decode cX9_clause 89 = .ok (.isub, 1) := by decide +kernel
theorem dX9_clause_90 : decode cX9_clause 90 = .ok (.invokevirtual 171, 3) := by decide +kernel
theorem dX9_clause_93 : decode cX9_clause 93 = .ok (.ireturn, 1) := by decide +kernel
theorem dX9_step_0 : decode cX9_step 0 = .ok (.iload_n 1, 1) := by decide +kernel
theorem dX9_step_1 : decode cX9_step 1 = .ok (.iconst 1, 1) := by decide +kernel
theorem dX9_step_2 : decode cX9_step 2 = .ok (.if_icmp .lt 18, 3) := by decide +kernel
theorem dX9_step_5 : decode cX9_step 5 = .ok (.iload_n 1, 1) := by decide +kernel
theorem dX9_step_6 : decode cX9_step 6 = .ok (.aload_n 0, 1) := by decide +kernel
theorem dX9_step_7 : decode cX9_step 7 = .ok (.getfield 28, 3) := by decide +kernel
theorem dX9_step_10 : decode cX9_step 10 = .ok (.invokevirtual 154, 3) := by decide +kernel
theorem dX9_step_13 : decode cX9_step 13 = .ok (.if_icmp .gt 7, 3) := by decide +kernel
theorem dX9_step_16 : decode cX9_step 16 = .ok (.iload_n 2, 1) := by decide +kernel
theorem dX9_step_17 : decode cX9_step 17 = .ok (.ifCond .ge 13, 3) := by decide +kernel
theorem dX9_step_20 : decode cX9_step 20 = .ok (.new 108, 3) := by decide +kernel
theorem dX9_step_23 : decode cX9_step 23 = .ok (.dup, 1) := by decide +kernel
theorem dX9_step_24 : decode cX9_step 24 = .ok (.ldc 174, 2) := by decide +kernel
theorem dX9_step_26 : decode cX9_step 26 = .ok (.invokespecial 112, 3) := by decide +kernel
theorem dX9_step_29 : decode cX9_step 29 = .ok (.athrow, 1) := by decide +kernel
theorem dX9_step_30 : decode cX9_step 30 = .ok (.iload_n 2, 1) := by decide +kernel
theorem dX9_step_31 : decode cX9_step 31 = .ok (.tableswitch 60 0 2 #[25, 42, 51], 25) := by decide +kernel
theorem dX9_step_56 : decode cX9_step 56 = .ok (.aload_n 0, 1) := by decide +kernel
theorem dX9_step_57 : decode cX9_step 57 = .ok (.getfield 28, 3) := by decide +kernel
theorem dX9_step_60 : decode cX9_step 60 = .ok (.iload_n 1, 1) := by decide +kernel
theorem dX9_step_61 : decode cX9_step 61 = .ok (.invokevirtual 176, 3) := by decide +kernel
theorem dX9_step_64 : decode cX9_step 64 = .ok (.ifCond .eq 7, 3) := by decide +kernel
theorem dX9_step_67 : decode cX9_step 67 = .ok (.iconst 1, 1) := by decide +kernel
theorem dX9_step_68 : decode cX9_step 68 = .ok (.goto 4, 3) := by decide +kernel
theorem dX9_step_71 : decode cX9_step 71 = .ok (.iconst 0, 1) := by decide +kernel
theorem dX9_step_72 : decode cX9_step 72 = .ok (.ireturn, 1) := by decide +kernel
theorem dX9_step_73 : decode cX9_step 73 = .ok (.aload_n 0, 1) := by decide +kernel
theorem dX9_step_74 : decode cX9_step 74 = .ok (.getfield 48, 3) := by decide +kernel
theorem dX9_step_77 : decode cX9_step 77 = .ok (.iload_n 1, 1) := by decide +kernel
theorem dX9_step_78 : decode cX9_step 78 = .ok (.invokevirtual 179, 3) := by decide +kernel
theorem dX9_step_81 : decode cX9_step 81 = .ok (.ireturn, 1) := by decide +kernel
theorem dX9_step_82 : decode cX9_step 82 = .ok (.aload_n 0, 1) := by decide +kernel
theorem dX9_step_83 : decode cX9_step 83 = .ok (.getfield 28, 3) := by decide +kernel
theorem dX9_step_86 : decode cX9_step 86 = .ok (.iload_n 1, 1) := by decide +kernel
theorem dX9_step_87 : decode cX9_step 87 = .ok (.invokevirtual 182, 3) := by decide +kernel
theorem dX9_step_90 : decode cX9_step 90 = .ok (.ireturn, 1) := by decide +kernel
theorem dX9_step_91 : decode cX9_step 91 = .ok (.aload_n 0, 1) := by decide +kernel
theorem dX9_step_92 : decode cX9_step 92 = .ok (.getfield 28, 3) := by decide +kernel
theorem dX9_step_95 : decode cX9_step 95 = .ok (.iload_n 1, 1) := by decide +kernel
theorem dX9_step_96 : decode cX9_step 96 = .ok (.iload_n 2, 1) := by decide +kernel
theorem dX9_step_97 : decode cX9_step 97 = .ok (.iconst 3, 1) := by decide +kernel
theorem dX9_step_98 : decode cX9_step 98 = .ok (.isub, 1) := by decide +kernel
theorem dX9_step_99 : decode cX9_step 99 = .ok (.invokevirtual 183, 3) := by decide +kernel
theorem dX9_step_102 : decode cX9_step 102 = .ok (.ireturn, 1) := by decide +kernel
theorem dX9_hint_0 : decode cX9_hint 0 = .ok (.iload_n 1, 1) := by decide +kernel
theorem dX9_hint_1 : decode cX9_hint 1 = .ok (.ifCond .lt 18, 3) := by decide +kernel
theorem dX9_hint_4 : decode cX9_hint 4 = .ok (.iload_n 1, 1) := by decide +kernel
theorem dX9_hint_5 : decode cX9_hint 5 = .ok (.aload_n 0, 1) := by decide +kernel
theorem dX9_hint_6 : decode cX9_hint 6 = .ok (.getfield 48, 3) := by decide +kernel
theorem dX9_hint_9 : decode cX9_hint 9 = .ok (.invokevirtual 145, 3) := by decide +kernel
theorem dX9_hint_12 : decode cX9_hint 12 = .ok (.if_icmp .gt 7, 3) := by decide +kernel
theorem dX9_hint_15 : decode cX9_hint 15 = .ok (.iload_n 2, 1) := by decide +kernel
theorem dX9_hint_16 : decode cX9_hint 16 = .ok (.ifCond .ge 13, 3) := by decide +kernel
theorem dX9_hint_19 : decode cX9_hint 19 = .ok (.new 108, 3) := by decide +kernel
theorem dX9_hint_22 : decode cX9_hint 22 = .ok (.dup, 1) := by decide +kernel
theorem dX9_hint_23 : decode cX9_hint 23 = .ok (.ldc 162, 2) := by decide +kernel
theorem dX9_hint_25 : decode cX9_hint 25 = .ok (.invokespecial 112, 3) := by decide +kernel
theorem dX9_hint_28 : decode cX9_hint 28 = .ok (.athrow, 1) := by decide +kernel
theorem dX9_hint_29 : decode cX9_hint 29 = .ok (.aload_n 0, 1) := by decide +kernel
theorem dX9_hint_30 : decode cX9_hint 30 = .ok (.getfield 57, 3) := by decide +kernel
theorem dX9_hint_33 : decode cX9_hint 33 = .ok (.iload_n 1, 1) := by decide +kernel
theorem dX9_hint_34 : decode cX9_hint 34 = .ok (.iload_n 2, 1) := by decide +kernel
theorem dX9_hint_35 : decode cX9_hint 35 = .ok (.invokevirtual 184, 3) := by decide +kernel
theorem dX9_hint_38 : decode cX9_hint 38 = .ok (.ireturn, 1) := by decide +kernel
theorem dX9_shorter_0 : decode cX9_shorter 0 = .ok (.aload_n 0, 1) := by decide +kernel
theorem dX9_shorter_1 : decode cX9_shorter 1 = .ok (.getfield 18, 3) := by decide +kernel
theorem dX9_shorter_4 : decode cX9_shorter 4 = .ok (.invokevirtual 187, 3) := by decide +kernel
theorem dX9_shorter_7 : decode cX9_shorter 7 = .ok (.aload_n 0, 1) := by decide +kernel
theorem dX9_shorter_8 : decode cX9_shorter 8 = .ok (.getfield 57, 3) := by decide +kernel
theorem dX9_shorter_11 : decode cX9_shorter 11 = .ok (.invokevirtual 188, 3) := by decide +kernel
theorem dX9_shorter_14 : decode cX9_shorter 14 = .ok (.istore_n 1, 1) := by decide +kernel
theorem dX9_shorter_15 : decode cX9_shorter 15 = .ok (.iconst 1, 1) := by decide +kernel
theorem dX9_shorter_16 : decode cX9_shorter 16 = .ok (.istore_n 2, 1) := by decide +kernel
theorem dX9_shorter_17 : decode cX9_shorter 17 = .ok (.iload_n 2, 1) := by decide +kernel
theorem dX9_shorter_18 : decode cX9_shorter 18 = .ok (.iload_n 1, 1) := by decide +kernel
theorem dX9_shorter_19 : decode cX9_shorter 19 = .ok (.if_icmp .gt 25, 3) := by decide +kernel
theorem dX9_shorter_22 : decode cX9_shorter 22 = .ok (.aload_n 0, 1) := by decide +kernel
theorem dX9_shorter_23 : decode cX9_shorter 23 = .ok (.getfield 57, 3) := by decide +kernel
theorem dX9_shorter_26 : decode cX9_shorter 26 = .ok (.iload_n 2, 1) := by decide +kernel
theorem dX9_shorter_27 : decode cX9_shorter 27 = .ok (.invokevirtual 191, 3) := by decide +kernel
theorem dX9_shorter_30 : decode cX9_shorter 30 = .ok (.ifCond .eq 8, 3) := by decide +kernel
theorem dX9_shorter_33 : decode cX9_shorter 33 = .ok (.aload_n 0, 1) := by decide +kernel
theorem dX9_shorter_34 : decode cX9_shorter 34 = .ok (.iload_n 2, 1) := by decide +kernel
theorem dX9_shorter_35 : decode cX9_shorter 35 = .ok (.invokevirtual 194, 3) := by decide +kernel
theorem dX9_shorter_38 : decode cX9_shorter 38 = .ok (.iinc 2 1, 3) := by decide +kernel
theorem dX9_shorter_41 : decode cX9_shorter 41 = .ok (.goto (-24), 3) := by decide +kernel
theorem dX9_shorter_44 : decode cX9_shorter 44 = .ok (.aload_n 0, 1) := by decide +kernel
theorem dX9_shorter_45 : decode cX9_shorter 45 = .ok (.getfield 18, 3) := by decide +kernel
theorem dX9_shorter_48 : decode cX9_shorter 48 = .ok (.invokevirtual 68, 3) := by decide +kernel
theorem dX9_shorter_51 : decode cX9_shorter 51 = .ok (.ireturn, 1) := by decide +kernel
theorem dX9_out_0 : decode cX9_out 0 = .ok (.iload_n 1, 1) := by decide +kernel
theorem dX9_out_1 : decode cX9_out 1 = .ok (.ifCond .lt 14, 3) := by decide +kernel
theorem dX9_out_4 : decode cX9_out 4 = .ok (.iload_n 1, 1) := by decide +kernel
theorem dX9_out_5 : decode cX9_out 5 = .ok (.aload_n 0, 1) := by decide +kernel
theorem dX9_out_6 : decode cX9_out 6 = .ok (.getfield 18, 3) := by decide +kernel
theorem dX9_out_9 : decode cX9_out 9 = .ok (.invokevirtual 197, 3) := by decide +kernel
theorem dX9_out_12 : decode cX9_out 12 = .ok (.if_icmp .lt 13, 3) := by decide +kernel
theorem dX9_out_15 : decode cX9_out 15 = .ok (.new 108, 3) := by decide +kernel
theorem dX9_out_18 : decode cX9_out 18 = .ok (.dup, 1) := by decide +kernel
theorem dX9_out_19 : decode cX9_out 19 = .ok (.ldc 200, 2) := by decide +kernel
theorem dX9_out_21 : decode cX9_out 21 = .ok (.invokespecial 112, 3) := by decide +kernel
theorem dX9_out_24 : decode cX9_out 24 = .ok (.athrow, 1) := by decide +kernel
theorem dX9_out_25 : decode cX9_out 25 = .ok (.aload_n 0, 1) := by decide +kernel
theorem dX9_out_26 : decode cX9_out 26 = .ok (.getfield 18, 3) := by decide +kernel
theorem dX9_out_29 : decode cX9_out 29 = .ok (.iload_n 1, 1) := by decide +kernel
theorem dX9_out_30 : decode cX9_out 30 = .ok (.invokevirtual 202, 3) := by decide +kernel
theorem dX9_out_33 : decode cX9_out 33 = .ok (.ireturn, 1) := by decide +kernel
theorem dX9_takeShorter_0 : decode cX9_takeShorter 0 = .ok (.aload_n 0, 1) := by decide +kernel
theorem dX9_takeShorter_1 : decode cX9_takeShorter 1 = .ok (.getfield 18, 3) := by decide +kernel
theorem dX9_takeShorter_4 : decode cX9_takeShorter 4 = .ok (.invokevirtual 68, 3) := by decide +kernel
theorem dX9_takeShorter_7 : decode cX9_takeShorter 7 = .ok (.aload_n 0, 1) := by decide +kernel
theorem dX9_takeShorter_8 : decode cX9_takeShorter 8 = .ok (.getfield 18, 3) := by decide +kernel
theorem dX9_takeShorter_11 : decode cX9_takeShorter 11 = .ok (.invokevirtual 197, 3) := by decide +kernel
theorem dX9_takeShorter_14 : decode cX9_takeShorter 14 = .ok (.if_icmp .le 5, 3) := by decide +kernel
theorem dX9_takeShorter_17 : decode cX9_takeShorter 17 = .ok (.iconst (-1), 1) := by decide +kernel
theorem dX9_takeShorter_18 : decode cX9_takeShorter 18 = .ok (.ireturn, 1) := by decide +kernel
theorem dX9_takeShorter_19 : decode cX9_takeShorter 19 = .ok (.aload_n 0, 1) := by decide +kernel
theorem dX9_takeShorter_20 : decode cX9_takeShorter 20 = .ok (.getfield 39, 3) := by decide +kernel
theorem dX9_takeShorter_23 : decode cX9_takeShorter 23 = .ok (.aload_n 0, 1) := by decide +kernel
theorem dX9_takeShorter_24 : decode cX9_takeShorter 24 = .ok (.getfield 18, 3) := by decide +kernel
theorem dX9_takeShorter_27 : decode cX9_takeShorter 27 = .ok (.aload_n 0, 1) := by decide +kernel
theorem dX9_takeShorter_28 : decode cX9_takeShorter 28 = .ok (.getfield 18, 3) := by decide +kernel
theorem dX9_takeShorter_31 : decode cX9_takeShorter 31 = .ok (.invokevirtual 197, 3) := by decide +kernel
theorem dX9_takeShorter_34 : decode cX9_takeShorter 34 = .ok (.aload_n 0, 1) := by decide +kernel
theorem dX9_takeShorter_35 : decode cX9_takeShorter 35 = .ok (.getfield 31, 3) := by decide +kernel
theorem dX9_takeShorter_38 : decode cX9_takeShorter 38 = .ok (.invokevirtual 102, 3) := by decide +kernel
theorem dX9_takeShorter_41 : decode cX9_takeShorter 41 = .ok (.aload_n 0, 1) := by decide +kernel
theorem dX9_takeShorter_42 : decode cX9_takeShorter 42 = .ok (.invokevirtual 105, 3) := by decide +kernel
theorem dX9_takeShorter_45 : decode cX9_takeShorter 45 = .ok (.aload_n 0, 1) := by decide +kernel
theorem dX9_takeShorter_46 : decode cX9_takeShorter 46 = .ok (.getfield 28, 3) := by decide +kernel
theorem dX9_takeShorter_49 : decode cX9_takeShorter 49 = .ok (.invokevirtual 154, 3) := by decide +kernel
theorem dX9_takeShorter_52 : decode cX9_takeShorter 52 = .ok (.ireturn, 1) := by decide +kernel
theorem dX9_tapeHas_0 : decode cX9_tapeHas 0 = .ok (.iload_n 1, 1) := by decide +kernel
theorem dX9_tapeHas_1 : decode cX9_tapeHas 1 = .ok (.ifCond .lt 18, 3) := by decide +kernel
theorem dX9_tapeHas_4 : decode cX9_tapeHas 4 = .ok (.iload_n 1, 1) := by decide +kernel
theorem dX9_tapeHas_5 : decode cX9_tapeHas 5 = .ok (.aload_n 0, 1) := by decide +kernel
theorem dX9_tapeHas_6 : decode cX9_tapeHas 6 = .ok (.getfield 14, 3) := by decide +kernel
theorem dX9_tapeHas_9 : decode cX9_tapeHas 9 = .ok (.invokevirtual 68, 3) := by decide +kernel
theorem dX9_tapeHas_12 : decode cX9_tapeHas 12 = .ok (.if_icmp .gt 7, 3) := by decide +kernel
theorem dX9_tapeHas_15 : decode cX9_tapeHas 15 = .ok (.iconst 1, 1) := by decide +kernel
theorem dX9_tapeHas_16 : decode cX9_tapeHas 16 = .ok (.goto 4, 3) := by decide +kernel
theorem dX9_tapeHas_19 : decode cX9_tapeHas 19 = .ok (.iconst 0, 1) := by decide +kernel
theorem dX9_tapeHas_20 : decode cX9_tapeHas 20 = .ok (.ireturn, 1) := by decide +kernel
theorem dX9_noteReading_0 : decode cX9_noteReading 0 = .ok (.aload_n 0, 1) := by decide +kernel
theorem dX9_noteReading_1 : decode cX9_noteReading 1 = .ok (.aload_n 0, 1) := by decide +kernel
theorem dX9_noteReading_2 : decode cX9_noteReading 2 = .ok (.getfield 39, 3) := by decide +kernel
theorem dX9_noteReading_5 : decode cX9_noteReading 5 = .ok (.invokevirtual 205, 3) := by decide +kernel
theorem dX9_noteReading_8 : decode cX9_noteReading 8 = .ok (.putfield 61, 3) := by decide +kernel
theorem dX9_noteReading_11 : decode cX9_noteReading 11 = .ok (.aload_n 0, 1) := by decide +kernel
theorem dX9_noteReading_12 : decode cX9_noteReading 12 = .ok (.aload_n 0, 1) := by decide +kernel
theorem dX9_noteReading_13 : decode cX9_noteReading 13 = .ok (.getfield 39, 3) := by decide +kernel
theorem dX9_noteReading_16 : decode cX9_noteReading 16 = .ok (.invokevirtual 208, 3) := by decide +kernel
theorem dX9_noteReading_19 : decode cX9_noteReading 19 = .ok (.putfield 65, 3) := by decide +kernel
theorem dX9_noteReading_22 : decode cX9_noteReading 22 = .ok (.aload_n 0, 1) := by decide +kernel
theorem dX9_noteReading_23 : decode cX9_noteReading 23 = .ok (.getfield 14, 3) := by decide +kernel
theorem dX9_noteReading_26 : decode cX9_noteReading 26 = .ok (.invokevirtual 187, 3) := by decide +kernel
theorem dX9_noteReading_29 : decode cX9_noteReading 29 = .ok (.return_, 1) := by decide +kernel
theorem dX9_takeSpareAsProof_0 : decode cX9_takeSpareAsProof 0 = .ok (.aload_n 0, 1) := by decide +kernel
theorem dX9_takeSpareAsProof_1 : decode cX9_takeSpareAsProof 1 = .ok (.getfield 28, 3) := by decide +kernel
theorem dX9_takeSpareAsProof_4 : decode cX9_takeSpareAsProof 4 = .ok (.astore_n 1, 1) := by decide +kernel
theorem dX9_takeSpareAsProof_5 : decode cX9_takeSpareAsProof 5 = .ok (.aload_n 0, 1) := by decide +kernel
theorem dX9_takeSpareAsProof_6 : decode cX9_takeSpareAsProof 6 = .ok (.aload_n 0, 1) := by decide +kernel
theorem dX9_takeSpareAsProof_7 : decode cX9_takeSpareAsProof 7 = .ok (.getfield 31, 3) := by decide +kernel
theorem dX9_takeSpareAsProof_10 : decode cX9_takeSpareAsProof 10 = .ok (.putfield 28, 3) := by decide +kernel
theorem dX9_takeSpareAsProof_13 : decode cX9_takeSpareAsProof 13 = .ok (.aload_n 0, 1) := by decide +kernel
theorem dX9_takeSpareAsProof_14 : decode cX9_takeSpareAsProof 14 = .ok (.aload_n 1, 1) := by decide +kernel
theorem dX9_takeSpareAsProof_15 : decode cX9_takeSpareAsProof 15 = .ok (.putfield 31, 3) := by decide +kernel
theorem dX9_takeSpareAsProof_18 : decode cX9_takeSpareAsProof 18 = .ok (.aload_n 0, 1) := by decide +kernel
theorem dX9_takeSpareAsProof_19 : decode cX9_takeSpareAsProof 19 = .ok (.invokevirtual 96, 3) := by decide +kernel
theorem dX9_takeSpareAsProof_22 : decode cX9_takeSpareAsProof 22 = .ok (.return_, 1) := by decide +kernel
theorem dX9_startAnew_0 : decode cX9_startAnew 0 = .ok (.aload_n 0, 1) := by decide +kernel
theorem dX9_startAnew_1 : decode cX9_startAnew 1 = .ok (.getfield 48, 3) := by decide +kernel
theorem dX9_startAnew_4 : decode cX9_startAnew 4 = .ok (.aload_n 0, 1) := by decide +kernel
theorem dX9_startAnew_5 : decode cX9_startAnew 5 = .ok (.getfield 24, 3) := by decide +kernel
theorem dX9_startAnew_8 : decode cX9_startAnew 8 = .ok (.aload_n 0, 1) := by decide +kernel
theorem dX9_startAnew_9 : decode cX9_startAnew 9 = .ok (.getfield 28, 3) := by decide +kernel
theorem dX9_startAnew_12 : decode cX9_startAnew 12 = .ok (.invokevirtual 211, 3) := by decide +kernel
theorem dX9_startAnew_15 : decode cX9_startAnew 15 = .ok (.aload_n 0, 1) := by decide +kernel
theorem dX9_startAnew_16 : decode cX9_startAnew 16 = .ok (.getfield 57, 3) := by decide +kernel
theorem dX9_startAnew_19 : decode cX9_startAnew 19 = .ok (.invokevirtual 215, 3) := by decide +kernel
theorem dX9_startAnew_22 : decode cX9_startAnew 22 = .ok (.return_, 1) := by decide +kernel
theorem dX9_writeStep_0 : decode cX9_writeStep 0 = .ok (.aload_n 0, 1) := by decide +kernel
theorem dX9_writeStep_1 : decode cX9_writeStep 1 = .ok (.getfield 28, 3) := by decide +kernel
theorem dX9_writeStep_4 : decode cX9_writeStep 4 = .ok (.iload_n 1, 1) := by decide +kernel
theorem dX9_writeStep_5 : decode cX9_writeStep 5 = .ok (.invokevirtual 176, 3) := by decide +kernel
theorem dX9_writeStep_8 : decode cX9_writeStep 8 = .ok (.ifCond .eq 21, 3) := by decide +kernel
theorem dX9_writeStep_11 : decode cX9_writeStep 11 = .ok (.aload_n 0, 1) := by decide +kernel
theorem dX9_writeStep_12 : decode cX9_writeStep 12 = .ok (.getfield 18, 3) := by decide +kernel
theorem dX9_writeStep_15 : decode cX9_writeStep 15 = .ok (.bipush 100, 2) := by decide +kernel
theorem dX9_writeStep_17 : decode cX9_writeStep 17 = .ok (.invokevirtual 218, 3) := by decide +kernel
theorem dX9_writeStep_20 : decode cX9_writeStep 20 = .ok (.aload_n 0, 1) := by decide +kernel
theorem dX9_writeStep_21 : decode cX9_writeStep 21 = .ok (.getfield 18, 3) := by decide +kernel
theorem dX9_writeStep_24 : decode cX9_writeStep 24 = .ok (.bipush 32, 2) := by decide +kernel
theorem dX9_writeStep_26 : decode cX9_writeStep 26 = .ok (.invokevirtual 218, 3) := by decide +kernel
theorem dX9_writeStep_29 : decode cX9_writeStep 29 = .ok (.aload_n 0, 1) := by decide +kernel
theorem dX9_writeStep_30 : decode cX9_writeStep 30 = .ok (.getfield 28, 3) := by decide +kernel
theorem dX9_writeStep_33 : decode cX9_writeStep 33 = .ok (.iload_n 1, 1) := by decide +kernel
theorem dX9_writeStep_34 : decode cX9_writeStep 34 = .ok (.invokevirtual 182, 3) := by decide +kernel
theorem dX9_writeStep_37 : decode cX9_writeStep 37 = .ok (.istore_n 2, 1) := by decide +kernel
theorem dX9_writeStep_38 : decode cX9_writeStep 38 = .ok (.iconst 0, 1) := by decide +kernel
theorem dX9_writeStep_39 : decode cX9_writeStep 39 = .ok (.istore_n 3, 1) := by decide +kernel
theorem dX9_writeStep_40 : decode cX9_writeStep 40 = .ok (.iload_n 3, 1) := by decide +kernel
theorem dX9_writeStep_41 : decode cX9_writeStep 41 = .ok (.iload_n 2, 1) := by decide +kernel
theorem dX9_writeStep_42 : decode cX9_writeStep 42 = .ok (.if_icmp .ge 34, 3) := by decide +kernel
theorem dX9_writeStep_45 : decode cX9_writeStep 45 = .ok (.aload_n 0, 1) := by decide +kernel
theorem dX9_writeStep_46 : decode cX9_writeStep 46 = .ok (.getfield 18, 3) := by decide +kernel
theorem dX9_writeStep_49 : decode cX9_writeStep 49 = .ok (.aload_n 0, 1) := by decide +kernel
theorem dX9_writeStep_50 : decode cX9_writeStep 50 = .ok (.getfield 28, 3) := by decide +kernel
theorem dX9_writeStep_53 : decode cX9_writeStep 53 = .ok (.iload_n 1, 1) := by decide +kernel
theorem dX9_writeStep_54 : decode cX9_writeStep 54 = .ok (.iload_n 3, 1) := by decide +kernel
theorem dX9_writeStep_55 : decode cX9_writeStep 55 = .ok (.invokevirtual 183, 3) := by decide +kernel
theorem dX9_writeStep_58 : decode cX9_writeStep 58 = .ok (.invokevirtual 221, 3) := by decide +kernel
theorem dX9_writeStep_61 : decode cX9_writeStep 61 = .ok (.aload_n 0, 1) := by decide +kernel
theorem dX9_writeStep_62 : decode cX9_writeStep 62 = .ok (.getfield 18, 3) := by decide +kernel
theorem dX9_writeStep_65 : decode cX9_writeStep 65 = .ok (.bipush 32, 2) := by decide +kernel
theorem dX9_writeStep_67 : decode cX9_writeStep 67 = .ok (.invokevirtual 218, 3) := by decide +kernel
theorem dX9_writeStep_70 : decode cX9_writeStep 70 = .ok (.iinc 3 1, 3) := by decide +kernel
theorem dX9_writeStep_73 : decode cX9_writeStep 73 = .ok (.goto (-33), 3) := by decide +kernel
theorem dX9_writeStep_76 : decode cX9_writeStep 76 = .ok (.aload_n 0, 1) := by decide +kernel
theorem dX9_writeStep_77 : decode cX9_writeStep 77 = .ok (.getfield 18, 3) := by decide +kernel
theorem dX9_writeStep_80 : decode cX9_writeStep 80 = .ok (.bipush 48, 2) := by decide +kernel
theorem dX9_writeStep_82 : decode cX9_writeStep 82 = .ok (.invokevirtual 218, 3) := by decide +kernel
theorem dX9_writeStep_85 : decode cX9_writeStep 85 = .ok (.aload_n 0, 1) := by decide +kernel
theorem dX9_writeStep_86 : decode cX9_writeStep 86 = .ok (.getfield 18, 3) := by decide +kernel
theorem dX9_writeStep_89 : decode cX9_writeStep 89 = .ok (.bipush 10, 2) := by decide +kernel
theorem dX9_writeStep_91 : decode cX9_writeStep 91 = .ok (.invokevirtual 218, 3) := by decide +kernel
theorem dX9_writeStep_94 : decode cX9_writeStep 94 = .ok (.return_, 1) := by decide +kernel
theorem dX9_codeOf_0 : decode cX9_codeOf 0 = .ok (.iload_n 0, 1) := by decide +kernel
theorem dX9_codeOf_1 : decode cX9_codeOf 1 = .ok (.ifCond .lt 9, 3) := by decide +kernel
theorem dX9_codeOf_4 : decode cX9_codeOf 4 = .ok (.iconst 2, 1) := by decide +kernel
theorem dX9_codeOf_5 : decode cX9_codeOf 5 = .ok (.iload_n 0, 1) := by decide +kernel
theorem dX9_codeOf_6 : decode cX9_codeOf 6 = .ok (.imul, 1) := by decide +kernel
theorem dX9_codeOf_7 : decode cX9_codeOf 7 = .ok (.goto 8, 3) := by decide +kernel
theorem dX9_codeOf_10 : decode cX9_codeOf 10 = .ok (.iconst 1, 1) := by decide +kernel
theorem dX9_codeOf_11 : decode cX9_codeOf 11 = .ok (.iconst 2, 1) := by decide +kernel
theorem dX9_codeOf_12 : decode cX9_codeOf 12 = .ok (.iload_n 0, 1) := by decide +kernel
theorem dX9_codeOf_13 : decode cX9_codeOf 13 = .ok (.imul, 1) := by decide +kernel
theorem dX9_codeOf_14 : decode cX9_codeOf 14 = .ok (.isub, 1) := by decide +kernel
theorem dX9_codeOf_15 : decode cX9_codeOf 15 = .ok (.ireturn, 1) := by decide +kernel
