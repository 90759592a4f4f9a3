theorem d_Rc_schedule_25 : decode b_Rc_schedule 25 = .ok (.iastore, 1) := by decide +kernel
theorem d_Rc_schedule_26 : decode b_Rc_schedule 26 = .ok (.iinc 5 1, 3) := by decide +kernel
theorem d_Rc_schedule_29 : decode b_Rc_schedule 29 = .ok (.goto (-26), 3) := by decide +kernel
theorem d_Rc_schedule_32 : decode b_Rc_schedule 32 = .ok (.aload_n 0, 1) := by decide +kernel
theorem d_Rc_schedule_33 : decode b_Rc_schedule 33 = .ok (.getfield 23, 3) := by decide +kernel
theorem d_Rc_schedule_36 : decode b_Rc_schedule 36 = .ok (.iconst 0, 1) := by decide +kernel
theorem d_Rc_schedule_37 : decode b_Rc_schedule 37 = .ok (.ldc 26, 2) := by decide +kernel
theorem d_Rc_schedule_39 : decode b_Rc_schedule 39 = .ok (.iastore, 1) := by decide +kernel
theorem d_Rc_schedule_40 : decode b_Rc_schedule 40 = .ok (.iconst 1, 1) := by decide +kernel
theorem d_Rc_schedule_41 : decode b_Rc_schedule 41 = .ok (.istore 5, 2) := by decide +kernel
theorem d_Rc_schedule_43 : decode b_Rc_schedule 43 = .ok (.iload 5, 2) := by decide +kernel
theorem d_Rc_schedule_45 : decode b_Rc_schedule 45 = .ok (.bipush 26, 2) := by decide +kernel
theorem d_Rc_schedule_47 : decode b_Rc_schedule 47 = .ok (.if_icmp .ge 28, 3) := by decide +kernel
theorem d_Rc_schedule_50 : decode b_Rc_schedule 50 = .ok (.aload_n 0, 1) := by decide +kernel
theorem d_Rc_schedule_51 : decode b_Rc_schedule 51 = .ok (.getfield 23, 3) := by decide +kernel
theorem d_Rc_schedule_54 : decode b_Rc_schedule 54 = .ok (.iload 5, 2) := by decide +kernel
theorem d_Rc_schedule_56 : decode b_Rc_schedule 56 = .ok (.aload_n 0, 1) := by decide +kernel
theorem d_Rc_schedule_57 : decode b_Rc_schedule 57 = .ok (.getfield 23, 3) := by decide +kernel
theorem d_Rc_schedule_60 : decode b_Rc_schedule 60 = .ok (.iload 5, 2) := by decide +kernel
theorem d_Rc_schedule_62 : decode b_Rc_schedule 62 = .ok (.iconst 1, 1) := by decide +kernel
theorem d_Rc_schedule_63 : decode b_Rc_schedule 63 = .ok (.isub, 1) := by decide +kernel
theorem d_Rc_schedule_64 : decode b_Rc_schedule 64 = .ok (.iaload, 1) := by decide +kernel
theorem d_Rc_schedule_65 : decode b_Rc_schedule 65 = .ok (.ldc 27, 2) := by decide +kernel
theorem d_Rc_schedule_67 : decode b_Rc_schedule 67 = .ok (.iadd, 1) := by decide +kernel
theorem d_Rc_schedule_68 : decode b_Rc_schedule 68 = .ok (.iastore, 1) := by decide +kernel
theorem d_Rc_schedule_69 : decode b_Rc_schedule 69 = .ok (.iinc 5 1, 3) := by decide +kernel
theorem d_Rc_schedule_72 : decode b_Rc_schedule 72 = .ok (.goto (-29), 3) := by decide +kernel
theorem d_Rc_schedule_75 : decode b_Rc_schedule 75 = .ok (.aload_n 0, 1) := by decide +kernel
theorem d_Rc_schedule_76 : decode b_Rc_schedule 76 = .ok (.invokevirtual 28, 3) := by decide +kernel
theorem d_Rc_schedule_79 : decode b_Rc_schedule 79 = .ok (.return_, 1) := by decide +kernel
theorem d_Ru_keyQuarter_0 : decode b_Ru_keyQuarter 0 = .ok (.iload 4, 2) := by decide +kernel
theorem d_Ru_keyQuarter_2 : decode b_Ru_keyQuarter 2 = .ok (.iconst 2, 1) := by decide +kernel
theorem d_Ru_keyQuarter_3 : decode b_Ru_keyQuarter 3 = .ok (.if_icmp .ge 7, 3) := by decide +kernel
theorem d_Ru_keyQuarter_6 : decode b_Ru_keyQuarter 6 = .ok (.lload_n 0, 1) := by decide +kernel
theorem d_Ru_keyQuarter_7 : decode b_Ru_keyQuarter 7 = .ok (.goto 4, 3) := by decide +kernel
theorem d_Ru_keyQuarter_10 : decode b_Ru_keyQuarter 10 = .ok (.lload_n 2, 1) := by decide +kernel
theorem d_Ru_keyQuarter_11 : decode b_Ru_keyQuarter 11 = .ok (.lstore 5, 2) := by decide +kernel
theorem d_Ru_keyQuarter_13 : decode b_Ru_keyQuarter 13 = .ok (.iload 4, 2) := by decide +kernel
theorem d_Ru_keyQuarter_15 : decode b_Ru_keyQuarter 15 = .ok (.iconst 2, 1) := by decide +kernel
theorem d_Ru_keyQuarter_16 : decode b_Ru_keyQuarter 16 = .ok (.irem, 1) := by decide +kernel
theorem d_Ru_keyQuarter_17 : decode b_Ru_keyQuarter 17 = .ok (.ifCond .ne 11, 3) := by decide +kernel
theorem d_Ru_keyQuarter_20 : decode b_Ru_keyQuarter 20 = .ok (.lload 5, 2) := by decide +kernel
theorem d_Ru_keyQuarter_22 : decode b_Ru_keyQuarter 22 = .ok (.invokestatic 128, 3) := by decide +kernel
theorem d_Ru_keyQuarter_25 : decode b_Ru_keyQuarter 25 = .ok (.goto 8, 3) := by decide +kernel
theorem d_Ru_keyQuarter_28 : decode b_Ru_keyQuarter 28 = .ok (.lload 5, 2) := by decide +kernel
theorem d_Ru_keyQuarter_30 : decode b_Ru_keyQuarter 30 = .ok (.invokestatic 132, 3) := by decide +kernel
theorem d_Ru_keyQuarter_33 : decode b_Ru_keyQuarter 33 = .ok (.ireturn, 1) := by decide +kernel
theorem d_Ru_firstHalf_0 : decode b_Ru_firstHalf 0 = .ok (.lload_n 0, 1) := by decide +kernel
theorem d_Ru_firstHalf_1 : decode b_Ru_firstHalf 1 = .ok (.bipush 32, 2) := by decide +kernel
theorem d_Ru_firstHalf_3 : decode b_Ru_firstHalf 3 = .ok (.lushr, 1) := by decide +kernel
theorem d_Ru_firstHalf_4 : decode b_Ru_firstHalf 4 = .ok (.l2i, 1) := by decide +kernel
theorem d_Ru_firstHalf_5 : decode b_Ru_firstHalf 5 = .ok (.ireturn, 1) := by decide +kernel
theorem d_Ru_secondHalf_0 : decode b_Ru_secondHalf 0 = .ok (.lload_n 0, 1) := by decide +kernel
theorem d_Ru_secondHalf_1 : decode b_Ru_secondHalf 1 = .ok (.l2i, 1) := by decide +kernel
theorem d_Ru_secondHalf_2 : decode b_Ru_secondHalf 2 = .ok (.ireturn, 1) := by decide +kernel
theorem d_Ru_bytesReversed_0 : decode b_Ru_bytesReversed 0 = .ok (.iload_n 0, 1) := by decide +kernel
theorem d_Ru_bytesReversed_1 : decode b_Ru_bytesReversed 1 = .ok (.bipush 24, 2) := by decide +kernel
theorem d_Ru_bytesReversed_3 : decode b_Ru_bytesReversed 3 = .ok (.ishl, 1) := by decide +kernel
theorem d_Ru_bytesReversed_4 : decode b_Ru_bytesReversed 4 = .ok (.iload_n 0, 1) := by decide +kernel
theorem d_Ru_bytesReversed_5 : decode b_Ru_bytesReversed 5 = .ok (.ldc 125, 2) := by decide +kernel
theorem d_Ru_bytesReversed_7 : decode b_Ru_bytesReversed 7 = .ok (.iand, 1) := by decide +kernel
theorem d_Ru_bytesReversed_8 : decode b_Ru_bytesReversed 8 = .ok (.bipush 8, 2) := by decide +kernel
theorem d_Ru_bytesReversed_10 : decode b_Ru_bytesReversed 10 = .ok (.ishl, 1) := by decide +kernel
theorem d_Ru_bytesReversed_11 : decode b_Ru_bytesReversed 11 = .ok (.ior, 1) := by decide +kernel
theorem d_Ru_bytesReversed_12 : decode b_Ru_bytesReversed 12 = .ok (.iload_n 0, 1) := by decide +kernel
theorem d_Ru_bytesReversed_13 : decode b_Ru_bytesReversed 13 = .ok (.bipush 8, 2) := by decide +kernel
theorem d_Ru_bytesReversed_15 : decode b_Ru_bytesReversed 15 = .ok (.iushr, 1) := by decide +kernel
theorem d_Ru_bytesReversed_16 : decode b_Ru_bytesReversed 16 = .ok (.ldc 125, 2) := by decide +kernel
theorem d_Ru_bytesReversed_18 : decode b_Ru_bytesReversed 18 = .ok (.iand, 1) := by decide +kernel
theorem d_Ru_bytesReversed_19 : decode b_Ru_bytesReversed 19 = .ok (.ior, 1) := by decide +kernel
theorem d_Ru_bytesReversed_20 : decode b_Ru_bytesReversed 20 = .ok (.iload_n 0, 1) := by decide +kernel
theorem d_Ru_bytesReversed_21 : decode b_Ru_bytesReversed 21 = .ok (.bipush 24, 2) := by decide +kernel
theorem d_Ru_bytesReversed_23 : decode b_Ru_bytesReversed 23 = .ok (.iushr, 1) := by decide +kernel
theorem d_Ru_bytesReversed_24 : decode b_Ru_bytesReversed 24 = .ok (.ior, 1) := by decide +kernel
theorem d_Ru_bytesReversed_25 : decode b_Ru_bytesReversed 25 = .ok (.ireturn, 1) := by decide +kernel
theorem d_Rc_mixKeyIntoWords_0 : decode b_Rc_mixKeyIntoWords 0 = .ok (.iconst 0, 1) := by decide +kernel
theorem d_Rc_mixKeyIntoWords_1 : decode b_Rc_mixKeyIntoWords 1 = .ok (.istore_n 1, 1) := by decide +kernel
theorem d_Rc_mixKeyIntoWords_2 : decode b_Rc_mixKeyIntoWords 2 = .ok (.iconst 0, 1) := by decide +kernel
theorem d_Rc_mixKeyIntoWords_3 : decode b_Rc_mixKeyIntoWords 3 = .ok (.istore_n 2, 1) := by decide +kernel
theorem d_Rc_mixKeyIntoWords_4 : decode b_Rc_mixKeyIntoWords 4 = .ok (.iconst 0, 1) := by decide +kernel
theorem d_Rc_mixKeyIntoWords_5 : decode b_Rc_mixKeyIntoWords 5 = .ok (.istore_n 3, 1) := by decide +kernel
theorem d_Rc_mixKeyIntoWords_6 : decode b_Rc_mixKeyIntoWords 6 = .ok (.iload_n 3, 1) := by decide +kernel
theorem d_Rc_mixKeyIntoWords_7 : decode b_Rc_mixKeyIntoWords 7 = .ok (.bipush 78, 2) := by decide +kernel
theorem d_Rc_mixKeyIntoWords_9 : decode b_Rc_mixKeyIntoWords 9 = .ok (.if_icmp .ge 70, 3) := by decide +kernel
theorem d_Rc_mixKeyIntoWords_12 : decode b_Rc_mixKeyIntoWords 12 = .ok (.iload_n 3, 1) := by decide +kernel
theorem d_Rc_mixKeyIntoWords_13 : decode b_Rc_mixKeyIntoWords 13 = .ok (.bipush 26, 2) := by decide +kernel
theorem d_Rc_mixKeyIntoWords_15 : decode b_Rc_mixKeyIntoWords 15 = .ok (.irem, 1) := by decide +kernel
theorem d_Rc_mixKeyIntoWords_16 : decode b_Rc_mixKeyIntoWords 16 = .ok (.istore 4, 2) := by decide +kernel
theorem d_Rc_mixKeyIntoWords_18 : decode b_Rc_mixKeyIntoWords 18 = .ok (.iload_n 3, 1) := by decide +kernel
theorem d_Rc_mixKeyIntoWords_19 : decode b_Rc_mixKeyIntoWords 19 = .ok (.iconst 4, 1) := by decide +kernel
theorem d_Rc_mixKeyIntoWords_20 : decode b_Rc_mixKeyIntoWords 20 = .ok (.irem, 1) := by decide +kernel
theorem d_Rc_mixKeyIntoWords_21 : decode b_Rc_mixKeyIntoWords 21 = .ok (.istore 5, 2) := by decide +kernel
theorem d_Rc_mixKeyIntoWords_23 : decode b_Rc_mixKeyIntoWords 23 = .ok (.aload_n 0, 1) := by decide +kernel
theorem d_Rc_mixKeyIntoWords_24 : decode b_Rc_mixKeyIntoWords 24 = .ok (.getfield 23, 3) := by decide +kernel
theorem d_Rc_mixKeyIntoWords_27 : decode b_Rc_mixKeyIntoWords 27 = .ok (.iload 4, 2) := by decide +kernel
theorem d_Rc_mixKeyIntoWords_29 : decode b_Rc_mixKeyIntoWords 29 = .ok (.iaload, 1) := by decide +kernel
theorem d_Rc_mixKeyIntoWords_30 : decode b_Rc_mixKeyIntoWords 30 = .ok (.iload_n 1, 1) := by decide +kernel
theorem d_Rc_mixKeyIntoWords_31 : decode b_Rc_mixKeyIntoWords 31 = .ok (.iadd, 1) := by decide +kernel
theorem d_Rc_mixKeyIntoWords_32 : decode b_Rc_mixKeyIntoWords 32 = .ok (.iload_n 2, 1) := by decide +kernel
theorem d_Rc_mixKeyIntoWords_33 : decode b_Rc_mixKeyIntoWords 33 = .ok (.iadd, 1) := by decide +kernel
theorem d_Rc_mixKeyIntoWords_34 : decode b_Rc_mixKeyIntoWords 34 = .ok (.iconst 3, 1) := by decide +kernel
theorem d_Rc_mixKeyIntoWords_35 : decode b_Rc_mixKeyIntoWords 35 = .ok (.invokestatic 32, 3) := by decide +kernel
theorem d_Rc_mixKeyIntoWords_38 : decode b_Rc_mixKeyIntoWords 38 = .ok (.istore_n 1, 1) := by decide +kernel
theorem d_Rc_mixKeyIntoWords_39 : decode b_Rc_mixKeyIntoWords 39 = .ok (.aload_n 0, 1) := by decide +kernel
theorem d_Rc_mixKeyIntoWords_40 : decode b_Rc_mixKeyIntoWords 40 = .ok (.getfield 23, 3) := by decide +kernel
theorem d_Rc_mixKeyIntoWords_43 : decode b_Rc_mixKeyIntoWords 43 = .ok (.iload 4, 2) := by decide +kernel
theorem d_Rc_mixKeyIntoWords_45 : decode b_Rc_mixKeyIntoWords 45 = .ok (.iload_n 1, 1) := by decide +kernel
theorem d_Rc_mixKeyIntoWords_46 : decode b_Rc_mixKeyIntoWords 46 = .ok (.iastore, 1) := by decide +kernel
theorem d_Rc_mixKeyIntoWords_47 : decode b_Rc_mixKeyIntoWords 47 = .ok (.aload_n 0, 1) := by decide +kernel
theorem d_Rc_mixKeyIntoWords_48 : decode b_Rc_mixKeyIntoWords 48 = .ok (.getfield 11, 3) := by decide +kernel
theorem d_Rc_mixKeyIntoWords_51 : decode b_Rc_mixKeyIntoWords 51 = .ok (.iload 5, 2) := by decide +kernel
theorem d_Rc_mixKeyIntoWords_53 : decode b_Rc_mixKeyIntoWords 53 = .ok (.iaload, 1) := by decide +kernel
theorem d_Rc_mixKeyIntoWords_54 : decode b_Rc_mixKeyIntoWords 54 = .ok (.iload_n 1, 1) := by decide +kernel
theorem d_Rc_mixKeyIntoWords_55 : decode b_Rc_mixKeyIntoWords 55 = .ok (.iadd, 1) := by decide +kernel
theorem d_Rc_mixKeyIntoWords_56 : decode b_Rc_mixKeyIntoWords 56 = .ok (.iload_n 2, 1) := by decide +kernel
theorem d_Rc_mixKeyIntoWords_57 : decode b_Rc_mixKeyIntoWords 57 = .ok (.iadd, 1) := by decide +kernel
theorem d_Rc_mixKeyIntoWords_58 : decode b_Rc_mixKeyIntoWords 58 = .ok (.iload_n 1, 1) := by decide +kernel
theorem d_Rc_mixKeyIntoWords_59 : decode b_Rc_mixKeyIntoWords 59 = .ok (.iload_n 2, 1) := by decide +kernel
theorem d_Rc_mixKeyIntoWords_60 : decode b_Rc_mixKeyIntoWords 60 = .ok (.iadd, 1) := by decide +kernel
theorem d_Rc_mixKeyIntoWords_61 : decode b_Rc_mixKeyIntoWords 61 = .ok (.invokestatic 32, 3) := by decide +kernel
theorem d_Rc_mixKeyIntoWords_64 : decode b_Rc_mixKeyIntoWords 64 = .ok (.istore_n 2, 1) := by decide +kernel
theorem d_Rc_mixKeyIntoWords_65 : decode b_Rc_mixKeyIntoWords 65 = .ok (.aload_n 0, 1) := by decide +kernel
theorem d_Rc_mixKeyIntoWords_66 : decode b_Rc_mixKeyIntoWords 66 = .ok (.getfield 11, 3) := by decide +kernel
theorem d_Rc_mixKeyIntoWords_69 : decode b_Rc_mixKeyIntoWords 69 = .ok (.iload 5, 2) := by decide +kernel
theorem d_Rc_mixKeyIntoWords_71 : decode b_Rc_mixKeyIntoWords 71 = .ok (.iload_n 2, 1) := by decide +kernel
theorem d_Rc_mixKeyIntoWords_72 : decode b_Rc_mixKeyIntoWords 72 = .ok (.iastore, 1) := by decide +kernel
theorem d_Rc_mixKeyIntoWords_73 : decode b_Rc_mixKeyIntoWords 73 = .ok (.iinc 3 1, 3) := by decide +kernel
theorem d_Rc_mixKeyIntoWords_76 : decode b_Rc_mixKeyIntoWords 76 = .ok (.goto (-70), 3) := by decide +kernel
theorem d_Rc_mixKeyIntoWords_79 : decode b_Rc_mixKeyIntoWords 79 = .ok (.return_, 1) := by decide +kernel
theorem d_Ru_turnLeft_0 : decode b_Ru_turnLeft 0 = .ok (.iload_n 0, 1) := by decide +kernel
theorem d_Ru_turnLeft_1 : decode b_Ru_turnLeft 1 = .ok (.iload_n 1, 1) := by decide +kernel
theorem d_Ru_turnLeft_2 : decode b_Ru_turnLeft 2 = .ok (.ishl, 1) := by decide +kernel
theorem d_Ru_turnLeft_3 : decode b_Ru_turnLeft 3 = .ok (.iload_n 0, 1) := by decide +kernel
theorem d_Ru_turnLeft_4 : decode b_Ru_turnLeft 4 = .ok (.iload_n 1, 1) := by decide +kernel
theorem d_Ru_turnLeft_5 : decode b_Ru_turnLeft 5 = .ok (.ineg, 1) := by decide +kernel
theorem d_Ru_turnLeft_6 : decode b_Ru_turnLeft 6 = .ok (.iushr, 1) := by decide +kernel
theorem d_Ru_turnLeft_7 : decode b_Ru_turnLeft 7 = .ok (.ior, 1) := by decide +kernel
theorem d_Ru_turnLeft_8 : decode b_Ru_turnLeft 8 = .ok (.ireturn, 1) := by decide +kernel
theorem d_Si_schedule_0 : decode b_Si_schedule 0 = .ok (.iconst 0, 1) := by decide +kernel
theorem d_Si_schedule_1 : decode b_Si_schedule 1 = .ok (.istore 5, 2) := by decide +kernel
theorem d_Si_schedule_3 : decode b_Si_schedule 3 = .ok (.iload 5, 2) := by decide +kernel
theorem d_Si_schedule_5 : decode b_Si_schedule 5 = .ok (.iconst 4, 1) := by decide +kernel
theorem d_Si_schedule_6 : decode b_Si_schedule 6 = .ok (.if_icmp .ge 25, 3) := by decide +kernel
theorem d_Si_schedule_9 : decode b_Si_schedule 9 = .ok (.aload_n 0, 1) := by decide +kernel
theorem d_Si_schedule_10 : decode b_Si_schedule 10 = .ok (.getfield 9, 3) := by decide +kernel
theorem d_Si_schedule_13 : decode b_Si_schedule 13 = .ok (.iconst 3, 1) := by decide +kernel
theorem d_Si_schedule_14 : decode b_Si_schedule 14 = .ok (.iload 5, 2) := by decide +kernel
theorem d_Si_schedule_16 : decode b_Si_schedule 16 = .ok (.isub, 1) := by decide +kernel
theorem d_Si_schedule_17 : decode b_Si_schedule 17 = .ok (.lload_n 1, 1) := by decide +kernel
theorem d_Si_schedule_18 : decode b_Si_schedule 18 = .ok (.lload_n 3, 1) := by decide +kernel
theorem d_Si_schedule_19 : decode b_Si_schedule 19 = .ok (.iload 5, 2) := by decide +kernel
theorem d_Si_schedule_21 : decode b_Si_schedule 21 = .ok (.invokestatic 13, 3) := by decide +kernel
theorem d_Si_schedule_24 : decode b_Si_schedule 24 = .ok (.iastore, 1) := by decide +kernel
theorem d_Si_schedule_25 : decode b_Si_schedule 25 = .ok (.iinc 5 1, 3) := by decide +kernel
theorem d_Si_schedule_28 : decode b_Si_schedule 28 = .ok (.goto (-25), 3) := by decide +kernel
theorem d_Si_schedule_31 : decode b_Si_schedule 31 = .ok (.iconst 4, 1) := by decide +kernel
theorem d_Si_schedule_32 : decode b_Si_schedule 32 = .ok (.istore 5, 2) := by decide +kernel
theorem d_Si_schedule_34 : decode b_Si_schedule 34 = .ok (.iload 5, 2) := by decide +kernel
theorem d_Si_schedule_36 : decode b_Si_schedule 36 = .ok (.bipush 44, 2) := by decide +kernel
theorem d_Si_schedule_38 : decode b_Si_schedule 38 = .ok (.if_icmp .ge 76, 3) := by decide +kernel
theorem d_Si_schedule_41 : decode b_Si_schedule 41 = .ok (.aload_n 0, 1) := by decide +kernel
theorem d_Si_schedule_42 : decode b_Si_schedule 42 = .ok (.getfield 9, 3) := by decide +kernel
theorem d_Si_schedule_45 : decode b_Si_schedule 45 = .ok (.iload 5, 2) := by decide +kernel
theorem d_Si_schedule_47 : decode b_Si_schedule 47 = .ok (.iconst 1, 1) := by decide +kernel
theorem d_Si_schedule_48 : decode b_Si_schedule 48 = .ok (.isub, 1) := by decide +kernel
theorem d_Si_schedule_49 : decode b_Si_schedule 49 = .ok (.iaload, 1) := by decide +kernel
theorem d_Si_schedule_50 : decode b_Si_schedule 50 = .ok (.iconst 3, 1) := by decide +kernel
theorem d_Si_schedule_51 : decode b_Si_schedule 51 = .ok (.invokestatic 19, 3) := by decide +kernel
theorem d_Si_schedule_54 : decode b_Si_schedule 54 = .ok (.aload_n 0, 1) := by decide +kernel
theorem d_Si_schedule_55 : decode b_Si_schedule 55 = .ok (.getfield 9, 3) := by decide +kernel
theorem d_Si_schedule_58 : decode b_Si_schedule 58 = .ok (.iload 5, 2) := by decide +kernel
theorem d_Si_schedule_60 : decode b_Si_schedule 60 = .ok (.iconst 3, 1) := by decide +kernel
theorem d_Si_schedule_61 : decode b_Si_schedule 61 = .ok (.isub, 1) := by decide +kernel
theorem d_Si_schedule_62 : decode b_Si_schedule 62 = .ok (.iaload, 1) := by decide +kernel
theorem d_Si_schedule_63 : decode b_Si_schedule 63 = .ok (.ixor, 1) := by decide +kernel
theorem d_Si_schedule_64 : decode b_Si_schedule 64 = .ok (.istore 6, 2) := by decide +kernel
theorem d_Si_schedule_66 : decode b_Si_schedule 66 = .ok (.iload 6, 2) := by decide +kernel
theorem d_Si_schedule_68 : decode b_Si_schedule 68 = .ok (.iload 6, 2) := by decide +kernel
theorem d_Si_schedule_70 : decode b_Si_schedule 70 = .ok (.iconst 1, 1) := by decide +kernel
theorem d_Si_schedule_71 : decode b_Si_schedule 71 = .ok (.invokestatic 19, 3) := by decide +kernel
theorem d_Si_schedule_74 : decode b_Si_schedule 74 = .ok (.ixor, 1) := by decide +kernel
theorem d_Si_schedule_75 : decode b_Si_schedule 75 = .ok (.istore 6, 2) := by decide +kernel
theorem d_Si_schedule_77 : decode b_Si_schedule 77 = .ok (.aload_n 0, 1) := by decide +kernel
theorem d_Si_schedule_78 : decode b_Si_schedule 78 = .ok (.getfield 9, 3) := by decide +kernel
theorem d_Si_schedule_81 : decode b_Si_schedule 81 = .ok (.iload 5, 2) := by decide +kernel
theorem d_Si_schedule_83 : decode b_Si_schedule 83 = .ok (.aload_n 0, 1) := by decide +kernel
theorem d_Si_schedule_84 : decode b_Si_schedule 84 = .ok (.getfield 9, 3) := by decide +kernel
theorem d_Si_schedule_87 : decode b_Si_schedule 87 = .ok (.iload 5, 2) := by decide +kernel
theorem d_Si_schedule_89 : decode b_Si_schedule 89 = .ok (.iconst 4, 1) := by decide +kernel
theorem d_Si_schedule_90 : decode b_Si_schedule 90 = .ok (.isub, 1) := by decide +kernel
theorem d_Si_schedule_91 : decode b_Si_schedule 91 = .ok (.iaload, 1) := by decide +kernel
theorem d_Si_schedule_92 : decode b_Si_schedule 92 = .ok (.iconst (-1), 1) := by decide +kernel
theorem d_Si_schedule_93 : decode b_Si_schedule 93 = .ok (.ixor, 1) := by decide +kernel
theorem d_Si_schedule_94 : decode b_Si_schedule 94 = .ok (.iload 6, 2) := by decide +kernel
theorem d_Si_schedule_96 : decode b_Si_schedule 96 = .ok (.ixor, 1) := by decide +kernel
theorem d_Si_schedule_97 : decode b_Si_schedule 97 = .ok (.iload 5, 2) := by decide +kernel
theorem d_Si_schedule_99 : decode b_Si_schedule 99 = .ok (.iconst 4, 1) := by decide +kernel
theorem d_Si_schedule_100 : decode b_Si_schedule 100 = .ok (.isub, 1) := by decide +kernel
theorem d_Si_schedule_101 : decode b_Si_schedule 101 = .ok (.invokestatic 23, 3) := by decide +kernel
theorem d_Si_schedule_104 : decode b_Si_schedule 104 = .ok (.ixor, 1) := by decide +kernel
theorem d_Si_schedule_105 : decode b_Si_schedule 105 = .ok (.iconst 3, 1) := by decide +kernel
theorem d_Si_schedule_106 : decode b_Si_schedule 106 = .ok (.ixor, 1) := by decide +kernel
theorem d_Si_schedule_107 : decode b_Si_schedule 107 = .ok (.iastore, 1) := by decide +kernel
theorem d_Si_schedule_108 : decode b_Si_schedule 108 = .ok (.iinc 5 1, 3) := by decide +kernel
theorem d_Si_schedule_111 : decode b_Si_schedule 111 = .ok (.goto (-77), 3) := by decide +kernel
theorem d_Si_schedule_114 : decode b_Si_schedule 114 = .ok (.return_, 1) := by decide +kernel
theorem d_Ru_turnRight_0 : decode b_Ru_turnRight 0 = .ok (.iload_n 0, 1) := by decide +kernel
theorem d_Ru_turnRight_1 : decode b_Ru_turnRight 1 = .ok (.iload_n 1, 1) := by decide +kernel
theorem d_Ru_turnRight_2 : decode b_Ru_turnRight 2 = .ok (.iushr, 1) := by decide +kernel
theorem d_Ru_turnRight_3 : decode b_Ru_turnRight 3 = .ok (.iload_n 0, 1) := by decide +kernel
theorem d_Ru_turnRight_4 : decode b_Ru_turnRight 4 = .ok (.iload_n 1, 1) := by decide +kernel
theorem d_Ru_turnRight_5 : decode b_Ru_turnRight 5 = .ok (.ineg, 1) := by decide +kernel
theorem d_Ru_turnRight_6 : decode b_Ru_turnRight 6 = .ok (.ishl, 1) := by decide +kernel
theorem d_Ru_turnRight_7 : decode b_Ru_turnRight 7 = .ok (.ior, 1) := by decide +kernel
theorem d_Ru_turnRight_8 : decode b_Ru_turnRight 8 = .ok (.ireturn, 1) := by decide +kernel
theorem d_Si_zBit_0 : decode b_Si_zBit 0 = .ok (.ldc2_w 27, 3) := by decide +kernel
theorem d_Si_zBit_3 : decode b_Si_zBit 3 = .ok (.bipush 61, 2) := by decide +kernel
theorem d_Si_zBit_5 : decode b_Si_zBit 5 = .ok (.iload_n 0, 1) := by decide +kernel
theorem d_Si_zBit_6 : decode b_Si_zBit 6 = .ok (.isub, 1) := by decide +kernel
theorem d_Si_zBit_7 : decode b_Si_zBit 7 = .ok (.lushr, 1) := by decide +kernel
theorem d_Si_zBit_8 : decode b_Si_zBit 8 = .ok (.l2i, 1) := by decide +kernel
theorem d_Si_zBit_9 : decode b_Si_zBit 9 = .ok (.iconst 1, 1) := by decide +kernel
theorem d_Si_zBit_10 : decode b_Si_zBit 10 = .ok (.iand, 1) := by decide +kernel
theorem d_Si_zBit_11 : decode b_Si_zBit 11 = .ok (.ireturn, 1) := by decide +kernel
theorem d_Sp_schedule_0 : decode b_Sp_schedule 0 = .ok (.iconst 0, 1) := by decide +kernel
theorem d_Sp_schedule_1 : decode b_Sp_schedule 1 = .ok (.istore 5, 2) := by decide +kernel
theorem d_Sp_schedule_3 : decode b_Sp_schedule 3 = .ok (.iload 5, 2) := by decide +kernel
theorem d_Sp_schedule_5 : decode b_Sp_schedule 5 = .ok (.iconst 3, 1) := by decide +kernel
theorem d_Sp_schedule_6 : decode b_Sp_schedule 6 = .ok (.if_icmp .ge 25, 3) := by decide +kernel
theorem d_Sp_schedule_9 : decode b_Sp_schedule 9 = .ok (.aload_n 0, 1) := by decide +kernel
theorem d_Sp_schedule_10 : decode b_Sp_schedule 10 = .ok (.getfield 9, 3) := by decide +kernel
theorem d_Sp_schedule_13 : decode b_Sp_schedule 13 = .ok (.iconst 2, 1) := by decide +kernel
theorem d_Sp_schedule_14 : decode b_Sp_schedule 14 = .ok (.iload 5, 2) := by decide +kernel
theorem d_Sp_schedule_16 : decode b_Sp_schedule 16 = .ok (.isub, 1) := by decide +kernel
theorem d_Sp_schedule_17 : decode b_Sp_schedule 17 = .ok (.lload_n 1, 1) := by decide +kernel
theorem d_Sp_schedule_18 : decode b_Sp_schedule 18 = .ok (.lload_n 3, 1) := by decide +kernel
theorem d_Sp_schedule_19 : decode b_Sp_schedule 19 = .ok (.iload 5, 2) := by decide +kernel
theorem d_Sp_schedule_21 : decode b_Sp_schedule 21 = .ok (.invokestatic 13, 3) := by decide +kernel
theorem d_Sp_schedule_24 : decode b_Sp_schedule 24 = .ok (.iastore, 1) := by decide +kernel
theorem d_Sp_schedule_25 : decode b_Sp_schedule 25 = .ok (.iinc 5 1, 3) := by decide +kernel
theorem d_Sp_schedule_28 : decode b_Sp_schedule 28 = .ok (.goto (-25), 3) := by decide +kernel
theorem d_Sp_schedule_31 : decode b_Sp_schedule 31 = .ok (.aload_n 0, 1) := by decide +kernel
theorem d_Sp_schedule_32 : decode b_Sp_schedule 32 = .ok (.getfield 19, 3) := by decide +kernel
theorem d_Sp_schedule_35 : decode b_Sp_schedule 35 = .ok (.iconst 0, 1) := by decide +kernel
theorem d_Sp_schedule_36 : decode b_Sp_schedule 36 = .ok (.lload_n 1, 1) := by decide +kernel
theorem d_Sp_schedule_37 : decode b_Sp_schedule 37 = .ok (.lload_n 3, 1) := by decide +kernel
theorem d_Sp_schedule_38 : decode b_Sp_schedule 38 = .ok (.iconst 3, 1) := by decide +kernel
theorem d_Sp_schedule_39 : decode b_Sp_schedule 39 = .ok (.invokestatic 13, 3) := by decide +kernel
theorem d_Sp_schedule_42 : decode b_Sp_schedule 42 = .ok (.iastore, 1) := by decide +kernel
theorem d_Sp_schedule_43 : decode b_Sp_schedule 43 = .ok (.iconst 0, 1) := by decide +kernel
theorem d_Sp_schedule_44 : decode b_Sp_schedule 44 = .ok (.istore 5, 2) := by decide +kernel
theorem d_Sp_schedule_46 : decode b_Sp_schedule 46 = .ok (.iload 5, 2) := by decide +kernel
theorem d_Sp_schedule_48 : decode b_Sp_schedule 48 = .ok (.bipush 26, 2) := by decide +kernel
theorem d_Sp_schedule_50 : decode b_Sp_schedule 50 = .ok (.if_icmp .ge 70, 3) := by decide +kernel
theorem d_Sp_schedule_53 : decode b_Sp_schedule 53 = .ok (.aload_n 0, 1) := by decide +kernel
theorem d_Sp_schedule_54 : decode b_Sp_schedule 54 = .ok (.getfield 19, 3) := by decide +kernel
theorem d_Sp_schedule_57 : decode b_Sp_schedule 57 = .ok (.iload 5, 2) := by decide +kernel
theorem d_Sp_schedule_59 : decode b_Sp_schedule 59 = .ok (.iaload, 1) := by decide +kernel
theorem d_Sp_schedule_60 : decode b_Sp_schedule 60 = .ok (.aload_n 0, 1) := by decide +kernel
theorem d_Sp_schedule_61 : decode b_Sp_schedule 61 = .ok (.getfield 9, 3) := by decide +kernel
theorem d_Sp_schedule_64 : decode b_Sp_schedule 64 = .ok (.iload 5, 2) := by decide +kernel
theorem d_Sp_schedule_66 : decode b_Sp_schedule 66 = .ok (.iconst 3, 1) := by decide +kernel
theorem d_Sp_schedule_67 : decode b_Sp_schedule 67 = .ok (.irem, 1) := by decide +kernel
theorem d_Sp_schedule_68 : decode b_Sp_schedule 68 = .ok (.iaload, 1) := by decide +kernel
theorem d_Sp_schedule_69 : decode b_Sp_schedule 69 = .ok (.bipush 8, 2) := by decide +kernel
theorem d_Sp_schedule_71 : decode b_Sp_schedule 71 = .ok (.invokestatic 22, 3) := by decide +kernel
theorem d_Sp_schedule_74 : decode b_Sp_schedule 74 = .ok (.iadd, 1) := by decide +kernel
theorem d_Sp_schedule_75 : decode b_Sp_schedule 75 = .ok (.iload 5, 2) := by decide +kernel
theorem d_Sp_schedule_77 : decode b_Sp_schedule 77 = .ok (.ixor, 1) := by decide +kernel
theorem d_Sp_schedule_78 : decode b_Sp_schedule 78 = .ok (.istore 6, 2) := by decide +kernel
theorem d_Sp_schedule_80 : decode b_Sp_schedule 80 = .ok (.aload_n 0, 1) := by decide +kernel
theorem d_Sp_schedule_81 : decode b_Sp_schedule 81 = .ok (.getfield 9, 3) := by decide +kernel
theorem d_Sp_schedule_84 : decode b_Sp_schedule 84 = .ok (.iload 5, 2) := by decide +kernel
theorem d_Sp_schedule_86 : decode b_Sp_schedule 86 = .ok (.iconst 3, 1) := by decide +kernel
theorem d_Sp_schedule_87 : decode b_Sp_schedule 87 = .ok (.irem, 1) := by decide +kernel
theorem d_Sp_schedule_88 : decode b_Sp_schedule 88 = .ok (.iload 6, 2) := by decide +kernel
theorem d_Sp_schedule_90 : decode b_Sp_schedule 90 = .ok (.iastore, 1) := by decide +kernel
theorem d_Sp_schedule_91 : decode b_Sp_schedule 91 = .ok (.aload_n 0, 1) := by decide +kernel
theorem d_Sp_schedule_92 : decode b_Sp_schedule 92 = .ok (.getfield 19, 3) := by decide +kernel
theorem d_Sp_schedule_95 : decode b_Sp_schedule 95 = .ok (.iload 5, 2) := by decide +kernel
theorem d_Sp_schedule_97 : decode b_Sp_schedule 97 = .ok (.iconst 1, 1) := by decide +kernel
theorem d_Sp_schedule_98 : decode b_Sp_schedule 98 = .ok (.iadd, 1) := by decide +kernel
theorem d_Sp_schedule_99 : decode b_Sp_schedule 99 = .ok (.aload_n 0, 1) := by decide +kernel
theorem d_Sp_schedule_100 : decode b_Sp_schedule 100 = .ok (.getfield 19, 3) := by decide +kernel
theorem d_Sp_schedule_103 : decode b_Sp_schedule 103 = .ok (.iload 5, 2) := by decide +kernel
theorem d_Sp_schedule_105 : decode b_Sp_schedule 105 = .ok (.iaload, 1) := by decide +kernel
theorem d_Sp_schedule_106 : decode b_Sp_schedule 106 = .ok (.iconst 3, 1) := by decide +kernel
theorem d_Sp_schedule_107 : decode b_Sp_schedule 107 = .ok (.invokestatic 26, 3) := by decide +kernel
theorem d_Sp_schedule_110 : decode b_Sp_schedule 110 = .ok (.iload 6, 2) := by decide +kernel
theorem d_Sp_schedule_112 : decode b_Sp_schedule 112 = .ok (.ixor, 1) := by decide +kernel
theorem d_Sp_schedule_113 : decode b_Sp_schedule 113 = .ok (.iastore, 1) := by decide +kernel
theorem d_Sp_schedule_114 : decode b_Sp_schedule 114 = .ok (.iinc 5 1, 3) := by decide +kernel
theorem d_Sp_schedule_117 : decode b_Sp_schedule 117 = .ok (.goto (-71), 3) := by decide +kernel
theorem d_Sp_schedule_120 : decode b_Sp_schedule 120 = .ok (.return_, 1) := by decide +kernel
theorem d_Xt_schedule_0 : decode b_Xt_schedule 0 = .ok (.iconst 0, 1) := by decide +kernel
theorem d_Xt_schedule_1 : decode b_Xt_schedule 1 = .ok (.istore 5, 2) := by decide +kernel
theorem d_Xt_schedule_3 : decode b_Xt_schedule 3 = .ok (.iload 5, 2) := by decide +kernel
theorem d_Xt_schedule_5 : decode b_Xt_schedule 5 = .ok (.iconst 4, 1) := by decide +kernel
theorem d_Xt_schedule_6 : decode b_Xt_schedule 6 = .ok (.if_icmp .ge 23, 3) := by decide +kernel
theorem d_Xt_schedule_9 : decode b_Xt_schedule 9 = .ok (.aload_n 0, 1) := by decide +kernel
theorem d_Xt_schedule_10 : decode b_Xt_schedule 10 = .ok (.getfield 9, 3) := by decide +kernel
theorem d_Xt_schedule_13 : decode b_Xt_schedule 13 = .ok (.iload 5, 2) := by decide +kernel
theorem d_Xt_schedule_15 : decode b_Xt_schedule 15 = .ok (.lload_n 1, 1) := by decide +kernel
theorem d_Xt_schedule_16 : decode b_Xt_schedule 16 = .ok (.lload_n 3, 1) := by decide +kernel
theorem d_Xt_schedule_17 : decode b_Xt_schedule 17 = .ok (.iload 5, 2) := by decide +kernel
theorem d_Xt_schedule_19 : decode b_Xt_schedule 19 = .ok (.invokestatic 15, 3) := by decide +kernel
theorem d_Xt_schedule_22 : decode b_Xt_schedule 22 = .ok (.iastore, 1) := by decide +kernel
theorem d_Xt_schedule_23 : decode b_Xt_schedule 23 = .ok (.iinc 5 1, 3) := by decide +kernel
theorem d_Xt_schedule_26 : decode b_Xt_schedule 26 = .ok (.goto (-23), 3) := by decide +kernel
theorem d_Xt_schedule_29 : decode b_Xt_schedule 29 = .ok (.return_, 1) := by decide +kernel
theorem d_La_mode_0 : decode b_La_mode 0 = .ok (.aload_n 0, 1) := by decide +kernel
theorem d_La_mode_1 : decode b_La_mode 1 = .ok (.iload_n 1, 1) := by decide +kernel
theorem d_La_mode_2 : decode b_La_mode 2 = .ok (.iload_n 2, 1) := by decide +kernel
theorem d_La_mode_3 : decode b_La_mode 3 = .ok (.lload_n 3, 1) := by decide +kernel
theorem d_La_mode_4 : decode b_La_mode 4 = .ok (.invokevirtual 23, 3) := by decide +kernel
theorem d_La_mode_7 : decode b_La_mode 7 = .ok (.goto 15, 3) := by decide +kernel
theorem d_La_mode_10 : decode b_La_mode 10 = .ok (.astore 5, 2) := by decide +kernel
theorem d_La_mode_12 : decode b_La_mode 12 = .ok (.iconst 1, 1) := by decide +kernel
theorem d_La_mode_13 : decode b_La_mode 13 = .ok (.ireturn, 1) := by decide +kernel
theorem d_La_mode_14 : decode b_La_mode 14 = .ok (.astore 5, 2) := by decide +kernel
theorem d_La_mode_16 : decode b_La_mode 16 = .ok (.iconst 2, 1) := by decide +kernel
theorem d_La_mode_17 : decode b_La_mode 17 = .ok (.ireturn, 1) := by decide +kernel
theorem d_La_mode_18 : decode b_La_mode 18 = .ok (.astore 5, 2) := by decide +kernel
theorem d_La_mode_20 : decode b_La_mode 20 = .ok (.iconst 3, 1) := by decide +kernel
theorem d_La_mode_21 : decode b_La_mode 21 = .ok (.ireturn, 1) := by decide +kernel
theorem d_La_mode_22 : decode b_La_mode 22 = .ok (.iconst 0, 1) := by decide +kernel
theorem d_La_mode_23 : decode b_La_mode 23 = .ok (.ireturn, 1) := by decide +kernel
theorem d_Ru_mode_0 : decode b_Ru_mode 0 = .ok (.aload_n 0, 1) := by decide +kernel
theorem d_Ru_mode_1 : decode b_Ru_mode 1 = .ok (.iload_n 1, 1) := by decide +kernel
theorem d_Ru_mode_2 : decode b_Ru_mode 2 = .ok (.invokevirtual 20, 3) := by decide +kernel
theorem d_Ru_mode_5 : decode b_Ru_mode 5 = .ok (.astore 5, 2) := by decide +kernel
theorem d_Ru_mode_7 : decode b_Ru_mode 7 = .ok (.iload_n 2, 1) := by decide +kernel
theorem d_Ru_mode_8 : decode b_Ru_mode 8 = .ok (.ifCond .lt 8, 3) := by decide +kernel
theorem d_Ru_mode_11 : decode b_Ru_mode 11 = .ok (.iload_n 2, 1) := by decide +kernel
theorem d_Ru_mode_12 : decode b_Ru_mode 12 = .ok (.iconst 5, 1) := by decide +kernel
theorem d_Ru_mode_13 : decode b_Ru_mode 13 = .ok (.if_icmp .le 13, 3) := by decide +kernel
theorem d_Ru_mode_16 : decode b_Ru_mode 16 = .ok (.new 24, 3) := by decide +kernel
theorem d_Ru_mode_19 : decode b_Ru_mode 19 = .ok (.dup, 1) := by decide +kernel
theorem d_Ru_mode_20 : decode b_Ru_mode 20 = .ok (.ldc 50, 2) := by decide +kernel
theorem d_Ru_mode_22 : decode b_Ru_mode 22 = .ok (.invokespecial 28, 3) := by decide +kernel
theorem d_Ru_mode_25 : decode b_Ru_mode 25 = .ok (.athrow, 1) := by decide +kernel
theorem d_Ru_mode_26 : decode b_Ru_mode 26 = .ok (.aload 5, 2) := by decide +kernel
theorem d_Ru_mode_28 : decode b_Ru_mode 28 = .ok (.invokestatic 52, 3) := by decide +kernel
theorem d_Ru_mode_31 : decode b_Ru_mode 31 = .ok (.aload 5, 2) := by decide +kernel
theorem d_Ru_mode_33 : decode b_Ru_mode 33 = .ok (.iload_n 2, 1) := by decide +kernel
theorem d_Ru_mode_34 : decode b_Ru_mode 34 = .ok (.lload_n 3, 1) := by decide +kernel
theorem d_Ru_mode_35 : decode b_Ru_mode 35 = .ok (.invokevirtual 56, 3) := by decide +kernel
theorem d_Ru_mode_38 : decode b_Ru_mode 38 = .ok (.return_, 1) := by decide +kernel
theorem d_Ru_requireKey_0 : decode b_Ru_requireKey 0 = .ok (.aload_n 0, 1) := by decide +kernel
theorem d_Ru_requireKey_1 : decode b_Ru_requireKey 1 = .ok (.getfield 31, 3) := by decide +kernel
theorem d_Ru_requireKey_4 : decode b_Ru_requireKey 4 = .ok (.iconst 2, 1) := by decide +kernel
theorem d_Ru_requireKey_5 : decode b_Ru_requireKey 5 = .ok (.if_icmp .eq 21, 3) := by decide +kernel
theorem d_Ru_requireKey_8 : decode b_Ru_requireKey 8 = .ok (.aload_n 0, 1) := by decide +kernel
theorem d_Ru_requireKey_9 : decode b_Ru_requireKey 9 = .ok (.getfield 31, 3) := by decide +kernel
theorem d_Ru_requireKey_12 : decode b_Ru_requireKey 12 = .ok (.iconst 3, 1) := by decide +kernel
theorem d_Ru_requireKey_13 : decode b_Ru_requireKey 13 = .ok (.if_icmp .eq 13, 3) := by decide +kernel
theorem d_Ru_requireKey_16 : decode b_Ru_requireKey 16 = .ok (.new 35, 3) := by decide +kernel
theorem d_Ru_requireKey_19 : decode b_Ru_requireKey 19 = .ok (.dup, 1) := by decide +kernel
theorem d_Ru_requireKey_20 : decode b_Ru_requireKey 20 = .ok (.ldc 117, 2) := by decide +kernel
theorem d_Ru_requireKey_22 : decode b_Ru_requireKey 22 = .ok (.invokespecial 39, 3) := by decide +kernel
theorem d_Ru_requireKey_25 : decode b_Ru_requireKey 25 = .ok (.athrow, 1) := by decide +kernel
theorem d_Ru_requireKey_26 : decode b_Ru_requireKey 26 = .ok (.return_, 1) := by decide +kernel
theorem d_Cx_setMode_0 : decode b_Cx_setMode 0 = .ok (.aload_n 0, 1) := by decide +kernel
theorem d_Cx_setMode_1 : decode b_Cx_setMode 1 = .ok (.iload_n 1, 1) := by decide +kernel
theorem d_Cx_setMode_2 : decode b_Cx_setMode 2 = .ok (.putfield 43, 3) := by decide +kernel
theorem d_Cx_setMode_5 : decode b_Cx_setMode 5 = .ok (.aload_n 0, 1) := by decide +kernel
theorem d_Cx_setMode_6 : decode b_Cx_setMode 6 = .ok (.lload_n 2, 1) := by decide +kernel
theorem d_Cx_setMode_7 : decode b_Cx_setMode 7 = .ok (.putfield 54, 3) := by decide +kernel
theorem d_Cx_setMode_10 : decode b_Cx_setMode 10 = .ok (.aload_n 0, 1) := by decide +kernel
theorem d_Cx_setMode_11 : decode b_Cx_setMode 11 = .ok (.lload_n 2, 1) := by decide +kernel
theorem d_Cx_setMode_12 : decode b_Cx_setMode 12 = .ok (.putfield 58, 3) := by decide +kernel
theorem d_Cx_setMode_15 : decode b_Cx_setMode 15 = .ok (.aload_n 0, 1) := by decide +kernel
theorem d_Cx_setMode_16 : decode b_Cx_setMode 16 = .ok (.iconst 0, 1) := by decide +kernel
theorem d_Cx_setMode_17 : decode b_Cx_setMode 17 = .ok (.putfield 61, 3) := by decide +kernel
theorem d_Cx_setMode_20 : decode b_Cx_setMode 20 = .ok (.aload_n 0, 1) := by decide +kernel
theorem d_Cx_setMode_21 : decode b_Cx_setMode 21 = .ok (.iconst 0, 1) := by decide +kernel
theorem d_Cx_setMode_22 : decode b_Cx_setMode 22 = .ok (.putfield 64, 3) := by decide +kernel
theorem d_Cx_setMode_25 : decode b_Cx_setMode 25 = .ok (.aload_n 0, 1) := by decide +kernel
theorem d_Cx_setMode_26 : decode b_Cx_setMode 26 = .ok (.getfield 35, 3) := by decide +kernel
theorem d_Cx_setMode_29 : decode b_Cx_setMode 29 = .ok (.invokevirtual 67, 3) := by decide +kernel
theorem d_Cx_setMode_32 : decode b_Cx_setMode 32 = .ok (.aload_n 0, 1) := by decide +kernel
theorem d_Cx_setMode_33 : decode b_Cx_setMode 33 = .ok (.iconst 3, 1) := by decide +kernel
theorem d_Cx_setMode_34 : decode b_Cx_setMode 34 = .ok (.putfield 39, 3) := by decide +kernel
theorem d_Cx_setMode_37 : decode b_Cx_setMode 37 = .ok (.return_, 1) := by decide +kernel
theorem d_Tk_clear_0 : decode b_Tk_clear 0 = .ok (.aload_n 0, 1) := by decide +kernel
theorem d_Tk_clear_1 : decode b_Tk_clear 1 = .ok (.iconst 0, 1) := by decide +kernel
theorem d_Tk_clear_2 : decode b_Tk_clear 2 = .ok (.putfield 9, 3) := by decide +kernel
theorem d_Tk_clear_5 : decode b_Tk_clear 5 = .ok (.aload_n 0, 1) := by decide +kernel
theorem d_Tk_clear_6 : decode b_Tk_clear 6 = .ok (.lconst 0, 1) := by decide +kernel
theorem d_Tk_clear_7 : decode b_Tk_clear 7 = .ok (.putfield 15, 3) := by decide +kernel
theorem d_Tk_clear_10 : decode b_Tk_clear 10 = .ok (.aload_n 0, 1) := by decide +kernel
theorem d_Tk_clear_11 : decode b_Tk_clear 11 = .ok (.lconst 0, 1) := by decide +kernel
theorem d_Tk_clear_12 : decode b_Tk_clear 12 = .ok (.putfield 19, 3) := by decide +kernel
theorem d_Tk_clear_15 : decode b_Tk_clear 15 = .ok (.aload_n 0, 1) := by decide +kernel
theorem d_Tk_clear_16 : decode b_Tk_clear 16 = .ok (.iconst 0, 1) := by decide +kernel
theorem d_Tk_clear_17 : decode b_Tk_clear 17 = .ok (.putfield 22, 3) := by decide +kernel
theorem d_Tk_clear_20 : decode b_Tk_clear 20 = .ok (.return_, 1) := by decide +kernel
theorem d_La_free_0 : decode b_La_free 0 = .ok (.aload_n 0, 1) := by decide +kernel
theorem d_La_free_1 : decode b_La_free 1 = .ok (.iload_n 1, 1) := by decide +kernel
theorem d_La_free_2 : decode b_La_free 2 = .ok (.invokevirtual 27, 3) := by decide +kernel
