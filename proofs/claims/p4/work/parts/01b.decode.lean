theorem d_Ru_init_0 : decode b_Ru_init 0 = .ok (.aload_n 0, 1) := by decide +kernel
theorem d_Ru_init_1 : decode b_Ru_init 1 = .ok (.invokespecial 1, 3) := by decide +kernel
theorem d_Ru_init_4 : decode b_Ru_init 4 = .ok (.aload_n 0, 1) := by decide +kernel
theorem d_Ru_init_5 : decode b_Ru_init 5 = .ok (.iconst 4, 1) := by decide +kernel
theorem d_Ru_init_6 : decode b_Ru_init 6 = .ok (.anewarray 9, 3) := by decide +kernel
theorem d_Ru_init_9 : decode b_Ru_init 9 = .ok (.putfield 11, 3) := by decide +kernel
theorem d_Ru_init_12 : decode b_Ru_init 12 = .ok (.aload_n 0, 1) := by decide +kernel
theorem d_Ru_init_13 : decode b_Ru_init 13 = .ok (.bipush 64, 2) := by decide +kernel
theorem d_Ru_init_15 : decode b_Ru_init 15 = .ok (.newarray .int, 2) := by decide +kernel
theorem d_Ru_init_17 : decode b_Ru_init 17 = .ok (.putfield 15, 3) := by decide +kernel
theorem d_Ru_init_20 : decode b_Ru_init 20 = .ok (.iconst 0, 1) := by decide +kernel
theorem d_Ru_init_21 : decode b_Ru_init 21 = .ok (.istore_n 1, 1) := by decide +kernel
theorem d_Ru_init_22 : decode b_Ru_init 22 = .ok (.iload_n 1, 1) := by decide +kernel
theorem d_Ru_init_23 : decode b_Ru_init 23 = .ok (.iconst 4, 1) := by decide +kernel
theorem d_Ru_init_24 : decode b_Ru_init 24 = .ok (.if_icmp .ge 22, 3) := by decide +kernel
theorem d_Ru_init_27 : decode b_Ru_init 27 = .ok (.aload_n 0, 1) := by decide +kernel
theorem d_Ru_init_28 : decode b_Ru_init 28 = .ok (.getfield 11, 3) := by decide +kernel
theorem d_Ru_init_31 : decode b_Ru_init 31 = .ok (.iload_n 1, 1) := by decide +kernel
theorem d_Ru_init_32 : decode b_Ru_init 32 = .ok (.new 9, 3) := by decide +kernel
theorem d_Ru_init_35 : decode b_Ru_init 35 = .ok (.dup, 1) := by decide +kernel
theorem d_Ru_init_36 : decode b_Ru_init 36 = .ok (.invokespecial 19, 3) := by decide +kernel
theorem d_Ru_init_39 : decode b_Ru_init 39 = .ok (.aastore, 1) := by decide +kernel
theorem d_Ru_init_40 : decode b_Ru_init 40 = .ok (.iinc 1 1, 3) := by decide +kernel
theorem d_Ru_init_43 : decode b_Ru_init 43 = .ok (.goto (-21), 3) := by decide +kernel
theorem d_Ru_init_46 : decode b_Ru_init 46 = .ok (.return_, 1) := by decide +kernel
theorem d_Cx_init_0 : decode b_Cx_init 0 = .ok (.aload_n 0, 1) := by decide +kernel
theorem d_Cx_init_1 : decode b_Cx_init 1 = .ok (.invokespecial 3, 3) := by decide +kernel
theorem d_Cx_init_4 : decode b_Cx_init 4 = .ok (.aload_n 0, 1) := by decide +kernel
theorem d_Cx_init_5 : decode b_Cx_init 5 = .ok (.iconst 5, 1) := by decide +kernel
theorem d_Cx_init_6 : decode b_Cx_init 6 = .ok (.anewarray 9, 3) := by decide +kernel
theorem d_Cx_init_9 : decode b_Cx_init 9 = .ok (.dup, 1) := by decide +kernel
theorem d_Cx_init_10 : decode b_Cx_init 10 = .ok (.iconst 0, 1) := by decide +kernel
theorem d_Cx_init_11 : decode b_Cx_init 11 = .ok (.new 11, 3) := by decide +kernel
theorem d_Cx_init_14 : decode b_Cx_init 14 = .ok (.dup, 1) := by decide +kernel
theorem d_Cx_init_15 : decode b_Cx_init 15 = .ok (.invokespecial 13, 3) := by decide +kernel
theorem d_Cx_init_18 : decode b_Cx_init 18 = .ok (.aastore, 1) := by decide +kernel
theorem d_Cx_init_19 : decode b_Cx_init 19 = .ok (.dup, 1) := by decide +kernel
theorem d_Cx_init_20 : decode b_Cx_init 20 = .ok (.iconst 1, 1) := by decide +kernel
theorem d_Cx_init_21 : decode b_Cx_init 21 = .ok (.new 14, 3) := by decide +kernel
theorem d_Cx_init_24 : decode b_Cx_init 24 = .ok (.dup, 1) := by decide +kernel
theorem d_Cx_init_25 : decode b_Cx_init 25 = .ok (.invokespecial 16, 3) := by decide +kernel
theorem d_Cx_init_28 : decode b_Cx_init 28 = .ok (.aastore, 1) := by decide +kernel
theorem d_Cx_init_29 : decode b_Cx_init 29 = .ok (.dup, 1) := by decide +kernel
theorem d_Cx_init_30 : decode b_Cx_init 30 = .ok (.iconst 2, 1) := by decide +kernel
theorem d_Cx_init_31 : decode b_Cx_init 31 = .ok (.new 17, 3) := by decide +kernel
theorem d_Cx_init_34 : decode b_Cx_init 34 = .ok (.dup, 1) := by decide +kernel
theorem d_Cx_init_35 : decode b_Cx_init 35 = .ok (.invokespecial 19, 3) := by decide +kernel
theorem d_Cx_init_38 : decode b_Cx_init 38 = .ok (.aastore, 1) := by decide +kernel
theorem d_Cx_init_39 : decode b_Cx_init 39 = .ok (.dup, 1) := by decide +kernel
theorem d_Cx_init_40 : decode b_Cx_init 40 = .ok (.iconst 3, 1) := by decide +kernel
theorem d_Cx_init_41 : decode b_Cx_init 41 = .ok (.new 20, 3) := by decide +kernel
theorem d_Cx_init_44 : decode b_Cx_init 44 = .ok (.dup, 1) := by decide +kernel
theorem d_Cx_init_45 : decode b_Cx_init 45 = .ok (.invokespecial 22, 3) := by decide +kernel
theorem d_Cx_init_48 : decode b_Cx_init 48 = .ok (.aastore, 1) := by decide +kernel
theorem d_Cx_init_49 : decode b_Cx_init 49 = .ok (.dup, 1) := by decide +kernel
theorem d_Cx_init_50 : decode b_Cx_init 50 = .ok (.iconst 4, 1) := by decide +kernel
theorem d_Cx_init_51 : decode b_Cx_init 51 = .ok (.new 23, 3) := by decide +kernel
theorem d_Cx_init_54 : decode b_Cx_init 54 = .ok (.dup, 1) := by decide +kernel
theorem d_Cx_init_55 : decode b_Cx_init 55 = .ok (.invokespecial 25, 3) := by decide +kernel
theorem d_Cx_init_58 : decode b_Cx_init 58 = .ok (.aastore, 1) := by decide +kernel
theorem d_Cx_init_59 : decode b_Cx_init 59 = .ok (.putfield 26, 3) := by decide +kernel
theorem d_Cx_init_62 : decode b_Cx_init 62 = .ok (.aload_n 0, 1) := by decide +kernel
theorem d_Cx_init_63 : decode b_Cx_init 63 = .ok (.new 32, 3) := by decide +kernel
theorem d_Cx_init_66 : decode b_Cx_init 66 = .ok (.dup, 1) := by decide +kernel
theorem d_Cx_init_67 : decode b_Cx_init 67 = .ok (.invokespecial 34, 3) := by decide +kernel
theorem d_Cx_init_70 : decode b_Cx_init 70 = .ok (.putfield 35, 3) := by decide +kernel
theorem d_Cx_init_73 : decode b_Cx_init 73 = .ok (.aload_n 0, 1) := by decide +kernel
theorem d_Cx_init_74 : decode b_Cx_init 74 = .ok (.iconst 0, 1) := by decide +kernel
theorem d_Cx_init_75 : decode b_Cx_init 75 = .ok (.putfield 39, 3) := by decide +kernel
theorem d_Cx_init_78 : decode b_Cx_init 78 = .ok (.aload_n 0, 1) := by decide +kernel
theorem d_Cx_init_79 : decode b_Cx_init 79 = .ok (.iconst 0, 1) := by decide +kernel
theorem d_Cx_init_80 : decode b_Cx_init 80 = .ok (.putfield 43, 3) := by decide +kernel
theorem d_Cx_init_83 : decode b_Cx_init 83 = .ok (.aload_n 0, 1) := by decide +kernel
theorem d_Cx_init_84 : decode b_Cx_init 84 = .ok (.aload_n 0, 1) := by decide +kernel
theorem d_Cx_init_85 : decode b_Cx_init 85 = .ok (.getfield 26, 3) := by decide +kernel
theorem d_Cx_init_88 : decode b_Cx_init 88 = .ok (.iconst 0, 1) := by decide +kernel
theorem d_Cx_init_89 : decode b_Cx_init 89 = .ok (.aaload, 1) := by decide +kernel
theorem d_Cx_init_90 : decode b_Cx_init 90 = .ok (.putfield 46, 3) := by decide +kernel
theorem d_Cx_init_93 : decode b_Cx_init 93 = .ok (.return_, 1) := by decide +kernel
theorem d_Rc_init_0 : decode b_Rc_init 0 = .ok (.aload_n 0, 1) := by decide +kernel
theorem d_Rc_init_1 : decode b_Rc_init 1 = .ok (.bipush 26, 2) := by decide +kernel
theorem d_Rc_init_3 : decode b_Rc_init 3 = .ok (.invokespecial 5, 3) := by decide +kernel
theorem d_Rc_init_6 : decode b_Rc_init 6 = .ok (.aload_n 0, 1) := by decide +kernel
theorem d_Rc_init_7 : decode b_Rc_init 7 = .ok (.iconst 4, 1) := by decide +kernel
theorem d_Rc_init_8 : decode b_Rc_init 8 = .ok (.newarray .int, 2) := by decide +kernel
theorem d_Rc_init_10 : decode b_Rc_init 10 = .ok (.putfield 11, 3) := by decide +kernel
theorem d_Rc_init_13 : decode b_Rc_init 13 = .ok (.return_, 1) := by decide +kernel
theorem d_Ci_init_0 : decode b_Ci_init 0 = .ok (.aload_n 0, 1) := by decide +kernel
theorem d_Ci_init_1 : decode b_Ci_init 1 = .ok (.invokespecial 3, 3) := by decide +kernel
theorem d_Ci_init_4 : decode b_Ci_init 4 = .ok (.aload_n 0, 1) := by decide +kernel
theorem d_Ci_init_5 : decode b_Ci_init 5 = .ok (.iload_n 1, 1) := by decide +kernel
theorem d_Ci_init_6 : decode b_Ci_init 6 = .ok (.newarray .int, 2) := by decide +kernel
theorem d_Ci_init_8 : decode b_Ci_init 8 = .ok (.putfield 9, 3) := by decide +kernel
theorem d_Ci_init_11 : decode b_Ci_init 11 = .ok (.return_, 1) := by decide +kernel
theorem d_Xt_init_0 : decode b_Xt_init 0 = .ok (.aload_n 0, 1) := by decide +kernel
theorem d_Xt_init_1 : decode b_Xt_init 1 = .ok (.iconst 4, 1) := by decide +kernel
theorem d_Xt_init_2 : decode b_Xt_init 2 = .ok (.invokespecial 3, 3) := by decide +kernel
theorem d_Xt_init_5 : decode b_Xt_init 5 = .ok (.return_, 1) := by decide +kernel
theorem d_Sp_init_0 : decode b_Sp_init 0 = .ok (.aload_n 0, 1) := by decide +kernel
theorem d_Sp_init_1 : decode b_Sp_init 1 = .ok (.bipush 27, 2) := by decide +kernel
theorem d_Sp_init_3 : decode b_Sp_init 3 = .ok (.invokespecial 3, 3) := by decide +kernel
theorem d_Sp_init_6 : decode b_Sp_init 6 = .ok (.aload_n 0, 1) := by decide +kernel
theorem d_Sp_init_7 : decode b_Sp_init 7 = .ok (.iconst 3, 1) := by decide +kernel
theorem d_Sp_init_8 : decode b_Sp_init 8 = .ok (.newarray .int, 2) := by decide +kernel
theorem d_Sp_init_10 : decode b_Sp_init 10 = .ok (.putfield 9, 3) := by decide +kernel
theorem d_Sp_init_13 : decode b_Sp_init 13 = .ok (.return_, 1) := by decide +kernel
theorem d_Si_init_0 : decode b_Si_init 0 = .ok (.aload_n 0, 1) := by decide +kernel
theorem d_Si_init_1 : decode b_Si_init 1 = .ok (.bipush 44, 2) := by decide +kernel
theorem d_Si_init_3 : decode b_Si_init 3 = .ok (.invokespecial 3, 3) := by decide +kernel
theorem d_Si_init_6 : decode b_Si_init 6 = .ok (.return_, 1) := by decide +kernel
theorem d_Id_init_0 : decode b_Id_init 0 = .ok (.aload_n 0, 1) := by decide +kernel
theorem d_Id_init_1 : decode b_Id_init 1 = .ok (.bipush 52, 2) := by decide +kernel
theorem d_Id_init_3 : decode b_Id_init 3 = .ok (.invokespecial 3, 3) := by decide +kernel
theorem d_Id_init_6 : decode b_Id_init 6 = .ok (.aload_n 0, 1) := by decide +kernel
theorem d_Id_init_7 : decode b_Id_init 7 = .ok (.bipush 52, 2) := by decide +kernel
theorem d_Id_init_9 : decode b_Id_init 9 = .ok (.newarray .int, 2) := by decide +kernel
theorem d_Id_init_11 : decode b_Id_init 11 = .ok (.putfield 9, 3) := by decide +kernel
theorem d_Id_init_14 : decode b_Id_init 14 = .ok (.return_, 1) := by decide +kernel
theorem d_Tk_init_0 : decode b_Tk_init 0 = .ok (.aload_n 0, 1) := by decide +kernel
theorem d_Tk_init_1 : decode b_Tk_init 1 = .ok (.invokespecial 3, 3) := by decide +kernel
theorem d_Tk_init_4 : decode b_Tk_init 4 = .ok (.return_, 1) := by decide +kernel
theorem d_La_choose_0 : decode b_La_choose 0 = .ok (.aload_n 0, 1) := by decide +kernel
theorem d_La_choose_1 : decode b_La_choose 1 = .ok (.iload_n 1, 1) := by decide +kernel
theorem d_La_choose_2 : decode b_La_choose 2 = .ok (.iload_n 2, 1) := by decide +kernel
theorem d_La_choose_3 : decode b_La_choose 3 = .ok (.invokevirtual 7, 3) := by decide +kernel
theorem d_La_choose_6 : decode b_La_choose 6 = .ok (.goto 12, 3) := by decide +kernel
theorem d_La_choose_9 : decode b_La_choose 9 = .ok (.astore_n 3, 1) := by decide +kernel
theorem d_La_choose_10 : decode b_La_choose 10 = .ok (.iconst 1, 1) := by decide +kernel
theorem d_La_choose_11 : decode b_La_choose 11 = .ok (.ireturn, 1) := by decide +kernel
theorem d_La_choose_12 : decode b_La_choose 12 = .ok (.astore_n 3, 1) := by decide +kernel
theorem d_La_choose_13 : decode b_La_choose 13 = .ok (.iconst 2, 1) := by decide +kernel
theorem d_La_choose_14 : decode b_La_choose 14 = .ok (.ireturn, 1) := by decide +kernel
theorem d_La_choose_15 : decode b_La_choose 15 = .ok (.astore_n 3, 1) := by decide +kernel
theorem d_La_choose_16 : decode b_La_choose 16 = .ok (.iconst 3, 1) := by decide +kernel
theorem d_La_choose_17 : decode b_La_choose 17 = .ok (.ireturn, 1) := by decide +kernel
theorem d_La_choose_18 : decode b_La_choose 18 = .ok (.iconst 0, 1) := by decide +kernel
theorem d_La_choose_19 : decode b_La_choose 19 = .ok (.ireturn, 1) := by decide +kernel
theorem d_Ru_choose_0 : decode b_Ru_choose 0 = .ok (.aload_n 0, 1) := by decide +kernel
theorem d_Ru_choose_1 : decode b_Ru_choose 1 = .ok (.iload_n 1, 1) := by decide +kernel
theorem d_Ru_choose_2 : decode b_Ru_choose 2 = .ok (.invokevirtual 20, 3) := by decide +kernel
theorem d_Ru_choose_5 : decode b_Ru_choose 5 = .ok (.astore_n 3, 1) := by decide +kernel
theorem d_Ru_choose_6 : decode b_Ru_choose 6 = .ok (.iload_n 2, 1) := by decide +kernel
theorem d_Ru_choose_7 : decode b_Ru_choose 7 = .ok (.ifCond .lt 8, 3) := by decide +kernel
theorem d_Ru_choose_10 : decode b_Ru_choose 10 = .ok (.iload_n 2, 1) := by decide +kernel
theorem d_Ru_choose_11 : decode b_Ru_choose 11 = .ok (.iconst 5, 1) := by decide +kernel
theorem d_Ru_choose_12 : decode b_Ru_choose 12 = .ok (.if_icmp .lt 13, 3) := by decide +kernel
theorem d_Ru_choose_15 : decode b_Ru_choose 15 = .ok (.new 24, 3) := by decide +kernel
theorem d_Ru_choose_18 : decode b_Ru_choose 18 = .ok (.dup, 1) := by decide +kernel
theorem d_Ru_choose_19 : decode b_Ru_choose 19 = .ok (.ldc 26, 2) := by decide +kernel
theorem d_Ru_choose_21 : decode b_Ru_choose 21 = .ok (.invokespecial 28, 3) := by decide +kernel
theorem d_Ru_choose_24 : decode b_Ru_choose 24 = .ok (.athrow, 1) := by decide +kernel
theorem d_Ru_choose_25 : decode b_Ru_choose 25 = .ok (.aload_n 3, 1) := by decide +kernel
theorem d_Ru_choose_26 : decode b_Ru_choose 26 = .ok (.getfield 31, 3) := by decide +kernel
theorem d_Ru_choose_29 : decode b_Ru_choose 29 = .ok (.ifCond .eq 13, 3) := by decide +kernel
theorem d_Ru_choose_32 : decode b_Ru_choose 32 = .ok (.new 35, 3) := by decide +kernel
theorem d_Ru_choose_35 : decode b_Ru_choose 35 = .ok (.dup, 1) := by decide +kernel
theorem d_Ru_choose_36 : decode b_Ru_choose 36 = .ok (.ldc 37, 2) := by decide +kernel
theorem d_Ru_choose_38 : decode b_Ru_choose 38 = .ok (.invokespecial 39, 3) := by decide +kernel
theorem d_Ru_choose_41 : decode b_Ru_choose 41 = .ok (.athrow, 1) := by decide +kernel
theorem d_Ru_choose_42 : decode b_Ru_choose 42 = .ok (.aload_n 3, 1) := by decide +kernel
theorem d_Ru_choose_43 : decode b_Ru_choose 43 = .ok (.iload_n 2, 1) := by decide +kernel
theorem d_Ru_choose_44 : decode b_Ru_choose 44 = .ok (.invokevirtual 40, 3) := by decide +kernel
theorem d_Ru_choose_47 : decode b_Ru_choose 47 = .ok (.return_, 1) := by decide +kernel
theorem d_Ru_contextAt_0 : decode b_Ru_contextAt 0 = .ok (.iload_n 1, 1) := by decide +kernel
theorem d_Ru_contextAt_1 : decode b_Ru_contextAt 1 = .ok (.ifCond .lt 8, 3) := by decide +kernel
theorem d_Ru_contextAt_4 : decode b_Ru_contextAt 4 = .ok (.iload_n 1, 1) := by decide +kernel
theorem d_Ru_contextAt_5 : decode b_Ru_contextAt 5 = .ok (.iconst 4, 1) := by decide +kernel
theorem d_Ru_contextAt_6 : decode b_Ru_contextAt 6 = .ok (.if_icmp .lt 13, 3) := by decide +kernel
theorem d_Ru_contextAt_9 : decode b_Ru_contextAt 9 = .ok (.new 112, 3) := by decide +kernel
theorem d_Ru_contextAt_12 : decode b_Ru_contextAt 12 = .ok (.dup, 1) := by decide +kernel
theorem d_Ru_contextAt_13 : decode b_Ru_contextAt 13 = .ok (.ldc 114, 2) := by decide +kernel
theorem d_Ru_contextAt_15 : decode b_Ru_contextAt 15 = .ok (.invokespecial 116, 3) := by decide +kernel
theorem d_Ru_contextAt_18 : decode b_Ru_contextAt 18 = .ok (.athrow, 1) := by decide +kernel
theorem d_Ru_contextAt_19 : decode b_Ru_contextAt 19 = .ok (.aload_n 0, 1) := by decide +kernel
theorem d_Ru_contextAt_20 : decode b_Ru_contextAt 20 = .ok (.getfield 11, 3) := by decide +kernel
theorem d_Ru_contextAt_23 : decode b_Ru_contextAt 23 = .ok (.iload_n 1, 1) := by decide +kernel
theorem d_Ru_contextAt_24 : decode b_Ru_contextAt 24 = .ok (.aaload, 1) := by decide +kernel
theorem d_Ru_contextAt_25 : decode b_Ru_contextAt 25 = .ok (.areturn, 1) := by decide +kernel
theorem d_Cx_chooseCipher_0 : decode b_Cx_chooseCipher 0 = .ok (.aload_n 0, 1) := by decide +kernel
theorem d_Cx_chooseCipher_1 : decode b_Cx_chooseCipher 1 = .ok (.aload_n 0, 1) := by decide +kernel
theorem d_Cx_chooseCipher_2 : decode b_Cx_chooseCipher 2 = .ok (.getfield 26, 3) := by decide +kernel
theorem d_Cx_chooseCipher_5 : decode b_Cx_chooseCipher 5 = .ok (.iload_n 1, 1) := by decide +kernel
theorem d_Cx_chooseCipher_6 : decode b_Cx_chooseCipher 6 = .ok (.aaload, 1) := by decide +kernel
theorem d_Cx_chooseCipher_7 : decode b_Cx_chooseCipher 7 = .ok (.putfield 46, 3) := by decide +kernel
theorem d_Cx_chooseCipher_10 : decode b_Cx_chooseCipher 10 = .ok (.aload_n 0, 1) := by decide +kernel
theorem d_Cx_chooseCipher_11 : decode b_Cx_chooseCipher 11 = .ok (.iconst 1, 1) := by decide +kernel
theorem d_Cx_chooseCipher_12 : decode b_Cx_chooseCipher 12 = .ok (.putfield 39, 3) := by decide +kernel
theorem d_Cx_chooseCipher_15 : decode b_Cx_chooseCipher 15 = .ok (.return_, 1) := by decide +kernel
theorem d_La_key_0 : decode b_La_key 0 = .ok (.aload_n 0, 1) := by decide +kernel
theorem d_La_key_1 : decode b_La_key 1 = .ok (.iload_n 1, 1) := by decide +kernel
theorem d_La_key_2 : decode b_La_key 2 = .ok (.lload_n 2, 1) := by decide +kernel
theorem d_La_key_3 : decode b_La_key 3 = .ok (.lload 4, 2) := by decide +kernel
theorem d_La_key_5 : decode b_La_key 5 = .ok (.invokevirtual 19, 3) := by decide +kernel
theorem d_La_key_8 : decode b_La_key 8 = .ok (.goto 11, 3) := by decide +kernel
theorem d_La_key_11 : decode b_La_key 11 = .ok (.astore 6, 2) := by decide +kernel
theorem d_La_key_13 : decode b_La_key 13 = .ok (.iconst 1, 1) := by decide +kernel
theorem d_La_key_14 : decode b_La_key 14 = .ok (.ireturn, 1) := by decide +kernel
theorem d_La_key_15 : decode b_La_key 15 = .ok (.astore 6, 2) := by decide +kernel
theorem d_La_key_17 : decode b_La_key 17 = .ok (.iconst 2, 1) := by decide +kernel
theorem d_La_key_18 : decode b_La_key 18 = .ok (.ireturn, 1) := by decide +kernel
theorem d_La_key_19 : decode b_La_key 19 = .ok (.iconst 0, 1) := by decide +kernel
theorem d_La_key_20 : decode b_La_key 20 = .ok (.ireturn, 1) := by decide +kernel
theorem d_Ru_key_0 : decode b_Ru_key 0 = .ok (.aload_n 0, 1) := by decide +kernel
theorem d_Ru_key_1 : decode b_Ru_key 1 = .ok (.iload_n 1, 1) := by decide +kernel
theorem d_Ru_key_2 : decode b_Ru_key 2 = .ok (.invokevirtual 20, 3) := by decide +kernel
theorem d_Ru_key_5 : decode b_Ru_key 5 = .ok (.astore 6, 2) := by decide +kernel
theorem d_Ru_key_7 : decode b_Ru_key 7 = .ok (.aload 6, 2) := by decide +kernel
theorem d_Ru_key_9 : decode b_Ru_key 9 = .ok (.getfield 31, 3) := by decide +kernel
theorem d_Ru_key_12 : decode b_Ru_key 12 = .ok (.ifCond .ne 13, 3) := by decide +kernel
theorem d_Ru_key_15 : decode b_Ru_key 15 = .ok (.new 35, 3) := by decide +kernel
theorem d_Ru_key_18 : decode b_Ru_key 18 = .ok (.dup, 1) := by decide +kernel
theorem d_Ru_key_19 : decode b_Ru_key 19 = .ok (.ldc 44, 2) := by decide +kernel
theorem d_Ru_key_21 : decode b_Ru_key 21 = .ok (.invokespecial 39, 3) := by decide +kernel
theorem d_Ru_key_24 : decode b_Ru_key 24 = .ok (.athrow, 1) := by decide +kernel
theorem d_Ru_key_25 : decode b_Ru_key 25 = .ok (.aload 6, 2) := by decide +kernel
theorem d_Ru_key_27 : decode b_Ru_key 27 = .ok (.lload_n 2, 1) := by decide +kernel
theorem d_Ru_key_28 : decode b_Ru_key 28 = .ok (.lload 4, 2) := by decide +kernel
theorem d_Ru_key_30 : decode b_Ru_key 30 = .ok (.invokevirtual 46, 3) := by decide +kernel
theorem d_Ru_key_33 : decode b_Ru_key 33 = .ok (.return_, 1) := by decide +kernel
theorem d_Cx_setKey_0 : decode b_Cx_setKey 0 = .ok (.aload_n 0, 1) := by decide +kernel
theorem d_Cx_setKey_1 : decode b_Cx_setKey 1 = .ok (.getfield 46, 3) := by decide +kernel
theorem d_Cx_setKey_4 : decode b_Cx_setKey 4 = .ok (.lload_n 1, 1) := by decide +kernel
theorem d_Cx_setKey_5 : decode b_Cx_setKey 5 = .ok (.lload_n 3, 1) := by decide +kernel
theorem d_Cx_setKey_6 : decode b_Cx_setKey 6 = .ok (.invokevirtual 50, 3) := by decide +kernel
theorem d_Cx_setKey_9 : decode b_Cx_setKey 9 = .ok (.aload_n 0, 1) := by decide +kernel
theorem d_Cx_setKey_10 : decode b_Cx_setKey 10 = .ok (.iconst 2, 1) := by decide +kernel
theorem d_Cx_setKey_11 : decode b_Cx_setKey 11 = .ok (.putfield 39, 3) := by decide +kernel
theorem d_Cx_setKey_14 : decode b_Cx_setKey 14 = .ok (.return_, 1) := by decide +kernel
theorem d_Id_schedule_0 : decode b_Id_schedule 0 = .ok (.lload_n 1, 1) := by decide +kernel
theorem d_Id_schedule_1 : decode b_Id_schedule 1 = .ok (.lstore 5, 2) := by decide +kernel
theorem d_Id_schedule_3 : decode b_Id_schedule 3 = .ok (.lload_n 3, 1) := by decide +kernel
theorem d_Id_schedule_4 : decode b_Id_schedule 4 = .ok (.lstore 7, 2) := by decide +kernel
theorem d_Id_schedule_6 : decode b_Id_schedule 6 = .ok (.iconst 0, 1) := by decide +kernel
theorem d_Id_schedule_7 : decode b_Id_schedule 7 = .ok (.istore 9, 2) := by decide +kernel
theorem d_Id_schedule_9 : decode b_Id_schedule 9 = .ok (.iload 9, 2) := by decide +kernel
theorem d_Id_schedule_11 : decode b_Id_schedule 11 = .ok (.bipush 52, 2) := by decide +kernel
theorem d_Id_schedule_13 : decode b_Id_schedule 13 = .ok (.if_icmp .ge 80, 3) := by decide +kernel
theorem d_Id_schedule_16 : decode b_Id_schedule 16 = .ok (.iload 9, 2) := by decide +kernel
theorem d_Id_schedule_18 : decode b_Id_schedule 18 = .ok (.bipush 8, 2) := by decide +kernel
theorem d_Id_schedule_20 : decode b_Id_schedule 20 = .ok (.irem, 1) := by decide +kernel
theorem d_Id_schedule_21 : decode b_Id_schedule 21 = .ok (.istore 10, 2) := by decide +kernel
theorem d_Id_schedule_23 : decode b_Id_schedule 23 = .ok (.aload_n 0, 1) := by decide +kernel
theorem d_Id_schedule_24 : decode b_Id_schedule 24 = .ok (.getfield 13, 3) := by decide +kernel
theorem d_Id_schedule_27 : decode b_Id_schedule 27 = .ok (.iload 9, 2) := by decide +kernel
theorem d_Id_schedule_29 : decode b_Id_schedule 29 = .ok (.iload 10, 2) := by decide +kernel
theorem d_Id_schedule_31 : decode b_Id_schedule 31 = .ok (.iconst 4, 1) := by decide +kernel
theorem d_Id_schedule_32 : decode b_Id_schedule 32 = .ok (.if_icmp .ge 8, 3) := by decide +kernel
theorem d_Id_schedule_35 : decode b_Id_schedule 35 = .ok (.lload 5, 2) := by decide +kernel
theorem d_Id_schedule_37 : decode b_Id_schedule 37 = .ok (.goto 5, 3) := by decide +kernel
theorem d_Id_schedule_40 : decode b_Id_schedule 40 = .ok (.lload 7, 2) := by decide +kernel
theorem d_Id_schedule_42 : decode b_Id_schedule 42 = .ok (.iload 10, 2) := by decide +kernel
theorem d_Id_schedule_44 : decode b_Id_schedule 44 = .ok (.iconst 4, 1) := by decide +kernel
theorem d_Id_schedule_45 : decode b_Id_schedule 45 = .ok (.irem, 1) := by decide +kernel
theorem d_Id_schedule_46 : decode b_Id_schedule 46 = .ok (.invokestatic 16, 3) := by decide +kernel
theorem d_Id_schedule_49 : decode b_Id_schedule 49 = .ok (.iastore, 1) := by decide +kernel
theorem d_Id_schedule_50 : decode b_Id_schedule 50 = .ok (.iload 10, 2) := by decide +kernel
theorem d_Id_schedule_52 : decode b_Id_schedule 52 = .ok (.bipush 7, 2) := by decide +kernel
theorem d_Id_schedule_54 : decode b_Id_schedule 54 = .ok (.if_icmp .ne 33, 3) := by decide +kernel
theorem d_Id_schedule_57 : decode b_Id_schedule 57 = .ok (.lload 5, 2) := by decide +kernel
theorem d_Id_schedule_59 : decode b_Id_schedule 59 = .ok (.lstore 11, 2) := by decide +kernel
theorem d_Id_schedule_61 : decode b_Id_schedule 61 = .ok (.lload 5, 2) := by decide +kernel
theorem d_Id_schedule_63 : decode b_Id_schedule 63 = .ok (.bipush 25, 2) := by decide +kernel
theorem d_Id_schedule_65 : decode b_Id_schedule 65 = .ok (.lshl, 1) := by decide +kernel
theorem d_Id_schedule_66 : decode b_Id_schedule 66 = .ok (.lload 7, 2) := by decide +kernel
theorem d_Id_schedule_68 : decode b_Id_schedule 68 = .ok (.bipush 39, 2) := by decide +kernel
theorem d_Id_schedule_70 : decode b_Id_schedule 70 = .ok (.lushr, 1) := by decide +kernel
theorem d_Id_schedule_71 : decode b_Id_schedule 71 = .ok (.lor, 1) := by decide +kernel
theorem d_Id_schedule_72 : decode b_Id_schedule 72 = .ok (.lstore 5, 2) := by decide +kernel
theorem d_Id_schedule_74 : decode b_Id_schedule 74 = .ok (.lload 7, 2) := by decide +kernel
theorem d_Id_schedule_76 : decode b_Id_schedule 76 = .ok (.bipush 25, 2) := by decide +kernel
theorem d_Id_schedule_78 : decode b_Id_schedule 78 = .ok (.lshl, 1) := by decide +kernel
theorem d_Id_schedule_79 : decode b_Id_schedule 79 = .ok (.lload 11, 2) := by decide +kernel
theorem d_Id_schedule_81 : decode b_Id_schedule 81 = .ok (.bipush 39, 2) := by decide +kernel
theorem d_Id_schedule_83 : decode b_Id_schedule 83 = .ok (.lushr, 1) := by decide +kernel
theorem d_Id_schedule_84 : decode b_Id_schedule 84 = .ok (.lor, 1) := by decide +kernel
theorem d_Id_schedule_85 : decode b_Id_schedule 85 = .ok (.lstore 7, 2) := by decide +kernel
theorem d_Id_schedule_87 : decode b_Id_schedule 87 = .ok (.iinc 9 1, 3) := by decide +kernel
theorem d_Id_schedule_90 : decode b_Id_schedule 90 = .ok (.goto (-81), 3) := by decide +kernel
theorem d_Id_schedule_93 : decode b_Id_schedule 93 = .ok (.iconst 0, 1) := by decide +kernel
theorem d_Id_schedule_94 : decode b_Id_schedule 94 = .ok (.istore 9, 2) := by decide +kernel
theorem d_Id_schedule_96 : decode b_Id_schedule 96 = .ok (.iload 9, 2) := by decide +kernel
theorem d_Id_schedule_98 : decode b_Id_schedule 98 = .ok (.bipush 48, 2) := by decide +kernel
theorem d_Id_schedule_100 : decode b_Id_schedule 100 = .ok (.if_icmp .gt 91, 3) := by decide +kernel
theorem d_Id_schedule_103 : decode b_Id_schedule 103 = .ok (.aload_n 0, 1) := by decide +kernel
theorem d_Id_schedule_104 : decode b_Id_schedule 104 = .ok (.getfield 9, 3) := by decide +kernel
theorem d_Id_schedule_107 : decode b_Id_schedule 107 = .ok (.iload 9, 2) := by decide +kernel
theorem d_Id_schedule_109 : decode b_Id_schedule 109 = .ok (.aload_n 0, 1) := by decide +kernel
theorem d_Id_schedule_110 : decode b_Id_schedule 110 = .ok (.getfield 13, 3) := by decide +kernel
theorem d_Id_schedule_113 : decode b_Id_schedule 113 = .ok (.iload 9, 2) := by decide +kernel
theorem d_Id_schedule_115 : decode b_Id_schedule 115 = .ok (.iaload, 1) := by decide +kernel
theorem d_Id_schedule_116 : decode b_Id_schedule 116 = .ok (.invokestatic 20, 3) := by decide +kernel
theorem d_Id_schedule_119 : decode b_Id_schedule 119 = .ok (.iastore, 1) := by decide +kernel
theorem d_Id_schedule_120 : decode b_Id_schedule 120 = .ok (.aload_n 0, 1) := by decide +kernel
theorem d_Id_schedule_121 : decode b_Id_schedule 121 = .ok (.getfield 9, 3) := by decide +kernel
theorem d_Id_schedule_124 : decode b_Id_schedule 124 = .ok (.iload 9, 2) := by decide +kernel
theorem d_Id_schedule_126 : decode b_Id_schedule 126 = .ok (.iconst 1, 1) := by decide +kernel
theorem d_Id_schedule_127 : decode b_Id_schedule 127 = .ok (.iadd, 1) := by decide +kernel
theorem d_Id_schedule_128 : decode b_Id_schedule 128 = .ok (.aload_n 0, 1) := by decide +kernel
theorem d_Id_schedule_129 : decode b_Id_schedule 129 = .ok (.getfield 13, 3) := by decide +kernel
theorem d_Id_schedule_132 : decode b_Id_schedule 132 = .ok (.iload 9, 2) := by decide +kernel
theorem d_Id_schedule_134 : decode b_Id_schedule 134 = .ok (.iconst 1, 1) := by decide +kernel
theorem d_Id_schedule_135 : decode b_Id_schedule 135 = .ok (.iadd, 1) := by decide +kernel
theorem d_Id_schedule_136 : decode b_Id_schedule 136 = .ok (.iaload, 1) := by decide +kernel
theorem d_Id_schedule_137 : decode b_Id_schedule 137 = .ok (.ineg, 1) := by decide +kernel
theorem d_Id_schedule_138 : decode b_Id_schedule 138 = .ok (.ldc 24, 2) := by decide +kernel
theorem d_Id_schedule_140 : decode b_Id_schedule 140 = .ok (.iand, 1) := by decide +kernel
theorem d_Id_schedule_141 : decode b_Id_schedule 141 = .ok (.iastore, 1) := by decide +kernel
theorem d_Id_schedule_142 : decode b_Id_schedule 142 = .ok (.aload_n 0, 1) := by decide +kernel
theorem d_Id_schedule_143 : decode b_Id_schedule 143 = .ok (.getfield 9, 3) := by decide +kernel
theorem d_Id_schedule_146 : decode b_Id_schedule 146 = .ok (.iload 9, 2) := by decide +kernel
theorem d_Id_schedule_148 : decode b_Id_schedule 148 = .ok (.iconst 2, 1) := by decide +kernel
theorem d_Id_schedule_149 : decode b_Id_schedule 149 = .ok (.iadd, 1) := by decide +kernel
theorem d_Id_schedule_150 : decode b_Id_schedule 150 = .ok (.aload_n 0, 1) := by decide +kernel
theorem d_Id_schedule_151 : decode b_Id_schedule 151 = .ok (.getfield 13, 3) := by decide +kernel
theorem d_Id_schedule_154 : decode b_Id_schedule 154 = .ok (.iload 9, 2) := by decide +kernel
theorem d_Id_schedule_156 : decode b_Id_schedule 156 = .ok (.iconst 2, 1) := by decide +kernel
theorem d_Id_schedule_157 : decode b_Id_schedule 157 = .ok (.iadd, 1) := by decide +kernel
theorem d_Id_schedule_158 : decode b_Id_schedule 158 = .ok (.iaload, 1) := by decide +kernel
theorem d_Id_schedule_159 : decode b_Id_schedule 159 = .ok (.ineg, 1) := by decide +kernel
theorem d_Id_schedule_160 : decode b_Id_schedule 160 = .ok (.ldc 24, 2) := by decide +kernel
theorem d_Id_schedule_162 : decode b_Id_schedule 162 = .ok (.iand, 1) := by decide +kernel
theorem d_Id_schedule_163 : decode b_Id_schedule 163 = .ok (.iastore, 1) := by decide +kernel
theorem d_Id_schedule_164 : decode b_Id_schedule 164 = .ok (.aload_n 0, 1) := by decide +kernel
theorem d_Id_schedule_165 : decode b_Id_schedule 165 = .ok (.getfield 9, 3) := by decide +kernel
theorem d_Id_schedule_168 : decode b_Id_schedule 168 = .ok (.iload 9, 2) := by decide +kernel
theorem d_Id_schedule_170 : decode b_Id_schedule 170 = .ok (.iconst 3, 1) := by decide +kernel
theorem d_Id_schedule_171 : decode b_Id_schedule 171 = .ok (.iadd, 1) := by decide +kernel
theorem d_Id_schedule_172 : decode b_Id_schedule 172 = .ok (.aload_n 0, 1) := by decide +kernel
theorem d_Id_schedule_173 : decode b_Id_schedule 173 = .ok (.getfield 13, 3) := by decide +kernel
theorem d_Id_schedule_176 : decode b_Id_schedule 176 = .ok (.iload 9, 2) := by decide +kernel
theorem d_Id_schedule_178 : decode b_Id_schedule 178 = .ok (.iconst 3, 1) := by decide +kernel
theorem d_Id_schedule_179 : decode b_Id_schedule 179 = .ok (.iadd, 1) := by decide +kernel
theorem d_Id_schedule_180 : decode b_Id_schedule 180 = .ok (.iaload, 1) := by decide +kernel
theorem d_Id_schedule_181 : decode b_Id_schedule 181 = .ok (.invokestatic 20, 3) := by decide +kernel
theorem d_Id_schedule_184 : decode b_Id_schedule 184 = .ok (.iastore, 1) := by decide +kernel
theorem d_Id_schedule_185 : decode b_Id_schedule 185 = .ok (.iinc 9 6, 3) := by decide +kernel
theorem d_Id_schedule_188 : decode b_Id_schedule 188 = .ok (.goto (-92), 3) := by decide +kernel
theorem d_Id_schedule_191 : decode b_Id_schedule 191 = .ok (.return_, 1) := by decide +kernel
theorem d_Id_quarterOf_0 : decode b_Id_quarterOf 0 = .ok (.lload_n 0, 1) := by decide +kernel
theorem d_Id_quarterOf_1 : decode b_Id_quarterOf 1 = .ok (.bipush 48, 2) := by decide +kernel
theorem d_Id_quarterOf_3 : decode b_Id_quarterOf 3 = .ok (.bipush 16, 2) := by decide +kernel
theorem d_Id_quarterOf_5 : decode b_Id_quarterOf 5 = .ok (.iload_n 2, 1) := by decide +kernel
theorem d_Id_quarterOf_6 : decode b_Id_quarterOf 6 = .ok (.imul, 1) := by decide +kernel
theorem d_Id_quarterOf_7 : decode b_Id_quarterOf 7 = .ok (.isub, 1) := by decide +kernel
theorem d_Id_quarterOf_8 : decode b_Id_quarterOf 8 = .ok (.lushr, 1) := by decide +kernel
theorem d_Id_quarterOf_9 : decode b_Id_quarterOf 9 = .ok (.l2i, 1) := by decide +kernel
theorem d_Id_quarterOf_10 : decode b_Id_quarterOf 10 = .ok (.ldc 24, 2) := by decide +kernel
theorem d_Id_quarterOf_12 : decode b_Id_quarterOf 12 = .ok (.iand, 1) := by decide +kernel
theorem d_Id_quarterOf_13 : decode b_Id_quarterOf 13 = .ok (.ireturn, 1) := by decide +kernel
theorem d_Id_inverse_0 : decode b_Id_inverse 0 = .ok (.iload_n 0, 1) := by decide +kernel
theorem d_Id_inverse_1 : decode b_Id_inverse 1 = .ok (.istore_n 1, 1) := by decide +kernel
theorem d_Id_inverse_2 : decode b_Id_inverse 2 = .ok (.iconst 1, 1) := by decide +kernel
theorem d_Id_inverse_3 : decode b_Id_inverse 3 = .ok (.istore_n 2, 1) := by decide +kernel
theorem d_Id_inverse_4 : decode b_Id_inverse 4 = .ok (.iload_n 2, 1) := by decide +kernel
theorem d_Id_inverse_5 : decode b_Id_inverse 5 = .ok (.bipush 16, 2) := by decide +kernel
theorem d_Id_inverse_7 : decode b_Id_inverse 7 = .ok (.if_icmp .ge 19, 3) := by decide +kernel
theorem d_Id_inverse_10 : decode b_Id_inverse 10 = .ok (.iload_n 1, 1) := by decide +kernel
theorem d_Id_inverse_11 : decode b_Id_inverse 11 = .ok (.iload_n 1, 1) := by decide +kernel
theorem d_Id_inverse_12 : decode b_Id_inverse 12 = .ok (.invokestatic 37, 3) := by decide +kernel
theorem d_Id_inverse_15 : decode b_Id_inverse 15 = .ok (.iload_n 0, 1) := by decide +kernel
theorem d_Id_inverse_16 : decode b_Id_inverse 16 = .ok (.invokestatic 37, 3) := by decide +kernel
theorem d_Id_inverse_19 : decode b_Id_inverse 19 = .ok (.istore_n 1, 1) := by decide +kernel
theorem d_Id_inverse_20 : decode b_Id_inverse 20 = .ok (.iinc 2 1, 3) := by decide +kernel
theorem d_Id_inverse_23 : decode b_Id_inverse 23 = .ok (.goto (-19), 3) := by decide +kernel
theorem d_Id_inverse_26 : decode b_Id_inverse 26 = .ok (.iload_n 1, 1) := by decide +kernel
theorem d_Id_inverse_27 : decode b_Id_inverse 27 = .ok (.ireturn, 1) := by decide +kernel
theorem d_Id_times_0 : decode b_Id_times 0 = .ok (.iload_n 0, 1) := by decide +kernel
theorem d_Id_times_1 : decode b_Id_times 1 = .ok (.ifCond .ne 8, 3) := by decide +kernel
theorem d_Id_times_4 : decode b_Id_times 4 = .ok (.ldc 47, 2) := by decide +kernel
theorem d_Id_times_6 : decode b_Id_times 6 = .ok (.goto 4, 3) := by decide +kernel
theorem d_Id_times_9 : decode b_Id_times 9 = .ok (.iload_n 0, 1) := by decide +kernel
theorem d_Id_times_10 : decode b_Id_times 10 = .ok (.i2l, 1) := by decide +kernel
theorem d_Id_times_11 : decode b_Id_times 11 = .ok (.iload_n 1, 1) := by decide +kernel
theorem d_Id_times_12 : decode b_Id_times 12 = .ok (.ifCond .ne 8, 3) := by decide +kernel
theorem d_Id_times_15 : decode b_Id_times 15 = .ok (.ldc 47, 2) := by decide +kernel
theorem d_Id_times_17 : decode b_Id_times 17 = .ok (.goto 4, 3) := by decide +kernel
theorem d_Id_times_20 : decode b_Id_times 20 = .ok (.iload_n 1, 1) := by decide +kernel
theorem d_Id_times_21 : decode b_Id_times 21 = .ok (.i2l, 1) := by decide +kernel
theorem d_Id_times_22 : decode b_Id_times 22 = .ok (.lmul, 1) := by decide +kernel
theorem d_Id_times_23 : decode b_Id_times 23 = .ok (.lstore_n 2, 1) := by decide +kernel
theorem d_Id_times_24 : decode b_Id_times 24 = .ok (.lload_n 2, 1) := by decide +kernel
theorem d_Id_times_25 : decode b_Id_times 25 = .ok (.ldc2_w 48, 3) := by decide +kernel
theorem d_Id_times_28 : decode b_Id_times 28 = .ok (.lrem, 1) := by decide +kernel
theorem d_Id_times_29 : decode b_Id_times 29 = .ok (.l2i, 1) := by decide +kernel
theorem d_Id_times_30 : decode b_Id_times 30 = .ok (.ldc 24, 2) := by decide +kernel
theorem d_Id_times_32 : decode b_Id_times 32 = .ok (.iand, 1) := by decide +kernel
theorem d_Id_times_33 : decode b_Id_times 33 = .ok (.ireturn, 1) := by decide +kernel
theorem d_Rc_schedule_0 : decode b_Rc_schedule 0 = .ok (.iconst 0, 1) := by decide +kernel
theorem d_Rc_schedule_1 : decode b_Rc_schedule 1 = .ok (.istore 5, 2) := by decide +kernel
theorem d_Rc_schedule_3 : decode b_Rc_schedule 3 = .ok (.iload 5, 2) := by decide +kernel
theorem d_Rc_schedule_5 : decode b_Rc_schedule 5 = .ok (.iconst 4, 1) := by decide +kernel
theorem d_Rc_schedule_6 : decode b_Rc_schedule 6 = .ok (.if_icmp .ge 26, 3) := by decide +kernel
theorem d_Rc_schedule_9 : decode b_Rc_schedule 9 = .ok (.aload_n 0, 1) := by decide +kernel
theorem d_Rc_schedule_10 : decode b_Rc_schedule 10 = .ok (.getfield 11, 3) := by decide +kernel
theorem d_Rc_schedule_13 : decode b_Rc_schedule 13 = .ok (.iload 5, 2) := by decide +kernel
theorem d_Rc_schedule_15 : decode b_Rc_schedule 15 = .ok (.lload_n 1, 1) := by decide +kernel
theorem d_Rc_schedule_16 : decode b_Rc_schedule 16 = .ok (.lload_n 3, 1) := by decide +kernel
theorem d_Rc_schedule_17 : decode b_Rc_schedule 17 = .ok (.iload 5, 2) := by decide +kernel
theorem d_Rc_schedule_19 : decode b_Rc_schedule 19 = .ok (.invokestatic 15, 3) := by decide +kernel
theorem d_Rc_schedule_22 : decode b_Rc_schedule 22 = .ok (.invokestatic 19, 3) := by decide +kernel
