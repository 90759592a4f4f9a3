theorem d_Xt_back_39 : decode b_Xt_back 39 = .ok (.bipush 11, 2) := by decide +kernel
theorem d_Xt_back_41 : decode b_Xt_back 41 = .ok (.iushr, 1) := by decide +kernel
theorem d_Xt_back_42 : decode b_Xt_back 42 = .ok (.iconst 3, 1) := by decide +kernel
theorem d_Xt_back_43 : decode b_Xt_back 43 = .ok (.iand, 1) := by decide +kernel
theorem d_Xt_back_44 : decode b_Xt_back 44 = .ok (.iaload, 1) := by decide +kernel
theorem d_Xt_back_45 : decode b_Xt_back 45 = .ok (.iadd, 1) := by decide +kernel
theorem d_Xt_back_46 : decode b_Xt_back 46 = .ok (.ixor, 1) := by decide +kernel
theorem d_Xt_back_47 : decode b_Xt_back 47 = .ok (.isub, 1) := by decide +kernel
theorem d_Xt_back_48 : decode b_Xt_back 48 = .ok (.istore 4, 2) := by decide +kernel
theorem d_Xt_back_50 : decode b_Xt_back 50 = .ok (.iload 5, 2) := by decide +kernel
theorem d_Xt_back_52 : decode b_Xt_back 52 = .ok (.ldc 30, 2) := by decide +kernel
theorem d_Xt_back_54 : decode b_Xt_back 54 = .ok (.iadd, 1) := by decide +kernel
theorem d_Xt_back_55 : decode b_Xt_back 55 = .ok (.istore 5, 2) := by decide +kernel
theorem d_Xt_back_57 : decode b_Xt_back 57 = .ok (.iload_n 3, 1) := by decide +kernel
theorem d_Xt_back_58 : decode b_Xt_back 58 = .ok (.iload 4, 2) := by decide +kernel
theorem d_Xt_back_60 : decode b_Xt_back 60 = .ok (.invokestatic 26, 3) := by decide +kernel
theorem d_Xt_back_63 : decode b_Xt_back 63 = .ok (.iload 5, 2) := by decide +kernel
theorem d_Xt_back_65 : decode b_Xt_back 65 = .ok (.aload_n 0, 1) := by decide +kernel
theorem d_Xt_back_66 : decode b_Xt_back 66 = .ok (.getfield 9, 3) := by decide +kernel
theorem d_Xt_back_69 : decode b_Xt_back 69 = .ok (.iload 5, 2) := by decide +kernel
theorem d_Xt_back_71 : decode b_Xt_back 71 = .ok (.iconst 3, 1) := by decide +kernel
theorem d_Xt_back_72 : decode b_Xt_back 72 = .ok (.iand, 1) := by decide +kernel
theorem d_Xt_back_73 : decode b_Xt_back 73 = .ok (.iaload, 1) := by decide +kernel
theorem d_Xt_back_74 : decode b_Xt_back 74 = .ok (.iadd, 1) := by decide +kernel
theorem d_Xt_back_75 : decode b_Xt_back 75 = .ok (.ixor, 1) := by decide +kernel
theorem d_Xt_back_76 : decode b_Xt_back 76 = .ok (.isub, 1) := by decide +kernel
theorem d_Xt_back_77 : decode b_Xt_back 77 = .ok (.istore_n 3, 1) := by decide +kernel
theorem d_Xt_back_78 : decode b_Xt_back 78 = .ok (.iinc 6 1, 3) := by decide +kernel
theorem d_Xt_back_81 : decode b_Xt_back 81 = .ok (.goto (-63), 3) := by decide +kernel
theorem d_Xt_back_84 : decode b_Xt_back 84 = .ok (.iload_n 3, 1) := by decide +kernel
theorem d_Xt_back_85 : decode b_Xt_back 85 = .ok (.iload 4, 2) := by decide +kernel
theorem d_Xt_back_87 : decode b_Xt_back 87 = .ok (.invokestatic 31, 3) := by decide +kernel
theorem d_Xt_back_90 : decode b_Xt_back 90 = .ok (.lreturn, 1) := by decide +kernel
theorem d_Xt_stirred_0 : decode b_Xt_stirred 0 = .ok (.iload_n 0, 1) := by decide +kernel
theorem d_Xt_stirred_1 : decode b_Xt_stirred 1 = .ok (.iconst 4, 1) := by decide +kernel
theorem d_Xt_stirred_2 : decode b_Xt_stirred 2 = .ok (.ishl, 1) := by decide +kernel
theorem d_Xt_stirred_3 : decode b_Xt_stirred 3 = .ok (.iload_n 0, 1) := by decide +kernel
theorem d_Xt_stirred_4 : decode b_Xt_stirred 4 = .ok (.iconst 5, 1) := by decide +kernel
theorem d_Xt_stirred_5 : decode b_Xt_stirred 5 = .ok (.iushr, 1) := by decide +kernel
theorem d_Xt_stirred_6 : decode b_Xt_stirred 6 = .ok (.ixor, 1) := by decide +kernel
theorem d_Xt_stirred_7 : decode b_Xt_stirred 7 = .ok (.iload_n 0, 1) := by decide +kernel
theorem d_Xt_stirred_8 : decode b_Xt_stirred 8 = .ok (.iadd, 1) := by decide +kernel
theorem d_Xt_stirred_9 : decode b_Xt_stirred 9 = .ok (.ireturn, 1) := by decide +kernel
theorem d_Id_on_0 : decode b_Id_on 0 = .ok (.lload_n 1, 1) := by decide +kernel
theorem d_Id_on_1 : decode b_Id_on 1 = .ok (.lstore_n 3, 1) := by decide +kernel
theorem d_Id_on_2 : decode b_Id_on 2 = .ok (.iconst 0, 1) := by decide +kernel
theorem d_Id_on_3 : decode b_Id_on 3 = .ok (.istore 5, 2) := by decide +kernel
theorem d_Id_on_5 : decode b_Id_on 5 = .ok (.iload 5, 2) := by decide +kernel
theorem d_Id_on_7 : decode b_Id_on 7 = .ok (.bipush 8, 2) := by decide +kernel
theorem d_Id_on_9 : decode b_Id_on 9 = .ok (.if_icmp .ge 37, 3) := by decide +kernel
theorem d_Id_on_12 : decode b_Id_on 12 = .ok (.aload_n 0, 1) := by decide +kernel
theorem d_Id_on_13 : decode b_Id_on 13 = .ok (.lload_n 3, 1) := by decide +kernel
theorem d_Id_on_14 : decode b_Id_on 14 = .ok (.aload_n 0, 1) := by decide +kernel
theorem d_Id_on_15 : decode b_Id_on 15 = .ok (.getfield 13, 3) := by decide +kernel
theorem d_Id_on_18 : decode b_Id_on 18 = .ok (.bipush 6, 2) := by decide +kernel
theorem d_Id_on_20 : decode b_Id_on 20 = .ok (.iload 5, 2) := by decide +kernel
theorem d_Id_on_22 : decode b_Id_on 22 = .ok (.imul, 1) := by decide +kernel
theorem d_Id_on_23 : decode b_Id_on 23 = .ok (.invokestatic 25, 3) := by decide +kernel
theorem d_Id_on_26 : decode b_Id_on 26 = .ok (.bipush 6, 2) := by decide +kernel
theorem d_Id_on_28 : decode b_Id_on 28 = .ok (.iload 5, 2) := by decide +kernel
theorem d_Id_on_30 : decode b_Id_on 30 = .ok (.imul, 1) := by decide +kernel
theorem d_Id_on_31 : decode b_Id_on 31 = .ok (.iconst 4, 1) := by decide +kernel
theorem d_Id_on_32 : decode b_Id_on 32 = .ok (.iadd, 1) := by decide +kernel
theorem d_Id_on_33 : decode b_Id_on 33 = .ok (.invokevirtual 29, 3) := by decide +kernel
theorem d_Id_on_36 : decode b_Id_on 36 = .ok (.invokestatic 33, 3) := by decide +kernel
theorem d_Id_on_39 : decode b_Id_on 39 = .ok (.lstore_n 3, 1) := by decide +kernel
theorem d_Id_on_40 : decode b_Id_on 40 = .ok (.iinc 5 1, 3) := by decide +kernel
theorem d_Id_on_43 : decode b_Id_on 43 = .ok (.goto (-38), 3) := by decide +kernel
theorem d_Id_on_46 : decode b_Id_on 46 = .ok (.lload_n 3, 1) := by decide +kernel
theorem d_Id_on_47 : decode b_Id_on 47 = .ok (.invokestatic 33, 3) := by decide +kernel
theorem d_Id_on_50 : decode b_Id_on 50 = .ok (.aload_n 0, 1) := by decide +kernel
theorem d_Id_on_51 : decode b_Id_on 51 = .ok (.getfield 13, 3) := by decide +kernel
theorem d_Id_on_54 : decode b_Id_on 54 = .ok (.bipush 48, 2) := by decide +kernel
theorem d_Id_on_56 : decode b_Id_on 56 = .ok (.invokestatic 25, 3) := by decide +kernel
theorem d_Id_on_59 : decode b_Id_on 59 = .ok (.lreturn, 1) := by decide +kernel
theorem d_Rc_on_0 : decode b_Rc_on 0 = .ok (.lload_n 1, 1) := by decide +kernel
theorem d_Rc_on_1 : decode b_Rc_on 1 = .ok (.invokestatic 36, 3) := by decide +kernel
theorem d_Rc_on_4 : decode b_Rc_on 4 = .ok (.invokestatic 19, 3) := by decide +kernel
theorem d_Rc_on_7 : decode b_Rc_on 7 = .ok (.aload_n 0, 1) := by decide +kernel
theorem d_Rc_on_8 : decode b_Rc_on 8 = .ok (.getfield 23, 3) := by decide +kernel
theorem d_Rc_on_11 : decode b_Rc_on 11 = .ok (.iconst 0, 1) := by decide +kernel
theorem d_Rc_on_12 : decode b_Rc_on 12 = .ok (.iaload, 1) := by decide +kernel
theorem d_Rc_on_13 : decode b_Rc_on 13 = .ok (.iadd, 1) := by decide +kernel
theorem d_Rc_on_14 : decode b_Rc_on 14 = .ok (.istore_n 3, 1) := by decide +kernel
theorem d_Rc_on_15 : decode b_Rc_on 15 = .ok (.lload_n 1, 1) := by decide +kernel
theorem d_Rc_on_16 : decode b_Rc_on 16 = .ok (.invokestatic 40, 3) := by decide +kernel
theorem d_Rc_on_19 : decode b_Rc_on 19 = .ok (.invokestatic 19, 3) := by decide +kernel
theorem d_Rc_on_22 : decode b_Rc_on 22 = .ok (.aload_n 0, 1) := by decide +kernel
theorem d_Rc_on_23 : decode b_Rc_on 23 = .ok (.getfield 23, 3) := by decide +kernel
theorem d_Rc_on_26 : decode b_Rc_on 26 = .ok (.iconst 1, 1) := by decide +kernel
theorem d_Rc_on_27 : decode b_Rc_on 27 = .ok (.iaload, 1) := by decide +kernel
theorem d_Rc_on_28 : decode b_Rc_on 28 = .ok (.iadd, 1) := by decide +kernel
theorem d_Rc_on_29 : decode b_Rc_on 29 = .ok (.istore 4, 2) := by decide +kernel
theorem d_Rc_on_31 : decode b_Rc_on 31 = .ok (.iconst 1, 1) := by decide +kernel
theorem d_Rc_on_32 : decode b_Rc_on 32 = .ok (.istore 5, 2) := by decide +kernel
theorem d_Rc_on_34 : decode b_Rc_on 34 = .ok (.iload 5, 2) := by decide +kernel
theorem d_Rc_on_36 : decode b_Rc_on 36 = .ok (.bipush 12, 2) := by decide +kernel
theorem d_Rc_on_38 : decode b_Rc_on 38 = .ok (.if_icmp .gt 51, 3) := by decide +kernel
theorem d_Rc_on_41 : decode b_Rc_on 41 = .ok (.iload_n 3, 1) := by decide +kernel
theorem d_Rc_on_42 : decode b_Rc_on 42 = .ok (.iload 4, 2) := by decide +kernel
theorem d_Rc_on_44 : decode b_Rc_on 44 = .ok (.ixor, 1) := by decide +kernel
theorem d_Rc_on_45 : decode b_Rc_on 45 = .ok (.iload 4, 2) := by decide +kernel
theorem d_Rc_on_47 : decode b_Rc_on 47 = .ok (.invokestatic 32, 3) := by decide +kernel
theorem d_Rc_on_50 : decode b_Rc_on 50 = .ok (.aload_n 0, 1) := by decide +kernel
theorem d_Rc_on_51 : decode b_Rc_on 51 = .ok (.getfield 23, 3) := by decide +kernel
theorem d_Rc_on_54 : decode b_Rc_on 54 = .ok (.iconst 2, 1) := by decide +kernel
theorem d_Rc_on_55 : decode b_Rc_on 55 = .ok (.iload 5, 2) := by decide +kernel
theorem d_Rc_on_57 : decode b_Rc_on 57 = .ok (.imul, 1) := by decide +kernel
theorem d_Rc_on_58 : decode b_Rc_on 58 = .ok (.iaload, 1) := by decide +kernel
theorem d_Rc_on_59 : decode b_Rc_on 59 = .ok (.iadd, 1) := by decide +kernel
theorem d_Rc_on_60 : decode b_Rc_on 60 = .ok (.istore_n 3, 1) := by decide +kernel
theorem d_Rc_on_61 : decode b_Rc_on 61 = .ok (.iload 4, 2) := by decide +kernel
theorem d_Rc_on_63 : decode b_Rc_on 63 = .ok (.iload_n 3, 1) := by decide +kernel
theorem d_Rc_on_64 : decode b_Rc_on 64 = .ok (.ixor, 1) := by decide +kernel
theorem d_Rc_on_65 : decode b_Rc_on 65 = .ok (.iload_n 3, 1) := by decide +kernel
theorem d_Rc_on_66 : decode b_Rc_on 66 = .ok (.invokestatic 32, 3) := by decide +kernel
theorem d_Rc_on_69 : decode b_Rc_on 69 = .ok (.aload_n 0, 1) := by decide +kernel
theorem d_Rc_on_70 : decode b_Rc_on 70 = .ok (.getfield 23, 3) := by decide +kernel
theorem d_Rc_on_73 : decode b_Rc_on 73 = .ok (.iconst 2, 1) := by decide +kernel
theorem d_Rc_on_74 : decode b_Rc_on 74 = .ok (.iload 5, 2) := by decide +kernel
theorem d_Rc_on_76 : decode b_Rc_on 76 = .ok (.imul, 1) := by decide +kernel
theorem d_Rc_on_77 : decode b_Rc_on 77 = .ok (.iconst 1, 1) := by decide +kernel
theorem d_Rc_on_78 : decode b_Rc_on 78 = .ok (.iadd, 1) := by decide +kernel
theorem d_Rc_on_79 : decode b_Rc_on 79 = .ok (.iaload, 1) := by decide +kernel
theorem d_Rc_on_80 : decode b_Rc_on 80 = .ok (.iadd, 1) := by decide +kernel
theorem d_Rc_on_81 : decode b_Rc_on 81 = .ok (.istore 4, 2) := by decide +kernel
theorem d_Rc_on_83 : decode b_Rc_on 83 = .ok (.iinc 5 1, 3) := by decide +kernel
theorem d_Rc_on_86 : decode b_Rc_on 86 = .ok (.goto (-52), 3) := by decide +kernel
theorem d_Rc_on_89 : decode b_Rc_on 89 = .ok (.iload_n 3, 1) := by decide +kernel
theorem d_Rc_on_90 : decode b_Rc_on 90 = .ok (.invokestatic 19, 3) := by decide +kernel
theorem d_Rc_on_93 : decode b_Rc_on 93 = .ok (.iload 4, 2) := by decide +kernel
theorem d_Rc_on_95 : decode b_Rc_on 95 = .ok (.invokestatic 19, 3) := by decide +kernel
theorem d_Rc_on_98 : decode b_Rc_on 98 = .ok (.invokestatic 43, 3) := by decide +kernel
theorem d_Rc_on_101 : decode b_Rc_on 101 = .ok (.lreturn, 1) := by decide +kernel
theorem d_Si_on_0 : decode b_Si_on 0 = .ok (.lload_n 1, 1) := by decide +kernel
theorem d_Si_on_1 : decode b_Si_on 1 = .ok (.invokestatic 29, 3) := by decide +kernel
theorem d_Si_on_4 : decode b_Si_on 4 = .ok (.istore_n 3, 1) := by decide +kernel
theorem d_Si_on_5 : decode b_Si_on 5 = .ok (.lload_n 1, 1) := by decide +kernel
theorem d_Si_on_6 : decode b_Si_on 6 = .ok (.invokestatic 33, 3) := by decide +kernel
theorem d_Si_on_9 : decode b_Si_on 9 = .ok (.istore 4, 2) := by decide +kernel
theorem d_Si_on_11 : decode b_Si_on 11 = .ok (.iconst 0, 1) := by decide +kernel
theorem d_Si_on_12 : decode b_Si_on 12 = .ok (.istore 5, 2) := by decide +kernel
theorem d_Si_on_14 : decode b_Si_on 14 = .ok (.iload 5, 2) := by decide +kernel
theorem d_Si_on_16 : decode b_Si_on 16 = .ok (.bipush 44, 2) := by decide +kernel
theorem d_Si_on_18 : decode b_Si_on 18 = .ok (.if_icmp .ge 32, 3) := by decide +kernel
theorem d_Si_on_21 : decode b_Si_on 21 = .ok (.iload_n 3, 1) := by decide +kernel
theorem d_Si_on_22 : decode b_Si_on 22 = .ok (.istore 6, 2) := by decide +kernel
theorem d_Si_on_24 : decode b_Si_on 24 = .ok (.iload 4, 2) := by decide +kernel
theorem d_Si_on_26 : decode b_Si_on 26 = .ok (.iload_n 3, 1) := by decide +kernel
theorem d_Si_on_27 : decode b_Si_on 27 = .ok (.invokestatic 36, 3) := by decide +kernel
theorem d_Si_on_30 : decode b_Si_on 30 = .ok (.ixor, 1) := by decide +kernel
theorem d_Si_on_31 : decode b_Si_on 31 = .ok (.aload_n 0, 1) := by decide +kernel
theorem d_Si_on_32 : decode b_Si_on 32 = .ok (.getfield 9, 3) := by decide +kernel
theorem d_Si_on_35 : decode b_Si_on 35 = .ok (.iload 5, 2) := by decide +kernel
theorem d_Si_on_37 : decode b_Si_on 37 = .ok (.iaload, 1) := by decide +kernel
theorem d_Si_on_38 : decode b_Si_on 38 = .ok (.ixor, 1) := by decide +kernel
theorem d_Si_on_39 : decode b_Si_on 39 = .ok (.istore_n 3, 1) := by decide +kernel
theorem d_Si_on_40 : decode b_Si_on 40 = .ok (.iload 6, 2) := by decide +kernel
theorem d_Si_on_42 : decode b_Si_on 42 = .ok (.istore 4, 2) := by decide +kernel
theorem d_Si_on_44 : decode b_Si_on 44 = .ok (.iinc 5 1, 3) := by decide +kernel
theorem d_Si_on_47 : decode b_Si_on 47 = .ok (.goto (-33), 3) := by decide +kernel
theorem d_Si_on_50 : decode b_Si_on 50 = .ok (.iload_n 3, 1) := by decide +kernel
theorem d_Si_on_51 : decode b_Si_on 51 = .ok (.iload 4, 2) := by decide +kernel
theorem d_Si_on_53 : decode b_Si_on 53 = .ok (.invokestatic 39, 3) := by decide +kernel
theorem d_Si_on_56 : decode b_Si_on 56 = .ok (.lreturn, 1) := by decide +kernel
theorem d_Sp_on_0 : decode b_Sp_on 0 = .ok (.lload_n 1, 1) := by decide +kernel
theorem d_Sp_on_1 : decode b_Sp_on 1 = .ok (.invokestatic 29, 3) := by decide +kernel
theorem d_Sp_on_4 : decode b_Sp_on 4 = .ok (.istore_n 3, 1) := by decide +kernel
theorem d_Sp_on_5 : decode b_Sp_on 5 = .ok (.lload_n 1, 1) := by decide +kernel
theorem d_Sp_on_6 : decode b_Sp_on 6 = .ok (.invokestatic 33, 3) := by decide +kernel
theorem d_Sp_on_9 : decode b_Sp_on 9 = .ok (.istore 4, 2) := by decide +kernel
theorem d_Sp_on_11 : decode b_Sp_on 11 = .ok (.iconst 0, 1) := by decide +kernel
theorem d_Sp_on_12 : decode b_Sp_on 12 = .ok (.istore 5, 2) := by decide +kernel
theorem d_Sp_on_14 : decode b_Sp_on 14 = .ok (.iload 5, 2) := by decide +kernel
theorem d_Sp_on_16 : decode b_Sp_on 16 = .ok (.bipush 27, 2) := by decide +kernel
theorem d_Sp_on_18 : decode b_Sp_on 18 = .ok (.if_icmp .ge 37, 3) := by decide +kernel
theorem d_Sp_on_21 : decode b_Sp_on 21 = .ok (.iload_n 3, 1) := by decide +kernel
theorem d_Sp_on_22 : decode b_Sp_on 22 = .ok (.bipush 8, 2) := by decide +kernel
theorem d_Sp_on_24 : decode b_Sp_on 24 = .ok (.invokestatic 22, 3) := by decide +kernel
theorem d_Sp_on_27 : decode b_Sp_on 27 = .ok (.iload 4, 2) := by decide +kernel
theorem d_Sp_on_29 : decode b_Sp_on 29 = .ok (.iadd, 1) := by decide +kernel
theorem d_Sp_on_30 : decode b_Sp_on 30 = .ok (.aload_n 0, 1) := by decide +kernel
theorem d_Sp_on_31 : decode b_Sp_on 31 = .ok (.getfield 19, 3) := by decide +kernel
theorem d_Sp_on_34 : decode b_Sp_on 34 = .ok (.iload 5, 2) := by decide +kernel
theorem d_Sp_on_36 : decode b_Sp_on 36 = .ok (.iaload, 1) := by decide +kernel
theorem d_Sp_on_37 : decode b_Sp_on 37 = .ok (.ixor, 1) := by decide +kernel
theorem d_Sp_on_38 : decode b_Sp_on 38 = .ok (.istore_n 3, 1) := by decide +kernel
theorem d_Sp_on_39 : decode b_Sp_on 39 = .ok (.iload 4, 2) := by decide +kernel
theorem d_Sp_on_41 : decode b_Sp_on 41 = .ok (.iconst 3, 1) := by decide +kernel
theorem d_Sp_on_42 : decode b_Sp_on 42 = .ok (.invokestatic 26, 3) := by decide +kernel
theorem d_Sp_on_45 : decode b_Sp_on 45 = .ok (.iload_n 3, 1) := by decide +kernel
theorem d_Sp_on_46 : decode b_Sp_on 46 = .ok (.ixor, 1) := by decide +kernel
theorem d_Sp_on_47 : decode b_Sp_on 47 = .ok (.istore 4, 2) := by decide +kernel
theorem d_Sp_on_49 : decode b_Sp_on 49 = .ok (.iinc 5 1, 3) := by decide +kernel
theorem d_Sp_on_52 : decode b_Sp_on 52 = .ok (.goto (-38), 3) := by decide +kernel
theorem d_Sp_on_55 : decode b_Sp_on 55 = .ok (.iload_n 3, 1) := by decide +kernel
theorem d_Sp_on_56 : decode b_Sp_on 56 = .ok (.iload 4, 2) := by decide +kernel
theorem d_Sp_on_58 : decode b_Sp_on 58 = .ok (.invokestatic 36, 3) := by decide +kernel
theorem d_Sp_on_61 : decode b_Sp_on 61 = .ok (.lreturn, 1) := by decide +kernel
theorem d_Xt_on_0 : decode b_Xt_on 0 = .ok (.lload_n 1, 1) := by decide +kernel
theorem d_Xt_on_1 : decode b_Xt_on 1 = .ok (.invokestatic 19, 3) := by decide +kernel
theorem d_Xt_on_4 : decode b_Xt_on 4 = .ok (.istore_n 3, 1) := by decide +kernel
theorem d_Xt_on_5 : decode b_Xt_on 5 = .ok (.lload_n 1, 1) := by decide +kernel
theorem d_Xt_on_6 : decode b_Xt_on 6 = .ok (.invokestatic 23, 3) := by decide +kernel
theorem d_Xt_on_9 : decode b_Xt_on 9 = .ok (.istore 4, 2) := by decide +kernel
theorem d_Xt_on_11 : decode b_Xt_on 11 = .ok (.iconst 0, 1) := by decide +kernel
theorem d_Xt_on_12 : decode b_Xt_on 12 = .ok (.istore 5, 2) := by decide +kernel
theorem d_Xt_on_14 : decode b_Xt_on 14 = .ok (.iconst 0, 1) := by decide +kernel
theorem d_Xt_on_15 : decode b_Xt_on 15 = .ok (.istore 6, 2) := by decide +kernel
theorem d_Xt_on_17 : decode b_Xt_on 17 = .ok (.iload 6, 2) := by decide +kernel
theorem d_Xt_on_19 : decode b_Xt_on 19 = .ok (.bipush 32, 2) := by decide +kernel
theorem d_Xt_on_21 : decode b_Xt_on 21 = .ok (.if_icmp .ge 62, 3) := by decide +kernel
theorem d_Xt_on_24 : decode b_Xt_on 24 = .ok (.iload_n 3, 1) := by decide +kernel
theorem d_Xt_on_25 : decode b_Xt_on 25 = .ok (.iload 4, 2) := by decide +kernel
theorem d_Xt_on_27 : decode b_Xt_on 27 = .ok (.invokestatic 26, 3) := by decide +kernel
theorem d_Xt_on_30 : decode b_Xt_on 30 = .ok (.iload 5, 2) := by decide +kernel
theorem d_Xt_on_32 : decode b_Xt_on 32 = .ok (.aload_n 0, 1) := by decide +kernel
theorem d_Xt_on_33 : decode b_Xt_on 33 = .ok (.getfield 9, 3) := by decide +kernel
theorem d_Xt_on_36 : decode b_Xt_on 36 = .ok (.iload 5, 2) := by decide +kernel
theorem d_Xt_on_38 : decode b_Xt_on 38 = .ok (.iconst 3, 1) := by decide +kernel
theorem d_Xt_on_39 : decode b_Xt_on 39 = .ok (.iand, 1) := by decide +kernel
theorem d_Xt_on_40 : decode b_Xt_on 40 = .ok (.iaload, 1) := by decide +kernel
theorem d_Xt_on_41 : decode b_Xt_on 41 = .ok (.iadd, 1) := by decide +kernel
theorem d_Xt_on_42 : decode b_Xt_on 42 = .ok (.ixor, 1) := by decide +kernel
theorem d_Xt_on_43 : decode b_Xt_on 43 = .ok (.iadd, 1) := by decide +kernel
theorem d_Xt_on_44 : decode b_Xt_on 44 = .ok (.istore_n 3, 1) := by decide +kernel
theorem d_Xt_on_45 : decode b_Xt_on 45 = .ok (.iload 5, 2) := by decide +kernel
theorem d_Xt_on_47 : decode b_Xt_on 47 = .ok (.ldc 30, 2) := by decide +kernel
theorem d_Xt_on_49 : decode b_Xt_on 49 = .ok (.isub, 1) := by decide +kernel
theorem d_Xt_on_50 : decode b_Xt_on 50 = .ok (.istore 5, 2) := by decide +kernel
theorem d_Xt_on_52 : decode b_Xt_on 52 = .ok (.iload 4, 2) := by decide +kernel
theorem d_Xt_on_54 : decode b_Xt_on 54 = .ok (.iload_n 3, 1) := by decide +kernel
theorem d_Xt_on_55 : decode b_Xt_on 55 = .ok (.invokestatic 26, 3) := by decide +kernel
theorem d_Xt_on_58 : decode b_Xt_on 58 = .ok (.iload 5, 2) := by decide +kernel
theorem d_Xt_on_60 : decode b_Xt_on 60 = .ok (.aload_n 0, 1) := by decide +kernel
theorem d_Xt_on_61 : decode b_Xt_on 61 = .ok (.getfield 9, 3) := by decide +kernel
theorem d_Xt_on_64 : decode b_Xt_on 64 = .ok (.iload 5, 2) := by decide +kernel
theorem d_Xt_on_66 : decode b_Xt_on 66 = .ok (.bipush 11, 2) := by decide +kernel
theorem d_Xt_on_68 : decode b_Xt_on 68 = .ok (.iushr, 1) := by decide +kernel
theorem d_Xt_on_69 : decode b_Xt_on 69 = .ok (.iconst 3, 1) := by decide +kernel
theorem d_Xt_on_70 : decode b_Xt_on 70 = .ok (.iand, 1) := by decide +kernel
theorem d_Xt_on_71 : decode b_Xt_on 71 = .ok (.iaload, 1) := by decide +kernel
theorem d_Xt_on_72 : decode b_Xt_on 72 = .ok (.iadd, 1) := by decide +kernel
theorem d_Xt_on_73 : decode b_Xt_on 73 = .ok (.ixor, 1) := by decide +kernel
theorem d_Xt_on_74 : decode b_Xt_on 74 = .ok (.iadd, 1) := by decide +kernel
theorem d_Xt_on_75 : decode b_Xt_on 75 = .ok (.istore 4, 2) := by decide +kernel
theorem d_Xt_on_77 : decode b_Xt_on 77 = .ok (.iinc 6 1, 3) := by decide +kernel
theorem d_Xt_on_80 : decode b_Xt_on 80 = .ok (.goto (-63), 3) := by decide +kernel
theorem d_Xt_on_83 : decode b_Xt_on 83 = .ok (.iload_n 3, 1) := by decide +kernel
theorem d_Xt_on_84 : decode b_Xt_on 84 = .ok (.iload 4, 2) := by decide +kernel
theorem d_Xt_on_86 : decode b_Xt_on 86 = .ok (.invokestatic 31, 3) := by decide +kernel
theorem d_Xt_on_89 : decode b_Xt_on 89 = .ok (.lreturn, 1) := by decide +kernel
theorem d_La_word_0 : decode b_La_word 0 = .ok (.aload_n 3, 1) := by decide +kernel
theorem d_La_word_1 : decode b_La_word 1 = .ok (.iconst 0, 1) := by decide +kernel
theorem d_La_word_2 : decode b_La_word 2 = .ok (.aload_n 0, 1) := by decide +kernel
theorem d_La_word_3 : decode b_La_word 3 = .ok (.iload_n 1, 1) := by decide +kernel
theorem d_La_word_4 : decode b_La_word 4 = .ok (.iload_n 2, 1) := by decide +kernel
theorem d_La_word_5 : decode b_La_word 5 = .ok (.invokevirtual 39, 3) := by decide +kernel
theorem d_La_word_8 : decode b_La_word 8 = .ok (.i2l, 1) := by decide +kernel
theorem d_La_word_9 : decode b_La_word 9 = .ok (.lastore, 1) := by decide +kernel
theorem d_La_word_10 : decode b_La_word 10 = .ok (.goto 11, 3) := by decide +kernel
theorem d_La_word_13 : decode b_La_word 13 = .ok (.astore 4, 2) := by decide +kernel
theorem d_La_word_15 : decode b_La_word 15 = .ok (.iconst 1, 1) := by decide +kernel
theorem d_La_word_16 : decode b_La_word 16 = .ok (.ireturn, 1) := by decide +kernel
theorem d_La_word_17 : decode b_La_word 17 = .ok (.astore 4, 2) := by decide +kernel
theorem d_La_word_19 : decode b_La_word 19 = .ok (.iconst 2, 1) := by decide +kernel
theorem d_La_word_20 : decode b_La_word 20 = .ok (.ireturn, 1) := by decide +kernel
theorem d_La_word_21 : decode b_La_word 21 = .ok (.iconst 0, 1) := by decide +kernel
theorem d_La_word_22 : decode b_La_word 22 = .ok (.ireturn, 1) := by decide +kernel
theorem d_Ru_word_0 : decode b_Ru_word 0 = .ok (.aload_n 0, 1) := by decide +kernel
theorem d_Ru_word_1 : decode b_Ru_word 1 = .ok (.iload_n 1, 1) := by decide +kernel
theorem d_Ru_word_2 : decode b_Ru_word 2 = .ok (.invokevirtual 20, 3) := by decide +kernel
theorem d_Ru_word_5 : decode b_Ru_word 5 = .ok (.astore_n 3, 1) := by decide +kernel
theorem d_Ru_word_6 : decode b_Ru_word 6 = .ok (.aload_n 3, 1) := by decide +kernel
theorem d_Ru_word_7 : decode b_Ru_word 7 = .ok (.invokestatic 52, 3) := by decide +kernel
theorem d_Ru_word_10 : decode b_Ru_word 10 = .ok (.aload_n 3, 1) := by decide +kernel
theorem d_Ru_word_11 : decode b_Ru_word 11 = .ok (.getfield 60, 3) := by decide +kernel
theorem d_Ru_word_14 : decode b_Ru_word 14 = .ok (.iload_n 2, 1) := by decide +kernel
theorem d_Ru_word_15 : decode b_Ru_word 15 = .ok (.invokevirtual 70, 3) := by decide +kernel
theorem d_Ru_word_18 : decode b_Ru_word 18 = .ok (.ireturn, 1) := by decide +kernel
theorem d_Ci_wordAt_0 : decode b_Ci_wordAt 0 = .ok (.iload_n 1, 1) := by decide +kernel
theorem d_Ci_wordAt_1 : decode b_Ci_wordAt 1 = .ok (.ifCond .lt 12, 3) := by decide +kernel
theorem d_Ci_wordAt_4 : decode b_Ci_wordAt 4 = .ok (.iload_n 1, 1) := by decide +kernel
theorem d_Ci_wordAt_5 : decode b_Ci_wordAt 5 = .ok (.aload_n 0, 1) := by decide +kernel
theorem d_Ci_wordAt_6 : decode b_Ci_wordAt 6 = .ok (.getfield 9, 3) := by decide +kernel
theorem d_Ci_wordAt_9 : decode b_Ci_wordAt 9 = .ok (.arraylength, 1) := by decide +kernel
theorem d_Ci_wordAt_10 : decode b_Ci_wordAt 10 = .ok (.if_icmp .lt 7, 3) := by decide +kernel
theorem d_Ci_wordAt_13 : decode b_Ci_wordAt 13 = .ok (.iconst (-1), 1) := by decide +kernel
theorem d_Ci_wordAt_14 : decode b_Ci_wordAt 14 = .ok (.goto 9, 3) := by decide +kernel
theorem d_Ci_wordAt_17 : decode b_Ci_wordAt 17 = .ok (.aload_n 0, 1) := by decide +kernel
theorem d_Ci_wordAt_18 : decode b_Ci_wordAt 18 = .ok (.getfield 9, 3) := by decide +kernel
theorem d_Ci_wordAt_21 : decode b_Ci_wordAt 21 = .ok (.iload_n 1, 1) := by decide +kernel
theorem d_Ci_wordAt_22 : decode b_Ci_wordAt 22 = .ok (.iaload, 1) := by decide +kernel
theorem d_Ci_wordAt_23 : decode b_Ci_wordAt 23 = .ok (.ireturn, 1) := by decide +kernel
theorem d_La_put_0 : decode b_La_put 0 = .ok (.aload_n 0, 1) := by decide +kernel
theorem d_La_put_1 : decode b_La_put 1 = .ok (.iload_n 1, 1) := by decide +kernel
theorem d_La_put_2 : decode b_La_put 2 = .ok (.iload_n 2, 1) := by decide +kernel
theorem d_La_put_3 : decode b_La_put 3 = .ok (.invokevirtual 43, 3) := by decide +kernel
theorem d_La_put_6 : decode b_La_put 6 = .ok (.goto 6, 3) := by decide +kernel
theorem d_La_put_9 : decode b_La_put 9 = .ok (.astore_n 3, 1) := by decide +kernel
theorem d_La_put_10 : decode b_La_put 10 = .ok (.iconst 1, 1) := by decide +kernel
theorem d_La_put_11 : decode b_La_put 11 = .ok (.ireturn, 1) := by decide +kernel
theorem d_La_put_12 : decode b_La_put 12 = .ok (.iconst 0, 1) := by decide +kernel
theorem d_La_put_13 : decode b_La_put 13 = .ok (.ireturn, 1) := by decide +kernel
theorem d_Ru_put_0 : decode b_Ru_put 0 = .ok (.iload_n 1, 1) := by decide +kernel
theorem d_Ru_put_1 : decode b_Ru_put 1 = .ok (.invokestatic 74, 3) := by decide +kernel
theorem d_Ru_put_4 : decode b_Ru_put 4 = .ok (.aload_n 0, 1) := by decide +kernel
theorem d_Ru_put_5 : decode b_Ru_put 5 = .ok (.getfield 15, 3) := by decide +kernel
theorem d_Ru_put_8 : decode b_Ru_put 8 = .ok (.iload_n 1, 1) := by decide +kernel
theorem d_Ru_put_9 : decode b_Ru_put 9 = .ok (.iload_n 2, 1) := by decide +kernel
theorem d_Ru_put_10 : decode b_Ru_put 10 = .ok (.sipush 255, 3) := by decide +kernel
theorem d_Ru_put_13 : decode b_Ru_put 13 = .ok (.iand, 1) := by decide +kernel
theorem d_Ru_put_14 : decode b_Ru_put 14 = .ok (.iastore, 1) := by decide +kernel
theorem d_Ru_put_15 : decode b_Ru_put 15 = .ok (.return_, 1) := by decide +kernel
theorem d_Ru_requirePlace_0 : decode b_Ru_requirePlace 0 = .ok (.iload_n 0, 1) := by decide +kernel
theorem d_Ru_requirePlace_1 : decode b_Ru_requirePlace 1 = .ok (.ifCond .lt 9, 3) := by decide +kernel
theorem d_Ru_requirePlace_4 : decode b_Ru_requirePlace 4 = .ok (.iload_n 0, 1) := by decide +kernel
theorem d_Ru_requirePlace_5 : decode b_Ru_requirePlace 5 = .ok (.bipush 64, 2) := by decide +kernel
theorem d_Ru_requirePlace_7 : decode b_Ru_requirePlace 7 = .ok (.if_icmp .lt 13, 3) := by decide +kernel
theorem d_Ru_requirePlace_10 : decode b_Ru_requirePlace 10 = .ok (.new 112, 3) := by decide +kernel
theorem d_Ru_requirePlace_13 : decode b_Ru_requirePlace 13 = .ok (.dup, 1) := by decide +kernel
theorem d_Ru_requirePlace_14 : decode b_Ru_requirePlace 14 = .ok (.ldc 121, 2) := by decide +kernel
theorem d_Ru_requirePlace_16 : decode b_Ru_requirePlace 16 = .ok (.invokespecial 116, 3) := by decide +kernel
theorem d_Ru_requirePlace_19 : decode b_Ru_requirePlace 19 = .ok (.athrow, 1) := by decide +kernel
theorem d_Ru_requirePlace_20 : decode b_Ru_requirePlace 20 = .ok (.return_, 1) := by decide +kernel
theorem d_La_get_0 : decode b_La_get 0 = .ok (.aload_n 2, 1) := by decide +kernel
theorem d_La_get_1 : decode b_La_get 1 = .ok (.iconst 0, 1) := by decide +kernel
theorem d_La_get_2 : decode b_La_get 2 = .ok (.aload_n 0, 1) := by decide +kernel
theorem d_La_get_3 : decode b_La_get 3 = .ok (.iload_n 1, 1) := by decide +kernel
theorem d_La_get_4 : decode b_La_get 4 = .ok (.invokevirtual 46, 3) := by decide +kernel
theorem d_La_get_7 : decode b_La_get 7 = .ok (.i2l, 1) := by decide +kernel
theorem d_La_get_8 : decode b_La_get 8 = .ok (.lastore, 1) := by decide +kernel
theorem d_La_get_9 : decode b_La_get 9 = .ok (.goto 6, 3) := by decide +kernel
theorem d_La_get_12 : decode b_La_get 12 = .ok (.astore_n 3, 1) := by decide +kernel
theorem d_La_get_13 : decode b_La_get 13 = .ok (.iconst 1, 1) := by decide +kernel
theorem d_La_get_14 : decode b_La_get 14 = .ok (.ireturn, 1) := by decide +kernel
theorem d_La_get_15 : decode b_La_get 15 = .ok (.iconst 0, 1) := by decide +kernel
theorem d_La_get_16 : decode b_La_get 16 = .ok (.ireturn, 1) := by decide +kernel
theorem d_Ru_get_0 : decode b_Ru_get 0 = .ok (.iload_n 1, 1) := by decide +kernel
theorem d_Ru_get_1 : decode b_Ru_get 1 = .ok (.invokestatic 74, 3) := by decide +kernel
theorem d_Ru_get_4 : decode b_Ru_get 4 = .ok (.aload_n 0, 1) := by decide +kernel
theorem d_Ru_get_5 : decode b_Ru_get 5 = .ok (.getfield 15, 3) := by decide +kernel
theorem d_Ru_get_8 : decode b_Ru_get 8 = .ok (.iload_n 1, 1) := by decide +kernel
theorem d_Ru_get_9 : decode b_Ru_get 9 = .ok (.iaload, 1) := by decide +kernel
theorem d_Ru_get_10 : decode b_Ru_get 10 = .ok (.ireturn, 1) := by decide +kernel
theorem d_La_feed_0 : decode b_La_feed 0 = .ok (.aload 5, 2) := by decide +kernel
theorem d_La_feed_2 : decode b_La_feed 2 = .ok (.iconst 0, 1) := by decide +kernel
theorem d_La_feed_3 : decode b_La_feed 3 = .ok (.aload_n 0, 1) := by decide +kernel
theorem d_La_feed_4 : decode b_La_feed 4 = .ok (.iload_n 1, 1) := by decide +kernel
theorem d_La_feed_5 : decode b_La_feed 5 = .ok (.iload_n 2, 1) := by decide +kernel
theorem d_La_feed_6 : decode b_La_feed 6 = .ok (.iload_n 3, 1) := by decide +kernel
theorem d_La_feed_7 : decode b_La_feed 7 = .ok (.iload 4, 2) := by decide +kernel
theorem d_La_feed_9 : decode b_La_feed 9 = .ok (.invokevirtual 49, 3) := by decide +kernel
theorem d_La_feed_12 : decode b_La_feed 12 = .ok (.i2l, 1) := by decide +kernel
theorem d_La_feed_13 : decode b_La_feed 13 = .ok (.lastore, 1) := by decide +kernel
theorem d_La_feed_14 : decode b_La_feed 14 = .ok (.goto 15, 3) := by decide +kernel
theorem d_La_feed_17 : decode b_La_feed 17 = .ok (.astore 6, 2) := by decide +kernel
theorem d_La_feed_19 : decode b_La_feed 19 = .ok (.iconst 1, 1) := by decide +kernel
theorem d_La_feed_20 : decode b_La_feed 20 = .ok (.ireturn, 1) := by decide +kernel
theorem d_La_feed_21 : decode b_La_feed 21 = .ok (.astore 6, 2) := by decide +kernel
theorem d_La_feed_23 : decode b_La_feed 23 = .ok (.iconst 2, 1) := by decide +kernel
theorem d_La_feed_24 : decode b_La_feed 24 = .ok (.ireturn, 1) := by decide +kernel
theorem d_La_feed_25 : decode b_La_feed 25 = .ok (.astore 6, 2) := by decide +kernel
theorem d_La_feed_27 : decode b_La_feed 27 = .ok (.iconst 3, 1) := by decide +kernel
theorem d_La_feed_28 : decode b_La_feed 28 = .ok (.ireturn, 1) := by decide +kernel
theorem d_La_feed_29 : decode b_La_feed 29 = .ok (.iconst 0, 1) := by decide +kernel
theorem d_La_feed_30 : decode b_La_feed 30 = .ok (.ireturn, 1) := by decide +kernel
theorem d_Ru_feed_0 : decode b_Ru_feed 0 = .ok (.aload_n 0, 1) := by decide +kernel
theorem d_Ru_feed_1 : decode b_Ru_feed 1 = .ok (.iload_n 1, 1) := by decide +kernel
theorem d_Ru_feed_2 : decode b_Ru_feed 2 = .ok (.invokevirtual 20, 3) := by decide +kernel
theorem d_Ru_feed_5 : decode b_Ru_feed 5 = .ok (.astore 5, 2) := by decide +kernel
theorem d_Ru_feed_7 : decode b_Ru_feed 7 = .ok (.iload_n 3, 1) := by decide +kernel
theorem d_Ru_feed_8 : decode b_Ru_feed 8 = .ok (.iload 4, 2) := by decide +kernel
theorem d_Ru_feed_10 : decode b_Ru_feed 10 = .ok (.invokestatic 77, 3) := by decide +kernel
theorem d_Ru_feed_13 : decode b_Ru_feed 13 = .ok (.aload 5, 2) := by decide +kernel
theorem d_Ru_feed_15 : decode b_Ru_feed 15 = .ok (.getfield 31, 3) := by decide +kernel
theorem d_Ru_feed_18 : decode b_Ru_feed 18 = .ok (.iconst 3, 1) := by decide +kernel
theorem d_Ru_feed_19 : decode b_Ru_feed 19 = .ok (.if_icmp .ne 12, 3) := by decide +kernel
theorem d_Ru_feed_22 : decode b_Ru_feed 22 = .ok (.aload 5, 2) := by decide +kernel
theorem d_Ru_feed_24 : decode b_Ru_feed 24 = .ok (.getfield 81, 3) := by decide +kernel
theorem d_Ru_feed_27 : decode b_Ru_feed 27 = .ok (.iconst 5, 1) := by decide +kernel
theorem d_Ru_feed_28 : decode b_Ru_feed 28 = .ok (.if_icmp .ne 13, 3) := by decide +kernel
theorem d_Ru_feed_31 : decode b_Ru_feed 31 = .ok (.new 35, 3) := by decide +kernel
theorem d_Ru_feed_34 : decode b_Ru_feed 34 = .ok (.dup, 1) := by decide +kernel
theorem d_Ru_feed_35 : decode b_Ru_feed 35 = .ok (.ldc 84, 2) := by decide +kernel
theorem d_Ru_feed_37 : decode b_Ru_feed 37 = .ok (.invokespecial 39, 3) := by decide +kernel
theorem d_Ru_feed_40 : decode b_Ru_feed 40 = .ok (.athrow, 1) := by decide +kernel
theorem d_Ru_feed_41 : decode b_Ru_feed 41 = .ok (.aload 5, 2) := by decide +kernel
theorem d_Ru_feed_43 : decode b_Ru_feed 43 = .ok (.invokevirtual 86, 3) := by decide +kernel
theorem d_Ru_feed_46 : decode b_Ru_feed 46 = .ok (.ifCond .eq 21, 3) := by decide +kernel
theorem d_Ru_feed_49 : decode b_Ru_feed 49 = .ok (.iload 4, 2) := by decide +kernel
theorem d_Ru_feed_51 : decode b_Ru_feed 51 = .ok (.bipush 8, 2) := by decide +kernel
theorem d_Ru_feed_53 : decode b_Ru_feed 53 = .ok (.irem, 1) := by decide +kernel
theorem d_Ru_feed_54 : decode b_Ru_feed 54 = .ok (.ifCond .eq 13, 3) := by decide +kernel
theorem d_Ru_feed_57 : decode b_Ru_feed 57 = .ok (.new 24, 3) := by decide +kernel
theorem d_Ru_feed_60 : decode b_Ru_feed 60 = .ok (.dup, 1) := by decide +kernel
theorem d_Ru_feed_61 : decode b_Ru_feed 61 = .ok (.ldc 90, 2) := by decide +kernel
theorem d_Ru_feed_63 : decode b_Ru_feed 63 = .ok (.invokespecial 28, 3) := by decide +kernel
theorem d_Ru_feed_66 : decode b_Ru_feed 66 = .ok (.athrow, 1) := by decide +kernel
theorem d_Ru_feed_67 : decode b_Ru_feed 67 = .ok (.aload 5, 2) := by decide +kernel
