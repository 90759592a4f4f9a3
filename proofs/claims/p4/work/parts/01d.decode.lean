theorem d_La_free_5 : decode b_La_free 5 = .ok (.goto 6, 3) := by decide +kernel
theorem d_La_free_8 : decode b_La_free 8 = .ok (.astore_n 2, 1) := by decide +kernel
theorem d_La_free_9 : decode b_La_free 9 = .ok (.iconst 1, 1) := by decide +kernel
theorem d_La_free_10 : decode b_La_free 10 = .ok (.ireturn, 1) := by decide +kernel
theorem d_La_free_11 : decode b_La_free 11 = .ok (.iconst 0, 1) := by decide +kernel
theorem d_La_free_12 : decode b_La_free 12 = .ok (.ireturn, 1) := by decide +kernel
theorem d_Ru_free_0 : decode b_Ru_free 0 = .ok (.aload_n 0, 1) := by decide +kernel
theorem d_Ru_free_1 : decode b_Ru_free 1 = .ok (.iload_n 1, 1) := by decide +kernel
theorem d_Ru_free_2 : decode b_Ru_free 2 = .ok (.invokevirtual 20, 3) := by decide +kernel
theorem d_Ru_free_5 : decode b_Ru_free 5 = .ok (.iconst 0, 1) := by decide +kernel
theorem d_Ru_free_6 : decode b_Ru_free 6 = .ok (.putfield 31, 3) := by decide +kernel
theorem d_Ru_free_9 : decode b_Ru_free 9 = .ok (.return_, 1) := by decide +kernel
theorem d_La_stage_0 : decode b_La_stage 0 = .ok (.aload_n 2, 1) := by decide +kernel
theorem d_La_stage_1 : decode b_La_stage 1 = .ok (.iconst 0, 1) := by decide +kernel
theorem d_La_stage_2 : decode b_La_stage 2 = .ok (.aload_n 0, 1) := by decide +kernel
theorem d_La_stage_3 : decode b_La_stage 3 = .ok (.iload_n 1, 1) := by decide +kernel
theorem d_La_stage_4 : decode b_La_stage 4 = .ok (.invokevirtual 31, 3) := by decide +kernel
theorem d_La_stage_7 : decode b_La_stage 7 = .ok (.i2l, 1) := by decide +kernel
theorem d_La_stage_8 : decode b_La_stage 8 = .ok (.lastore, 1) := by decide +kernel
theorem d_La_stage_9 : decode b_La_stage 9 = .ok (.goto 6, 3) := by decide +kernel
theorem d_La_stage_12 : decode b_La_stage 12 = .ok (.astore_n 3, 1) := by decide +kernel
theorem d_La_stage_13 : decode b_La_stage 13 = .ok (.iconst 1, 1) := by decide +kernel
theorem d_La_stage_14 : decode b_La_stage 14 = .ok (.ireturn, 1) := by decide +kernel
theorem d_La_stage_15 : decode b_La_stage 15 = .ok (.iconst 0, 1) := by decide +kernel
theorem d_La_stage_16 : decode b_La_stage 16 = .ok (.ireturn, 1) := by decide +kernel
theorem d_Ru_stage_0 : decode b_Ru_stage 0 = .ok (.aload_n 0, 1) := by decide +kernel
theorem d_Ru_stage_1 : decode b_Ru_stage 1 = .ok (.iload_n 1, 1) := by decide +kernel
theorem d_Ru_stage_2 : decode b_Ru_stage 2 = .ok (.invokevirtual 20, 3) := by decide +kernel
theorem d_Ru_stage_5 : decode b_Ru_stage 5 = .ok (.getfield 31, 3) := by decide +kernel
theorem d_Ru_stage_8 : decode b_Ru_stage 8 = .ok (.ireturn, 1) := by decide +kernel
theorem d_La_block_0 : decode b_La_block 0 = .ok (.aload 5, 2) := by decide +kernel
theorem d_La_block_2 : decode b_La_block 2 = .ok (.iconst 0, 1) := by decide +kernel
theorem d_La_block_3 : decode b_La_block 3 = .ok (.aload_n 0, 1) := by decide +kernel
theorem d_La_block_4 : decode b_La_block 4 = .ok (.iload_n 1, 1) := by decide +kernel
theorem d_La_block_5 : decode b_La_block 5 = .ok (.iload_n 2, 1) := by decide +kernel
theorem d_La_block_6 : decode b_La_block 6 = .ok (.lload_n 3, 1) := by decide +kernel
theorem d_La_block_7 : decode b_La_block 7 = .ok (.invokevirtual 35, 3) := by decide +kernel
theorem d_La_block_10 : decode b_La_block 10 = .ok (.lastore, 1) := by decide +kernel
theorem d_La_block_11 : decode b_La_block 11 = .ok (.goto 11, 3) := by decide +kernel
theorem d_La_block_14 : decode b_La_block 14 = .ok (.astore 6, 2) := by decide +kernel
theorem d_La_block_16 : decode b_La_block 16 = .ok (.iconst 1, 1) := by decide +kernel
theorem d_La_block_17 : decode b_La_block 17 = .ok (.ireturn, 1) := by decide +kernel
theorem d_La_block_18 : decode b_La_block 18 = .ok (.astore 6, 2) := by decide +kernel
theorem d_La_block_20 : decode b_La_block 20 = .ok (.iconst 2, 1) := by decide +kernel
theorem d_La_block_21 : decode b_La_block 21 = .ok (.ireturn, 1) := by decide +kernel
theorem d_La_block_22 : decode b_La_block 22 = .ok (.iconst 0, 1) := by decide +kernel
theorem d_La_block_23 : decode b_La_block 23 = .ok (.ireturn, 1) := by decide +kernel
theorem d_Ru_block_0 : decode b_Ru_block 0 = .ok (.aload_n 0, 1) := by decide +kernel
theorem d_Ru_block_1 : decode b_Ru_block 1 = .ok (.iload_n 1, 1) := by decide +kernel
theorem d_Ru_block_2 : decode b_Ru_block 2 = .ok (.invokevirtual 20, 3) := by decide +kernel
theorem d_Ru_block_5 : decode b_Ru_block 5 = .ok (.astore 5, 2) := by decide +kernel
theorem d_Ru_block_7 : decode b_Ru_block 7 = .ok (.aload 5, 2) := by decide +kernel
theorem d_Ru_block_9 : decode b_Ru_block 9 = .ok (.invokestatic 52, 3) := by decide +kernel
theorem d_Ru_block_12 : decode b_Ru_block 12 = .ok (.aload 5, 2) := by decide +kernel
theorem d_Ru_block_14 : decode b_Ru_block 14 = .ok (.getfield 60, 3) := by decide +kernel
theorem d_Ru_block_17 : decode b_Ru_block 17 = .ok (.iload_n 2, 1) := by decide +kernel
theorem d_Ru_block_18 : decode b_Ru_block 18 = .ok (.lload_n 3, 1) := by decide +kernel
theorem d_Ru_block_19 : decode b_Ru_block 19 = .ok (.invokevirtual 64, 3) := by decide +kernel
theorem d_Ru_block_22 : decode b_Ru_block 22 = .ok (.lreturn, 1) := by decide +kernel
theorem d_Ci_onOrBack_0 : decode b_Ci_onOrBack 0 = .ok (.iload_n 1, 1) := by decide +kernel
theorem d_Ci_onOrBack_1 : decode b_Ci_onOrBack 1 = .ok (.ifCond .eq 11, 3) := by decide +kernel
theorem d_Ci_onOrBack_4 : decode b_Ci_onOrBack 4 = .ok (.aload_n 0, 1) := by decide +kernel
theorem d_Ci_onOrBack_5 : decode b_Ci_onOrBack 5 = .ok (.lload_n 2, 1) := by decide +kernel
theorem d_Ci_onOrBack_6 : decode b_Ci_onOrBack 6 = .ok (.invokevirtual 15, 3) := by decide +kernel
theorem d_Ci_onOrBack_9 : decode b_Ci_onOrBack 9 = .ok (.goto 8, 3) := by decide +kernel
theorem d_Ci_onOrBack_12 : decode b_Ci_onOrBack 12 = .ok (.aload_n 0, 1) := by decide +kernel
theorem d_Ci_onOrBack_13 : decode b_Ci_onOrBack 13 = .ok (.lload_n 2, 1) := by decide +kernel
theorem d_Ci_onOrBack_14 : decode b_Ci_onOrBack 14 = .ok (.invokevirtual 19, 3) := by decide +kernel
theorem d_Ci_onOrBack_17 : decode b_Ci_onOrBack 17 = .ok (.lreturn, 1) := by decide +kernel
theorem d_Id_back_0 : decode b_Id_back 0 = .ok (.lload_n 1, 1) := by decide +kernel
theorem d_Id_back_1 : decode b_Id_back 1 = .ok (.aload_n 0, 1) := by decide +kernel
theorem d_Id_back_2 : decode b_Id_back 2 = .ok (.getfield 9, 3) := by decide +kernel
theorem d_Id_back_5 : decode b_Id_back 5 = .ok (.bipush 48, 2) := by decide +kernel
theorem d_Id_back_7 : decode b_Id_back 7 = .ok (.invokestatic 25, 3) := by decide +kernel
theorem d_Id_back_10 : decode b_Id_back 10 = .ok (.invokestatic 33, 3) := by decide +kernel
theorem d_Id_back_13 : decode b_Id_back 13 = .ok (.lstore_n 3, 1) := by decide +kernel
theorem d_Id_back_14 : decode b_Id_back 14 = .ok (.bipush 7, 2) := by decide +kernel
theorem d_Id_back_16 : decode b_Id_back 16 = .ok (.istore 5, 2) := by decide +kernel
theorem d_Id_back_18 : decode b_Id_back 18 = .ok (.iload 5, 2) := by decide +kernel
theorem d_Id_back_20 : decode b_Id_back 20 = .ok (.ifCond .lt 37, 3) := by decide +kernel
theorem d_Id_back_23 : decode b_Id_back 23 = .ok (.aload_n 0, 1) := by decide +kernel
theorem d_Id_back_24 : decode b_Id_back 24 = .ok (.lload_n 3, 1) := by decide +kernel
theorem d_Id_back_25 : decode b_Id_back 25 = .ok (.invokestatic 33, 3) := by decide +kernel
theorem d_Id_back_28 : decode b_Id_back 28 = .ok (.bipush 6, 2) := by decide +kernel
theorem d_Id_back_30 : decode b_Id_back 30 = .ok (.iload 5, 2) := by decide +kernel
theorem d_Id_back_32 : decode b_Id_back 32 = .ok (.imul, 1) := by decide +kernel
theorem d_Id_back_33 : decode b_Id_back 33 = .ok (.iconst 4, 1) := by decide +kernel
theorem d_Id_back_34 : decode b_Id_back 34 = .ok (.iadd, 1) := by decide +kernel
theorem d_Id_back_35 : decode b_Id_back 35 = .ok (.invokevirtual 29, 3) := by decide +kernel
theorem d_Id_back_38 : decode b_Id_back 38 = .ok (.aload_n 0, 1) := by decide +kernel
theorem d_Id_back_39 : decode b_Id_back 39 = .ok (.getfield 9, 3) := by decide +kernel
theorem d_Id_back_42 : decode b_Id_back 42 = .ok (.bipush 6, 2) := by decide +kernel
theorem d_Id_back_44 : decode b_Id_back 44 = .ok (.iload 5, 2) := by decide +kernel
theorem d_Id_back_46 : decode b_Id_back 46 = .ok (.imul, 1) := by decide +kernel
theorem d_Id_back_47 : decode b_Id_back 47 = .ok (.invokestatic 25, 3) := by decide +kernel
theorem d_Id_back_50 : decode b_Id_back 50 = .ok (.lstore_n 3, 1) := by decide +kernel
theorem d_Id_back_51 : decode b_Id_back 51 = .ok (.iinc 5 (-1), 3) := by decide +kernel
theorem d_Id_back_54 : decode b_Id_back 54 = .ok (.goto (-36), 3) := by decide +kernel
theorem d_Id_back_57 : decode b_Id_back 57 = .ok (.lload_n 3, 1) := by decide +kernel
theorem d_Id_back_58 : decode b_Id_back 58 = .ok (.lreturn, 1) := by decide +kernel
theorem d_Id_keyed_0 : decode b_Id_keyed 0 = .ok (.lload_n 0, 1) := by decide +kernel
theorem d_Id_keyed_1 : decode b_Id_keyed 1 = .ok (.iconst 0, 1) := by decide +kernel
theorem d_Id_keyed_2 : decode b_Id_keyed 2 = .ok (.invokestatic 16, 3) := by decide +kernel
theorem d_Id_keyed_5 : decode b_Id_keyed 5 = .ok (.aload_n 2, 1) := by decide +kernel
theorem d_Id_keyed_6 : decode b_Id_keyed 6 = .ok (.iload_n 3, 1) := by decide +kernel
theorem d_Id_keyed_7 : decode b_Id_keyed 7 = .ok (.iaload, 1) := by decide +kernel
theorem d_Id_keyed_8 : decode b_Id_keyed 8 = .ok (.invokestatic 37, 3) := by decide +kernel
theorem d_Id_keyed_11 : decode b_Id_keyed 11 = .ok (.istore 4, 2) := by decide +kernel
theorem d_Id_keyed_13 : decode b_Id_keyed 13 = .ok (.lload_n 0, 1) := by decide +kernel
theorem d_Id_keyed_14 : decode b_Id_keyed 14 = .ok (.iconst 1, 1) := by decide +kernel
theorem d_Id_keyed_15 : decode b_Id_keyed 15 = .ok (.invokestatic 16, 3) := by decide +kernel
theorem d_Id_keyed_18 : decode b_Id_keyed 18 = .ok (.aload_n 2, 1) := by decide +kernel
theorem d_Id_keyed_19 : decode b_Id_keyed 19 = .ok (.iload_n 3, 1) := by decide +kernel
theorem d_Id_keyed_20 : decode b_Id_keyed 20 = .ok (.iconst 1, 1) := by decide +kernel
theorem d_Id_keyed_21 : decode b_Id_keyed 21 = .ok (.iadd, 1) := by decide +kernel
theorem d_Id_keyed_22 : decode b_Id_keyed 22 = .ok (.iaload, 1) := by decide +kernel
theorem d_Id_keyed_23 : decode b_Id_keyed 23 = .ok (.iadd, 1) := by decide +kernel
theorem d_Id_keyed_24 : decode b_Id_keyed 24 = .ok (.istore 5, 2) := by decide +kernel
theorem d_Id_keyed_26 : decode b_Id_keyed 26 = .ok (.lload_n 0, 1) := by decide +kernel
theorem d_Id_keyed_27 : decode b_Id_keyed 27 = .ok (.iconst 2, 1) := by decide +kernel
theorem d_Id_keyed_28 : decode b_Id_keyed 28 = .ok (.invokestatic 16, 3) := by decide +kernel
theorem d_Id_keyed_31 : decode b_Id_keyed 31 = .ok (.aload_n 2, 1) := by decide +kernel
theorem d_Id_keyed_32 : decode b_Id_keyed 32 = .ok (.iload_n 3, 1) := by decide +kernel
theorem d_Id_keyed_33 : decode b_Id_keyed 33 = .ok (.iconst 2, 1) := by decide +kernel
theorem d_Id_keyed_34 : decode b_Id_keyed 34 = .ok (.iadd, 1) := by decide +kernel
theorem d_Id_keyed_35 : decode b_Id_keyed 35 = .ok (.iaload, 1) := by decide +kernel
theorem d_Id_keyed_36 : decode b_Id_keyed 36 = .ok (.iadd, 1) := by decide +kernel
theorem d_Id_keyed_37 : decode b_Id_keyed 37 = .ok (.istore 6, 2) := by decide +kernel
theorem d_Id_keyed_39 : decode b_Id_keyed 39 = .ok (.lload_n 0, 1) := by decide +kernel
theorem d_Id_keyed_40 : decode b_Id_keyed 40 = .ok (.iconst 3, 1) := by decide +kernel
theorem d_Id_keyed_41 : decode b_Id_keyed 41 = .ok (.invokestatic 16, 3) := by decide +kernel
theorem d_Id_keyed_44 : decode b_Id_keyed 44 = .ok (.aload_n 2, 1) := by decide +kernel
theorem d_Id_keyed_45 : decode b_Id_keyed 45 = .ok (.iload_n 3, 1) := by decide +kernel
theorem d_Id_keyed_46 : decode b_Id_keyed 46 = .ok (.iconst 3, 1) := by decide +kernel
theorem d_Id_keyed_47 : decode b_Id_keyed 47 = .ok (.iadd, 1) := by decide +kernel
theorem d_Id_keyed_48 : decode b_Id_keyed 48 = .ok (.iaload, 1) := by decide +kernel
theorem d_Id_keyed_49 : decode b_Id_keyed 49 = .ok (.invokestatic 37, 3) := by decide +kernel
theorem d_Id_keyed_52 : decode b_Id_keyed 52 = .ok (.istore 7, 2) := by decide +kernel
theorem d_Id_keyed_54 : decode b_Id_keyed 54 = .ok (.iload 4, 2) := by decide +kernel
theorem d_Id_keyed_56 : decode b_Id_keyed 56 = .ok (.i2l, 1) := by decide +kernel
theorem d_Id_keyed_57 : decode b_Id_keyed 57 = .ok (.iload 5, 2) := by decide +kernel
theorem d_Id_keyed_59 : decode b_Id_keyed 59 = .ok (.i2l, 1) := by decide +kernel
theorem d_Id_keyed_60 : decode b_Id_keyed 60 = .ok (.iload 6, 2) := by decide +kernel
theorem d_Id_keyed_62 : decode b_Id_keyed 62 = .ok (.i2l, 1) := by decide +kernel
theorem d_Id_keyed_63 : decode b_Id_keyed 63 = .ok (.iload 7, 2) := by decide +kernel
theorem d_Id_keyed_65 : decode b_Id_keyed 65 = .ok (.i2l, 1) := by decide +kernel
theorem d_Id_keyed_66 : decode b_Id_keyed 66 = .ok (.invokestatic 41, 3) := by decide +kernel
theorem d_Id_keyed_69 : decode b_Id_keyed 69 = .ok (.lreturn, 1) := by decide +kernel
theorem d_Id_ofQuarters_0 : decode b_Id_ofQuarters 0 = .ok (.lload_n 0, 1) := by decide +kernel
theorem d_Id_ofQuarters_1 : decode b_Id_ofQuarters 1 = .ok (.ldc2_w 45, 3) := by decide +kernel
theorem d_Id_ofQuarters_4 : decode b_Id_ofQuarters 4 = .ok (.land, 1) := by decide +kernel
theorem d_Id_ofQuarters_5 : decode b_Id_ofQuarters 5 = .ok (.bipush 48, 2) := by decide +kernel
theorem d_Id_ofQuarters_7 : decode b_Id_ofQuarters 7 = .ok (.lshl, 1) := by decide +kernel
theorem d_Id_ofQuarters_8 : decode b_Id_ofQuarters 8 = .ok (.lload_n 2, 1) := by decide +kernel
theorem d_Id_ofQuarters_9 : decode b_Id_ofQuarters 9 = .ok (.ldc2_w 45, 3) := by decide +kernel
theorem d_Id_ofQuarters_12 : decode b_Id_ofQuarters 12 = .ok (.land, 1) := by decide +kernel
theorem d_Id_ofQuarters_13 : decode b_Id_ofQuarters 13 = .ok (.bipush 32, 2) := by decide +kernel
theorem d_Id_ofQuarters_15 : decode b_Id_ofQuarters 15 = .ok (.lshl, 1) := by decide +kernel
theorem d_Id_ofQuarters_16 : decode b_Id_ofQuarters 16 = .ok (.lor, 1) := by decide +kernel
theorem d_Id_ofQuarters_17 : decode b_Id_ofQuarters 17 = .ok (.lload 4, 2) := by decide +kernel
theorem d_Id_ofQuarters_19 : decode b_Id_ofQuarters 19 = .ok (.ldc2_w 45, 3) := by decide +kernel
theorem d_Id_ofQuarters_22 : decode b_Id_ofQuarters 22 = .ok (.land, 1) := by decide +kernel
theorem d_Id_ofQuarters_23 : decode b_Id_ofQuarters 23 = .ok (.bipush 16, 2) := by decide +kernel
theorem d_Id_ofQuarters_25 : decode b_Id_ofQuarters 25 = .ok (.lshl, 1) := by decide +kernel
theorem d_Id_ofQuarters_26 : decode b_Id_ofQuarters 26 = .ok (.lor, 1) := by decide +kernel
theorem d_Id_ofQuarters_27 : decode b_Id_ofQuarters 27 = .ok (.lload 6, 2) := by decide +kernel
theorem d_Id_ofQuarters_29 : decode b_Id_ofQuarters 29 = .ok (.ldc2_w 45, 3) := by decide +kernel
theorem d_Id_ofQuarters_32 : decode b_Id_ofQuarters 32 = .ok (.land, 1) := by decide +kernel
theorem d_Id_ofQuarters_33 : decode b_Id_ofQuarters 33 = .ok (.lor, 1) := by decide +kernel
theorem d_Id_ofQuarters_34 : decode b_Id_ofQuarters 34 = .ok (.lreturn, 1) := by decide +kernel
theorem d_Id_middleSwapped_0 : decode b_Id_middleSwapped 0 = .ok (.lload_n 0, 1) := by decide +kernel
theorem d_Id_middleSwapped_1 : decode b_Id_middleSwapped 1 = .ok (.iconst 0, 1) := by decide +kernel
theorem d_Id_middleSwapped_2 : decode b_Id_middleSwapped 2 = .ok (.invokestatic 16, 3) := by decide +kernel
theorem d_Id_middleSwapped_5 : decode b_Id_middleSwapped 5 = .ok (.i2l, 1) := by decide +kernel
theorem d_Id_middleSwapped_6 : decode b_Id_middleSwapped 6 = .ok (.lload_n 0, 1) := by decide +kernel
theorem d_Id_middleSwapped_7 : decode b_Id_middleSwapped 7 = .ok (.iconst 2, 1) := by decide +kernel
theorem d_Id_middleSwapped_8 : decode b_Id_middleSwapped 8 = .ok (.invokestatic 16, 3) := by decide +kernel
theorem d_Id_middleSwapped_11 : decode b_Id_middleSwapped 11 = .ok (.i2l, 1) := by decide +kernel
theorem d_Id_middleSwapped_12 : decode b_Id_middleSwapped 12 = .ok (.lload_n 0, 1) := by decide +kernel
theorem d_Id_middleSwapped_13 : decode b_Id_middleSwapped 13 = .ok (.iconst 1, 1) := by decide +kernel
theorem d_Id_middleSwapped_14 : decode b_Id_middleSwapped 14 = .ok (.invokestatic 16, 3) := by decide +kernel
theorem d_Id_middleSwapped_17 : decode b_Id_middleSwapped 17 = .ok (.i2l, 1) := by decide +kernel
theorem d_Id_middleSwapped_18 : decode b_Id_middleSwapped 18 = .ok (.lload_n 0, 1) := by decide +kernel
theorem d_Id_middleSwapped_19 : decode b_Id_middleSwapped 19 = .ok (.iconst 3, 1) := by decide +kernel
theorem d_Id_middleSwapped_20 : decode b_Id_middleSwapped 20 = .ok (.invokestatic 16, 3) := by decide +kernel
theorem d_Id_middleSwapped_23 : decode b_Id_middleSwapped 23 = .ok (.i2l, 1) := by decide +kernel
theorem d_Id_middleSwapped_24 : decode b_Id_middleSwapped 24 = .ok (.invokestatic 41, 3) := by decide +kernel
theorem d_Id_middleSwapped_27 : decode b_Id_middleSwapped 27 = .ok (.lreturn, 1) := by decide +kernel
theorem d_Id_mixed_0 : decode b_Id_mixed 0 = .ok (.lload_n 1, 1) := by decide +kernel
theorem d_Id_mixed_1 : decode b_Id_mixed 1 = .ok (.iconst 0, 1) := by decide +kernel
theorem d_Id_mixed_2 : decode b_Id_mixed 2 = .ok (.invokestatic 16, 3) := by decide +kernel
theorem d_Id_mixed_5 : decode b_Id_mixed 5 = .ok (.lload_n 1, 1) := by decide +kernel
theorem d_Id_mixed_6 : decode b_Id_mixed 6 = .ok (.iconst 2, 1) := by decide +kernel
theorem d_Id_mixed_7 : decode b_Id_mixed 7 = .ok (.invokestatic 16, 3) := by decide +kernel
theorem d_Id_mixed_10 : decode b_Id_mixed 10 = .ok (.ixor, 1) := by decide +kernel
theorem d_Id_mixed_11 : decode b_Id_mixed 11 = .ok (.aload_n 0, 1) := by decide +kernel
theorem d_Id_mixed_12 : decode b_Id_mixed 12 = .ok (.getfield 13, 3) := by decide +kernel
theorem d_Id_mixed_15 : decode b_Id_mixed 15 = .ok (.iload_n 3, 1) := by decide +kernel
theorem d_Id_mixed_16 : decode b_Id_mixed 16 = .ok (.iaload, 1) := by decide +kernel
theorem d_Id_mixed_17 : decode b_Id_mixed 17 = .ok (.invokestatic 37, 3) := by decide +kernel
theorem d_Id_mixed_20 : decode b_Id_mixed 20 = .ok (.istore 4, 2) := by decide +kernel
theorem d_Id_mixed_22 : decode b_Id_mixed 22 = .ok (.iload 4, 2) := by decide +kernel
theorem d_Id_mixed_24 : decode b_Id_mixed 24 = .ok (.lload_n 1, 1) := by decide +kernel
theorem d_Id_mixed_25 : decode b_Id_mixed 25 = .ok (.iconst 1, 1) := by decide +kernel
theorem d_Id_mixed_26 : decode b_Id_mixed 26 = .ok (.invokestatic 16, 3) := by decide +kernel
theorem d_Id_mixed_29 : decode b_Id_mixed 29 = .ok (.lload_n 1, 1) := by decide +kernel
theorem d_Id_mixed_30 : decode b_Id_mixed 30 = .ok (.iconst 3, 1) := by decide +kernel
theorem d_Id_mixed_31 : decode b_Id_mixed 31 = .ok (.invokestatic 16, 3) := by decide +kernel
theorem d_Id_mixed_34 : decode b_Id_mixed 34 = .ok (.ixor, 1) := by decide +kernel
theorem d_Id_mixed_35 : decode b_Id_mixed 35 = .ok (.iadd, 1) := by decide +kernel
theorem d_Id_mixed_36 : decode b_Id_mixed 36 = .ok (.ldc 24, 2) := by decide +kernel
theorem d_Id_mixed_38 : decode b_Id_mixed 38 = .ok (.iand, 1) := by decide +kernel
theorem d_Id_mixed_39 : decode b_Id_mixed 39 = .ok (.aload_n 0, 1) := by decide +kernel
theorem d_Id_mixed_40 : decode b_Id_mixed 40 = .ok (.getfield 13, 3) := by decide +kernel
theorem d_Id_mixed_43 : decode b_Id_mixed 43 = .ok (.iload_n 3, 1) := by decide +kernel
theorem d_Id_mixed_44 : decode b_Id_mixed 44 = .ok (.iconst 1, 1) := by decide +kernel
theorem d_Id_mixed_45 : decode b_Id_mixed 45 = .ok (.iadd, 1) := by decide +kernel
theorem d_Id_mixed_46 : decode b_Id_mixed 46 = .ok (.iaload, 1) := by decide +kernel
theorem d_Id_mixed_47 : decode b_Id_mixed 47 = .ok (.invokestatic 37, 3) := by decide +kernel
theorem d_Id_mixed_50 : decode b_Id_mixed 50 = .ok (.istore 5, 2) := by decide +kernel
theorem d_Id_mixed_52 : decode b_Id_mixed 52 = .ok (.iload 4, 2) := by decide +kernel
theorem d_Id_mixed_54 : decode b_Id_mixed 54 = .ok (.iload 5, 2) := by decide +kernel
theorem d_Id_mixed_56 : decode b_Id_mixed 56 = .ok (.iadd, 1) := by decide +kernel
theorem d_Id_mixed_57 : decode b_Id_mixed 57 = .ok (.istore 6, 2) := by decide +kernel
theorem d_Id_mixed_59 : decode b_Id_mixed 59 = .ok (.lload_n 1, 1) := by decide +kernel
theorem d_Id_mixed_60 : decode b_Id_mixed 60 = .ok (.iload 5, 2) := by decide +kernel
theorem d_Id_mixed_62 : decode b_Id_mixed 62 = .ok (.i2l, 1) := by decide +kernel
theorem d_Id_mixed_63 : decode b_Id_mixed 63 = .ok (.iload 6, 2) := by decide +kernel
theorem d_Id_mixed_65 : decode b_Id_mixed 65 = .ok (.i2l, 1) := by decide +kernel
theorem d_Id_mixed_66 : decode b_Id_mixed 66 = .ok (.iload 5, 2) := by decide +kernel
theorem d_Id_mixed_68 : decode b_Id_mixed 68 = .ok (.i2l, 1) := by decide +kernel
theorem d_Id_mixed_69 : decode b_Id_mixed 69 = .ok (.iload 6, 2) := by decide +kernel
theorem d_Id_mixed_71 : decode b_Id_mixed 71 = .ok (.i2l, 1) := by decide +kernel
theorem d_Id_mixed_72 : decode b_Id_mixed 72 = .ok (.invokestatic 41, 3) := by decide +kernel
theorem d_Id_mixed_75 : decode b_Id_mixed 75 = .ok (.lxor, 1) := by decide +kernel
theorem d_Id_mixed_76 : decode b_Id_mixed 76 = .ok (.lreturn, 1) := by decide +kernel
theorem d_Rc_back_0 : decode b_Rc_back 0 = .ok (.lload_n 1, 1) := by decide +kernel
theorem d_Rc_back_1 : decode b_Rc_back 1 = .ok (.invokestatic 36, 3) := by decide +kernel
theorem d_Rc_back_4 : decode b_Rc_back 4 = .ok (.invokestatic 19, 3) := by decide +kernel
theorem d_Rc_back_7 : decode b_Rc_back 7 = .ok (.istore_n 3, 1) := by decide +kernel
theorem d_Rc_back_8 : decode b_Rc_back 8 = .ok (.lload_n 1, 1) := by decide +kernel
theorem d_Rc_back_9 : decode b_Rc_back 9 = .ok (.invokestatic 40, 3) := by decide +kernel
theorem d_Rc_back_12 : decode b_Rc_back 12 = .ok (.invokestatic 19, 3) := by decide +kernel
theorem d_Rc_back_15 : decode b_Rc_back 15 = .ok (.istore 4, 2) := by decide +kernel
theorem d_Rc_back_17 : decode b_Rc_back 17 = .ok (.bipush 12, 2) := by decide +kernel
theorem d_Rc_back_19 : decode b_Rc_back 19 = .ok (.istore 5, 2) := by decide +kernel
theorem d_Rc_back_21 : decode b_Rc_back 21 = .ok (.iload 5, 2) := by decide +kernel
theorem d_Rc_back_23 : decode b_Rc_back 23 = .ok (.iconst 1, 1) := by decide +kernel
theorem d_Rc_back_24 : decode b_Rc_back 24 = .ok (.if_icmp .lt 51, 3) := by decide +kernel
theorem d_Rc_back_27 : decode b_Rc_back 27 = .ok (.iload 4, 2) := by decide +kernel
theorem d_Rc_back_29 : decode b_Rc_back 29 = .ok (.aload_n 0, 1) := by decide +kernel
theorem d_Rc_back_30 : decode b_Rc_back 30 = .ok (.getfield 23, 3) := by decide +kernel
theorem d_Rc_back_33 : decode b_Rc_back 33 = .ok (.iconst 2, 1) := by decide +kernel
theorem d_Rc_back_34 : decode b_Rc_back 34 = .ok (.iload 5, 2) := by decide +kernel
theorem d_Rc_back_36 : decode b_Rc_back 36 = .ok (.imul, 1) := by decide +kernel
theorem d_Rc_back_37 : decode b_Rc_back 37 = .ok (.iconst 1, 1) := by decide +kernel
theorem d_Rc_back_38 : decode b_Rc_back 38 = .ok (.iadd, 1) := by decide +kernel
theorem d_Rc_back_39 : decode b_Rc_back 39 = .ok (.iaload, 1) := by decide +kernel
theorem d_Rc_back_40 : decode b_Rc_back 40 = .ok (.isub, 1) := by decide +kernel
theorem d_Rc_back_41 : decode b_Rc_back 41 = .ok (.iload_n 3, 1) := by decide +kernel
theorem d_Rc_back_42 : decode b_Rc_back 42 = .ok (.invokestatic 47, 3) := by decide +kernel
theorem d_Rc_back_45 : decode b_Rc_back 45 = .ok (.iload_n 3, 1) := by decide +kernel
theorem d_Rc_back_46 : decode b_Rc_back 46 = .ok (.ixor, 1) := by decide +kernel
theorem d_Rc_back_47 : decode b_Rc_back 47 = .ok (.istore 4, 2) := by decide +kernel
theorem d_Rc_back_49 : decode b_Rc_back 49 = .ok (.iload_n 3, 1) := by decide +kernel
theorem d_Rc_back_50 : decode b_Rc_back 50 = .ok (.aload_n 0, 1) := by decide +kernel
theorem d_Rc_back_51 : decode b_Rc_back 51 = .ok (.getfield 23, 3) := by decide +kernel
theorem d_Rc_back_54 : decode b_Rc_back 54 = .ok (.iconst 2, 1) := by decide +kernel
theorem d_Rc_back_55 : decode b_Rc_back 55 = .ok (.iload 5, 2) := by decide +kernel
theorem d_Rc_back_57 : decode b_Rc_back 57 = .ok (.imul, 1) := by decide +kernel
theorem d_Rc_back_58 : decode b_Rc_back 58 = .ok (.iaload, 1) := by decide +kernel
theorem d_Rc_back_59 : decode b_Rc_back 59 = .ok (.isub, 1) := by decide +kernel
theorem d_Rc_back_60 : decode b_Rc_back 60 = .ok (.iload 4, 2) := by decide +kernel
theorem d_Rc_back_62 : decode b_Rc_back 62 = .ok (.invokestatic 47, 3) := by decide +kernel
theorem d_Rc_back_65 : decode b_Rc_back 65 = .ok (.iload 4, 2) := by decide +kernel
theorem d_Rc_back_67 : decode b_Rc_back 67 = .ok (.ixor, 1) := by decide +kernel
theorem d_Rc_back_68 : decode b_Rc_back 68 = .ok (.istore_n 3, 1) := by decide +kernel
theorem d_Rc_back_69 : decode b_Rc_back 69 = .ok (.iinc 5 (-1), 3) := by decide +kernel
theorem d_Rc_back_72 : decode b_Rc_back 72 = .ok (.goto (-51), 3) := by decide +kernel
theorem d_Rc_back_75 : decode b_Rc_back 75 = .ok (.iload_n 3, 1) := by decide +kernel
theorem d_Rc_back_76 : decode b_Rc_back 76 = .ok (.aload_n 0, 1) := by decide +kernel
theorem d_Rc_back_77 : decode b_Rc_back 77 = .ok (.getfield 23, 3) := by decide +kernel
theorem d_Rc_back_80 : decode b_Rc_back 80 = .ok (.iconst 0, 1) := by decide +kernel
theorem d_Rc_back_81 : decode b_Rc_back 81 = .ok (.iaload, 1) := by decide +kernel
theorem d_Rc_back_82 : decode b_Rc_back 82 = .ok (.isub, 1) := by decide +kernel
theorem d_Rc_back_83 : decode b_Rc_back 83 = .ok (.invokestatic 19, 3) := by decide +kernel
theorem d_Rc_back_86 : decode b_Rc_back 86 = .ok (.iload 4, 2) := by decide +kernel
theorem d_Rc_back_88 : decode b_Rc_back 88 = .ok (.aload_n 0, 1) := by decide +kernel
theorem d_Rc_back_89 : decode b_Rc_back 89 = .ok (.getfield 23, 3) := by decide +kernel
theorem d_Rc_back_92 : decode b_Rc_back 92 = .ok (.iconst 1, 1) := by decide +kernel
theorem d_Rc_back_93 : decode b_Rc_back 93 = .ok (.iaload, 1) := by decide +kernel
theorem d_Rc_back_94 : decode b_Rc_back 94 = .ok (.isub, 1) := by decide +kernel
theorem d_Rc_back_95 : decode b_Rc_back 95 = .ok (.invokestatic 19, 3) := by decide +kernel
theorem d_Rc_back_98 : decode b_Rc_back 98 = .ok (.invokestatic 43, 3) := by decide +kernel
theorem d_Rc_back_101 : decode b_Rc_back 101 = .ok (.lreturn, 1) := by decide +kernel
theorem d_Ru_joined_0 : decode b_Ru_joined 0 = .ok (.iload_n 0, 1) := by decide +kernel
theorem d_Ru_joined_1 : decode b_Ru_joined 1 = .ok (.i2l, 1) := by decide +kernel
theorem d_Ru_joined_2 : decode b_Ru_joined 2 = .ok (.bipush 32, 2) := by decide +kernel
theorem d_Ru_joined_4 : decode b_Ru_joined 4 = .ok (.lshl, 1) := by decide +kernel
theorem d_Ru_joined_5 : decode b_Ru_joined 5 = .ok (.iload_n 1, 1) := by decide +kernel
theorem d_Ru_joined_6 : decode b_Ru_joined 6 = .ok (.i2l, 1) := by decide +kernel
theorem d_Ru_joined_7 : decode b_Ru_joined 7 = .ok (.ldc2_w 126, 3) := by decide +kernel
theorem d_Ru_joined_10 : decode b_Ru_joined 10 = .ok (.land, 1) := by decide +kernel
theorem d_Ru_joined_11 : decode b_Ru_joined 11 = .ok (.lor, 1) := by decide +kernel
theorem d_Ru_joined_12 : decode b_Ru_joined 12 = .ok (.lreturn, 1) := by decide +kernel
theorem d_Si_back_0 : decode b_Si_back 0 = .ok (.lload_n 1, 1) := by decide +kernel
theorem d_Si_back_1 : decode b_Si_back 1 = .ok (.invokestatic 29, 3) := by decide +kernel
theorem d_Si_back_4 : decode b_Si_back 4 = .ok (.istore_n 3, 1) := by decide +kernel
theorem d_Si_back_5 : decode b_Si_back 5 = .ok (.lload_n 1, 1) := by decide +kernel
theorem d_Si_back_6 : decode b_Si_back 6 = .ok (.invokestatic 33, 3) := by decide +kernel
theorem d_Si_back_9 : decode b_Si_back 9 = .ok (.istore 4, 2) := by decide +kernel
theorem d_Si_back_11 : decode b_Si_back 11 = .ok (.bipush 43, 2) := by decide +kernel
theorem d_Si_back_13 : decode b_Si_back 13 = .ok (.istore 5, 2) := by decide +kernel
theorem d_Si_back_15 : decode b_Si_back 15 = .ok (.iload 5, 2) := by decide +kernel
theorem d_Si_back_17 : decode b_Si_back 17 = .ok (.ifCond .lt 33, 3) := by decide +kernel
theorem d_Si_back_20 : decode b_Si_back 20 = .ok (.iload 4, 2) := by decide +kernel
theorem d_Si_back_22 : decode b_Si_back 22 = .ok (.istore 6, 2) := by decide +kernel
theorem d_Si_back_24 : decode b_Si_back 24 = .ok (.iload_n 3, 1) := by decide +kernel
theorem d_Si_back_25 : decode b_Si_back 25 = .ok (.iload 4, 2) := by decide +kernel
theorem d_Si_back_27 : decode b_Si_back 27 = .ok (.invokestatic 36, 3) := by decide +kernel
theorem d_Si_back_30 : decode b_Si_back 30 = .ok (.ixor, 1) := by decide +kernel
theorem d_Si_back_31 : decode b_Si_back 31 = .ok (.aload_n 0, 1) := by decide +kernel
theorem d_Si_back_32 : decode b_Si_back 32 = .ok (.getfield 9, 3) := by decide +kernel
theorem d_Si_back_35 : decode b_Si_back 35 = .ok (.iload 5, 2) := by decide +kernel
theorem d_Si_back_37 : decode b_Si_back 37 = .ok (.iaload, 1) := by decide +kernel
theorem d_Si_back_38 : decode b_Si_back 38 = .ok (.ixor, 1) := by decide +kernel
theorem d_Si_back_39 : decode b_Si_back 39 = .ok (.istore 4, 2) := by decide +kernel
theorem d_Si_back_41 : decode b_Si_back 41 = .ok (.iload 6, 2) := by decide +kernel
theorem d_Si_back_43 : decode b_Si_back 43 = .ok (.istore_n 3, 1) := by decide +kernel
theorem d_Si_back_44 : decode b_Si_back 44 = .ok (.iinc 5 (-1), 3) := by decide +kernel
theorem d_Si_back_47 : decode b_Si_back 47 = .ok (.goto (-32), 3) := by decide +kernel
theorem d_Si_back_50 : decode b_Si_back 50 = .ok (.iload_n 3, 1) := by decide +kernel
theorem d_Si_back_51 : decode b_Si_back 51 = .ok (.iload 4, 2) := by decide +kernel
theorem d_Si_back_53 : decode b_Si_back 53 = .ok (.invokestatic 39, 3) := by decide +kernel
theorem d_Si_back_56 : decode b_Si_back 56 = .ok (.lreturn, 1) := by decide +kernel
theorem d_Si_stirred_0 : decode b_Si_stirred 0 = .ok (.iload_n 0, 1) := by decide +kernel
theorem d_Si_stirred_1 : decode b_Si_stirred 1 = .ok (.iconst 1, 1) := by decide +kernel
theorem d_Si_stirred_2 : decode b_Si_stirred 2 = .ok (.invokestatic 43, 3) := by decide +kernel
theorem d_Si_stirred_5 : decode b_Si_stirred 5 = .ok (.iload_n 0, 1) := by decide +kernel
theorem d_Si_stirred_6 : decode b_Si_stirred 6 = .ok (.bipush 8, 2) := by decide +kernel
theorem d_Si_stirred_8 : decode b_Si_stirred 8 = .ok (.invokestatic 43, 3) := by decide +kernel
theorem d_Si_stirred_11 : decode b_Si_stirred 11 = .ok (.iand, 1) := by decide +kernel
theorem d_Si_stirred_12 : decode b_Si_stirred 12 = .ok (.iload_n 0, 1) := by decide +kernel
theorem d_Si_stirred_13 : decode b_Si_stirred 13 = .ok (.iconst 2, 1) := by decide +kernel
theorem d_Si_stirred_14 : decode b_Si_stirred 14 = .ok (.invokestatic 43, 3) := by decide +kernel
theorem d_Si_stirred_17 : decode b_Si_stirred 17 = .ok (.ixor, 1) := by decide +kernel
theorem d_Si_stirred_18 : decode b_Si_stirred 18 = .ok (.ireturn, 1) := by decide +kernel
theorem d_Sp_back_0 : decode b_Sp_back 0 = .ok (.lload_n 1, 1) := by decide +kernel
theorem d_Sp_back_1 : decode b_Sp_back 1 = .ok (.invokestatic 29, 3) := by decide +kernel
theorem d_Sp_back_4 : decode b_Sp_back 4 = .ok (.istore_n 3, 1) := by decide +kernel
theorem d_Sp_back_5 : decode b_Sp_back 5 = .ok (.lload_n 1, 1) := by decide +kernel
theorem d_Sp_back_6 : decode b_Sp_back 6 = .ok (.invokestatic 33, 3) := by decide +kernel
theorem d_Sp_back_9 : decode b_Sp_back 9 = .ok (.istore 4, 2) := by decide +kernel
theorem d_Sp_back_11 : decode b_Sp_back 11 = .ok (.bipush 26, 2) := by decide +kernel
theorem d_Sp_back_13 : decode b_Sp_back 13 = .ok (.istore 5, 2) := by decide +kernel
theorem d_Sp_back_15 : decode b_Sp_back 15 = .ok (.iload 5, 2) := by decide +kernel
theorem d_Sp_back_17 : decode b_Sp_back 17 = .ok (.ifCond .lt 37, 3) := by decide +kernel
theorem d_Sp_back_20 : decode b_Sp_back 20 = .ok (.iload 4, 2) := by decide +kernel
theorem d_Sp_back_22 : decode b_Sp_back 22 = .ok (.iload_n 3, 1) := by decide +kernel
theorem d_Sp_back_23 : decode b_Sp_back 23 = .ok (.ixor, 1) := by decide +kernel
theorem d_Sp_back_24 : decode b_Sp_back 24 = .ok (.iconst 3, 1) := by decide +kernel
theorem d_Sp_back_25 : decode b_Sp_back 25 = .ok (.invokestatic 22, 3) := by decide +kernel
theorem d_Sp_back_28 : decode b_Sp_back 28 = .ok (.istore 4, 2) := by decide +kernel
theorem d_Sp_back_30 : decode b_Sp_back 30 = .ok (.iload_n 3, 1) := by decide +kernel
theorem d_Sp_back_31 : decode b_Sp_back 31 = .ok (.aload_n 0, 1) := by decide +kernel
theorem d_Sp_back_32 : decode b_Sp_back 32 = .ok (.getfield 19, 3) := by decide +kernel
theorem d_Sp_back_35 : decode b_Sp_back 35 = .ok (.iload 5, 2) := by decide +kernel
theorem d_Sp_back_37 : decode b_Sp_back 37 = .ok (.iaload, 1) := by decide +kernel
theorem d_Sp_back_38 : decode b_Sp_back 38 = .ok (.ixor, 1) := by decide +kernel
theorem d_Sp_back_39 : decode b_Sp_back 39 = .ok (.iload 4, 2) := by decide +kernel
theorem d_Sp_back_41 : decode b_Sp_back 41 = .ok (.isub, 1) := by decide +kernel
theorem d_Sp_back_42 : decode b_Sp_back 42 = .ok (.bipush 8, 2) := by decide +kernel
theorem d_Sp_back_44 : decode b_Sp_back 44 = .ok (.invokestatic 26, 3) := by decide +kernel
theorem d_Sp_back_47 : decode b_Sp_back 47 = .ok (.istore_n 3, 1) := by decide +kernel
theorem d_Sp_back_48 : decode b_Sp_back 48 = .ok (.iinc 5 (-1), 3) := by decide +kernel
theorem d_Sp_back_51 : decode b_Sp_back 51 = .ok (.goto (-36), 3) := by decide +kernel
theorem d_Sp_back_54 : decode b_Sp_back 54 = .ok (.iload_n 3, 1) := by decide +kernel
theorem d_Sp_back_55 : decode b_Sp_back 55 = .ok (.iload 4, 2) := by decide +kernel
theorem d_Sp_back_57 : decode b_Sp_back 57 = .ok (.invokestatic 36, 3) := by decide +kernel
theorem d_Sp_back_60 : decode b_Sp_back 60 = .ok (.lreturn, 1) := by decide +kernel
theorem d_Xt_back_0 : decode b_Xt_back 0 = .ok (.lload_n 1, 1) := by decide +kernel
theorem d_Xt_back_1 : decode b_Xt_back 1 = .ok (.invokestatic 19, 3) := by decide +kernel
theorem d_Xt_back_4 : decode b_Xt_back 4 = .ok (.istore_n 3, 1) := by decide +kernel
theorem d_Xt_back_5 : decode b_Xt_back 5 = .ok (.lload_n 1, 1) := by decide +kernel
theorem d_Xt_back_6 : decode b_Xt_back 6 = .ok (.invokestatic 23, 3) := by decide +kernel
theorem d_Xt_back_9 : decode b_Xt_back 9 = .ok (.istore 4, 2) := by decide +kernel
theorem d_Xt_back_11 : decode b_Xt_back 11 = .ok (.ldc 35, 2) := by decide +kernel
theorem d_Xt_back_13 : decode b_Xt_back 13 = .ok (.istore 5, 2) := by decide +kernel
theorem d_Xt_back_15 : decode b_Xt_back 15 = .ok (.iconst 0, 1) := by decide +kernel
theorem d_Xt_back_16 : decode b_Xt_back 16 = .ok (.istore 6, 2) := by decide +kernel
theorem d_Xt_back_18 : decode b_Xt_back 18 = .ok (.iload 6, 2) := by decide +kernel
theorem d_Xt_back_20 : decode b_Xt_back 20 = .ok (.bipush 32, 2) := by decide +kernel
theorem d_Xt_back_22 : decode b_Xt_back 22 = .ok (.if_icmp .ge 62, 3) := by decide +kernel
theorem d_Xt_back_25 : decode b_Xt_back 25 = .ok (.iload 4, 2) := by decide +kernel
theorem d_Xt_back_27 : decode b_Xt_back 27 = .ok (.iload_n 3, 1) := by decide +kernel
theorem d_Xt_back_28 : decode b_Xt_back 28 = .ok (.invokestatic 26, 3) := by decide +kernel
theorem d_Xt_back_31 : decode b_Xt_back 31 = .ok (.iload 5, 2) := by decide +kernel
theorem d_Xt_back_33 : decode b_Xt_back 33 = .ok (.aload_n 0, 1) := by decide +kernel
theorem d_Xt_back_34 : decode b_Xt_back 34 = .ok (.getfield 9, 3) := by decide +kernel
theorem d_Xt_back_37 : decode b_Xt_back 37 = .ok (.iload 5, 2) := by decide +kernel
