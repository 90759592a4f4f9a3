theorem d_Tk_add_35 : decode b_Tk_add 35 = .ok (.putfield 9, 3) := by decide +kernel
theorem d_Tk_add_38 : decode b_Tk_add 38 = .ok (.aload_n 0, 1) := by decide +kernel
theorem d_Tk_add_39 : decode b_Tk_add 39 = .ok (.getfield 9, 3) := by decide +kernel
theorem d_Tk_add_42 : decode b_Tk_add 42 = .ok (.ireturn, 1) := by decide +kernel
theorem d_Tk_addByte_0 : decode b_Tk_addByte 0 = .ok (.aload_n 0, 1) := by decide +kernel
theorem d_Tk_addByte_1 : decode b_Tk_addByte 1 = .ok (.getfield 22, 3) := by decide +kernel
theorem d_Tk_addByte_4 : decode b_Tk_addByte 4 = .ok (.bipush 8, 2) := by decide +kernel
theorem d_Tk_addByte_6 : decode b_Tk_addByte 6 = .ok (.if_icmp .ne 30, 3) := by decide +kernel
theorem d_Tk_addByte_9 : decode b_Tk_addByte 9 = .ok (.aload_n 0, 1) := by decide +kernel
theorem d_Tk_addByte_10 : decode b_Tk_addByte 10 = .ok (.aload_n 1, 1) := by decide +kernel
theorem d_Tk_addByte_11 : decode b_Tk_addByte 11 = .ok (.aload_n 0, 1) := by decide +kernel
theorem d_Tk_addByte_12 : decode b_Tk_addByte 12 = .ok (.getfield 15, 3) := by decide +kernel
theorem d_Tk_addByte_15 : decode b_Tk_addByte 15 = .ok (.aload_n 0, 1) := by decide +kernel
theorem d_Tk_addByte_16 : decode b_Tk_addByte 16 = .ok (.getfield 19, 3) := by decide +kernel
theorem d_Tk_addByte_19 : decode b_Tk_addByte 19 = .ok (.lxor, 1) := by decide +kernel
theorem d_Tk_addByte_20 : decode b_Tk_addByte 20 = .ok (.invokevirtual 29, 3) := by decide +kernel
theorem d_Tk_addByte_23 : decode b_Tk_addByte 23 = .ok (.putfield 15, 3) := by decide +kernel
theorem d_Tk_addByte_26 : decode b_Tk_addByte 26 = .ok (.aload_n 0, 1) := by decide +kernel
theorem d_Tk_addByte_27 : decode b_Tk_addByte 27 = .ok (.lconst 0, 1) := by decide +kernel
theorem d_Tk_addByte_28 : decode b_Tk_addByte 28 = .ok (.putfield 19, 3) := by decide +kernel
theorem d_Tk_addByte_31 : decode b_Tk_addByte 31 = .ok (.aload_n 0, 1) := by decide +kernel
theorem d_Tk_addByte_32 : decode b_Tk_addByte 32 = .ok (.iconst 0, 1) := by decide +kernel
theorem d_Tk_addByte_33 : decode b_Tk_addByte 33 = .ok (.putfield 22, 3) := by decide +kernel
theorem d_Tk_addByte_36 : decode b_Tk_addByte 36 = .ok (.aload_n 0, 1) := by decide +kernel
theorem d_Tk_addByte_37 : decode b_Tk_addByte 37 = .ok (.dup, 1) := by decide +kernel
theorem d_Tk_addByte_38 : decode b_Tk_addByte 38 = .ok (.getfield 19, 3) := by decide +kernel
theorem d_Tk_addByte_41 : decode b_Tk_addByte 41 = .ok (.iload_n 2, 1) := by decide +kernel
theorem d_Tk_addByte_42 : decode b_Tk_addByte 42 = .ok (.aload_n 0, 1) := by decide +kernel
theorem d_Tk_addByte_43 : decode b_Tk_addByte 43 = .ok (.getfield 22, 3) := by decide +kernel
theorem d_Tk_addByte_46 : decode b_Tk_addByte 46 = .ok (.invokestatic 35, 3) := by decide +kernel
theorem d_Tk_addByte_49 : decode b_Tk_addByte 49 = .ok (.lor, 1) := by decide +kernel
theorem d_Tk_addByte_50 : decode b_Tk_addByte 50 = .ok (.putfield 19, 3) := by decide +kernel
theorem d_Tk_addByte_53 : decode b_Tk_addByte 53 = .ok (.aload_n 0, 1) := by decide +kernel
theorem d_Tk_addByte_54 : decode b_Tk_addByte 54 = .ok (.dup, 1) := by decide +kernel
theorem d_Tk_addByte_55 : decode b_Tk_addByte 55 = .ok (.getfield 22, 3) := by decide +kernel
theorem d_Tk_addByte_58 : decode b_Tk_addByte 58 = .ok (.iconst 1, 1) := by decide +kernel
theorem d_Tk_addByte_59 : decode b_Tk_addByte 59 = .ok (.iadd, 1) := by decide +kernel
theorem d_Tk_addByte_60 : decode b_Tk_addByte 60 = .ok (.putfield 22, 3) := by decide +kernel
theorem d_Tk_addByte_63 : decode b_Tk_addByte 63 = .ok (.return_, 1) := by decide +kernel
theorem d_Tk_atByte_0 : decode b_Tk_atByte 0 = .ok (.iload_n 0, 1) := by decide +kernel
theorem d_Tk_atByte_1 : decode b_Tk_atByte 1 = .ok (.i2l, 1) := by decide +kernel
theorem d_Tk_atByte_2 : decode b_Tk_atByte 2 = .ok (.bipush 56, 2) := by decide +kernel
theorem d_Tk_atByte_4 : decode b_Tk_atByte 4 = .ok (.bipush 8, 2) := by decide +kernel
theorem d_Tk_atByte_6 : decode b_Tk_atByte 6 = .ok (.iload_n 1, 1) := by decide +kernel
theorem d_Tk_atByte_7 : decode b_Tk_atByte 7 = .ok (.imul, 1) := by decide +kernel
theorem d_Tk_atByte_8 : decode b_Tk_atByte 8 = .ok (.isub, 1) := by decide +kernel
theorem d_Tk_atByte_9 : decode b_Tk_atByte 9 = .ok (.lshl, 1) := by decide +kernel
theorem d_Tk_atByte_10 : decode b_Tk_atByte 10 = .ok (.lreturn, 1) := by decide +kernel
theorem d_La_tag_0 : decode b_La_tag 0 = .ok (.aload_n 2, 1) := by decide +kernel
theorem d_La_tag_1 : decode b_La_tag 1 = .ok (.iconst 0, 1) := by decide +kernel
theorem d_La_tag_2 : decode b_La_tag 2 = .ok (.aload_n 0, 1) := by decide +kernel
theorem d_La_tag_3 : decode b_La_tag 3 = .ok (.iload_n 1, 1) := by decide +kernel
theorem d_La_tag_4 : decode b_La_tag 4 = .ok (.invokevirtual 61, 3) := by decide +kernel
theorem d_La_tag_7 : decode b_La_tag 7 = .ok (.lastore, 1) := by decide +kernel
theorem d_La_tag_8 : decode b_La_tag 8 = .ok (.goto 9, 3) := by decide +kernel
theorem d_La_tag_11 : decode b_La_tag 11 = .ok (.astore_n 3, 1) := by decide +kernel
theorem d_La_tag_12 : decode b_La_tag 12 = .ok (.iconst 1, 1) := by decide +kernel
theorem d_La_tag_13 : decode b_La_tag 13 = .ok (.ireturn, 1) := by decide +kernel
theorem d_La_tag_14 : decode b_La_tag 14 = .ok (.astore_n 3, 1) := by decide +kernel
theorem d_La_tag_15 : decode b_La_tag 15 = .ok (.iconst 2, 1) := by decide +kernel
theorem d_La_tag_16 : decode b_La_tag 16 = .ok (.ireturn, 1) := by decide +kernel
theorem d_La_tag_17 : decode b_La_tag 17 = .ok (.iconst 0, 1) := by decide +kernel
theorem d_La_tag_18 : decode b_La_tag 18 = .ok (.ireturn, 1) := by decide +kernel
theorem d_Ru_tag_0 : decode b_Ru_tag 0 = .ok (.aload_n 0, 1) := by decide +kernel
theorem d_Ru_tag_1 : decode b_Ru_tag 1 = .ok (.iload_n 1, 1) := by decide +kernel
theorem d_Ru_tag_2 : decode b_Ru_tag 2 = .ok (.invokevirtual 20, 3) := by decide +kernel
theorem d_Ru_tag_5 : decode b_Ru_tag 5 = .ok (.astore_n 2, 1) := by decide +kernel
theorem d_Ru_tag_6 : decode b_Ru_tag 6 = .ok (.aload_n 2, 1) := by decide +kernel
theorem d_Ru_tag_7 : decode b_Ru_tag 7 = .ok (.iconst 5, 1) := by decide +kernel
theorem d_Ru_tag_8 : decode b_Ru_tag 8 = .ok (.invokestatic 96, 3) := by decide +kernel
theorem d_Ru_tag_11 : decode b_Ru_tag 11 = .ok (.aload_n 2, 1) := by decide +kernel
theorem d_Ru_tag_12 : decode b_Ru_tag 12 = .ok (.invokevirtual 108, 3) := by decide +kernel
theorem d_Ru_tag_15 : decode b_Ru_tag 15 = .ok (.lreturn, 1) := by decide +kernel
theorem d_Cx_tellTag_0 : decode b_Cx_tellTag 0 = .ok (.aload_n 0, 1) := by decide +kernel
theorem d_Cx_tellTag_1 : decode b_Cx_tellTag 1 = .ok (.getfield 35, 3) := by decide +kernel
theorem d_Cx_tellTag_4 : decode b_Cx_tellTag 4 = .ok (.aload_n 0, 1) := by decide +kernel
theorem d_Cx_tellTag_5 : decode b_Cx_tellTag 5 = .ok (.getfield 46, 3) := by decide +kernel
theorem d_Cx_tellTag_8 : decode b_Cx_tellTag 8 = .ok (.invokevirtual 122, 3) := by decide +kernel
theorem d_Cx_tellTag_11 : decode b_Cx_tellTag 11 = .ok (.lstore_n 1, 1) := by decide +kernel
theorem d_Cx_tellTag_12 : decode b_Cx_tellTag 12 = .ok (.aload_n 0, 1) := by decide +kernel
theorem d_Cx_tellTag_13 : decode b_Cx_tellTag 13 = .ok (.getfield 35, 3) := by decide +kernel
theorem d_Cx_tellTag_16 : decode b_Cx_tellTag 16 = .ok (.invokevirtual 67, 3) := by decide +kernel
theorem d_Cx_tellTag_19 : decode b_Cx_tellTag 19 = .ok (.lload_n 1, 1) := by decide +kernel
theorem d_Cx_tellTag_20 : decode b_Cx_tellTag 20 = .ok (.lreturn, 1) := by decide +kernel
theorem d_Tk_tagBy_0 : decode b_Tk_tagBy 0 = .ok (.aload_n 1, 1) := by decide +kernel
theorem d_Tk_tagBy_1 : decode b_Tk_tagBy 1 = .ok (.lconst 0, 1) := by decide +kernel
theorem d_Tk_tagBy_2 : decode b_Tk_tagBy 2 = .ok (.invokevirtual 29, 3) := by decide +kernel
theorem d_Tk_tagBy_5 : decode b_Tk_tagBy 5 = .ok (.invokestatic 39, 3) := by decide +kernel
theorem d_Tk_tagBy_8 : decode b_Tk_tagBy 8 = .ok (.lstore_n 2, 1) := by decide +kernel
theorem d_Tk_tagBy_9 : decode b_Tk_tagBy 9 = .ok (.aload_n 0, 1) := by decide +kernel
theorem d_Tk_tagBy_10 : decode b_Tk_tagBy 10 = .ok (.getfield 19, 3) := by decide +kernel
theorem d_Tk_tagBy_13 : decode b_Tk_tagBy 13 = .ok (.lstore 4, 2) := by decide +kernel
theorem d_Tk_tagBy_15 : decode b_Tk_tagBy 15 = .ok (.aload_n 0, 1) := by decide +kernel
theorem d_Tk_tagBy_16 : decode b_Tk_tagBy 16 = .ok (.getfield 22, 3) := by decide +kernel
theorem d_Tk_tagBy_19 : decode b_Tk_tagBy 19 = .ok (.bipush 8, 2) := by decide +kernel
theorem d_Tk_tagBy_21 : decode b_Tk_tagBy 21 = .ok (.if_icmp .ge 23, 3) := by decide +kernel
theorem d_Tk_tagBy_24 : decode b_Tk_tagBy 24 = .ok (.lload_n 2, 1) := by decide +kernel
theorem d_Tk_tagBy_25 : decode b_Tk_tagBy 25 = .ok (.invokestatic 39, 3) := by decide +kernel
theorem d_Tk_tagBy_28 : decode b_Tk_tagBy 28 = .ok (.lstore_n 2, 1) := by decide +kernel
theorem d_Tk_tagBy_29 : decode b_Tk_tagBy 29 = .ok (.lload 4, 2) := by decide +kernel
theorem d_Tk_tagBy_31 : decode b_Tk_tagBy 31 = .ok (.sipush 128, 3) := by decide +kernel
theorem d_Tk_tagBy_34 : decode b_Tk_tagBy 34 = .ok (.aload_n 0, 1) := by decide +kernel
theorem d_Tk_tagBy_35 : decode b_Tk_tagBy 35 = .ok (.getfield 22, 3) := by decide +kernel
theorem d_Tk_tagBy_38 : decode b_Tk_tagBy 38 = .ok (.invokestatic 35, 3) := by decide +kernel
theorem d_Tk_tagBy_41 : decode b_Tk_tagBy 41 = .ok (.lor, 1) := by decide +kernel
theorem d_Tk_tagBy_42 : decode b_Tk_tagBy 42 = .ok (.lstore 4, 2) := by decide +kernel
theorem d_Tk_tagBy_44 : decode b_Tk_tagBy 44 = .ok (.aload_n 1, 1) := by decide +kernel
theorem d_Tk_tagBy_45 : decode b_Tk_tagBy 45 = .ok (.aload_n 0, 1) := by decide +kernel
theorem d_Tk_tagBy_46 : decode b_Tk_tagBy 46 = .ok (.getfield 15, 3) := by decide +kernel
theorem d_Tk_tagBy_49 : decode b_Tk_tagBy 49 = .ok (.lload 4, 2) := by decide +kernel
theorem d_Tk_tagBy_51 : decode b_Tk_tagBy 51 = .ok (.lxor, 1) := by decide +kernel
theorem d_Tk_tagBy_52 : decode b_Tk_tagBy 52 = .ok (.lload_n 2, 1) := by decide +kernel
theorem d_Tk_tagBy_53 : decode b_Tk_tagBy 53 = .ok (.lxor, 1) := by decide +kernel
theorem d_Tk_tagBy_54 : decode b_Tk_tagBy 54 = .ok (.invokevirtual 29, 3) := by decide +kernel
theorem d_Tk_tagBy_57 : decode b_Tk_tagBy 57 = .ok (.lreturn, 1) := by decide +kernel
theorem d_Tk_doubled_0 : decode b_Tk_doubled 0 = .ok (.lload_n 0, 1) := by decide +kernel
theorem d_Tk_doubled_1 : decode b_Tk_doubled 1 = .ok (.lconst 0, 1) := by decide +kernel
theorem d_Tk_doubled_2 : decode b_Tk_doubled 2 = .ok (.lcmp, 1) := by decide +kernel
theorem d_Tk_doubled_3 : decode b_Tk_doubled 3 = .ok (.ifCond .ge 13, 3) := by decide +kernel
theorem d_Tk_doubled_6 : decode b_Tk_doubled 6 = .ok (.lload_n 0, 1) := by decide +kernel
theorem d_Tk_doubled_7 : decode b_Tk_doubled 7 = .ok (.iconst 1, 1) := by decide +kernel
theorem d_Tk_doubled_8 : decode b_Tk_doubled 8 = .ok (.lshl, 1) := by decide +kernel
theorem d_Tk_doubled_9 : decode b_Tk_doubled 9 = .ok (.ldc2_w 42, 3) := by decide +kernel
theorem d_Tk_doubled_12 : decode b_Tk_doubled 12 = .ok (.lxor, 1) := by decide +kernel
theorem d_Tk_doubled_13 : decode b_Tk_doubled 13 = .ok (.goto 6, 3) := by decide +kernel
theorem d_Tk_doubled_16 : decode b_Tk_doubled 16 = .ok (.lload_n 0, 1) := by decide +kernel
theorem d_Tk_doubled_17 : decode b_Tk_doubled 17 = .ok (.iconst 1, 1) := by decide +kernel
theorem d_Tk_doubled_18 : decode b_Tk_doubled 18 = .ok (.lshl, 1) := by decide +kernel
theorem d_Tk_doubled_19 : decode b_Tk_doubled 19 = .ok (.lreturn, 1) := by decide +kernel
theorem d_Mo_init_0 : decode b_Mo_init 0 = .ok (.aload_n 0, 1) := by decide +kernel
theorem d_Mo_init_1 : decode b_Mo_init 1 = .ok (.invokespecial 1, 3) := by decide +kernel
theorem d_Mo_init_4 : decode b_Mo_init 4 = .ok (.aload_n 0, 1) := by decide +kernel
theorem d_Mo_init_5 : decode b_Mo_init 5 = .ok (.bipush 64, 2) := by decide +kernel
theorem d_Mo_init_7 : decode b_Mo_init 7 = .ok (.newarray .int, 2) := by decide +kernel
theorem d_Mo_init_9 : decode b_Mo_init 9 = .ok (.putfield 7, 3) := by decide +kernel
theorem d_Mo_init_12 : decode b_Mo_init 12 = .ok (.aload_n 0, 1) := by decide +kernel
theorem d_Mo_init_13 : decode b_Mo_init 13 = .ok (.iconst 4, 1) := by decide +kernel
theorem d_Mo_init_14 : decode b_Mo_init 14 = .ok (.newarray .int, 2) := by decide +kernel
theorem d_Mo_init_16 : decode b_Mo_init 16 = .ok (.putfield 13, 3) := by decide +kernel
theorem d_Mo_init_19 : decode b_Mo_init 19 = .ok (.aload_n 0, 1) := by decide +kernel
theorem d_Mo_init_20 : decode b_Mo_init 20 = .ok (.iconst 4, 1) := by decide +kernel
theorem d_Mo_init_21 : decode b_Mo_init 21 = .ok (.newarray .int, 2) := by decide +kernel
theorem d_Mo_init_23 : decode b_Mo_init 23 = .ok (.putfield 16, 3) := by decide +kernel
theorem d_Mo_init_26 : decode b_Mo_init 26 = .ok (.aload_n 0, 1) := by decide +kernel
theorem d_Mo_init_27 : decode b_Mo_init 27 = .ok (.iconst 4, 1) := by decide +kernel
theorem d_Mo_init_28 : decode b_Mo_init 28 = .ok (.newarray .long, 2) := by decide +kernel
theorem d_Mo_init_30 : decode b_Mo_init 30 = .ok (.putfield 19, 3) := by decide +kernel
theorem d_Mo_init_33 : decode b_Mo_init 33 = .ok (.aload_n 0, 1) := by decide +kernel
theorem d_Mo_init_34 : decode b_Mo_init 34 = .ok (.iconst 4, 1) := by decide +kernel
theorem d_Mo_init_35 : decode b_Mo_init 35 = .ok (.newarray .long, 2) := by decide +kernel
theorem d_Mo_init_37 : decode b_Mo_init 37 = .ok (.putfield 23, 3) := by decide +kernel
theorem d_Mo_init_40 : decode b_Mo_init 40 = .ok (.aload_n 0, 1) := by decide +kernel
theorem d_Mo_init_41 : decode b_Mo_init 41 = .ok (.iconst 4, 1) := by decide +kernel
theorem d_Mo_init_42 : decode b_Mo_init 42 = .ok (.newarray .int, 2) := by decide +kernel
theorem d_Mo_init_44 : decode b_Mo_init 44 = .ok (.putfield 26, 3) := by decide +kernel
theorem d_Mo_init_47 : decode b_Mo_init 47 = .ok (.aload_n 0, 1) := by decide +kernel
theorem d_Mo_init_48 : decode b_Mo_init 48 = .ok (.iconst 4, 1) := by decide +kernel
theorem d_Mo_init_49 : decode b_Mo_init 49 = .ok (.newarray .long, 2) := by decide +kernel
theorem d_Mo_init_51 : decode b_Mo_init 51 = .ok (.putfield 29, 3) := by decide +kernel
theorem d_Mo_init_54 : decode b_Mo_init 54 = .ok (.aload_n 0, 1) := by decide +kernel
theorem d_Mo_init_55 : decode b_Mo_init 55 = .ok (.iconst 4, 1) := by decide +kernel
theorem d_Mo_init_56 : decode b_Mo_init 56 = .ok (.newarray .long, 2) := by decide +kernel
theorem d_Mo_init_58 : decode b_Mo_init 58 = .ok (.putfield 32, 3) := by decide +kernel
theorem d_Mo_init_61 : decode b_Mo_init 61 = .ok (.aload_n 0, 1) := by decide +kernel
theorem d_Mo_init_62 : decode b_Mo_init 62 = .ok (.iconst 4, 1) := by decide +kernel
theorem d_Mo_init_63 : decode b_Mo_init 63 = .ok (.newarray .int, 2) := by decide +kernel
theorem d_Mo_init_65 : decode b_Mo_init 65 = .ok (.putfield 35, 3) := by decide +kernel
theorem d_Mo_init_68 : decode b_Mo_init 68 = .ok (.aload_n 0, 1) := by decide +kernel
theorem d_Mo_init_69 : decode b_Mo_init 69 = .ok (.iconst 4, 1) := by decide +kernel
theorem d_Mo_init_70 : decode b_Mo_init 70 = .ok (.newarray .int, 2) := by decide +kernel
theorem d_Mo_init_72 : decode b_Mo_init 72 = .ok (.putfield 38, 3) := by decide +kernel
theorem d_Mo_init_75 : decode b_Mo_init 75 = .ok (.aload_n 0, 1) := by decide +kernel
theorem d_Mo_init_76 : decode b_Mo_init 76 = .ok (.iconst 4, 1) := by decide +kernel
theorem d_Mo_init_77 : decode b_Mo_init 77 = .ok (.newarray .int, 2) := by decide +kernel
theorem d_Mo_init_79 : decode b_Mo_init 79 = .ok (.putfield 41, 3) := by decide +kernel
theorem d_Mo_init_82 : decode b_Mo_init 82 = .ok (.aload_n 0, 1) := by decide +kernel
theorem d_Mo_init_83 : decode b_Mo_init 83 = .ok (.iconst 4, 1) := by decide +kernel
theorem d_Mo_init_84 : decode b_Mo_init 84 = .ok (.newarray .long, 2) := by decide +kernel
theorem d_Mo_init_86 : decode b_Mo_init 86 = .ok (.putfield 44, 3) := by decide +kernel
theorem d_Mo_init_89 : decode b_Mo_init 89 = .ok (.aload_n 0, 1) := by decide +kernel
theorem d_Mo_init_90 : decode b_Mo_init 90 = .ok (.iconst 4, 1) := by decide +kernel
theorem d_Mo_init_91 : decode b_Mo_init 91 = .ok (.newarray .long, 2) := by decide +kernel
theorem d_Mo_init_93 : decode b_Mo_init 93 = .ok (.putfield 47, 3) := by decide +kernel
theorem d_Mo_init_96 : decode b_Mo_init 96 = .ok (.aload_n 0, 1) := by decide +kernel
theorem d_Mo_init_97 : decode b_Mo_init 97 = .ok (.iconst 4, 1) := by decide +kernel
theorem d_Mo_init_98 : decode b_Mo_init 98 = .ok (.newarray .int, 2) := by decide +kernel
theorem d_Mo_init_100 : decode b_Mo_init 100 = .ok (.putfield 50, 3) := by decide +kernel
theorem d_Mo_init_103 : decode b_Mo_init 103 = .ok (.aload_n 0, 1) := by decide +kernel
theorem d_Mo_init_104 : decode b_Mo_init 104 = .ok (.bipush 52, 2) := by decide +kernel
theorem d_Mo_init_106 : decode b_Mo_init 106 = .ok (.newarray .int, 2) := by decide +kernel
theorem d_Mo_init_108 : decode b_Mo_init 108 = .ok (.putfield 53, 3) := by decide +kernel
theorem d_Mo_init_111 : decode b_Mo_init 111 = .ok (.aload_n 0, 1) := by decide +kernel
theorem d_Mo_init_112 : decode b_Mo_init 112 = .ok (.bipush 32, 2) := by decide +kernel
theorem d_Mo_init_114 : decode b_Mo_init 114 = .ok (.newarray .int, 2) := by decide +kernel
theorem d_Mo_init_116 : decode b_Mo_init 116 = .ok (.putfield 56, 3) := by decide +kernel
theorem d_Mo_init_119 : decode b_Mo_init 119 = .ok (.return_, 1) := by decide +kernel
theorem d_Mo_thrown_0 : decode b_Mo_thrown 0 = .ok (.aload_n 0, 1) := by decide +kernel
theorem d_Mo_thrown_1 : decode b_Mo_thrown 1 = .ok (.getfield 59, 3) := by decide +kernel
theorem d_Mo_thrown_4 : decode b_Mo_thrown 4 = .ok (.ireturn, 1) := by decide +kernel
theorem d_Mo_choose_0 : decode b_Mo_choose 0 = .ok (.aload_n 0, 1) := by decide +kernel
theorem d_Mo_choose_1 : decode b_Mo_choose 1 = .ok (.iload_n 1, 1) := by decide +kernel
theorem d_Mo_choose_2 : decode b_Mo_choose 2 = .ok (.invokestatic 138, 3) := by decide +kernel
theorem d_Mo_choose_5 : decode b_Mo_choose 5 = .ok (.ifCond .ne 7, 3) := by decide +kernel
theorem d_Mo_choose_8 : decode b_Mo_choose 8 = .ok (.iconst 1, 1) := by decide +kernel
theorem d_Mo_choose_9 : decode b_Mo_choose 9 = .ok (.goto 30, 3) := by decide +kernel
theorem d_Mo_choose_12 : decode b_Mo_choose 12 = .ok (.iload_n 2, 1) := by decide +kernel
theorem d_Mo_choose_13 : decode b_Mo_choose 13 = .ok (.ifCond .lt 8, 3) := by decide +kernel
theorem d_Mo_choose_16 : decode b_Mo_choose 16 = .ok (.iload_n 2, 1) := by decide +kernel
theorem d_Mo_choose_17 : decode b_Mo_choose 17 = .ok (.iconst 4, 1) := by decide +kernel
theorem d_Mo_choose_18 : decode b_Mo_choose 18 = .ok (.if_icmp .le 7, 3) := by decide +kernel
theorem d_Mo_choose_21 : decode b_Mo_choose 21 = .ok (.iconst 2, 1) := by decide +kernel
theorem d_Mo_choose_22 : decode b_Mo_choose 22 = .ok (.goto 17, 3) := by decide +kernel
theorem d_Mo_choose_25 : decode b_Mo_choose 25 = .ok (.aload_n 0, 1) := by decide +kernel
theorem d_Mo_choose_26 : decode b_Mo_choose 26 = .ok (.getfield 13, 3) := by decide +kernel
theorem d_Mo_choose_29 : decode b_Mo_choose 29 = .ok (.iload_n 1, 1) := by decide +kernel
theorem d_Mo_choose_30 : decode b_Mo_choose 30 = .ok (.iaload, 1) := by decide +kernel
theorem d_Mo_choose_31 : decode b_Mo_choose 31 = .ok (.ifCond .eq 7, 3) := by decide +kernel
theorem d_Mo_choose_34 : decode b_Mo_choose 34 = .ok (.iconst 3, 1) := by decide +kernel
theorem d_Mo_choose_35 : decode b_Mo_choose 35 = .ok (.goto 4, 3) := by decide +kernel
theorem d_Mo_choose_38 : decode b_Mo_choose 38 = .ok (.iconst 0, 1) := by decide +kernel
theorem d_Mo_choose_39 : decode b_Mo_choose 39 = .ok (.invokevirtual 142, 3) := by decide +kernel
theorem d_Mo_choose_42 : decode b_Mo_choose 42 = .ok (.ifCond .ne 17, 3) := by decide +kernel
theorem d_Mo_choose_45 : decode b_Mo_choose 45 = .ok (.aload_n 0, 1) := by decide +kernel
theorem d_Mo_choose_46 : decode b_Mo_choose 46 = .ok (.getfield 13, 3) := by decide +kernel
theorem d_Mo_choose_49 : decode b_Mo_choose 49 = .ok (.iload_n 1, 1) := by decide +kernel
theorem d_Mo_choose_50 : decode b_Mo_choose 50 = .ok (.iconst 1, 1) := by decide +kernel
theorem d_Mo_choose_51 : decode b_Mo_choose 51 = .ok (.iastore, 1) := by decide +kernel
theorem d_Mo_choose_52 : decode b_Mo_choose 52 = .ok (.aload_n 0, 1) := by decide +kernel
theorem d_Mo_choose_53 : decode b_Mo_choose 53 = .ok (.getfield 16, 3) := by decide +kernel
theorem d_Mo_choose_56 : decode b_Mo_choose 56 = .ok (.iload_n 1, 1) := by decide +kernel
theorem d_Mo_choose_57 : decode b_Mo_choose 57 = .ok (.iload_n 2, 1) := by decide +kernel
theorem d_Mo_choose_58 : decode b_Mo_choose 58 = .ok (.iastore, 1) := by decide +kernel
theorem d_Mo_choose_59 : decode b_Mo_choose 59 = .ok (.return_, 1) := by decide +kernel
theorem d_Mo_isContext_0 : decode b_Mo_isContext 0 = .ok (.iload_n 0, 1) := by decide +kernel
theorem d_Mo_isContext_1 : decode b_Mo_isContext 1 = .ok (.ifCond .lt 12, 3) := by decide +kernel
theorem d_Mo_isContext_4 : decode b_Mo_isContext 4 = .ok (.iload_n 0, 1) := by decide +kernel
theorem d_Mo_isContext_5 : decode b_Mo_isContext 5 = .ok (.iconst 4, 1) := by decide +kernel
theorem d_Mo_isContext_6 : decode b_Mo_isContext 6 = .ok (.if_icmp .ge 7, 3) := by decide +kernel
theorem d_Mo_isContext_9 : decode b_Mo_isContext 9 = .ok (.iconst 1, 1) := by decide +kernel
theorem d_Mo_isContext_10 : decode b_Mo_isContext 10 = .ok (.goto 4, 3) := by decide +kernel
theorem d_Mo_isContext_13 : decode b_Mo_isContext 13 = .ok (.iconst 0, 1) := by decide +kernel
theorem d_Mo_isContext_14 : decode b_Mo_isContext 14 = .ok (.ireturn, 1) := by decide +kernel
theorem d_Mo_refused_0 : decode b_Mo_refused 0 = .ok (.aload_n 0, 1) := by decide +kernel
theorem d_Mo_refused_1 : decode b_Mo_refused 1 = .ok (.iload_n 1, 1) := by decide +kernel
theorem d_Mo_refused_2 : decode b_Mo_refused 2 = .ok (.putfield 59, 3) := by decide +kernel
theorem d_Mo_refused_5 : decode b_Mo_refused 5 = .ok (.iload_n 1, 1) := by decide +kernel
theorem d_Mo_refused_6 : decode b_Mo_refused 6 = .ok (.ifCond .le 7, 3) := by decide +kernel
theorem d_Mo_refused_9 : decode b_Mo_refused 9 = .ok (.iconst 1, 1) := by decide +kernel
theorem d_Mo_refused_10 : decode b_Mo_refused 10 = .ok (.goto 4, 3) := by decide +kernel
theorem d_Mo_refused_13 : decode b_Mo_refused 13 = .ok (.iconst 0, 1) := by decide +kernel
theorem d_Mo_refused_14 : decode b_Mo_refused 14 = .ok (.ireturn, 1) := by decide +kernel
theorem d_Mo_key_0 : decode b_Mo_key 0 = .ok (.aload_n 0, 1) := by decide +kernel
theorem d_Mo_key_1 : decode b_Mo_key 1 = .ok (.iload_n 1, 1) := by decide +kernel
theorem d_Mo_key_2 : decode b_Mo_key 2 = .ok (.invokestatic 138, 3) := by decide +kernel
theorem d_Mo_key_5 : decode b_Mo_key 5 = .ok (.ifCond .ne 7, 3) := by decide +kernel
theorem d_Mo_key_8 : decode b_Mo_key 8 = .ok (.iconst 1, 1) := by decide +kernel
theorem d_Mo_key_9 : decode b_Mo_key 9 = .ok (.goto 17, 3) := by decide +kernel
theorem d_Mo_key_12 : decode b_Mo_key 12 = .ok (.aload_n 0, 1) := by decide +kernel
theorem d_Mo_key_13 : decode b_Mo_key 13 = .ok (.getfield 13, 3) := by decide +kernel
theorem d_Mo_key_16 : decode b_Mo_key 16 = .ok (.iload_n 1, 1) := by decide +kernel
theorem d_Mo_key_17 : decode b_Mo_key 17 = .ok (.iaload, 1) := by decide +kernel
theorem d_Mo_key_18 : decode b_Mo_key 18 = .ok (.ifCond .ne 7, 3) := by decide +kernel
theorem d_Mo_key_21 : decode b_Mo_key 21 = .ok (.iconst 2, 1) := by decide +kernel
theorem d_Mo_key_22 : decode b_Mo_key 22 = .ok (.goto 4, 3) := by decide +kernel
theorem d_Mo_key_25 : decode b_Mo_key 25 = .ok (.iconst 0, 1) := by decide +kernel
theorem d_Mo_key_26 : decode b_Mo_key 26 = .ok (.invokevirtual 142, 3) := by decide +kernel
theorem d_Mo_key_29 : decode b_Mo_key 29 = .ok (.ifCond .ne 25, 3) := by decide +kernel
theorem d_Mo_key_32 : decode b_Mo_key 32 = .ok (.aload_n 0, 1) := by decide +kernel
theorem d_Mo_key_33 : decode b_Mo_key 33 = .ok (.getfield 13, 3) := by decide +kernel
theorem d_Mo_key_36 : decode b_Mo_key 36 = .ok (.iload_n 1, 1) := by decide +kernel
theorem d_Mo_key_37 : decode b_Mo_key 37 = .ok (.iconst 2, 1) := by decide +kernel
theorem d_Mo_key_38 : decode b_Mo_key 38 = .ok (.iastore, 1) := by decide +kernel
theorem d_Mo_key_39 : decode b_Mo_key 39 = .ok (.aload_n 0, 1) := by decide +kernel
theorem d_Mo_key_40 : decode b_Mo_key 40 = .ok (.getfield 19, 3) := by decide +kernel
theorem d_Mo_key_43 : decode b_Mo_key 43 = .ok (.iload_n 1, 1) := by decide +kernel
theorem d_Mo_key_44 : decode b_Mo_key 44 = .ok (.lload_n 2, 1) := by decide +kernel
theorem d_Mo_key_45 : decode b_Mo_key 45 = .ok (.lastore, 1) := by decide +kernel
theorem d_Mo_key_46 : decode b_Mo_key 46 = .ok (.aload_n 0, 1) := by decide +kernel
theorem d_Mo_key_47 : decode b_Mo_key 47 = .ok (.getfield 23, 3) := by decide +kernel
theorem d_Mo_key_50 : decode b_Mo_key 50 = .ok (.iload_n 1, 1) := by decide +kernel
theorem d_Mo_key_51 : decode b_Mo_key 51 = .ok (.lload 4, 2) := by decide +kernel
theorem d_Mo_key_53 : decode b_Mo_key 53 = .ok (.lastore, 1) := by decide +kernel
theorem d_Mo_key_54 : decode b_Mo_key 54 = .ok (.return_, 1) := by decide +kernel
theorem d_Mo_mode_0 : decode b_Mo_mode 0 = .ok (.aload_n 0, 1) := by decide +kernel
theorem d_Mo_mode_1 : decode b_Mo_mode 1 = .ok (.iload_n 1, 1) := by decide +kernel
theorem d_Mo_mode_2 : decode b_Mo_mode 2 = .ok (.invokestatic 138, 3) := by decide +kernel
theorem d_Mo_mode_5 : decode b_Mo_mode 5 = .ok (.ifCond .ne 7, 3) := by decide +kernel
theorem d_Mo_mode_8 : decode b_Mo_mode 8 = .ok (.iconst 1, 1) := by decide +kernel
theorem d_Mo_mode_9 : decode b_Mo_mode 9 = .ok (.goto 29, 3) := by decide +kernel
theorem d_Mo_mode_12 : decode b_Mo_mode 12 = .ok (.iload_n 2, 1) := by decide +kernel
theorem d_Mo_mode_13 : decode b_Mo_mode 13 = .ok (.ifCond .lt 8, 3) := by decide +kernel
theorem d_Mo_mode_16 : decode b_Mo_mode 16 = .ok (.iload_n 2, 1) := by decide +kernel
theorem d_Mo_mode_17 : decode b_Mo_mode 17 = .ok (.iconst 5, 1) := by decide +kernel
theorem d_Mo_mode_18 : decode b_Mo_mode 18 = .ok (.if_icmp .le 7, 3) := by decide +kernel
theorem d_Mo_mode_21 : decode b_Mo_mode 21 = .ok (.iconst 2, 1) := by decide +kernel
theorem d_Mo_mode_22 : decode b_Mo_mode 22 = .ok (.goto 16, 3) := by decide +kernel
theorem d_Mo_mode_25 : decode b_Mo_mode 25 = .ok (.aload_n 0, 1) := by decide +kernel
theorem d_Mo_mode_26 : decode b_Mo_mode 26 = .ok (.iload_n 1, 1) := by decide +kernel
theorem d_Mo_mode_27 : decode b_Mo_mode 27 = .ok (.invokevirtual 145, 3) := by decide +kernel
theorem d_Mo_mode_30 : decode b_Mo_mode 30 = .ok (.ifCond .ne 7, 3) := by decide +kernel
theorem d_Mo_mode_33 : decode b_Mo_mode 33 = .ok (.iconst 3, 1) := by decide +kernel
theorem d_Mo_mode_34 : decode b_Mo_mode 34 = .ok (.goto 4, 3) := by decide +kernel
theorem d_Mo_mode_37 : decode b_Mo_mode 37 = .ok (.iconst 0, 1) := by decide +kernel
theorem d_Mo_mode_38 : decode b_Mo_mode 38 = .ok (.invokevirtual 142, 3) := by decide +kernel
theorem d_Mo_mode_41 : decode b_Mo_mode 41 = .ok (.ifCond .ne 50, 3) := by decide +kernel
theorem d_Mo_mode_44 : decode b_Mo_mode 44 = .ok (.aload_n 0, 1) := by decide +kernel
theorem d_Mo_mode_45 : decode b_Mo_mode 45 = .ok (.getfield 13, 3) := by decide +kernel
theorem d_Mo_mode_48 : decode b_Mo_mode 48 = .ok (.iload_n 1, 1) := by decide +kernel
theorem d_Mo_mode_49 : decode b_Mo_mode 49 = .ok (.iconst 3, 1) := by decide +kernel
theorem d_Mo_mode_50 : decode b_Mo_mode 50 = .ok (.iastore, 1) := by decide +kernel
theorem d_Mo_mode_51 : decode b_Mo_mode 51 = .ok (.aload_n 0, 1) := by decide +kernel
theorem d_Mo_mode_52 : decode b_Mo_mode 52 = .ok (.getfield 26, 3) := by decide +kernel
theorem d_Mo_mode_55 : decode b_Mo_mode 55 = .ok (.iload_n 1, 1) := by decide +kernel
theorem d_Mo_mode_56 : decode b_Mo_mode 56 = .ok (.iload_n 2, 1) := by decide +kernel
theorem d_Mo_mode_57 : decode b_Mo_mode 57 = .ok (.iastore, 1) := by decide +kernel
theorem d_Mo_mode_58 : decode b_Mo_mode 58 = .ok (.aload_n 0, 1) := by decide +kernel
theorem d_Mo_mode_59 : decode b_Mo_mode 59 = .ok (.getfield 29, 3) := by decide +kernel
theorem d_Mo_mode_62 : decode b_Mo_mode 62 = .ok (.iload_n 1, 1) := by decide +kernel
theorem d_Mo_mode_63 : decode b_Mo_mode 63 = .ok (.lload_n 3, 1) := by decide +kernel
theorem d_Mo_mode_64 : decode b_Mo_mode 64 = .ok (.lastore, 1) := by decide +kernel
theorem d_Mo_mode_65 : decode b_Mo_mode 65 = .ok (.aload_n 0, 1) := by decide +kernel
theorem d_Mo_mode_66 : decode b_Mo_mode 66 = .ok (.getfield 32, 3) := by decide +kernel
theorem d_Mo_mode_69 : decode b_Mo_mode 69 = .ok (.iload_n 1, 1) := by decide +kernel
theorem d_Mo_mode_70 : decode b_Mo_mode 70 = .ok (.lload_n 3, 1) := by decide +kernel
theorem d_Mo_mode_71 : decode b_Mo_mode 71 = .ok (.lastore, 1) := by decide +kernel
theorem d_Mo_mode_72 : decode b_Mo_mode 72 = .ok (.aload_n 0, 1) := by decide +kernel
theorem d_Mo_mode_73 : decode b_Mo_mode 73 = .ok (.getfield 35, 3) := by decide +kernel
theorem d_Mo_mode_76 : decode b_Mo_mode 76 = .ok (.iload_n 1, 1) := by decide +kernel
theorem d_Mo_mode_77 : decode b_Mo_mode 77 = .ok (.iconst 0, 1) := by decide +kernel
theorem d_Mo_mode_78 : decode b_Mo_mode 78 = .ok (.iastore, 1) := by decide +kernel
theorem d_Mo_mode_79 : decode b_Mo_mode 79 = .ok (.aload_n 0, 1) := by decide +kernel
theorem d_Mo_mode_80 : decode b_Mo_mode 80 = .ok (.getfield 38, 3) := by decide +kernel
theorem d_Mo_mode_83 : decode b_Mo_mode 83 = .ok (.iload_n 1, 1) := by decide +kernel
theorem d_Mo_mode_84 : decode b_Mo_mode 84 = .ok (.iconst 0, 1) := by decide +kernel
theorem d_Mo_mode_85 : decode b_Mo_mode 85 = .ok (.iastore, 1) := by decide +kernel
theorem d_Mo_mode_86 : decode b_Mo_mode 86 = .ok (.aload_n 0, 1) := by decide +kernel
theorem d_Mo_mode_87 : decode b_Mo_mode 87 = .ok (.iload_n 1, 1) := by decide +kernel
theorem d_Mo_mode_88 : decode b_Mo_mode 88 = .ok (.invokevirtual 148, 3) := by decide +kernel
theorem d_Mo_mode_91 : decode b_Mo_mode 91 = .ok (.return_, 1) := by decide +kernel
theorem d_Mo_isKeyed_0 : decode b_Mo_isKeyed 0 = .ok (.aload_n 0, 1) := by decide +kernel
theorem d_Mo_isKeyed_1 : decode b_Mo_isKeyed 1 = .ok (.getfield 13, 3) := by decide +kernel
theorem d_Mo_isKeyed_4 : decode b_Mo_isKeyed 4 = .ok (.iload_n 1, 1) := by decide +kernel
theorem d_Mo_isKeyed_5 : decode b_Mo_isKeyed 5 = .ok (.iaload, 1) := by decide +kernel
theorem d_Mo_isKeyed_6 : decode b_Mo_isKeyed 6 = .ok (.iconst 2, 1) := by decide +kernel
theorem d_Mo_isKeyed_7 : decode b_Mo_isKeyed 7 = .ok (.if_icmp .lt 7, 3) := by decide +kernel
theorem d_Mo_isKeyed_10 : decode b_Mo_isKeyed 10 = .ok (.iconst 1, 1) := by decide +kernel
theorem d_Mo_isKeyed_11 : decode b_Mo_isKeyed 11 = .ok (.goto 4, 3) := by decide +kernel
theorem d_Mo_isKeyed_14 : decode b_Mo_isKeyed 14 = .ok (.iconst 0, 1) := by decide +kernel
theorem d_Mo_isKeyed_15 : decode b_Mo_isKeyed 15 = .ok (.ireturn, 1) := by decide +kernel
theorem d_Mo_empty_0 : decode b_Mo_empty 0 = .ok (.aload_n 0, 1) := by decide +kernel
theorem d_Mo_empty_1 : decode b_Mo_empty 1 = .ok (.getfield 41, 3) := by decide +kernel
theorem d_Mo_empty_4 : decode b_Mo_empty 4 = .ok (.iload_n 1, 1) := by decide +kernel
theorem d_Mo_empty_5 : decode b_Mo_empty 5 = .ok (.iconst 0, 1) := by decide +kernel
theorem d_Mo_empty_6 : decode b_Mo_empty 6 = .ok (.iastore, 1) := by decide +kernel
theorem d_Mo_empty_7 : decode b_Mo_empty 7 = .ok (.aload_n 0, 1) := by decide +kernel
theorem d_Mo_empty_8 : decode b_Mo_empty 8 = .ok (.getfield 44, 3) := by decide +kernel
theorem d_Mo_empty_11 : decode b_Mo_empty 11 = .ok (.iload_n 1, 1) := by decide +kernel
theorem d_Mo_empty_12 : decode b_Mo_empty 12 = .ok (.lconst 0, 1) := by decide +kernel
theorem d_Mo_empty_13 : decode b_Mo_empty 13 = .ok (.lastore, 1) := by decide +kernel
theorem d_Mo_empty_14 : decode b_Mo_empty 14 = .ok (.aload_n 0, 1) := by decide +kernel
theorem d_Mo_empty_15 : decode b_Mo_empty 15 = .ok (.getfield 47, 3) := by decide +kernel
theorem d_Mo_empty_18 : decode b_Mo_empty 18 = .ok (.iload_n 1, 1) := by decide +kernel
theorem d_Mo_empty_19 : decode b_Mo_empty 19 = .ok (.lconst 0, 1) := by decide +kernel
theorem d_Mo_empty_20 : decode b_Mo_empty 20 = .ok (.lastore, 1) := by decide +kernel
theorem d_Mo_empty_21 : decode b_Mo_empty 21 = .ok (.aload_n 0, 1) := by decide +kernel
theorem d_Mo_empty_22 : decode b_Mo_empty 22 = .ok (.getfield 50, 3) := by decide +kernel
theorem d_Mo_empty_25 : decode b_Mo_empty 25 = .ok (.iload_n 1, 1) := by decide +kernel
theorem d_Mo_empty_26 : decode b_Mo_empty 26 = .ok (.iconst 0, 1) := by decide +kernel
theorem d_Mo_empty_27 : decode b_Mo_empty 27 = .ok (.iastore, 1) := by decide +kernel
theorem d_Mo_empty_28 : decode b_Mo_empty 28 = .ok (.return_, 1) := by decide +kernel
theorem d_Mo_free_0 : decode b_Mo_free 0 = .ok (.aload_n 0, 1) := by decide +kernel
theorem d_Mo_free_1 : decode b_Mo_free 1 = .ok (.iload_n 1, 1) := by decide +kernel
theorem d_Mo_free_2 : decode b_Mo_free 2 = .ok (.invokestatic 138, 3) := by decide +kernel
theorem d_Mo_free_5 : decode b_Mo_free 5 = .ok (.ifCond .eq 7, 3) := by decide +kernel
theorem d_Mo_free_8 : decode b_Mo_free 8 = .ok (.iconst 0, 1) := by decide +kernel
theorem d_Mo_free_9 : decode b_Mo_free 9 = .ok (.goto 4, 3) := by decide +kernel
theorem d_Mo_free_12 : decode b_Mo_free 12 = .ok (.iconst 1, 1) := by decide +kernel
theorem d_Mo_free_13 : decode b_Mo_free 13 = .ok (.invokevirtual 142, 3) := by decide +kernel
theorem d_Mo_free_16 : decode b_Mo_free 16 = .ok (.ifCond .ne 10, 3) := by decide +kernel
theorem d_Mo_free_19 : decode b_Mo_free 19 = .ok (.aload_n 0, 1) := by decide +kernel
theorem d_Mo_free_20 : decode b_Mo_free 20 = .ok (.getfield 13, 3) := by decide +kernel
theorem d_Mo_free_23 : decode b_Mo_free 23 = .ok (.iload_n 1, 1) := by decide +kernel
theorem d_Mo_free_24 : decode b_Mo_free 24 = .ok (.iconst 0, 1) := by decide +kernel
theorem d_Mo_free_25 : decode b_Mo_free 25 = .ok (.iastore, 1) := by decide +kernel
theorem d_Mo_free_26 : decode b_Mo_free 26 = .ok (.return_, 1) := by decide +kernel
theorem d_Mo_stage_0 : decode b_Mo_stage 0 = .ok (.aload_n 0, 1) := by decide +kernel
theorem d_Mo_stage_1 : decode b_Mo_stage 1 = .ok (.iload_n 1, 1) := by decide +kernel
theorem d_Mo_stage_2 : decode b_Mo_stage 2 = .ok (.invokestatic 138, 3) := by decide +kernel
theorem d_Mo_stage_5 : decode b_Mo_stage 5 = .ok (.ifCond .eq 7, 3) := by decide +kernel
theorem d_Mo_stage_8 : decode b_Mo_stage 8 = .ok (.iconst 0, 1) := by decide +kernel
theorem d_Mo_stage_9 : decode b_Mo_stage 9 = .ok (.goto 4, 3) := by decide +kernel
theorem d_Mo_stage_12 : decode b_Mo_stage 12 = .ok (.iconst 1, 1) := by decide +kernel
theorem d_Mo_stage_13 : decode b_Mo_stage 13 = .ok (.invokevirtual 142, 3) := by decide +kernel
theorem d_Mo_stage_16 : decode b_Mo_stage 16 = .ok (.ifCond .eq 7, 3) := by decide +kernel
theorem d_Mo_stage_19 : decode b_Mo_stage 19 = .ok (.iconst 0, 1) := by decide +kernel
theorem d_Mo_stage_20 : decode b_Mo_stage 20 = .ok (.goto 9, 3) := by decide +kernel
theorem d_Mo_stage_23 : decode b_Mo_stage 23 = .ok (.aload_n 0, 1) := by decide +kernel
theorem d_Mo_stage_24 : decode b_Mo_stage 24 = .ok (.getfield 13, 3) := by decide +kernel
theorem d_Mo_stage_27 : decode b_Mo_stage 27 = .ok (.iload_n 1, 1) := by decide +kernel
theorem d_Mo_stage_28 : decode b_Mo_stage 28 = .ok (.iaload, 1) := by decide +kernel
