theorem d_Mo_feedBlock_73 : decode b_Mo_feedBlock 73 = .ok (.goto 33, 3) := by decide +kernel
theorem d_Mo_feedBlock_76 : decode b_Mo_feedBlock 76 = .ok (.aload_n 0, 1) := by decide +kernel
theorem d_Mo_feedBlock_77 : decode b_Mo_feedBlock 77 = .ok (.getfield 32, 3) := by decide +kernel
theorem d_Mo_feedBlock_80 : decode b_Mo_feedBlock 80 = .ok (.iload_n 1, 1) := by decide +kernel
theorem d_Mo_feedBlock_81 : decode b_Mo_feedBlock 81 = .ok (.aload_n 0, 1) := by decide +kernel
theorem d_Mo_feedBlock_82 : decode b_Mo_feedBlock 82 = .ok (.lload 4, 2) := by decide +kernel
theorem d_Mo_feedBlock_84 : decode b_Mo_feedBlock 84 = .ok (.aload_n 0, 1) := by decide +kernel
theorem d_Mo_feedBlock_85 : decode b_Mo_feedBlock 85 = .ok (.getfield 32, 3) := by decide +kernel
theorem d_Mo_feedBlock_88 : decode b_Mo_feedBlock 88 = .ok (.iload_n 1, 1) := by decide +kernel
theorem d_Mo_feedBlock_89 : decode b_Mo_feedBlock 89 = .ok (.laload, 1) := by decide +kernel
theorem d_Mo_feedBlock_90 : decode b_Mo_feedBlock 90 = .ok (.lxor, 1) := by decide +kernel
theorem d_Mo_feedBlock_91 : decode b_Mo_feedBlock 91 = .ok (.invokevirtual 157, 3) := by decide +kernel
theorem d_Mo_feedBlock_94 : decode b_Mo_feedBlock 94 = .ok (.lastore, 1) := by decide +kernel
theorem d_Mo_feedBlock_95 : decode b_Mo_feedBlock 95 = .ok (.aload_n 0, 1) := by decide +kernel
theorem d_Mo_feedBlock_96 : decode b_Mo_feedBlock 96 = .ok (.iload_n 3, 1) := by decide +kernel
theorem d_Mo_feedBlock_97 : decode b_Mo_feedBlock 97 = .ok (.aload_n 0, 1) := by decide +kernel
theorem d_Mo_feedBlock_98 : decode b_Mo_feedBlock 98 = .ok (.getfield 32, 3) := by decide +kernel
theorem d_Mo_feedBlock_101 : decode b_Mo_feedBlock 101 = .ok (.iload_n 1, 1) := by decide +kernel
theorem d_Mo_feedBlock_102 : decode b_Mo_feedBlock 102 = .ok (.laload, 1) := by decide +kernel
theorem d_Mo_feedBlock_103 : decode b_Mo_feedBlock 103 = .ok (.invokevirtual 164, 3) := by decide +kernel
theorem d_Mo_feedBlock_106 : decode b_Mo_feedBlock 106 = .ok (.return_, 1) := by decide +kernel
theorem d_Mo_eight_0 : decode b_Mo_eight 0 = .ok (.lconst 0, 1) := by decide +kernel
theorem d_Mo_eight_1 : decode b_Mo_eight 1 = .ok (.lstore_n 2, 1) := by decide +kernel
theorem d_Mo_eight_2 : decode b_Mo_eight 2 = .ok (.iconst 0, 1) := by decide +kernel
theorem d_Mo_eight_3 : decode b_Mo_eight 3 = .ok (.istore 4, 2) := by decide +kernel
theorem d_Mo_eight_5 : decode b_Mo_eight 5 = .ok (.iload 4, 2) := by decide +kernel
theorem d_Mo_eight_7 : decode b_Mo_eight 7 = .ok (.bipush 8, 2) := by decide +kernel
theorem d_Mo_eight_9 : decode b_Mo_eight 9 = .ok (.if_icmp .ge 25, 3) := by decide +kernel
theorem d_Mo_eight_12 : decode b_Mo_eight 12 = .ok (.lload_n 2, 1) := by decide +kernel
theorem d_Mo_eight_13 : decode b_Mo_eight 13 = .ok (.bipush 8, 2) := by decide +kernel
theorem d_Mo_eight_15 : decode b_Mo_eight 15 = .ok (.lshl, 1) := by decide +kernel
theorem d_Mo_eight_16 : decode b_Mo_eight 16 = .ok (.aload_n 0, 1) := by decide +kernel
theorem d_Mo_eight_17 : decode b_Mo_eight 17 = .ok (.getfield 7, 3) := by decide +kernel
theorem d_Mo_eight_20 : decode b_Mo_eight 20 = .ok (.iload_n 1, 1) := by decide +kernel
theorem d_Mo_eight_21 : decode b_Mo_eight 21 = .ok (.iload 4, 2) := by decide +kernel
theorem d_Mo_eight_23 : decode b_Mo_eight 23 = .ok (.iadd, 1) := by decide +kernel
theorem d_Mo_eight_24 : decode b_Mo_eight 24 = .ok (.iaload, 1) := by decide +kernel
theorem d_Mo_eight_25 : decode b_Mo_eight 25 = .ok (.i2l, 1) := by decide +kernel
theorem d_Mo_eight_26 : decode b_Mo_eight 26 = .ok (.lor, 1) := by decide +kernel
theorem d_Mo_eight_27 : decode b_Mo_eight 27 = .ok (.lstore_n 2, 1) := by decide +kernel
theorem d_Mo_eight_28 : decode b_Mo_eight 28 = .ok (.iinc 4 1, 3) := by decide +kernel
theorem d_Mo_eight_31 : decode b_Mo_eight 31 = .ok (.goto (-26), 3) := by decide +kernel
theorem d_Mo_eight_34 : decode b_Mo_eight 34 = .ok (.lload_n 2, 1) := by decide +kernel
theorem d_Mo_eight_35 : decode b_Mo_eight 35 = .ok (.lreturn, 1) := by decide +kernel
theorem d_Mo_putEight_0 : decode b_Mo_putEight 0 = .ok (.iconst 0, 1) := by decide +kernel
theorem d_Mo_putEight_1 : decode b_Mo_putEight 1 = .ok (.istore 4, 2) := by decide +kernel
theorem d_Mo_putEight_3 : decode b_Mo_putEight 3 = .ok (.iload 4, 2) := by decide +kernel
theorem d_Mo_putEight_5 : decode b_Mo_putEight 5 = .ok (.bipush 8, 2) := by decide +kernel
theorem d_Mo_putEight_7 : decode b_Mo_putEight 7 = .ok (.if_icmp .ge 33, 3) := by decide +kernel
theorem d_Mo_putEight_10 : decode b_Mo_putEight 10 = .ok (.aload_n 0, 1) := by decide +kernel
theorem d_Mo_putEight_11 : decode b_Mo_putEight 11 = .ok (.getfield 7, 3) := by decide +kernel
theorem d_Mo_putEight_14 : decode b_Mo_putEight 14 = .ok (.iload_n 1, 1) := by decide +kernel
theorem d_Mo_putEight_15 : decode b_Mo_putEight 15 = .ok (.iload 4, 2) := by decide +kernel
theorem d_Mo_putEight_17 : decode b_Mo_putEight 17 = .ok (.iadd, 1) := by decide +kernel
theorem d_Mo_putEight_18 : decode b_Mo_putEight 18 = .ok (.lload_n 2, 1) := by decide +kernel
theorem d_Mo_putEight_19 : decode b_Mo_putEight 19 = .ok (.bipush 56, 2) := by decide +kernel
theorem d_Mo_putEight_21 : decode b_Mo_putEight 21 = .ok (.bipush 8, 2) := by decide +kernel
theorem d_Mo_putEight_23 : decode b_Mo_putEight 23 = .ok (.iload 4, 2) := by decide +kernel
theorem d_Mo_putEight_25 : decode b_Mo_putEight 25 = .ok (.imul, 1) := by decide +kernel
theorem d_Mo_putEight_26 : decode b_Mo_putEight 26 = .ok (.isub, 1) := by decide +kernel
theorem d_Mo_putEight_27 : decode b_Mo_putEight 27 = .ok (.lushr, 1) := by decide +kernel
theorem d_Mo_putEight_28 : decode b_Mo_putEight 28 = .ok (.l2i, 1) := by decide +kernel
theorem d_Mo_putEight_29 : decode b_Mo_putEight 29 = .ok (.sipush 255, 3) := by decide +kernel
theorem d_Mo_putEight_32 : decode b_Mo_putEight 32 = .ok (.iand, 1) := by decide +kernel
theorem d_Mo_putEight_33 : decode b_Mo_putEight 33 = .ok (.iastore, 1) := by decide +kernel
theorem d_Mo_putEight_34 : decode b_Mo_putEight 34 = .ok (.iinc 4 1, 3) := by decide +kernel
theorem d_Mo_putEight_37 : decode b_Mo_putEight 37 = .ok (.goto (-34), 3) := by decide +kernel
theorem d_Mo_putEight_40 : decode b_Mo_putEight 40 = .ok (.return_, 1) := by decide +kernel
theorem d_Mo_seek_0 : decode b_Mo_seek 0 = .ok (.aload_n 0, 1) := by decide +kernel
theorem d_Mo_seek_1 : decode b_Mo_seek 1 = .ok (.iload_n 1, 1) := by decide +kernel
theorem d_Mo_seek_2 : decode b_Mo_seek 2 = .ok (.invokestatic 138, 3) := by decide +kernel
theorem d_Mo_seek_5 : decode b_Mo_seek 5 = .ok (.ifCond .ne 7, 3) := by decide +kernel
theorem d_Mo_seek_8 : decode b_Mo_seek 8 = .ok (.iconst 1, 1) := by decide +kernel
theorem d_Mo_seek_9 : decode b_Mo_seek 9 = .ok (.goto 28, 3) := by decide +kernel
theorem d_Mo_seek_12 : decode b_Mo_seek 12 = .ok (.aload_n 0, 1) := by decide +kernel
theorem d_Mo_seek_13 : decode b_Mo_seek 13 = .ok (.getfield 13, 3) := by decide +kernel
theorem d_Mo_seek_16 : decode b_Mo_seek 16 = .ok (.iload_n 1, 1) := by decide +kernel
theorem d_Mo_seek_17 : decode b_Mo_seek 17 = .ok (.iaload, 1) := by decide +kernel
theorem d_Mo_seek_18 : decode b_Mo_seek 18 = .ok (.iconst 3, 1) := by decide +kernel
theorem d_Mo_seek_19 : decode b_Mo_seek 19 = .ok (.if_icmp .ne 13, 3) := by decide +kernel
theorem d_Mo_seek_22 : decode b_Mo_seek 22 = .ok (.aload_n 0, 1) := by decide +kernel
theorem d_Mo_seek_23 : decode b_Mo_seek 23 = .ok (.getfield 26, 3) := by decide +kernel
theorem d_Mo_seek_26 : decode b_Mo_seek 26 = .ok (.iload_n 1, 1) := by decide +kernel
theorem d_Mo_seek_27 : decode b_Mo_seek 27 = .ok (.iaload, 1) := by decide +kernel
theorem d_Mo_seek_28 : decode b_Mo_seek 28 = .ok (.iconst 4, 1) := by decide +kernel
theorem d_Mo_seek_29 : decode b_Mo_seek 29 = .ok (.if_icmp .eq 7, 3) := by decide +kernel
theorem d_Mo_seek_32 : decode b_Mo_seek 32 = .ok (.iconst 2, 1) := by decide +kernel
theorem d_Mo_seek_33 : decode b_Mo_seek 33 = .ok (.goto 4, 3) := by decide +kernel
theorem d_Mo_seek_36 : decode b_Mo_seek 36 = .ok (.iconst 0, 1) := by decide +kernel
theorem d_Mo_seek_37 : decode b_Mo_seek 37 = .ok (.invokevirtual 142, 3) := by decide +kernel
theorem d_Mo_seek_40 : decode b_Mo_seek 40 = .ok (.ifCond .ne 24, 3) := by decide +kernel
theorem d_Mo_seek_43 : decode b_Mo_seek 43 = .ok (.aload_n 0, 1) := by decide +kernel
theorem d_Mo_seek_44 : decode b_Mo_seek 44 = .ok (.getfield 32, 3) := by decide +kernel
theorem d_Mo_seek_47 : decode b_Mo_seek 47 = .ok (.iload_n 1, 1) := by decide +kernel
theorem d_Mo_seek_48 : decode b_Mo_seek 48 = .ok (.aload_n 0, 1) := by decide +kernel
theorem d_Mo_seek_49 : decode b_Mo_seek 49 = .ok (.getfield 29, 3) := by decide +kernel
theorem d_Mo_seek_52 : decode b_Mo_seek 52 = .ok (.iload_n 1, 1) := by decide +kernel
theorem d_Mo_seek_53 : decode b_Mo_seek 53 = .ok (.laload, 1) := by decide +kernel
theorem d_Mo_seek_54 : decode b_Mo_seek 54 = .ok (.lload_n 2, 1) := by decide +kernel
theorem d_Mo_seek_55 : decode b_Mo_seek 55 = .ok (.ladd, 1) := by decide +kernel
theorem d_Mo_seek_56 : decode b_Mo_seek 56 = .ok (.lastore, 1) := by decide +kernel
theorem d_Mo_seek_57 : decode b_Mo_seek 57 = .ok (.aload_n 0, 1) := by decide +kernel
theorem d_Mo_seek_58 : decode b_Mo_seek 58 = .ok (.getfield 35, 3) := by decide +kernel
theorem d_Mo_seek_61 : decode b_Mo_seek 61 = .ok (.iload_n 1, 1) := by decide +kernel
theorem d_Mo_seek_62 : decode b_Mo_seek 62 = .ok (.iconst 0, 1) := by decide +kernel
theorem d_Mo_seek_63 : decode b_Mo_seek 63 = .ok (.iastore, 1) := by decide +kernel
theorem d_Mo_seek_64 : decode b_Mo_seek 64 = .ok (.return_, 1) := by decide +kernel
theorem d_Mo_take_0 : decode b_Mo_take 0 = .ok (.iload_n 1, 1) := by decide +kernel
theorem d_Mo_take_1 : decode b_Mo_take 1 = .ok (.invokestatic 138, 3) := by decide +kernel
theorem d_Mo_take_4 : decode b_Mo_take 4 = .ok (.ifCond .eq 15, 3) := by decide +kernel
theorem d_Mo_take_7 : decode b_Mo_take 7 = .ok (.iload_n 2, 1) := by decide +kernel
theorem d_Mo_take_8 : decode b_Mo_take 8 = .ok (.iload_n 3, 1) := by decide +kernel
theorem d_Mo_take_9 : decode b_Mo_take 9 = .ok (.invokestatic 168, 3) := by decide +kernel
theorem d_Mo_take_12 : decode b_Mo_take 12 = .ok (.ifCond .eq 7, 3) := by decide +kernel
theorem d_Mo_take_15 : decode b_Mo_take 15 = .ok (.iconst 1, 1) := by decide +kernel
theorem d_Mo_take_16 : decode b_Mo_take 16 = .ok (.goto 4, 3) := by decide +kernel
theorem d_Mo_take_19 : decode b_Mo_take 19 = .ok (.iconst 0, 1) := by decide +kernel
theorem d_Mo_take_20 : decode b_Mo_take 20 = .ok (.istore 4, 2) := by decide +kernel
theorem d_Mo_take_22 : decode b_Mo_take 22 = .ok (.aload_n 0, 1) := by decide +kernel
theorem d_Mo_take_23 : decode b_Mo_take 23 = .ok (.iload 4, 2) := by decide +kernel
theorem d_Mo_take_25 : decode b_Mo_take 25 = .ok (.ifCond .ne 7, 3) := by decide +kernel
theorem d_Mo_take_28 : decode b_Mo_take 28 = .ok (.iconst 1, 1) := by decide +kernel
theorem d_Mo_take_29 : decode b_Mo_take 29 = .ok (.goto 8, 3) := by decide +kernel
theorem d_Mo_take_32 : decode b_Mo_take 32 = .ok (.aload_n 0, 1) := by decide +kernel
theorem d_Mo_take_33 : decode b_Mo_take 33 = .ok (.iload_n 1, 1) := by decide +kernel
theorem d_Mo_take_34 : decode b_Mo_take 34 = .ok (.invokevirtual 179, 3) := by decide +kernel
theorem d_Mo_take_37 : decode b_Mo_take 37 = .ok (.invokevirtual 142, 3) := by decide +kernel
theorem d_Mo_take_40 : decode b_Mo_take 40 = .ok (.ifCond .eq 5, 3) := by decide +kernel
theorem d_Mo_take_43 : decode b_Mo_take 43 = .ok (.iconst 0, 1) := by decide +kernel
theorem d_Mo_take_44 : decode b_Mo_take 44 = .ok (.ireturn, 1) := by decide +kernel
theorem d_Mo_take_45 : decode b_Mo_take 45 = .ok (.aload_n 0, 1) := by decide +kernel
theorem d_Mo_take_46 : decode b_Mo_take 46 = .ok (.iload_n 1, 1) := by decide +kernel
theorem d_Mo_take_47 : decode b_Mo_take 47 = .ok (.invokevirtual 151, 3) := by decide +kernel
theorem d_Mo_take_50 : decode b_Mo_take 50 = .ok (.iconst 0, 1) := by decide +kernel
theorem d_Mo_take_51 : decode b_Mo_take 51 = .ok (.istore 5, 2) := by decide +kernel
theorem d_Mo_take_53 : decode b_Mo_take 53 = .ok (.iload 5, 2) := by decide +kernel
theorem d_Mo_take_55 : decode b_Mo_take 55 = .ok (.iload_n 3, 1) := by decide +kernel
theorem d_Mo_take_56 : decode b_Mo_take 56 = .ok (.if_icmp .ge 103, 3) := by decide +kernel
theorem d_Mo_take_59 : decode b_Mo_take 59 = .ok (.aload_n 0, 1) := by decide +kernel
theorem d_Mo_take_60 : decode b_Mo_take 60 = .ok (.getfield 50, 3) := by decide +kernel
theorem d_Mo_take_63 : decode b_Mo_take 63 = .ok (.iload_n 1, 1) := by decide +kernel
theorem d_Mo_take_64 : decode b_Mo_take 64 = .ok (.iaload, 1) := by decide +kernel
theorem d_Mo_take_65 : decode b_Mo_take 65 = .ok (.bipush 8, 2) := by decide +kernel
theorem d_Mo_take_67 : decode b_Mo_take 67 = .ok (.if_icmp .ne 40, 3) := by decide +kernel
theorem d_Mo_take_70 : decode b_Mo_take 70 = .ok (.aload_n 0, 1) := by decide +kernel
theorem d_Mo_take_71 : decode b_Mo_take 71 = .ok (.getfield 44, 3) := by decide +kernel
theorem d_Mo_take_74 : decode b_Mo_take 74 = .ok (.iload_n 1, 1) := by decide +kernel
theorem d_Mo_take_75 : decode b_Mo_take 75 = .ok (.aload_n 0, 1) := by decide +kernel
theorem d_Mo_take_76 : decode b_Mo_take 76 = .ok (.aload_n 0, 1) := by decide +kernel
theorem d_Mo_take_77 : decode b_Mo_take 77 = .ok (.getfield 44, 3) := by decide +kernel
theorem d_Mo_take_80 : decode b_Mo_take 80 = .ok (.iload_n 1, 1) := by decide +kernel
theorem d_Mo_take_81 : decode b_Mo_take 81 = .ok (.laload, 1) := by decide +kernel
theorem d_Mo_take_82 : decode b_Mo_take 82 = .ok (.aload_n 0, 1) := by decide +kernel
theorem d_Mo_take_83 : decode b_Mo_take 83 = .ok (.getfield 47, 3) := by decide +kernel
theorem d_Mo_take_86 : decode b_Mo_take 86 = .ok (.iload_n 1, 1) := by decide +kernel
theorem d_Mo_take_87 : decode b_Mo_take 87 = .ok (.laload, 1) := by decide +kernel
theorem d_Mo_take_88 : decode b_Mo_take 88 = .ok (.lxor, 1) := by decide +kernel
theorem d_Mo_take_89 : decode b_Mo_take 89 = .ok (.invokevirtual 157, 3) := by decide +kernel
theorem d_Mo_take_92 : decode b_Mo_take 92 = .ok (.lastore, 1) := by decide +kernel
theorem d_Mo_take_93 : decode b_Mo_take 93 = .ok (.aload_n 0, 1) := by decide +kernel
theorem d_Mo_take_94 : decode b_Mo_take 94 = .ok (.getfield 47, 3) := by decide +kernel
theorem d_Mo_take_97 : decode b_Mo_take 97 = .ok (.iload_n 1, 1) := by decide +kernel
theorem d_Mo_take_98 : decode b_Mo_take 98 = .ok (.lconst 0, 1) := by decide +kernel
theorem d_Mo_take_99 : decode b_Mo_take 99 = .ok (.lastore, 1) := by decide +kernel
theorem d_Mo_take_100 : decode b_Mo_take 100 = .ok (.aload_n 0, 1) := by decide +kernel
theorem d_Mo_take_101 : decode b_Mo_take 101 = .ok (.getfield 50, 3) := by decide +kernel
theorem d_Mo_take_104 : decode b_Mo_take 104 = .ok (.iload_n 1, 1) := by decide +kernel
theorem d_Mo_take_105 : decode b_Mo_take 105 = .ok (.iconst 0, 1) := by decide +kernel
theorem d_Mo_take_106 : decode b_Mo_take 106 = .ok (.iastore, 1) := by decide +kernel
theorem d_Mo_take_107 : decode b_Mo_take 107 = .ok (.aload_n 0, 1) := by decide +kernel
theorem d_Mo_take_108 : decode b_Mo_take 108 = .ok (.getfield 47, 3) := by decide +kernel
theorem d_Mo_take_111 : decode b_Mo_take 111 = .ok (.iload_n 1, 1) := by decide +kernel
theorem d_Mo_take_112 : decode b_Mo_take 112 = .ok (.aload_n 0, 1) := by decide +kernel
theorem d_Mo_take_113 : decode b_Mo_take 113 = .ok (.getfield 47, 3) := by decide +kernel
theorem d_Mo_take_116 : decode b_Mo_take 116 = .ok (.iload_n 1, 1) := by decide +kernel
theorem d_Mo_take_117 : decode b_Mo_take 117 = .ok (.laload, 1) := by decide +kernel
theorem d_Mo_take_118 : decode b_Mo_take 118 = .ok (.aload_n 0, 1) := by decide +kernel
theorem d_Mo_take_119 : decode b_Mo_take 119 = .ok (.getfield 7, 3) := by decide +kernel
theorem d_Mo_take_122 : decode b_Mo_take 122 = .ok (.iload_n 2, 1) := by decide +kernel
theorem d_Mo_take_123 : decode b_Mo_take 123 = .ok (.iload 5, 2) := by decide +kernel
theorem d_Mo_take_125 : decode b_Mo_take 125 = .ok (.iadd, 1) := by decide +kernel
theorem d_Mo_take_126 : decode b_Mo_take 126 = .ok (.iaload, 1) := by decide +kernel
theorem d_Mo_take_127 : decode b_Mo_take 127 = .ok (.i2l, 1) := by decide +kernel
theorem d_Mo_take_128 : decode b_Mo_take 128 = .ok (.bipush 56, 2) := by decide +kernel
theorem d_Mo_take_130 : decode b_Mo_take 130 = .ok (.bipush 8, 2) := by decide +kernel
theorem d_Mo_take_132 : decode b_Mo_take 132 = .ok (.aload_n 0, 1) := by decide +kernel
theorem d_Mo_take_133 : decode b_Mo_take 133 = .ok (.getfield 50, 3) := by decide +kernel
theorem d_Mo_take_136 : decode b_Mo_take 136 = .ok (.iload_n 1, 1) := by decide +kernel
theorem d_Mo_take_137 : decode b_Mo_take 137 = .ok (.iaload, 1) := by decide +kernel
theorem d_Mo_take_138 : decode b_Mo_take 138 = .ok (.imul, 1) := by decide +kernel
theorem d_Mo_take_139 : decode b_Mo_take 139 = .ok (.isub, 1) := by decide +kernel
theorem d_Mo_take_140 : decode b_Mo_take 140 = .ok (.lshl, 1) := by decide +kernel
theorem d_Mo_take_141 : decode b_Mo_take 141 = .ok (.lor, 1) := by decide +kernel
theorem d_Mo_take_142 : decode b_Mo_take 142 = .ok (.lastore, 1) := by decide +kernel
theorem d_Mo_take_143 : decode b_Mo_take 143 = .ok (.aload_n 0, 1) := by decide +kernel
theorem d_Mo_take_144 : decode b_Mo_take 144 = .ok (.getfield 50, 3) := by decide +kernel
theorem d_Mo_take_147 : decode b_Mo_take 147 = .ok (.iload_n 1, 1) := by decide +kernel
theorem d_Mo_take_148 : decode b_Mo_take 148 = .ok (.dup2, 1) := by decide +kernel
theorem d_Mo_take_149 : decode b_Mo_take 149 = .ok (.iaload, 1) := by decide +kernel
theorem d_Mo_take_150 : decode b_Mo_take 150 = .ok (.iconst 1, 1) := by decide +kernel
theorem d_Mo_take_151 : decode b_Mo_take 151 = .ok (.iadd, 1) := by decide +kernel
theorem d_Mo_take_152 : decode b_Mo_take 152 = .ok (.iastore, 1) := by decide +kernel
theorem d_Mo_take_153 : decode b_Mo_take 153 = .ok (.iinc 5 1, 3) := by decide +kernel
theorem d_Mo_take_156 : decode b_Mo_take 156 = .ok (.goto (-103), 3) := by decide +kernel
theorem d_Mo_take_159 : decode b_Mo_take 159 = .ok (.aload_n 0, 1) := by decide +kernel
theorem d_Mo_take_160 : decode b_Mo_take 160 = .ok (.getfield 41, 3) := by decide +kernel
theorem d_Mo_take_163 : decode b_Mo_take 163 = .ok (.iload_n 1, 1) := by decide +kernel
theorem d_Mo_take_164 : decode b_Mo_take 164 = .ok (.aload_n 0, 1) := by decide +kernel
theorem d_Mo_take_165 : decode b_Mo_take 165 = .ok (.getfield 41, 3) := by decide +kernel
theorem d_Mo_take_168 : decode b_Mo_take 168 = .ok (.iload_n 1, 1) := by decide +kernel
theorem d_Mo_take_169 : decode b_Mo_take 169 = .ok (.iaload, 1) := by decide +kernel
theorem d_Mo_take_170 : decode b_Mo_take 170 = .ok (.iload_n 3, 1) := by decide +kernel
theorem d_Mo_take_171 : decode b_Mo_take 171 = .ok (.iadd, 1) := by decide +kernel
theorem d_Mo_take_172 : decode b_Mo_take 172 = .ok (.iastore, 1) := by decide +kernel
theorem d_Mo_take_173 : decode b_Mo_take 173 = .ok (.aload_n 0, 1) := by decide +kernel
theorem d_Mo_take_174 : decode b_Mo_take 174 = .ok (.getfield 41, 3) := by decide +kernel
theorem d_Mo_take_177 : decode b_Mo_take 177 = .ok (.iload_n 1, 1) := by decide +kernel
theorem d_Mo_take_178 : decode b_Mo_take 178 = .ok (.iaload, 1) := by decide +kernel
theorem d_Mo_take_179 : decode b_Mo_take 179 = .ok (.ireturn, 1) := by decide +kernel
theorem d_Mo_wrongTake_0 : decode b_Mo_wrongTake 0 = .ok (.aload_n 0, 1) := by decide +kernel
theorem d_Mo_wrongTake_1 : decode b_Mo_wrongTake 1 = .ok (.getfield 13, 3) := by decide +kernel
theorem d_Mo_wrongTake_4 : decode b_Mo_wrongTake 4 = .ok (.iload_n 1, 1) := by decide +kernel
theorem d_Mo_wrongTake_5 : decode b_Mo_wrongTake 5 = .ok (.iaload, 1) := by decide +kernel
theorem d_Mo_wrongTake_6 : decode b_Mo_wrongTake 6 = .ok (.iconst 3, 1) := by decide +kernel
theorem d_Mo_wrongTake_7 : decode b_Mo_wrongTake 7 = .ok (.if_icmp .ne 13, 3) := by decide +kernel
theorem d_Mo_wrongTake_10 : decode b_Mo_wrongTake 10 = .ok (.aload_n 0, 1) := by decide +kernel
theorem d_Mo_wrongTake_11 : decode b_Mo_wrongTake 11 = .ok (.getfield 26, 3) := by decide +kernel
theorem d_Mo_wrongTake_14 : decode b_Mo_wrongTake 14 = .ok (.iload_n 1, 1) := by decide +kernel
theorem d_Mo_wrongTake_15 : decode b_Mo_wrongTake 15 = .ok (.iaload, 1) := by decide +kernel
theorem d_Mo_wrongTake_16 : decode b_Mo_wrongTake 16 = .ok (.iconst 5, 1) := by decide +kernel
theorem d_Mo_wrongTake_17 : decode b_Mo_wrongTake 17 = .ok (.if_icmp .eq 7, 3) := by decide +kernel
theorem d_Mo_wrongTake_20 : decode b_Mo_wrongTake 20 = .ok (.iconst 2, 1) := by decide +kernel
theorem d_Mo_wrongTake_21 : decode b_Mo_wrongTake 21 = .ok (.goto 4, 3) := by decide +kernel
theorem d_Mo_wrongTake_24 : decode b_Mo_wrongTake 24 = .ok (.iconst 0, 1) := by decide +kernel
theorem d_Mo_wrongTake_25 : decode b_Mo_wrongTake 25 = .ok (.ireturn, 1) := by decide +kernel
theorem d_Mo_tag_0 : decode b_Mo_tag 0 = .ok (.aload_n 0, 1) := by decide +kernel
theorem d_Mo_tag_1 : decode b_Mo_tag 1 = .ok (.iload_n 1, 1) := by decide +kernel
theorem d_Mo_tag_2 : decode b_Mo_tag 2 = .ok (.invokestatic 138, 3) := by decide +kernel
theorem d_Mo_tag_5 : decode b_Mo_tag 5 = .ok (.ifCond .ne 7, 3) := by decide +kernel
theorem d_Mo_tag_8 : decode b_Mo_tag 8 = .ok (.iconst 1, 1) := by decide +kernel
theorem d_Mo_tag_9 : decode b_Mo_tag 9 = .ok (.goto 8, 3) := by decide +kernel
theorem d_Mo_tag_12 : decode b_Mo_tag 12 = .ok (.aload_n 0, 1) := by decide +kernel
theorem d_Mo_tag_13 : decode b_Mo_tag 13 = .ok (.iload_n 1, 1) := by decide +kernel
theorem d_Mo_tag_14 : decode b_Mo_tag 14 = .ok (.invokevirtual 179, 3) := by decide +kernel
theorem d_Mo_tag_17 : decode b_Mo_tag 17 = .ok (.invokevirtual 142, 3) := by decide +kernel
theorem d_Mo_tag_20 : decode b_Mo_tag 20 = .ok (.ifCond .eq 5, 3) := by decide +kernel
theorem d_Mo_tag_23 : decode b_Mo_tag 23 = .ok (.lconst 0, 1) := by decide +kernel
theorem d_Mo_tag_24 : decode b_Mo_tag 24 = .ok (.lreturn, 1) := by decide +kernel
theorem d_Mo_tag_25 : decode b_Mo_tag 25 = .ok (.aload_n 0, 1) := by decide +kernel
theorem d_Mo_tag_26 : decode b_Mo_tag 26 = .ok (.iload_n 1, 1) := by decide +kernel
theorem d_Mo_tag_27 : decode b_Mo_tag 27 = .ok (.invokevirtual 151, 3) := by decide +kernel
theorem d_Mo_tag_30 : decode b_Mo_tag 30 = .ok (.aload_n 0, 1) := by decide +kernel
theorem d_Mo_tag_31 : decode b_Mo_tag 31 = .ok (.lconst 0, 1) := by decide +kernel
theorem d_Mo_tag_32 : decode b_Mo_tag 32 = .ok (.invokevirtual 157, 3) := by decide +kernel
theorem d_Mo_tag_35 : decode b_Mo_tag 35 = .ok (.invokestatic 186, 3) := by decide +kernel
theorem d_Mo_tag_38 : decode b_Mo_tag 38 = .ok (.lstore_n 2, 1) := by decide +kernel
theorem d_Mo_tag_39 : decode b_Mo_tag 39 = .ok (.aload_n 0, 1) := by decide +kernel
theorem d_Mo_tag_40 : decode b_Mo_tag 40 = .ok (.getfield 50, 3) := by decide +kernel
theorem d_Mo_tag_43 : decode b_Mo_tag 43 = .ok (.iload_n 1, 1) := by decide +kernel
theorem d_Mo_tag_44 : decode b_Mo_tag 44 = .ok (.iaload, 1) := by decide +kernel
theorem d_Mo_tag_45 : decode b_Mo_tag 45 = .ok (.bipush 8, 2) := by decide +kernel
theorem d_Mo_tag_47 : decode b_Mo_tag 47 = .ok (.if_icmp .ne 14, 3) := by decide +kernel
theorem d_Mo_tag_50 : decode b_Mo_tag 50 = .ok (.aload_n 0, 1) := by decide +kernel
theorem d_Mo_tag_51 : decode b_Mo_tag 51 = .ok (.getfield 47, 3) := by decide +kernel
theorem d_Mo_tag_54 : decode b_Mo_tag 54 = .ok (.iload_n 1, 1) := by decide +kernel
theorem d_Mo_tag_55 : decode b_Mo_tag 55 = .ok (.laload, 1) := by decide +kernel
theorem d_Mo_tag_56 : decode b_Mo_tag 56 = .ok (.lload_n 2, 1) := by decide +kernel
theorem d_Mo_tag_57 : decode b_Mo_tag 57 = .ok (.lxor, 1) := by decide +kernel
theorem d_Mo_tag_58 : decode b_Mo_tag 58 = .ok (.goto 31, 3) := by decide +kernel
theorem d_Mo_tag_61 : decode b_Mo_tag 61 = .ok (.aload_n 0, 1) := by decide +kernel
theorem d_Mo_tag_62 : decode b_Mo_tag 62 = .ok (.getfield 47, 3) := by decide +kernel
theorem d_Mo_tag_65 : decode b_Mo_tag 65 = .ok (.iload_n 1, 1) := by decide +kernel
theorem d_Mo_tag_66 : decode b_Mo_tag 66 = .ok (.laload, 1) := by decide +kernel
theorem d_Mo_tag_67 : decode b_Mo_tag 67 = .ok (.ldc2_w 189, 3) := by decide +kernel
theorem d_Mo_tag_70 : decode b_Mo_tag 70 = .ok (.bipush 56, 2) := by decide +kernel
theorem d_Mo_tag_72 : decode b_Mo_tag 72 = .ok (.bipush 8, 2) := by decide +kernel
theorem d_Mo_tag_74 : decode b_Mo_tag 74 = .ok (.aload_n 0, 1) := by decide +kernel
theorem d_Mo_tag_75 : decode b_Mo_tag 75 = .ok (.getfield 50, 3) := by decide +kernel
theorem d_Mo_tag_78 : decode b_Mo_tag 78 = .ok (.iload_n 1, 1) := by decide +kernel
theorem d_Mo_tag_79 : decode b_Mo_tag 79 = .ok (.iaload, 1) := by decide +kernel
theorem d_Mo_tag_80 : decode b_Mo_tag 80 = .ok (.imul, 1) := by decide +kernel
theorem d_Mo_tag_81 : decode b_Mo_tag 81 = .ok (.isub, 1) := by decide +kernel
theorem d_Mo_tag_82 : decode b_Mo_tag 82 = .ok (.lshl, 1) := by decide +kernel
theorem d_Mo_tag_83 : decode b_Mo_tag 83 = .ok (.lor, 1) := by decide +kernel
theorem d_Mo_tag_84 : decode b_Mo_tag 84 = .ok (.lload_n 2, 1) := by decide +kernel
theorem d_Mo_tag_85 : decode b_Mo_tag 85 = .ok (.invokestatic 186, 3) := by decide +kernel
theorem d_Mo_tag_88 : decode b_Mo_tag 88 = .ok (.lxor, 1) := by decide +kernel
theorem d_Mo_tag_89 : decode b_Mo_tag 89 = .ok (.lstore 4, 2) := by decide +kernel
theorem d_Mo_tag_91 : decode b_Mo_tag 91 = .ok (.aload_n 0, 1) := by decide +kernel
theorem d_Mo_tag_92 : decode b_Mo_tag 92 = .ok (.aload_n 0, 1) := by decide +kernel
theorem d_Mo_tag_93 : decode b_Mo_tag 93 = .ok (.getfield 44, 3) := by decide +kernel
theorem d_Mo_tag_96 : decode b_Mo_tag 96 = .ok (.iload_n 1, 1) := by decide +kernel
theorem d_Mo_tag_97 : decode b_Mo_tag 97 = .ok (.laload, 1) := by decide +kernel
theorem d_Mo_tag_98 : decode b_Mo_tag 98 = .ok (.lload 4, 2) := by decide +kernel
theorem d_Mo_tag_100 : decode b_Mo_tag 100 = .ok (.lxor, 1) := by decide +kernel
theorem d_Mo_tag_101 : decode b_Mo_tag 101 = .ok (.invokevirtual 157, 3) := by decide +kernel
theorem d_Mo_tag_104 : decode b_Mo_tag 104 = .ok (.lstore 6, 2) := by decide +kernel
theorem d_Mo_tag_106 : decode b_Mo_tag 106 = .ok (.aload_n 0, 1) := by decide +kernel
theorem d_Mo_tag_107 : decode b_Mo_tag 107 = .ok (.iload_n 1, 1) := by decide +kernel
theorem d_Mo_tag_108 : decode b_Mo_tag 108 = .ok (.invokevirtual 148, 3) := by decide +kernel
theorem d_Mo_tag_111 : decode b_Mo_tag 111 = .ok (.lload 6, 2) := by decide +kernel
theorem d_Mo_tag_113 : decode b_Mo_tag 113 = .ok (.lreturn, 1) := by decide +kernel
theorem d_Mo_twice_0 : decode b_Mo_twice 0 = .ok (.lload_n 0, 1) := by decide +kernel
theorem d_Mo_twice_1 : decode b_Mo_twice 1 = .ok (.lconst 0, 1) := by decide +kernel
theorem d_Mo_twice_2 : decode b_Mo_twice 2 = .ok (.lcmp, 1) := by decide +kernel
theorem d_Mo_twice_3 : decode b_Mo_twice 3 = .ok (.ifCond .ge 15, 3) := by decide +kernel
theorem d_Mo_twice_6 : decode b_Mo_twice 6 = .ok (.ldc2_w 182, 3) := by decide +kernel
theorem d_Mo_twice_9 : decode b_Mo_twice 9 = .ok (.lload_n 0, 1) := by decide +kernel
theorem d_Mo_twice_10 : decode b_Mo_twice 10 = .ok (.lmul, 1) := by decide +kernel
theorem d_Mo_twice_11 : decode b_Mo_twice 11 = .ok (.ldc2_w 184, 3) := by decide +kernel
theorem d_Mo_twice_14 : decode b_Mo_twice 14 = .ok (.lxor, 1) := by decide +kernel
theorem d_Mo_twice_15 : decode b_Mo_twice 15 = .ok (.goto 8, 3) := by decide +kernel
theorem d_Mo_twice_18 : decode b_Mo_twice 18 = .ok (.ldc2_w 182, 3) := by decide +kernel
theorem d_Mo_twice_21 : decode b_Mo_twice 21 = .ok (.lload_n 0, 1) := by decide +kernel
theorem d_Mo_twice_22 : decode b_Mo_twice 22 = .ok (.lmul, 1) := by decide +kernel
theorem d_Mo_twice_23 : decode b_Mo_twice 23 = .ok (.lreturn, 1) := by decide +kernel
theorem d_La_law_0 : decode b_La_law 0 = .ok (.new 8, 3) := by decide +kernel
theorem d_La_law_3 : decode b_La_law 3 = .ok (.dup, 1) := by decide +kernel
theorem d_La_law_4 : decode b_La_law 4 = .ok (.invokespecial 65, 3) := by decide +kernel
theorem d_La_law_7 : decode b_La_law 7 = .ok (.astore_n 1, 1) := by decide +kernel
theorem d_La_law_8 : decode b_La_law 8 = .ok (.new 66, 3) := by decide +kernel
theorem d_La_law_11 : decode b_La_law 11 = .ok (.dup, 1) := by decide +kernel
theorem d_La_law_12 : decode b_La_law 12 = .ok (.invokespecial 68, 3) := by decide +kernel
theorem d_La_law_15 : decode b_La_law 15 = .ok (.astore_n 2, 1) := by decide +kernel
theorem d_La_law_16 : decode b_La_law 16 = .ok (.iconst 1, 1) := by decide +kernel
theorem d_La_law_17 : decode b_La_law 17 = .ok (.newarray .long, 2) := by decide +kernel
theorem d_La_law_19 : decode b_La_law 19 = .ok (.astore_n 3, 1) := by decide +kernel
theorem d_La_law_20 : decode b_La_law 20 = .ok (.iconst 0, 1) := by decide +kernel
theorem d_La_law_21 : decode b_La_law 21 = .ok (.istore 4, 2) := by decide +kernel
theorem d_La_law_23 : decode b_La_law 23 = .ok (.iload 4, 2) := by decide +kernel
theorem d_La_law_25 : decode b_La_law 25 = .ok (.aload_n 0, 1) := by decide +kernel
theorem d_La_law_26 : decode b_La_law 26 = .ok (.arraylength, 1) := by decide +kernel
theorem d_La_law_27 : decode b_La_law 27 = .ok (.bipush 6, 2) := by decide +kernel
theorem d_La_law_29 : decode b_La_law 29 = .ok (.isub, 1) := by decide +kernel
theorem d_La_law_30 : decode b_La_law 30 = .ok (.if_icmp .gt 813, 3) := by decide +kernel
theorem d_La_law_33 : decode b_La_law 33 = .ok (.aload_n 0, 1) := by decide +kernel
theorem d_La_law_34 : decode b_La_law 34 = .ok (.iload 4, 2) := by decide +kernel
theorem d_La_law_36 : decode b_La_law 36 = .ok (.iaload, 1) := by decide +kernel
theorem d_La_law_37 : decode b_La_law 37 = .ok (.bipush 15, 2) := by decide +kernel
theorem d_La_law_39 : decode b_La_law 39 = .ok (.iand, 1) := by decide +kernel
theorem d_La_law_40 : decode b_La_law 40 = .ok (.tableswitch 797 0 12 #[68, 105, 218, 310, 335, 363, 463, 503, 540, 568, 648, 717, 769], 68) := by decide +kernel
theorem d_La_law_108 : decode b_La_law 108 = .ok (.aload_n 1, 1) := by decide +kernel
theorem d_La_law_109 : decode b_La_law 109 = .ok (.aload_n 0, 1) := by decide +kernel
theorem d_La_law_110 : decode b_La_law 110 = .ok (.iload 4, 2) := by decide +kernel
theorem d_La_law_112 : decode b_La_law 112 = .ok (.iconst 1, 1) := by decide +kernel
theorem d_La_law_113 : decode b_La_law 113 = .ok (.iadd, 1) := by decide +kernel
theorem d_La_law_114 : decode b_La_law 114 = .ok (.iaload, 1) := by decide +kernel
theorem d_La_law_115 : decode b_La_law 115 = .ok (.aload_n 0, 1) := by decide +kernel
theorem d_La_law_116 : decode b_La_law 116 = .ok (.iload 4, 2) := by decide +kernel
theorem d_La_law_118 : decode b_La_law 118 = .ok (.iconst 2, 1) := by decide +kernel
theorem d_La_law_119 : decode b_La_law 119 = .ok (.iadd, 1) := by decide +kernel
theorem d_La_law_120 : decode b_La_law 120 = .ok (.iaload, 1) := by decide +kernel
theorem d_La_law_121 : decode b_La_law 121 = .ok (.invokestatic 69, 3) := by decide +kernel
theorem d_La_law_124 : decode b_La_law 124 = .ok (.istore 5, 2) := by decide +kernel
theorem d_La_law_126 : decode b_La_law 126 = .ok (.aload_n 2, 1) := by decide +kernel
theorem d_La_law_127 : decode b_La_law 127 = .ok (.aload_n 0, 1) := by decide +kernel
theorem d_La_law_128 : decode b_La_law 128 = .ok (.iload 4, 2) := by decide +kernel
theorem d_La_law_130 : decode b_La_law 130 = .ok (.iconst 1, 1) := by decide +kernel
theorem d_La_law_131 : decode b_La_law 131 = .ok (.iadd, 1) := by decide +kernel
theorem d_La_law_132 : decode b_La_law 132 = .ok (.iaload, 1) := by decide +kernel
theorem d_La_law_133 : decode b_La_law 133 = .ok (.aload_n 0, 1) := by decide +kernel
theorem d_La_law_134 : decode b_La_law 134 = .ok (.iload 4, 2) := by decide +kernel
theorem d_La_law_136 : decode b_La_law 136 = .ok (.iconst 2, 1) := by decide +kernel
theorem d_La_law_137 : decode b_La_law 137 = .ok (.iadd, 1) := by decide +kernel
theorem d_La_law_138 : decode b_La_law 138 = .ok (.iaload, 1) := by decide +kernel
theorem d_La_law_139 : decode b_La_law 139 = .ok (.invokevirtual 74, 3) := by decide +kernel
theorem d_La_law_142 : decode b_La_law 142 = .ok (.goto 695, 3) := by decide +kernel
theorem d_La_law_145 : decode b_La_law 145 = .ok (.aload_n 1, 1) := by decide +kernel
theorem d_La_law_146 : decode b_La_law 146 = .ok (.aload_n 0, 1) := by decide +kernel
theorem d_La_law_147 : decode b_La_law 147 = .ok (.iload 4, 2) := by decide +kernel
theorem d_La_law_149 : decode b_La_law 149 = .ok (.iconst 1, 1) := by decide +kernel
theorem d_La_law_150 : decode b_La_law 150 = .ok (.iadd, 1) := by decide +kernel
theorem d_La_law_151 : decode b_La_law 151 = .ok (.iaload, 1) := by decide +kernel
theorem d_La_law_152 : decode b_La_law 152 = .ok (.aload_n 0, 1) := by decide +kernel
theorem d_La_law_153 : decode b_La_law 153 = .ok (.iload 4, 2) := by decide +kernel
theorem d_La_law_155 : decode b_La_law 155 = .ok (.iconst 2, 1) := by decide +kernel
theorem d_La_law_156 : decode b_La_law 156 = .ok (.iadd, 1) := by decide +kernel
theorem d_La_law_157 : decode b_La_law 157 = .ok (.iaload, 1) := by decide +kernel
theorem d_La_law_158 : decode b_La_law 158 = .ok (.i2l, 1) := by decide +kernel
theorem d_La_law_159 : decode b_La_law 159 = .ok (.bipush 32, 2) := by decide +kernel
theorem d_La_law_161 : decode b_La_law 161 = .ok (.lshl, 1) := by decide +kernel
theorem d_La_law_162 : decode b_La_law 162 = .ok (.aload_n 0, 1) := by decide +kernel
theorem d_La_law_163 : decode b_La_law 163 = .ok (.iload 4, 2) := by decide +kernel
theorem d_La_law_165 : decode b_La_law 165 = .ok (.iconst 3, 1) := by decide +kernel
theorem d_La_law_166 : decode b_La_law 166 = .ok (.iadd, 1) := by decide +kernel
theorem d_La_law_167 : decode b_La_law 167 = .ok (.iaload, 1) := by decide +kernel
theorem d_La_law_168 : decode b_La_law 168 = .ok (.i2l, 1) := by decide +kernel
theorem d_La_law_169 : decode b_La_law 169 = .ok (.ldc2_w 75, 3) := by decide +kernel
theorem d_La_law_172 : decode b_La_law 172 = .ok (.land, 1) := by decide +kernel
theorem d_La_law_173 : decode b_La_law 173 = .ok (.lor, 1) := by decide +kernel
theorem d_La_law_174 : decode b_La_law 174 = .ok (.aload_n 0, 1) := by decide +kernel
theorem d_La_law_175 : decode b_La_law 175 = .ok (.iload 4, 2) := by decide +kernel
theorem d_La_law_177 : decode b_La_law 177 = .ok (.iconst 4, 1) := by decide +kernel
theorem d_La_law_178 : decode b_La_law 178 = .ok (.iadd, 1) := by decide +kernel
theorem d_La_law_179 : decode b_La_law 179 = .ok (.iaload, 1) := by decide +kernel
theorem d_La_law_180 : decode b_La_law 180 = .ok (.i2l, 1) := by decide +kernel
theorem d_La_law_181 : decode b_La_law 181 = .ok (.bipush 32, 2) := by decide +kernel
theorem d_La_law_183 : decode b_La_law 183 = .ok (.lshl, 1) := by decide +kernel
theorem d_La_law_184 : decode b_La_law 184 = .ok (.aload_n 0, 1) := by decide +kernel
theorem d_La_law_185 : decode b_La_law 185 = .ok (.iload 4, 2) := by decide +kernel
