theorem d_Ru_feed_69 : decode b_Ru_feed 69 = .ok (.iload_n 2, 1) := by decide +kernel
theorem d_Ru_feed_70 : decode b_Ru_feed 70 = .ok (.aload_n 0, 1) := by decide +kernel
theorem d_Ru_feed_71 : decode b_Ru_feed 71 = .ok (.getfield 15, 3) := by decide +kernel
theorem d_Ru_feed_74 : decode b_Ru_feed 74 = .ok (.iload_n 3, 1) := by decide +kernel
theorem d_Ru_feed_75 : decode b_Ru_feed 75 = .ok (.iload 4, 2) := by decide +kernel
theorem d_Ru_feed_77 : decode b_Ru_feed 77 = .ok (.invokevirtual 92, 3) := by decide +kernel
theorem d_Ru_feed_80 : decode b_Ru_feed 80 = .ok (.ireturn, 1) := by decide +kernel
theorem d_Ru_requireInBuffer_0 : decode b_Ru_requireInBuffer 0 = .ok (.iload_n 1, 1) := by decide +kernel
theorem d_Ru_requireInBuffer_1 : decode b_Ru_requireInBuffer 1 = .ok (.ifCond .le 19, 3) := by decide +kernel
theorem d_Ru_requireInBuffer_4 : decode b_Ru_requireInBuffer 4 = .ok (.iload_n 0, 1) := by decide +kernel
theorem d_Ru_requireInBuffer_5 : decode b_Ru_requireInBuffer 5 = .ok (.ifCond .lt 11, 3) := by decide +kernel
theorem d_Ru_requireInBuffer_8 : decode b_Ru_requireInBuffer 8 = .ok (.iload_n 1, 1) := by decide +kernel
theorem d_Ru_requireInBuffer_9 : decode b_Ru_requireInBuffer 9 = .ok (.bipush 64, 2) := by decide +kernel
theorem d_Ru_requireInBuffer_11 : decode b_Ru_requireInBuffer 11 = .ok (.iload_n 0, 1) := by decide +kernel
theorem d_Ru_requireInBuffer_12 : decode b_Ru_requireInBuffer 12 = .ok (.isub, 1) := by decide +kernel
theorem d_Ru_requireInBuffer_13 : decode b_Ru_requireInBuffer 13 = .ok (.if_icmp .le 7, 3) := by decide +kernel
theorem d_Ru_requireInBuffer_16 : decode b_Ru_requireInBuffer 16 = .ok (.iconst 1, 1) := by decide +kernel
theorem d_Ru_requireInBuffer_17 : decode b_Ru_requireInBuffer 17 = .ok (.goto 4, 3) := by decide +kernel
theorem d_Ru_requireInBuffer_20 : decode b_Ru_requireInBuffer 20 = .ok (.iconst 0, 1) := by decide +kernel
theorem d_Ru_requireInBuffer_21 : decode b_Ru_requireInBuffer 21 = .ok (.istore_n 2, 1) := by decide +kernel
theorem d_Ru_requireInBuffer_22 : decode b_Ru_requireInBuffer 22 = .ok (.iload_n 1, 1) := by decide +kernel
theorem d_Ru_requireInBuffer_23 : decode b_Ru_requireInBuffer 23 = .ok (.ifCond .lt 7, 3) := by decide +kernel
theorem d_Ru_requireInBuffer_26 : decode b_Ru_requireInBuffer 26 = .ok (.iload_n 2, 1) := by decide +kernel
theorem d_Ru_requireInBuffer_27 : decode b_Ru_requireInBuffer 27 = .ok (.ifCond .eq 13, 3) := by decide +kernel
theorem d_Ru_requireInBuffer_30 : decode b_Ru_requireInBuffer 30 = .ok (.new 112, 3) := by decide +kernel
theorem d_Ru_requireInBuffer_33 : decode b_Ru_requireInBuffer 33 = .ok (.dup, 1) := by decide +kernel
theorem d_Ru_requireInBuffer_34 : decode b_Ru_requireInBuffer 34 = .ok (.ldc 123, 2) := by decide +kernel
theorem d_Ru_requireInBuffer_36 : decode b_Ru_requireInBuffer 36 = .ok (.invokespecial 116, 3) := by decide +kernel
theorem d_Ru_requireInBuffer_39 : decode b_Ru_requireInBuffer 39 = .ok (.athrow, 1) := by decide +kernel
theorem d_Ru_requireInBuffer_40 : decode b_Ru_requireInBuffer 40 = .ok (.return_, 1) := by decide +kernel
theorem d_Cx_feedsWholeBlocks_0 : decode b_Cx_feedsWholeBlocks 0 = .ok (.aload_n 0, 1) := by decide +kernel
theorem d_Cx_feedsWholeBlocks_1 : decode b_Cx_feedsWholeBlocks 1 = .ok (.getfield 43, 3) := by decide +kernel
theorem d_Cx_feedsWholeBlocks_4 : decode b_Cx_feedsWholeBlocks 4 = .ok (.ifCond .eq 11, 3) := by decide +kernel
theorem d_Cx_feedsWholeBlocks_7 : decode b_Cx_feedsWholeBlocks 7 = .ok (.aload_n 0, 1) := by decide +kernel
theorem d_Cx_feedsWholeBlocks_8 : decode b_Cx_feedsWholeBlocks 8 = .ok (.getfield 43, 3) := by decide +kernel
theorem d_Cx_feedsWholeBlocks_11 : decode b_Cx_feedsWholeBlocks 11 = .ok (.iconst 1, 1) := by decide +kernel
theorem d_Cx_feedsWholeBlocks_12 : decode b_Cx_feedsWholeBlocks 12 = .ok (.if_icmp .ne 7, 3) := by decide +kernel
theorem d_Cx_feedsWholeBlocks_15 : decode b_Cx_feedsWholeBlocks 15 = .ok (.iconst 1, 1) := by decide +kernel
theorem d_Cx_feedsWholeBlocks_16 : decode b_Cx_feedsWholeBlocks 16 = .ok (.goto 4, 3) := by decide +kernel
theorem d_Cx_feedsWholeBlocks_19 : decode b_Cx_feedsWholeBlocks 19 = .ok (.iconst 0, 1) := by decide +kernel
theorem d_Cx_feedsWholeBlocks_20 : decode b_Cx_feedsWholeBlocks 20 = .ok (.ireturn, 1) := by decide +kernel
theorem d_Cx_feedBytes_0 : decode b_Cx_feedBytes 0 = .ok (.aload_n 0, 1) := by decide +kernel
theorem d_Cx_feedBytes_1 : decode b_Cx_feedBytes 1 = .ok (.invokevirtual 70, 3) := by decide +kernel
theorem d_Cx_feedBytes_4 : decode b_Cx_feedBytes 4 = .ok (.ifCond .eq 8, 3) := by decide +kernel
theorem d_Cx_feedBytes_7 : decode b_Cx_feedBytes 7 = .ok (.bipush 8, 2) := by decide +kernel
theorem d_Cx_feedBytes_9 : decode b_Cx_feedBytes 9 = .ok (.goto 4, 3) := by decide +kernel
theorem d_Cx_feedBytes_12 : decode b_Cx_feedBytes 12 = .ok (.iconst 1, 1) := by decide +kernel
theorem d_Cx_feedBytes_13 : decode b_Cx_feedBytes 13 = .ok (.istore 5, 2) := by decide +kernel
theorem d_Cx_feedBytes_15 : decode b_Cx_feedBytes 15 = .ok (.iconst 0, 1) := by decide +kernel
theorem d_Cx_feedBytes_16 : decode b_Cx_feedBytes 16 = .ok (.istore 6, 2) := by decide +kernel
theorem d_Cx_feedBytes_18 : decode b_Cx_feedBytes 18 = .ok (.iload 6, 2) := by decide +kernel
theorem d_Cx_feedBytes_20 : decode b_Cx_feedBytes 20 = .ok (.iload 4, 2) := by decide +kernel
theorem d_Cx_feedBytes_22 : decode b_Cx_feedBytes 22 = .ok (.if_icmp .ge 23, 3) := by decide +kernel
theorem d_Cx_feedBytes_25 : decode b_Cx_feedBytes 25 = .ok (.aload_n 0, 1) := by decide +kernel
theorem d_Cx_feedBytes_26 : decode b_Cx_feedBytes 26 = .ok (.iload_n 1, 1) := by decide +kernel
theorem d_Cx_feedBytes_27 : decode b_Cx_feedBytes 27 = .ok (.aload_n 2, 1) := by decide +kernel
theorem d_Cx_feedBytes_28 : decode b_Cx_feedBytes 28 = .ok (.iload_n 3, 1) := by decide +kernel
theorem d_Cx_feedBytes_29 : decode b_Cx_feedBytes 29 = .ok (.iload 6, 2) := by decide +kernel
theorem d_Cx_feedBytes_31 : decode b_Cx_feedBytes 31 = .ok (.iadd, 1) := by decide +kernel
theorem d_Cx_feedBytes_32 : decode b_Cx_feedBytes 32 = .ok (.invokevirtual 74, 3) := by decide +kernel
theorem d_Cx_feedBytes_35 : decode b_Cx_feedBytes 35 = .ok (.iload 6, 2) := by decide +kernel
theorem d_Cx_feedBytes_37 : decode b_Cx_feedBytes 37 = .ok (.iload 5, 2) := by decide +kernel
theorem d_Cx_feedBytes_39 : decode b_Cx_feedBytes 39 = .ok (.iadd, 1) := by decide +kernel
theorem d_Cx_feedBytes_40 : decode b_Cx_feedBytes 40 = .ok (.istore 6, 2) := by decide +kernel
theorem d_Cx_feedBytes_42 : decode b_Cx_feedBytes 42 = .ok (.goto (-24), 3) := by decide +kernel
theorem d_Cx_feedBytes_45 : decode b_Cx_feedBytes 45 = .ok (.aload_n 0, 1) := by decide +kernel
theorem d_Cx_feedBytes_46 : decode b_Cx_feedBytes 46 = .ok (.dup, 1) := by decide +kernel
theorem d_Cx_feedBytes_47 : decode b_Cx_feedBytes 47 = .ok (.getfield 64, 3) := by decide +kernel
theorem d_Cx_feedBytes_50 : decode b_Cx_feedBytes 50 = .ok (.iload 4, 2) := by decide +kernel
theorem d_Cx_feedBytes_52 : decode b_Cx_feedBytes 52 = .ok (.iadd, 1) := by decide +kernel
theorem d_Cx_feedBytes_53 : decode b_Cx_feedBytes 53 = .ok (.putfield 64, 3) := by decide +kernel
theorem d_Cx_feedBytes_56 : decode b_Cx_feedBytes 56 = .ok (.aload_n 0, 1) := by decide +kernel
theorem d_Cx_feedBytes_57 : decode b_Cx_feedBytes 57 = .ok (.getfield 64, 3) := by decide +kernel
theorem d_Cx_feedBytes_60 : decode b_Cx_feedBytes 60 = .ok (.ireturn, 1) := by decide +kernel
theorem d_Cx_feedStep_0 : decode b_Cx_feedStep 0 = .ok (.aload_n 0, 1) := by decide +kernel
theorem d_Cx_feedStep_1 : decode b_Cx_feedStep 1 = .ok (.getfield 43, 3) := by decide +kernel
theorem d_Cx_feedStep_4 : decode b_Cx_feedStep 4 = .ok (.tableswitch 98 0 3 #[32, 53, 71, 85], 32) := by decide +kernel
theorem d_Cx_feedStep_36 : decode b_Cx_feedStep 36 = .ok (.aload_n 2, 1) := by decide +kernel
theorem d_Cx_feedStep_37 : decode b_Cx_feedStep 37 = .ok (.iload_n 3, 1) := by decide +kernel
theorem d_Cx_feedStep_38 : decode b_Cx_feedStep 38 = .ok (.aload_n 0, 1) := by decide +kernel
theorem d_Cx_feedStep_39 : decode b_Cx_feedStep 39 = .ok (.getfield 46, 3) := by decide +kernel
theorem d_Cx_feedStep_42 : decode b_Cx_feedStep 42 = .ok (.iload_n 1, 1) := by decide +kernel
theorem d_Cx_feedStep_43 : decode b_Cx_feedStep 43 = .ok (.aload_n 2, 1) := by decide +kernel
theorem d_Cx_feedStep_44 : decode b_Cx_feedStep 44 = .ok (.iload_n 3, 1) := by decide +kernel
theorem d_Cx_feedStep_45 : decode b_Cx_feedStep 45 = .ok (.invokestatic 78, 3) := by decide +kernel
theorem d_Cx_feedStep_48 : decode b_Cx_feedStep 48 = .ok (.invokevirtual 82, 3) := by decide +kernel
theorem d_Cx_feedStep_51 : decode b_Cx_feedStep 51 = .ok (.invokestatic 86, 3) := by decide +kernel
theorem d_Cx_feedStep_54 : decode b_Cx_feedStep 54 = .ok (.goto 58, 3) := by decide +kernel
theorem d_Cx_feedStep_57 : decode b_Cx_feedStep 57 = .ok (.aload_n 2, 1) := by decide +kernel
theorem d_Cx_feedStep_58 : decode b_Cx_feedStep 58 = .ok (.iload_n 3, 1) := by decide +kernel
theorem d_Cx_feedStep_59 : decode b_Cx_feedStep 59 = .ok (.aload_n 0, 1) := by decide +kernel
theorem d_Cx_feedStep_60 : decode b_Cx_feedStep 60 = .ok (.iload_n 1, 1) := by decide +kernel
theorem d_Cx_feedStep_61 : decode b_Cx_feedStep 61 = .ok (.aload_n 2, 1) := by decide +kernel
theorem d_Cx_feedStep_62 : decode b_Cx_feedStep 62 = .ok (.iload_n 3, 1) := by decide +kernel
theorem d_Cx_feedStep_63 : decode b_Cx_feedStep 63 = .ok (.invokestatic 78, 3) := by decide +kernel
theorem d_Cx_feedStep_66 : decode b_Cx_feedStep 66 = .ok (.invokevirtual 90, 3) := by decide +kernel
theorem d_Cx_feedStep_69 : decode b_Cx_feedStep 69 = .ok (.invokestatic 86, 3) := by decide +kernel
theorem d_Cx_feedStep_72 : decode b_Cx_feedStep 72 = .ok (.goto 40, 3) := by decide +kernel
theorem d_Cx_feedStep_75 : decode b_Cx_feedStep 75 = .ok (.aload_n 2, 1) := by decide +kernel
theorem d_Cx_feedStep_76 : decode b_Cx_feedStep 76 = .ok (.iload_n 3, 1) := by decide +kernel
theorem d_Cx_feedStep_77 : decode b_Cx_feedStep 77 = .ok (.aload_n 0, 1) := by decide +kernel
theorem d_Cx_feedStep_78 : decode b_Cx_feedStep 78 = .ok (.iload_n 1, 1) := by decide +kernel
theorem d_Cx_feedStep_79 : decode b_Cx_feedStep 79 = .ok (.aload_n 2, 1) := by decide +kernel
theorem d_Cx_feedStep_80 : decode b_Cx_feedStep 80 = .ok (.iload_n 3, 1) := by decide +kernel
theorem d_Cx_feedStep_81 : decode b_Cx_feedStep 81 = .ok (.iaload, 1) := by decide +kernel
theorem d_Cx_feedStep_82 : decode b_Cx_feedStep 82 = .ok (.invokevirtual 93, 3) := by decide +kernel
theorem d_Cx_feedStep_85 : decode b_Cx_feedStep 85 = .ok (.iastore, 1) := by decide +kernel
theorem d_Cx_feedStep_86 : decode b_Cx_feedStep 86 = .ok (.goto 26, 3) := by decide +kernel
theorem d_Cx_feedStep_89 : decode b_Cx_feedStep 89 = .ok (.aload_n 2, 1) := by decide +kernel
theorem d_Cx_feedStep_90 : decode b_Cx_feedStep 90 = .ok (.iload_n 3, 1) := by decide +kernel
theorem d_Cx_feedStep_91 : decode b_Cx_feedStep 91 = .ok (.dup2, 1) := by decide +kernel
theorem d_Cx_feedStep_92 : decode b_Cx_feedStep 92 = .ok (.iaload, 1) := by decide +kernel
theorem d_Cx_feedStep_93 : decode b_Cx_feedStep 93 = .ok (.aload_n 0, 1) := by decide +kernel
theorem d_Cx_feedStep_94 : decode b_Cx_feedStep 94 = .ok (.invokevirtual 97, 3) := by decide +kernel
theorem d_Cx_feedStep_97 : decode b_Cx_feedStep 97 = .ok (.ixor, 1) := by decide +kernel
theorem d_Cx_feedStep_98 : decode b_Cx_feedStep 98 = .ok (.iastore, 1) := by decide +kernel
theorem d_Cx_feedStep_99 : decode b_Cx_feedStep 99 = .ok (.goto 13, 3) := by decide +kernel
theorem d_Cx_feedStep_102 : decode b_Cx_feedStep 102 = .ok (.aload_n 2, 1) := by decide +kernel
theorem d_Cx_feedStep_103 : decode b_Cx_feedStep 103 = .ok (.iload_n 3, 1) := by decide +kernel
theorem d_Cx_feedStep_104 : decode b_Cx_feedStep 104 = .ok (.dup2, 1) := by decide +kernel
theorem d_Cx_feedStep_105 : decode b_Cx_feedStep 105 = .ok (.iaload, 1) := by decide +kernel
theorem d_Cx_feedStep_106 : decode b_Cx_feedStep 106 = .ok (.aload_n 0, 1) := by decide +kernel
theorem d_Cx_feedStep_107 : decode b_Cx_feedStep 107 = .ok (.invokevirtual 101, 3) := by decide +kernel
theorem d_Cx_feedStep_110 : decode b_Cx_feedStep 110 = .ok (.ixor, 1) := by decide +kernel
theorem d_Cx_feedStep_111 : decode b_Cx_feedStep 111 = .ok (.iastore, 1) := by decide +kernel
theorem d_Cx_feedStep_112 : decode b_Cx_feedStep 112 = .ok (.return_, 1) := by decide +kernel
theorem d_Ru_readBlock_0 : decode b_Ru_readBlock 0 = .ok (.lconst 0, 1) := by decide +kernel
theorem d_Ru_readBlock_1 : decode b_Ru_readBlock 1 = .ok (.lstore_n 2, 1) := by decide +kernel
theorem d_Ru_readBlock_2 : decode b_Ru_readBlock 2 = .ok (.iconst 0, 1) := by decide +kernel
theorem d_Ru_readBlock_3 : decode b_Ru_readBlock 3 = .ok (.istore 4, 2) := by decide +kernel
theorem d_Ru_readBlock_5 : decode b_Ru_readBlock 5 = .ok (.iload 4, 2) := by decide +kernel
theorem d_Ru_readBlock_7 : decode b_Ru_readBlock 7 = .ok (.bipush 8, 2) := by decide +kernel
theorem d_Ru_readBlock_9 : decode b_Ru_readBlock 9 = .ok (.if_icmp .ge 22, 3) := by decide +kernel
theorem d_Ru_readBlock_12 : decode b_Ru_readBlock 12 = .ok (.lload_n 2, 1) := by decide +kernel
theorem d_Ru_readBlock_13 : decode b_Ru_readBlock 13 = .ok (.bipush 8, 2) := by decide +kernel
theorem d_Ru_readBlock_15 : decode b_Ru_readBlock 15 = .ok (.lshl, 1) := by decide +kernel
theorem d_Ru_readBlock_16 : decode b_Ru_readBlock 16 = .ok (.aload_n 0, 1) := by decide +kernel
theorem d_Ru_readBlock_17 : decode b_Ru_readBlock 17 = .ok (.iload_n 1, 1) := by decide +kernel
theorem d_Ru_readBlock_18 : decode b_Ru_readBlock 18 = .ok (.iload 4, 2) := by decide +kernel
theorem d_Ru_readBlock_20 : decode b_Ru_readBlock 20 = .ok (.iadd, 1) := by decide +kernel
theorem d_Ru_readBlock_21 : decode b_Ru_readBlock 21 = .ok (.iaload, 1) := by decide +kernel
theorem d_Ru_readBlock_22 : decode b_Ru_readBlock 22 = .ok (.i2l, 1) := by decide +kernel
theorem d_Ru_readBlock_23 : decode b_Ru_readBlock 23 = .ok (.lor, 1) := by decide +kernel
theorem d_Ru_readBlock_24 : decode b_Ru_readBlock 24 = .ok (.lstore_n 2, 1) := by decide +kernel
theorem d_Ru_readBlock_25 : decode b_Ru_readBlock 25 = .ok (.iinc 4 1, 3) := by decide +kernel
theorem d_Ru_readBlock_28 : decode b_Ru_readBlock 28 = .ok (.goto (-23), 3) := by decide +kernel
theorem d_Ru_readBlock_31 : decode b_Ru_readBlock 31 = .ok (.lload_n 2, 1) := by decide +kernel
theorem d_Ru_readBlock_32 : decode b_Ru_readBlock 32 = .ok (.lreturn, 1) := by decide +kernel
theorem d_Ru_writeBlock_0 : decode b_Ru_writeBlock 0 = .ok (.iconst 0, 1) := by decide +kernel
theorem d_Ru_writeBlock_1 : decode b_Ru_writeBlock 1 = .ok (.istore 4, 2) := by decide +kernel
theorem d_Ru_writeBlock_3 : decode b_Ru_writeBlock 3 = .ok (.iload 4, 2) := by decide +kernel
theorem d_Ru_writeBlock_5 : decode b_Ru_writeBlock 5 = .ok (.bipush 8, 2) := by decide +kernel
theorem d_Ru_writeBlock_7 : decode b_Ru_writeBlock 7 = .ok (.if_icmp .ge 21, 3) := by decide +kernel
theorem d_Ru_writeBlock_10 : decode b_Ru_writeBlock 10 = .ok (.aload_n 0, 1) := by decide +kernel
theorem d_Ru_writeBlock_11 : decode b_Ru_writeBlock 11 = .ok (.iload_n 1, 1) := by decide +kernel
theorem d_Ru_writeBlock_12 : decode b_Ru_writeBlock 12 = .ok (.iload 4, 2) := by decide +kernel
theorem d_Ru_writeBlock_14 : decode b_Ru_writeBlock 14 = .ok (.iadd, 1) := by decide +kernel
theorem d_Ru_writeBlock_15 : decode b_Ru_writeBlock 15 = .ok (.lload_n 2, 1) := by decide +kernel
theorem d_Ru_writeBlock_16 : decode b_Ru_writeBlock 16 = .ok (.iload 4, 2) := by decide +kernel
theorem d_Ru_writeBlock_18 : decode b_Ru_writeBlock 18 = .ok (.invokestatic 135, 3) := by decide +kernel
theorem d_Ru_writeBlock_21 : decode b_Ru_writeBlock 21 = .ok (.iastore, 1) := by decide +kernel
theorem d_Ru_writeBlock_22 : decode b_Ru_writeBlock 22 = .ok (.iinc 4 1, 3) := by decide +kernel
theorem d_Ru_writeBlock_25 : decode b_Ru_writeBlock 25 = .ok (.goto (-22), 3) := by decide +kernel
theorem d_Ru_writeBlock_28 : decode b_Ru_writeBlock 28 = .ok (.return_, 1) := by decide +kernel
theorem d_Ru_byteOf_0 : decode b_Ru_byteOf 0 = .ok (.lload_n 0, 1) := by decide +kernel
theorem d_Ru_byteOf_1 : decode b_Ru_byteOf 1 = .ok (.bipush 56, 2) := by decide +kernel
theorem d_Ru_byteOf_3 : decode b_Ru_byteOf 3 = .ok (.bipush 8, 2) := by decide +kernel
theorem d_Ru_byteOf_5 : decode b_Ru_byteOf 5 = .ok (.iload_n 2, 1) := by decide +kernel
theorem d_Ru_byteOf_6 : decode b_Ru_byteOf 6 = .ok (.imul, 1) := by decide +kernel
theorem d_Ru_byteOf_7 : decode b_Ru_byteOf 7 = .ok (.isub, 1) := by decide +kernel
theorem d_Ru_byteOf_8 : decode b_Ru_byteOf 8 = .ok (.lushr, 1) := by decide +kernel
theorem d_Ru_byteOf_9 : decode b_Ru_byteOf 9 = .ok (.l2i, 1) := by decide +kernel
theorem d_Ru_byteOf_10 : decode b_Ru_byteOf 10 = .ok (.sipush 255, 3) := by decide +kernel
theorem d_Ru_byteOf_13 : decode b_Ru_byteOf 13 = .ok (.iand, 1) := by decide +kernel
theorem d_Ru_byteOf_14 : decode b_Ru_byteOf 14 = .ok (.ireturn, 1) := by decide +kernel
theorem d_Cx_chained_0 : decode b_Cx_chained 0 = .ok (.iload_n 1, 1) := by decide +kernel
theorem d_Cx_chained_1 : decode b_Cx_chained 1 = .ok (.ifCond .eq 26, 3) := by decide +kernel
theorem d_Cx_chained_4 : decode b_Cx_chained 4 = .ok (.aload_n 0, 1) := by decide +kernel
theorem d_Cx_chained_5 : decode b_Cx_chained 5 = .ok (.getfield 46, 3) := by decide +kernel
theorem d_Cx_chained_8 : decode b_Cx_chained 8 = .ok (.lload_n 2, 1) := by decide +kernel
theorem d_Cx_chained_9 : decode b_Cx_chained 9 = .ok (.invokevirtual 104, 3) := by decide +kernel
theorem d_Cx_chained_12 : decode b_Cx_chained 12 = .ok (.aload_n 0, 1) := by decide +kernel
theorem d_Cx_chained_13 : decode b_Cx_chained 13 = .ok (.getfield 58, 3) := by decide +kernel
theorem d_Cx_chained_16 : decode b_Cx_chained 16 = .ok (.lxor, 1) := by decide +kernel
theorem d_Cx_chained_17 : decode b_Cx_chained 17 = .ok (.lstore 4, 2) := by decide +kernel
theorem d_Cx_chained_19 : decode b_Cx_chained 19 = .ok (.aload_n 0, 1) := by decide +kernel
theorem d_Cx_chained_20 : decode b_Cx_chained 20 = .ok (.lload_n 2, 1) := by decide +kernel
theorem d_Cx_chained_21 : decode b_Cx_chained 21 = .ok (.putfield 58, 3) := by decide +kernel
theorem d_Cx_chained_24 : decode b_Cx_chained 24 = .ok (.lload 4, 2) := by decide +kernel
theorem d_Cx_chained_26 : decode b_Cx_chained 26 = .ok (.lreturn, 1) := by decide +kernel
theorem d_Cx_chained_27 : decode b_Cx_chained 27 = .ok (.aload_n 0, 1) := by decide +kernel
theorem d_Cx_chained_28 : decode b_Cx_chained 28 = .ok (.aload_n 0, 1) := by decide +kernel
theorem d_Cx_chained_29 : decode b_Cx_chained 29 = .ok (.getfield 46, 3) := by decide +kernel
theorem d_Cx_chained_32 : decode b_Cx_chained 32 = .ok (.lload_n 2, 1) := by decide +kernel
theorem d_Cx_chained_33 : decode b_Cx_chained 33 = .ok (.aload_n 0, 1) := by decide +kernel
theorem d_Cx_chained_34 : decode b_Cx_chained 34 = .ok (.getfield 58, 3) := by decide +kernel
theorem d_Cx_chained_37 : decode b_Cx_chained 37 = .ok (.lxor, 1) := by decide +kernel
theorem d_Cx_chained_38 : decode b_Cx_chained 38 = .ok (.invokevirtual 108, 3) := by decide +kernel
theorem d_Cx_chained_41 : decode b_Cx_chained 41 = .ok (.putfield 58, 3) := by decide +kernel
theorem d_Cx_chained_44 : decode b_Cx_chained 44 = .ok (.aload_n 0, 1) := by decide +kernel
theorem d_Cx_chained_45 : decode b_Cx_chained 45 = .ok (.getfield 58, 3) := by decide +kernel
theorem d_Cx_chained_48 : decode b_Cx_chained 48 = .ok (.lreturn, 1) := by decide +kernel
theorem d_Cx_fedBehind_0 : decode b_Cx_fedBehind 0 = .ok (.iload_n 2, 1) := by decide +kernel
theorem d_Cx_fedBehind_1 : decode b_Cx_fedBehind 1 = .ok (.aload_n 0, 1) := by decide +kernel
theorem d_Cx_fedBehind_2 : decode b_Cx_fedBehind 2 = .ok (.getfield 46, 3) := by decide +kernel
theorem d_Cx_fedBehind_5 : decode b_Cx_fedBehind 5 = .ok (.aload_n 0, 1) := by decide +kernel
theorem d_Cx_fedBehind_6 : decode b_Cx_fedBehind 6 = .ok (.getfield 58, 3) := by decide +kernel
theorem d_Cx_fedBehind_9 : decode b_Cx_fedBehind 9 = .ok (.invokevirtual 108, 3) := by decide +kernel
theorem d_Cx_fedBehind_12 : decode b_Cx_fedBehind 12 = .ok (.iconst 0, 1) := by decide +kernel
theorem d_Cx_fedBehind_13 : decode b_Cx_fedBehind 13 = .ok (.invokestatic 111, 3) := by decide +kernel
theorem d_Cx_fedBehind_16 : decode b_Cx_fedBehind 16 = .ok (.ixor, 1) := by decide +kernel
theorem d_Cx_fedBehind_17 : decode b_Cx_fedBehind 17 = .ok (.istore_n 3, 1) := by decide +kernel
theorem d_Cx_fedBehind_18 : decode b_Cx_fedBehind 18 = .ok (.aload_n 0, 1) := by decide +kernel
theorem d_Cx_fedBehind_19 : decode b_Cx_fedBehind 19 = .ok (.aload_n 0, 1) := by decide +kernel
theorem d_Cx_fedBehind_20 : decode b_Cx_fedBehind 20 = .ok (.getfield 58, 3) := by decide +kernel
theorem d_Cx_fedBehind_23 : decode b_Cx_fedBehind 23 = .ok (.bipush 8, 2) := by decide +kernel
theorem d_Cx_fedBehind_25 : decode b_Cx_fedBehind 25 = .ok (.lshl, 1) := by decide +kernel
theorem d_Cx_fedBehind_26 : decode b_Cx_fedBehind 26 = .ok (.iload_n 1, 1) := by decide +kernel
theorem d_Cx_fedBehind_27 : decode b_Cx_fedBehind 27 = .ok (.ifCond .eq 7, 3) := by decide +kernel
theorem d_Cx_fedBehind_30 : decode b_Cx_fedBehind 30 = .ok (.iload_n 2, 1) := by decide +kernel
theorem d_Cx_fedBehind_31 : decode b_Cx_fedBehind 31 = .ok (.goto 4, 3) := by decide +kernel
theorem d_Cx_fedBehind_34 : decode b_Cx_fedBehind 34 = .ok (.iload_n 3, 1) := by decide +kernel
theorem d_Cx_fedBehind_35 : decode b_Cx_fedBehind 35 = .ok (.i2l, 1) := by decide +kernel
theorem d_Cx_fedBehind_36 : decode b_Cx_fedBehind 36 = .ok (.lor, 1) := by decide +kernel
theorem d_Cx_fedBehind_37 : decode b_Cx_fedBehind 37 = .ok (.putfield 58, 3) := by decide +kernel
theorem d_Cx_fedBehind_40 : decode b_Cx_fedBehind 40 = .ok (.iload_n 3, 1) := by decide +kernel
theorem d_Cx_fedBehind_41 : decode b_Cx_fedBehind 41 = .ok (.ireturn, 1) := by decide +kernel
theorem d_Cx_nextOfOwnStream_0 : decode b_Cx_nextOfOwnStream 0 = .ok (.aload_n 0, 1) := by decide +kernel
theorem d_Cx_nextOfOwnStream_1 : decode b_Cx_nextOfOwnStream 1 = .ok (.getfield 61, 3) := by decide +kernel
theorem d_Cx_nextOfOwnStream_4 : decode b_Cx_nextOfOwnStream 4 = .ok (.ifCond .ne 18, 3) := by decide +kernel
theorem d_Cx_nextOfOwnStream_7 : decode b_Cx_nextOfOwnStream 7 = .ok (.aload_n 0, 1) := by decide +kernel
theorem d_Cx_nextOfOwnStream_8 : decode b_Cx_nextOfOwnStream 8 = .ok (.aload_n 0, 1) := by decide +kernel
theorem d_Cx_nextOfOwnStream_9 : decode b_Cx_nextOfOwnStream 9 = .ok (.getfield 46, 3) := by decide +kernel
theorem d_Cx_nextOfOwnStream_12 : decode b_Cx_nextOfOwnStream 12 = .ok (.aload_n 0, 1) := by decide +kernel
theorem d_Cx_nextOfOwnStream_13 : decode b_Cx_nextOfOwnStream 13 = .ok (.getfield 58, 3) := by decide +kernel
theorem d_Cx_nextOfOwnStream_16 : decode b_Cx_nextOfOwnStream 16 = .ok (.invokevirtual 108, 3) := by decide +kernel
theorem d_Cx_nextOfOwnStream_19 : decode b_Cx_nextOfOwnStream 19 = .ok (.putfield 58, 3) := by decide +kernel
theorem d_Cx_nextOfOwnStream_22 : decode b_Cx_nextOfOwnStream 22 = .ok (.aload_n 0, 1) := by decide +kernel
theorem d_Cx_nextOfOwnStream_23 : decode b_Cx_nextOfOwnStream 23 = .ok (.getfield 58, 3) := by decide +kernel
theorem d_Cx_nextOfOwnStream_26 : decode b_Cx_nextOfOwnStream 26 = .ok (.aload_n 0, 1) := by decide +kernel
theorem d_Cx_nextOfOwnStream_27 : decode b_Cx_nextOfOwnStream 27 = .ok (.getfield 61, 3) := by decide +kernel
theorem d_Cx_nextOfOwnStream_30 : decode b_Cx_nextOfOwnStream 30 = .ok (.invokestatic 111, 3) := by decide +kernel
theorem d_Cx_nextOfOwnStream_33 : decode b_Cx_nextOfOwnStream 33 = .ok (.istore_n 1, 1) := by decide +kernel
theorem d_Cx_nextOfOwnStream_34 : decode b_Cx_nextOfOwnStream 34 = .ok (.aload_n 0, 1) := by decide +kernel
theorem d_Cx_nextOfOwnStream_35 : decode b_Cx_nextOfOwnStream 35 = .ok (.aload_n 0, 1) := by decide +kernel
theorem d_Cx_nextOfOwnStream_36 : decode b_Cx_nextOfOwnStream 36 = .ok (.getfield 61, 3) := by decide +kernel
theorem d_Cx_nextOfOwnStream_39 : decode b_Cx_nextOfOwnStream 39 = .ok (.iconst 1, 1) := by decide +kernel
theorem d_Cx_nextOfOwnStream_40 : decode b_Cx_nextOfOwnStream 40 = .ok (.iadd, 1) := by decide +kernel
theorem d_Cx_nextOfOwnStream_41 : decode b_Cx_nextOfOwnStream 41 = .ok (.bipush 8, 2) := by decide +kernel
theorem d_Cx_nextOfOwnStream_43 : decode b_Cx_nextOfOwnStream 43 = .ok (.irem, 1) := by decide +kernel
theorem d_Cx_nextOfOwnStream_44 : decode b_Cx_nextOfOwnStream 44 = .ok (.putfield 61, 3) := by decide +kernel
theorem d_Cx_nextOfOwnStream_47 : decode b_Cx_nextOfOwnStream 47 = .ok (.iload_n 1, 1) := by decide +kernel
theorem d_Cx_nextOfOwnStream_48 : decode b_Cx_nextOfOwnStream 48 = .ok (.ireturn, 1) := by decide +kernel
theorem d_Cx_nextOfCountedStream_0 : decode b_Cx_nextOfCountedStream 0 = .ok (.aload_n 0, 1) := by decide +kernel
theorem d_Cx_nextOfCountedStream_1 : decode b_Cx_nextOfCountedStream 1 = .ok (.getfield 61, 3) := by decide +kernel
theorem d_Cx_nextOfCountedStream_4 : decode b_Cx_nextOfCountedStream 4 = .ok (.ifCond .ne 18, 3) := by decide +kernel
theorem d_Cx_nextOfCountedStream_7 : decode b_Cx_nextOfCountedStream 7 = .ok (.aload_n 0, 1) := by decide +kernel
theorem d_Cx_nextOfCountedStream_8 : decode b_Cx_nextOfCountedStream 8 = .ok (.aload_n 0, 1) := by decide +kernel
theorem d_Cx_nextOfCountedStream_9 : decode b_Cx_nextOfCountedStream 9 = .ok (.getfield 46, 3) := by decide +kernel
theorem d_Cx_nextOfCountedStream_12 : decode b_Cx_nextOfCountedStream 12 = .ok (.aload_n 0, 1) := by decide +kernel
theorem d_Cx_nextOfCountedStream_13 : decode b_Cx_nextOfCountedStream 13 = .ok (.getfield 58, 3) := by decide +kernel
theorem d_Cx_nextOfCountedStream_16 : decode b_Cx_nextOfCountedStream 16 = .ok (.invokevirtual 108, 3) := by decide +kernel
theorem d_Cx_nextOfCountedStream_19 : decode b_Cx_nextOfCountedStream 19 = .ok (.putfield 115, 3) := by decide +kernel
theorem d_Cx_nextOfCountedStream_22 : decode b_Cx_nextOfCountedStream 22 = .ok (.aload_n 0, 1) := by decide +kernel
theorem d_Cx_nextOfCountedStream_23 : decode b_Cx_nextOfCountedStream 23 = .ok (.getfield 115, 3) := by decide +kernel
theorem d_Cx_nextOfCountedStream_26 : decode b_Cx_nextOfCountedStream 26 = .ok (.aload_n 0, 1) := by decide +kernel
theorem d_Cx_nextOfCountedStream_27 : decode b_Cx_nextOfCountedStream 27 = .ok (.getfield 61, 3) := by decide +kernel
theorem d_Cx_nextOfCountedStream_30 : decode b_Cx_nextOfCountedStream 30 = .ok (.invokestatic 111, 3) := by decide +kernel
theorem d_Cx_nextOfCountedStream_33 : decode b_Cx_nextOfCountedStream 33 = .ok (.istore_n 1, 1) := by decide +kernel
theorem d_Cx_nextOfCountedStream_34 : decode b_Cx_nextOfCountedStream 34 = .ok (.aload_n 0, 1) := by decide +kernel
theorem d_Cx_nextOfCountedStream_35 : decode b_Cx_nextOfCountedStream 35 = .ok (.aload_n 0, 1) := by decide +kernel
theorem d_Cx_nextOfCountedStream_36 : decode b_Cx_nextOfCountedStream 36 = .ok (.getfield 61, 3) := by decide +kernel
theorem d_Cx_nextOfCountedStream_39 : decode b_Cx_nextOfCountedStream 39 = .ok (.iconst 1, 1) := by decide +kernel
theorem d_Cx_nextOfCountedStream_40 : decode b_Cx_nextOfCountedStream 40 = .ok (.iadd, 1) := by decide +kernel
theorem d_Cx_nextOfCountedStream_41 : decode b_Cx_nextOfCountedStream 41 = .ok (.bipush 8, 2) := by decide +kernel
theorem d_Cx_nextOfCountedStream_43 : decode b_Cx_nextOfCountedStream 43 = .ok (.irem, 1) := by decide +kernel
theorem d_Cx_nextOfCountedStream_44 : decode b_Cx_nextOfCountedStream 44 = .ok (.putfield 61, 3) := by decide +kernel
theorem d_Cx_nextOfCountedStream_47 : decode b_Cx_nextOfCountedStream 47 = .ok (.aload_n 0, 1) := by decide +kernel
theorem d_Cx_nextOfCountedStream_48 : decode b_Cx_nextOfCountedStream 48 = .ok (.getfield 61, 3) := by decide +kernel
theorem d_Cx_nextOfCountedStream_51 : decode b_Cx_nextOfCountedStream 51 = .ok (.ifCond .ne 13, 3) := by decide +kernel
theorem d_Cx_nextOfCountedStream_54 : decode b_Cx_nextOfCountedStream 54 = .ok (.aload_n 0, 1) := by decide +kernel
theorem d_Cx_nextOfCountedStream_55 : decode b_Cx_nextOfCountedStream 55 = .ok (.dup, 1) := by decide +kernel
theorem d_Cx_nextOfCountedStream_56 : decode b_Cx_nextOfCountedStream 56 = .ok (.getfield 58, 3) := by decide +kernel
theorem d_Cx_nextOfCountedStream_59 : decode b_Cx_nextOfCountedStream 59 = .ok (.lconst 1, 1) := by decide +kernel
theorem d_Cx_nextOfCountedStream_60 : decode b_Cx_nextOfCountedStream 60 = .ok (.ladd, 1) := by decide +kernel
theorem d_Cx_nextOfCountedStream_61 : decode b_Cx_nextOfCountedStream 61 = .ok (.putfield 58, 3) := by decide +kernel
theorem d_Cx_nextOfCountedStream_64 : decode b_Cx_nextOfCountedStream 64 = .ok (.iload_n 1, 1) := by decide +kernel
theorem d_Cx_nextOfCountedStream_65 : decode b_Cx_nextOfCountedStream 65 = .ok (.ireturn, 1) := by decide +kernel
theorem d_La_seek_0 : decode b_La_seek 0 = .ok (.aload_n 0, 1) := by decide +kernel
theorem d_La_seek_1 : decode b_La_seek 1 = .ok (.iload_n 1, 1) := by decide +kernel
theorem d_La_seek_2 : decode b_La_seek 2 = .ok (.lload_n 2, 1) := by decide +kernel
theorem d_La_seek_3 : decode b_La_seek 3 = .ok (.invokevirtual 53, 3) := by decide +kernel
theorem d_La_seek_6 : decode b_La_seek 6 = .ok (.goto 11, 3) := by decide +kernel
theorem d_La_seek_9 : decode b_La_seek 9 = .ok (.astore 4, 2) := by decide +kernel
theorem d_La_seek_11 : decode b_La_seek 11 = .ok (.iconst 1, 1) := by decide +kernel
theorem d_La_seek_12 : decode b_La_seek 12 = .ok (.ireturn, 1) := by decide +kernel
theorem d_La_seek_13 : decode b_La_seek 13 = .ok (.astore 4, 2) := by decide +kernel
theorem d_La_seek_15 : decode b_La_seek 15 = .ok (.iconst 2, 1) := by decide +kernel
theorem d_La_seek_16 : decode b_La_seek 16 = .ok (.ireturn, 1) := by decide +kernel
theorem d_La_seek_17 : decode b_La_seek 17 = .ok (.iconst 0, 1) := by decide +kernel
theorem d_La_seek_18 : decode b_La_seek 18 = .ok (.ireturn, 1) := by decide +kernel
theorem d_Ru_seek_0 : decode b_Ru_seek 0 = .ok (.aload_n 0, 1) := by decide +kernel
theorem d_Ru_seek_1 : decode b_Ru_seek 1 = .ok (.iload_n 1, 1) := by decide +kernel
theorem d_Ru_seek_2 : decode b_Ru_seek 2 = .ok (.invokevirtual 20, 3) := by decide +kernel
theorem d_Ru_seek_5 : decode b_Ru_seek 5 = .ok (.astore 4, 2) := by decide +kernel
theorem d_Ru_seek_7 : decode b_Ru_seek 7 = .ok (.aload 4, 2) := by decide +kernel
theorem d_Ru_seek_9 : decode b_Ru_seek 9 = .ok (.iconst 4, 1) := by decide +kernel
theorem d_Ru_seek_10 : decode b_Ru_seek 10 = .ok (.invokestatic 96, 3) := by decide +kernel
theorem d_Ru_seek_13 : decode b_Ru_seek 13 = .ok (.aload 4, 2) := by decide +kernel
theorem d_Ru_seek_15 : decode b_Ru_seek 15 = .ok (.lload_n 2, 1) := by decide +kernel
theorem d_Ru_seek_16 : decode b_Ru_seek 16 = .ok (.invokevirtual 100, 3) := by decide +kernel
theorem d_Ru_seek_19 : decode b_Ru_seek 19 = .ok (.return_, 1) := by decide +kernel
theorem d_Ru_requireMode_0 : decode b_Ru_requireMode 0 = .ok (.aload_n 0, 1) := by decide +kernel
theorem d_Ru_requireMode_1 : decode b_Ru_requireMode 1 = .ok (.getfield 31, 3) := by decide +kernel
theorem d_Ru_requireMode_4 : decode b_Ru_requireMode 4 = .ok (.iconst 3, 1) := by decide +kernel
theorem d_Ru_requireMode_5 : decode b_Ru_requireMode 5 = .ok (.if_icmp .ne 11, 3) := by decide +kernel
theorem d_Ru_requireMode_8 : decode b_Ru_requireMode 8 = .ok (.aload_n 0, 1) := by decide +kernel
theorem d_Ru_requireMode_9 : decode b_Ru_requireMode 9 = .ok (.getfield 81, 3) := by decide +kernel
theorem d_Ru_requireMode_12 : decode b_Ru_requireMode 12 = .ok (.iload_n 1, 1) := by decide +kernel
theorem d_Ru_requireMode_13 : decode b_Ru_requireMode 13 = .ok (.if_icmp .eq 13, 3) := by decide +kernel
theorem d_Ru_requireMode_16 : decode b_Ru_requireMode 16 = .ok (.new 35, 3) := by decide +kernel
theorem d_Ru_requireMode_19 : decode b_Ru_requireMode 19 = .ok (.dup, 1) := by decide +kernel
theorem d_Ru_requireMode_20 : decode b_Ru_requireMode 20 = .ok (.ldc 119, 2) := by decide +kernel
theorem d_Ru_requireMode_22 : decode b_Ru_requireMode 22 = .ok (.invokespecial 39, 3) := by decide +kernel
theorem d_Ru_requireMode_25 : decode b_Ru_requireMode 25 = .ok (.athrow, 1) := by decide +kernel
theorem d_Ru_requireMode_26 : decode b_Ru_requireMode 26 = .ok (.return_, 1) := by decide +kernel
theorem d_Cx_goToBlock_0 : decode b_Cx_goToBlock 0 = .ok (.aload_n 0, 1) := by decide +kernel
theorem d_Cx_goToBlock_1 : decode b_Cx_goToBlock 1 = .ok (.aload_n 0, 1) := by decide +kernel
theorem d_Cx_goToBlock_2 : decode b_Cx_goToBlock 2 = .ok (.getfield 54, 3) := by decide +kernel
theorem d_Cx_goToBlock_5 : decode b_Cx_goToBlock 5 = .ok (.lload_n 1, 1) := by decide +kernel
theorem d_Cx_goToBlock_6 : decode b_Cx_goToBlock 6 = .ok (.ladd, 1) := by decide +kernel
theorem d_Cx_goToBlock_7 : decode b_Cx_goToBlock 7 = .ok (.putfield 58, 3) := by decide +kernel
theorem d_Cx_goToBlock_10 : decode b_Cx_goToBlock 10 = .ok (.aload_n 0, 1) := by decide +kernel
theorem d_Cx_goToBlock_11 : decode b_Cx_goToBlock 11 = .ok (.iconst 0, 1) := by decide +kernel
theorem d_Cx_goToBlock_12 : decode b_Cx_goToBlock 12 = .ok (.putfield 61, 3) := by decide +kernel
theorem d_Cx_goToBlock_15 : decode b_Cx_goToBlock 15 = .ok (.return_, 1) := by decide +kernel
theorem d_La_take_0 : decode b_La_take 0 = .ok (.aload 4, 2) := by decide +kernel
theorem d_La_take_2 : decode b_La_take 2 = .ok (.iconst 0, 1) := by decide +kernel
theorem d_La_take_3 : decode b_La_take 3 = .ok (.aload_n 0, 1) := by decide +kernel
theorem d_La_take_4 : decode b_La_take 4 = .ok (.iload_n 1, 1) := by decide +kernel
theorem d_La_take_5 : decode b_La_take 5 = .ok (.iload_n 2, 1) := by decide +kernel
theorem d_La_take_6 : decode b_La_take 6 = .ok (.iload_n 3, 1) := by decide +kernel
theorem d_La_take_7 : decode b_La_take 7 = .ok (.invokevirtual 57, 3) := by decide +kernel
theorem d_La_take_10 : decode b_La_take 10 = .ok (.i2l, 1) := by decide +kernel
theorem d_La_take_11 : decode b_La_take 11 = .ok (.lastore, 1) := by decide +kernel
theorem d_La_take_12 : decode b_La_take 12 = .ok (.goto 11, 3) := by decide +kernel
theorem d_La_take_15 : decode b_La_take 15 = .ok (.astore 5, 2) := by decide +kernel
theorem d_La_take_17 : decode b_La_take 17 = .ok (.iconst 1, 1) := by decide +kernel
theorem d_La_take_18 : decode b_La_take 18 = .ok (.ireturn, 1) := by decide +kernel
theorem d_La_take_19 : decode b_La_take 19 = .ok (.astore 5, 2) := by decide +kernel
theorem d_La_take_21 : decode b_La_take 21 = .ok (.iconst 2, 1) := by decide +kernel
theorem d_La_take_22 : decode b_La_take 22 = .ok (.ireturn, 1) := by decide +kernel
theorem d_La_take_23 : decode b_La_take 23 = .ok (.iconst 0, 1) := by decide +kernel
theorem d_La_take_24 : decode b_La_take 24 = .ok (.ireturn, 1) := by decide +kernel
theorem d_Ru_take_0 : decode b_Ru_take 0 = .ok (.aload_n 0, 1) := by decide +kernel
theorem d_Ru_take_1 : decode b_Ru_take 1 = .ok (.iload_n 1, 1) := by decide +kernel
theorem d_Ru_take_2 : decode b_Ru_take 2 = .ok (.invokevirtual 20, 3) := by decide +kernel
theorem d_Ru_take_5 : decode b_Ru_take 5 = .ok (.astore 4, 2) := by decide +kernel
theorem d_Ru_take_7 : decode b_Ru_take 7 = .ok (.iload_n 2, 1) := by decide +kernel
theorem d_Ru_take_8 : decode b_Ru_take 8 = .ok (.iload_n 3, 1) := by decide +kernel
theorem d_Ru_take_9 : decode b_Ru_take 9 = .ok (.invokestatic 77, 3) := by decide +kernel
theorem d_Ru_take_12 : decode b_Ru_take 12 = .ok (.aload 4, 2) := by decide +kernel
theorem d_Ru_take_14 : decode b_Ru_take 14 = .ok (.iconst 5, 1) := by decide +kernel
theorem d_Ru_take_15 : decode b_Ru_take 15 = .ok (.invokestatic 96, 3) := by decide +kernel
theorem d_Ru_take_18 : decode b_Ru_take 18 = .ok (.aload 4, 2) := by decide +kernel
theorem d_Ru_take_20 : decode b_Ru_take 20 = .ok (.aload_n 0, 1) := by decide +kernel
theorem d_Ru_take_21 : decode b_Ru_take 21 = .ok (.getfield 15, 3) := by decide +kernel
theorem d_Ru_take_24 : decode b_Ru_take 24 = .ok (.iload_n 2, 1) := by decide +kernel
theorem d_Ru_take_25 : decode b_Ru_take 25 = .ok (.iload_n 3, 1) := by decide +kernel
theorem d_Ru_take_26 : decode b_Ru_take 26 = .ok (.invokevirtual 104, 3) := by decide +kernel
theorem d_Ru_take_29 : decode b_Ru_take 29 = .ok (.ireturn, 1) := by decide +kernel
theorem d_Cx_takeBytes_0 : decode b_Cx_takeBytes 0 = .ok (.aload_n 0, 1) := by decide +kernel
theorem d_Cx_takeBytes_1 : decode b_Cx_takeBytes 1 = .ok (.getfield 35, 3) := by decide +kernel
theorem d_Cx_takeBytes_4 : decode b_Cx_takeBytes 4 = .ok (.aload_n 0, 1) := by decide +kernel
theorem d_Cx_takeBytes_5 : decode b_Cx_takeBytes 5 = .ok (.getfield 46, 3) := by decide +kernel
theorem d_Cx_takeBytes_8 : decode b_Cx_takeBytes 8 = .ok (.aload_n 1, 1) := by decide +kernel
theorem d_Cx_takeBytes_9 : decode b_Cx_takeBytes 9 = .ok (.iload_n 2, 1) := by decide +kernel
theorem d_Cx_takeBytes_10 : decode b_Cx_takeBytes 10 = .ok (.iload_n 3, 1) := by decide +kernel
theorem d_Cx_takeBytes_11 : decode b_Cx_takeBytes 11 = .ok (.invokevirtual 118, 3) := by decide +kernel
theorem d_Cx_takeBytes_14 : decode b_Cx_takeBytes 14 = .ok (.ireturn, 1) := by decide +kernel
theorem d_Tk_add_0 : decode b_Tk_add 0 = .ok (.iconst 0, 1) := by decide +kernel
theorem d_Tk_add_1 : decode b_Tk_add 1 = .ok (.istore 5, 2) := by decide +kernel
theorem d_Tk_add_3 : decode b_Tk_add 3 = .ok (.iload 5, 2) := by decide +kernel
theorem d_Tk_add_5 : decode b_Tk_add 5 = .ok (.iload 4, 2) := by decide +kernel
theorem d_Tk_add_7 : decode b_Tk_add 7 = .ok (.if_icmp .ge 20, 3) := by decide +kernel
theorem d_Tk_add_10 : decode b_Tk_add 10 = .ok (.aload_n 0, 1) := by decide +kernel
theorem d_Tk_add_11 : decode b_Tk_add 11 = .ok (.aload_n 1, 1) := by decide +kernel
theorem d_Tk_add_12 : decode b_Tk_add 12 = .ok (.aload_n 2, 1) := by decide +kernel
theorem d_Tk_add_13 : decode b_Tk_add 13 = .ok (.iload_n 3, 1) := by decide +kernel
theorem d_Tk_add_14 : decode b_Tk_add 14 = .ok (.iload 5, 2) := by decide +kernel
theorem d_Tk_add_16 : decode b_Tk_add 16 = .ok (.iadd, 1) := by decide +kernel
theorem d_Tk_add_17 : decode b_Tk_add 17 = .ok (.iaload, 1) := by decide +kernel
theorem d_Tk_add_18 : decode b_Tk_add 18 = .ok (.invokevirtual 25, 3) := by decide +kernel
theorem d_Tk_add_21 : decode b_Tk_add 21 = .ok (.iinc 5 1, 3) := by decide +kernel
theorem d_Tk_add_24 : decode b_Tk_add 24 = .ok (.goto (-21), 3) := by decide +kernel
theorem d_Tk_add_27 : decode b_Tk_add 27 = .ok (.aload_n 0, 1) := by decide +kernel
theorem d_Tk_add_28 : decode b_Tk_add 28 = .ok (.dup, 1) := by decide +kernel
theorem d_Tk_add_29 : decode b_Tk_add 29 = .ok (.getfield 9, 3) := by decide +kernel
theorem d_Tk_add_32 : decode b_Tk_add 32 = .ok (.iload 4, 2) := by decide +kernel
theorem d_Tk_add_34 : decode b_Tk_add 34 = .ok (.iadd, 1) := by decide +kernel
