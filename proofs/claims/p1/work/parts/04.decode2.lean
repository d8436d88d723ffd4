theorem dX7_block_53 : decode cX7_block 53 = .ok (.getfield 35, 3) := by decide +kernel
theorem dX7_block_56 : decode cX7_block 56 = .ok (.iload_n 1, 1) := by decide +kernel
theorem dX7_block_57 : decode cX7_block 57 = .ok (.invokevirtual 109, 3) := by decide +kernel
theorem dX7_block_60 : decode cX7_block 60 = .ok (.ireturn, 1) := by decide +kernel
theorem dX7_count_0 : decode cX7_count 0 = .ok (.iload_n 1, 1) := by decide +kernel
theorem dX7_count_1 : decode cX7_count 1 = .ok (.tableswitch 99 0 6 #[43, 51, 59, 67, 75, 83, 91], 43) := by decide +kernel
theorem dX7_count_44 : decode cX7_count 44 = .ok (.aload_n 0, 1) := by decide +kernel
theorem dX7_count_45 : decode cX7_count 45 = .ok (.getfield 35, 3) := by decide +kernel
theorem dX7_count_48 : decode cX7_count 48 = .ok (.getfield 112, 3) := by decide +kernel
theorem dX7_count_51 : decode cX7_count 51 = .ok (.ireturn, 1) := by decide +kernel
theorem dX7_count_52 : decode cX7_count 52 = .ok (.aload_n 0, 1) := by decide +kernel
theorem dX7_count_53 : decode cX7_count 53 = .ok (.getfield 35, 3) := by decide +kernel
theorem dX7_count_56 : decode cX7_count 56 = .ok (.getfield 115, 3) := by decide +kernel
theorem dX7_count_59 : decode cX7_count 59 = .ok (.ireturn, 1) := by decide +kernel
theorem dX7_count_60 : decode cX7_count 60 = .ok (.aload_n 0, 1) := by decide +kernel
theorem dX7_count_61 : decode cX7_count 61 = .ok (.getfield 35, 3) := by decide +kernel
theorem dX7_count_64 : decode cX7_count 64 = .ok (.getfield 118, 3) := by decide +kernel
theorem dX7_count_67 : decode cX7_count 67 = .ok (.ireturn, 1) := by decide +kernel
theorem dX7_count_68 : decode cX7_count 68 = .ok (.aload_n 0, 1) := by decide +kernel
theorem dX7_count_69 : decode cX7_count 69 = .ok (.getfield 35, 3) := by decide +kernel
theorem dX7_count_72 : decode cX7_count 72 = .ok (.getfield 121, 3) := by decide +kernel
theorem dX7_count_75 : decode cX7_count 75 = .ok (.ireturn, 1) := by decide +kernel
theorem dX7_count_76 : decode cX7_count 76 = .ok (.aload_n 0, 1) := by decide +kernel
theorem dX7_count_77 : decode cX7_count 77 = .ok (.getfield 35, 3) := by decide +kernel
theorem dX7_count_80 : decode cX7_count 80 = .ok (.getfield 124, 3) := by decide +kernel
theorem dX7_count_83 : decode cX7_count 83 = .ok (.ireturn, 1) := by decide +kernel
theorem dX7_count_84 : decode cX7_count 84 = .ok (.aload_n 0, 1) := by decide +kernel
theorem dX7_count_85 : decode cX7_count 85 = .ok (.getfield 35, 3) := by decide +kernel
theorem dX7_count_88 : decode cX7_count 88 = .ok (.getfield 127, 3) := by decide +kernel
theorem dX7_count_91 : decode cX7_count 91 = .ok (.ireturn, 1) := by decide +kernel
theorem dX7_count_92 : decode cX7_count 92 = .ok (.aload_n 0, 1) := by decide +kernel
theorem dX7_count_93 : decode cX7_count 93 = .ok (.getfield 35, 3) := by decide +kernel
theorem dX7_count_96 : decode cX7_count 96 = .ok (.getfield 130, 3) := by decide +kernel
theorem dX7_count_99 : decode cX7_count 99 = .ok (.ireturn, 1) := by decide +kernel
theorem dX7_count_100 : decode cX7_count 100 = .ok (.new 43, 3) := by decide +kernel
theorem dX7_count_103 : decode cX7_count 103 = .ok (.dup, 1) := by decide +kernel
theorem dX7_count_104 : decode cX7_count 104 = .ok (.ldc 133, 2) := by decide +kernel
theorem dX7_count_106 : decode cX7_count 106 = .ok (.invokespecial 47, 3) := by decide +kernel
theorem dX7_count_109 : decode cX7_count 109 = .ok (.athrow, 1) := by decide +kernel
theorem dX7_octet_0 : decode cX7_octet 0 = .ok (.iload_n 1, 1) := by decide +kernel
theorem dX7_octet_1 : decode cX7_octet 1 = .ok (.ifCond .lt 25, 3) := by decide +kernel
theorem dX7_octet_4 : decode cX7_octet 4 = .ok (.iload_n 1, 1) := by decide +kernel
theorem dX7_octet_5 : decode cX7_octet 5 = .ok (.aload_n 0, 1) := by decide +kernel
theorem dX7_octet_6 : decode cX7_octet 6 = .ok (.getfield 10, 3) := by decide +kernel
theorem dX7_octet_9 : decode cX7_octet 9 = .ok (.invokevirtual 50, 3) := by decide +kernel
theorem dX7_octet_12 : decode cX7_octet 12 = .ok (.if_icmp .ge 14, 3) := by decide +kernel
theorem dX7_octet_15 : decode cX7_octet 15 = .ok (.aload_n 0, 1) := by decide +kernel
theorem dX7_octet_16 : decode cX7_octet 16 = .ok (.getfield 10, 3) := by decide +kernel
theorem dX7_octet_19 : decode cX7_octet 19 = .ok (.iload_n 1, 1) := by decide +kernel
theorem dX7_octet_20 : decode cX7_octet 20 = .ok (.invokevirtual 135, 3) := by decide +kernel
theorem dX7_octet_23 : decode cX7_octet 23 = .ok (.goto 4, 3) := by decide +kernel
theorem dX7_octet_26 : decode cX7_octet 26 = .ok (.iconst (-1), 1) := by decide +kernel
theorem dX7_octet_27 : decode cX7_octet 27 = .ok (.ireturn, 1) := by decide +kernel
theorem dX7_checkBits_0 : decode cX7_checkBits 0 = .ok (.iload_n 0, 1) := by decide +kernel
theorem dX7_checkBits_1 : decode cX7_checkBits 1 = .ok (.iconst 1, 1) := by decide +kernel
theorem dX7_checkBits_2 : decode cX7_checkBits 2 = .ok (.if_icmp .lt 10, 3) := by decide +kernel
theorem dX7_checkBits_5 : decode cX7_checkBits 5 = .ok (.iload_n 0, 1) := by decide +kernel
theorem dX7_checkBits_6 : decode cX7_checkBits 6 = .ok (.sipush 255, 3) := by decide +kernel
theorem dX7_checkBits_9 : decode cX7_checkBits 9 = .ok (.if_icmp .le 13, 3) := by decide +kernel
theorem dX7_checkBits_12 : decode cX7_checkBits 12 = .ok (.new 43, 3) := by decide +kernel
theorem dX7_checkBits_15 : decode cX7_checkBits 15 = .ok (.dup, 1) := by decide +kernel
theorem dX7_checkBits_16 : decode cX7_checkBits 16 = .ok (.ldc 138, 2) := by decide +kernel
theorem dX7_checkBits_18 : decode cX7_checkBits 18 = .ok (.invokespecial 47, 3) := by decide +kernel
theorem dX7_checkBits_21 : decode cX7_checkBits 21 = .ok (.athrow, 1) := by decide +kernel
theorem dX7_checkBits_22 : decode cX7_checkBits 22 = .ok (.iload_n 1, 1) := by decide +kernel
theorem dX7_checkBits_23 : decode cX7_checkBits 23 = .ok (.ifCond .lt 9, 3) := by decide +kernel
theorem dX7_checkBits_26 : decode cX7_checkBits 26 = .ok (.iload_n 1, 1) := by decide +kernel
theorem dX7_checkBits_27 : decode cX7_checkBits 27 = .ok (.bipush 32, 2) := by decide +kernel
theorem dX7_checkBits_29 : decode cX7_checkBits 29 = .ok (.if_icmp .le 13, 3) := by decide +kernel
theorem dX7_checkBits_32 : decode cX7_checkBits 32 = .ok (.new 43, 3) := by decide +kernel
theorem dX7_checkBits_35 : decode cX7_checkBits 35 = .ok (.dup, 1) := by decide +kernel
theorem dX7_checkBits_36 : decode cX7_checkBits 36 = .ok (.ldc 140, 2) := by decide +kernel
theorem dX7_checkBits_38 : decode cX7_checkBits 38 = .ok (.invokespecial 47, 3) := by decide +kernel
theorem dX7_checkBits_41 : decode cX7_checkBits 41 = .ok (.athrow, 1) := by decide +kernel
theorem dX7_checkBits_42 : decode cX7_checkBits 42 = .ok (.return_, 1) := by decide +kernel
theorem dX7_splitOf_0 : decode cX7_splitOf 0 = .ok (.iconst 1, 1) := by decide +kernel
theorem dX7_splitOf_1 : decode cX7_splitOf 1 = .ok (.iload_n 0, 1) := by decide +kernel
theorem dX7_splitOf_2 : decode cX7_splitOf 2 = .ok (.iconst 1, 1) := by decide +kernel
theorem dX7_splitOf_3 : decode cX7_splitOf 3 = .ok (.isub, 1) := by decide +kernel
theorem dX7_splitOf_4 : decode cX7_splitOf 4 = .ok (.iload_n 1, 1) := by decide +kernel
theorem dX7_splitOf_5 : decode cX7_splitOf 5 = .ok (.imul, 1) := by decide +kernel
theorem dX7_splitOf_6 : decode cX7_splitOf 6 = .ok (.bipush 8, 2) := by decide +kernel
theorem dX7_splitOf_8 : decode cX7_splitOf 8 = .ok (.ishr, 1) := by decide +kernel
theorem dX7_splitOf_9 : decode cX7_splitOf 9 = .ok (.iadd, 1) := by decide +kernel
theorem dX7_splitOf_10 : decode cX7_splitOf 10 = .ok (.ireturn, 1) := by decide +kernel
theorem dX7_within_0 : decode cX7_within 0 = .ok (.lload_n 0, 1) := by decide +kernel
theorem dX7_within_1 : decode cX7_within 1 = .ok (.iload_n 2, 1) := by decide +kernel
theorem dX7_within_2 : decode cX7_within 2 = .ok (.i2l, 1) := by decide +kernel
theorem dX7_within_3 : decode cX7_within 3 = .ok (.lcmp, 1) := by decide +kernel
theorem dX7_within_4 : decode cX7_within 4 = .ok (.ifCond .ge 7, 3) := by decide +kernel
theorem dX7_within_7 : decode cX7_within 7 = .ok (.iload_n 2, 1) := by decide +kernel
theorem dX7_within_8 : decode cX7_within 8 = .ok (.goto 16, 3) := by decide +kernel
theorem dX7_within_11 : decode cX7_within 11 = .ok (.lload_n 0, 1) := by decide +kernel
theorem dX7_within_12 : decode cX7_within 12 = .ok (.iload_n 3, 1) := by decide +kernel
theorem dX7_within_13 : decode cX7_within 13 = .ok (.i2l, 1) := by decide +kernel
theorem dX7_within_14 : decode cX7_within 14 = .ok (.lcmp, 1) := by decide +kernel
theorem dX7_within_15 : decode cX7_within 15 = .ok (.ifCond .le 7, 3) := by decide +kernel
theorem dX7_within_18 : decode cX7_within 18 = .ok (.iload_n 3, 1) := by decide +kernel
theorem dX7_within_19 : decode cX7_within 19 = .ok (.goto 5, 3) := by decide +kernel
theorem dX7_within_22 : decode cX7_within 22 = .ok (.lload_n 0, 1) := by decide +kernel
theorem dX7_within_23 : decode cX7_within 23 = .ok (.l2i, 1) := by decide +kernel
theorem dX7_within_24 : decode cX7_within 24 = .ok (.ireturn, 1) := by decide +kernel
theorem dX8_init_0 : decode cX8_init 0 = .ok (.aload_n 0, 1) := by decide +kernel
theorem dX8_init_1 : decode cX8_init 1 = .ok (.invokespecial 1, 3) := by decide +kernel
theorem dX8_init_4 : decode cX8_init 4 = .ok (.aload_n 0, 1) := by decide +kernel
theorem dX8_init_5 : decode cX8_init 5 = .ok (.sipush 600, 3) := by decide +kernel
theorem dX8_init_8 : decode cX8_init 8 = .ok (.newarray .int, 2) := by decide +kernel
theorem dX8_init_10 : decode cX8_init 10 = .ok (.putfield 7, 3) := by decide +kernel
theorem dX8_init_13 : decode cX8_init 13 = .ok (.aload_n 0, 1) := by decide +kernel
theorem dX8_init_14 : decode cX8_init 14 = .ok (.sipush 264, 3) := by decide +kernel
theorem dX8_init_17 : decode cX8_init 17 = .ok (.newarray .int, 2) := by decide +kernel
theorem dX8_init_19 : decode cX8_init 19 = .ok (.putfield 13, 3) := by decide +kernel
theorem dX8_init_22 : decode cX8_init 22 = .ok (.aload_n 0, 1) := by decide +kernel
theorem dX8_init_23 : decode cX8_init 23 = .ok (.bipush 16, 2) := by decide +kernel
theorem dX8_init_25 : decode cX8_init 25 = .ok (.newarray .int, 2) := by decide +kernel
theorem dX8_init_27 : decode cX8_init 27 = .ok (.putfield 16, 3) := by decide +kernel
theorem dX8_init_30 : decode cX8_init 30 = .ok (.aload_n 0, 1) := by decide +kernel
theorem dX8_init_31 : decode cX8_init 31 = .ok (.bipush 16, 2) := by decide +kernel
theorem dX8_init_33 : decode cX8_init 33 = .ok (.newarray .int, 2) := by decide +kernel
theorem dX8_init_35 : decode cX8_init 35 = .ok (.putfield 19, 3) := by decide +kernel
theorem dX8_init_38 : decode cX8_init 38 = .ok (.aload_n 0, 1) := by decide +kernel
theorem dX8_init_39 : decode cX8_init 39 = .ok (.sipush 256, 3) := by decide +kernel
theorem dX8_init_42 : decode cX8_init 42 = .ok (.newarray .int, 2) := by decide +kernel
theorem dX8_init_44 : decode cX8_init 44 = .ok (.putfield 22, 3) := by decide +kernel
theorem dX8_init_47 : decode cX8_init 47 = .ok (.aload_n 0, 1) := by decide +kernel
theorem dX8_init_48 : decode cX8_init 48 = .ok (.sipush 256, 3) := by decide +kernel
theorem dX8_init_51 : decode cX8_init 51 = .ok (.newarray .int, 2) := by decide +kernel
theorem dX8_init_53 : decode cX8_init 53 = .ok (.putfield 25, 3) := by decide +kernel
theorem dX8_init_56 : decode cX8_init 56 = .ok (.aload_n 0, 1) := by decide +kernel
theorem dX8_init_57 : decode cX8_init 57 = .ok (.bipush 16, 2) := by decide +kernel
theorem dX8_init_59 : decode cX8_init 59 = .ok (.newarray .long, 2) := by decide +kernel
theorem dX8_init_61 : decode cX8_init 61 = .ok (.putfield 28, 3) := by decide +kernel
theorem dX8_init_64 : decode cX8_init 64 = .ok (.return_, 1) := by decide +kernel
theorem dX8_thrown_0 : decode cX8_thrown 0 = .ok (.aload_n 0, 1) := by decide +kernel
theorem dX8_thrown_1 : decode cX8_thrown 1 = .ok (.getfield 32, 3) := by decide +kernel
theorem dX8_thrown_4 : decode cX8_thrown 4 = .ok (.ireturn, 1) := by decide +kernel
theorem dX8_refused_0 : decode cX8_refused 0 = .ok (.aload_n 0, 1) := by decide +kernel
theorem dX8_refused_1 : decode cX8_refused 1 = .ok (.iload_n 1, 1) := by decide +kernel
theorem dX8_refused_2 : decode cX8_refused 2 = .ok (.putfield 32, 3) := by decide +kernel
theorem dX8_refused_5 : decode cX8_refused 5 = .ok (.iload_n 1, 1) := by decide +kernel
theorem dX8_refused_6 : decode cX8_refused 6 = .ok (.ifCond .le 7, 3) := by decide +kernel
theorem dX8_refused_9 : decode cX8_refused 9 = .ok (.iconst 1, 1) := by decide +kernel
theorem dX8_refused_10 : decode cX8_refused 10 = .ok (.goto 4, 3) := by decide +kernel
theorem dX8_refused_13 : decode cX8_refused 13 = .ok (.iconst 0, 1) := by decide +kernel
theorem dX8_refused_14 : decode cX8_refused 14 = .ok (.ireturn, 1) := by decide +kernel
theorem dX8_isIn_0 : decode cX8_isIn 0 = .ok (.iload_n 0, 1) := by decide +kernel
theorem dX8_isIn_1 : decode cX8_isIn 1 = .ok (.iload_n 1, 1) := by decide +kernel
theorem dX8_isIn_2 : decode cX8_isIn 2 = .ok (.if_icmp .lt 12, 3) := by decide +kernel
theorem dX8_isIn_5 : decode cX8_isIn 5 = .ok (.iload_n 0, 1) := by decide +kernel
theorem dX8_isIn_6 : decode cX8_isIn 6 = .ok (.iload_n 2, 1) := by decide +kernel
theorem dX8_isIn_7 : decode cX8_isIn 7 = .ok (.if_icmp .gt 7, 3) := by decide +kernel
theorem dX8_isIn_10 : decode cX8_isIn 10 = .ok (.iconst 1, 1) := by decide +kernel
theorem dX8_isIn_11 : decode cX8_isIn 11 = .ok (.goto 4, 3) := by decide +kernel
theorem dX8_isIn_14 : decode cX8_isIn 14 = .ok (.iconst 0, 1) := by decide +kernel
theorem dX8_isIn_15 : decode cX8_isIn 15 = .ok (.ireturn, 1) := by decide +kernel
theorem dX8_feed_0 : decode cX8_feed 0 = .ok (.aload_n 0, 1) := by decide +kernel
theorem dX8_feed_1 : decode cX8_feed 1 = .ok (.iload_n 1, 1) := by decide +kernel
theorem dX8_feed_2 : decode cX8_feed 2 = .ok (.iconst 0, 1) := by decide +kernel
theorem dX8_feed_3 : decode cX8_feed 3 = .ok (.bipush 16, 2) := by decide +kernel
theorem dX8_feed_5 : decode cX8_feed 5 = .ok (.invokestatic 36, 3) := by decide +kernel
theorem dX8_feed_8 : decode cX8_feed 8 = .ok (.ifCond .ne 7, 3) := by decide +kernel
theorem dX8_feed_11 : decode cX8_feed 11 = .ok (.iconst 1, 1) := by decide +kernel
theorem dX8_feed_12 : decode cX8_feed 12 = .ok (.goto 20, 3) := by decide +kernel
theorem dX8_feed_15 : decode cX8_feed 15 = .ok (.aload_n 0, 1) := by decide +kernel
theorem dX8_feed_16 : decode cX8_feed 16 = .ok (.getfield 40, 3) := by decide +kernel
theorem dX8_feed_19 : decode cX8_feed 19 = .ok (.iload_n 1, 1) := by decide +kernel
theorem dX8_feed_20 : decode cX8_feed 20 = .ok (.iadd, 1) := by decide +kernel
theorem dX8_feed_21 : decode cX8_feed 21 = .ok (.sipush 600, 3) := by decide +kernel
theorem dX8_feed_24 : decode cX8_feed 24 = .ok (.if_icmp .le 7, 3) := by decide +kernel
theorem dX8_feed_27 : decode cX8_feed 27 = .ok (.iconst 2, 1) := by decide +kernel
theorem dX8_feed_28 : decode cX8_feed 28 = .ok (.goto 4, 3) := by decide +kernel
theorem dX8_feed_31 : decode cX8_feed 31 = .ok (.iconst 0, 1) := by decide +kernel
theorem dX8_feed_32 : decode cX8_feed 32 = .ok (.invokevirtual 43, 3) := by decide +kernel
theorem dX8_feed_35 : decode cX8_feed 35 = .ok (.ifCond .eq 5, 3) := by decide +kernel
theorem dX8_feed_38 : decode cX8_feed 38 = .ok (.iconst 0, 1) := by decide +kernel
theorem dX8_feed_39 : decode cX8_feed 39 = .ok (.ireturn, 1) := by decide +kernel
theorem dX8_feed_40 : decode cX8_feed 40 = .ok (.aload_n 0, 1) := by decide +kernel
theorem dX8_feed_41 : decode cX8_feed 41 = .ok (.iconst 0, 1) := by decide +kernel
theorem dX8_feed_42 : decode cX8_feed 42 = .ok (.putfield 47, 3) := by decide +kernel
theorem dX8_feed_45 : decode cX8_feed 45 = .ok (.iconst 0, 1) := by decide +kernel
theorem dX8_feed_46 : decode cX8_feed 46 = .ok (.istore 6, 2) := by decide +kernel
theorem dX8_feed_48 : decode cX8_feed 48 = .ok (.iload 6, 2) := by decide +kernel
theorem dX8_feed_50 : decode cX8_feed 50 = .ok (.iload_n 1, 1) := by decide +kernel
theorem dX8_feed_51 : decode cX8_feed 51 = .ok (.if_icmp .ge 82, 3) := by decide +kernel
theorem dX8_feed_54 : decode cX8_feed 54 = .ok (.iload 6, 2) := by decide +kernel
theorem dX8_feed_56 : decode cX8_feed 56 = .ok (.iconst 4, 1) := by decide +kernel
theorem dX8_feed_57 : decode cX8_feed 57 = .ok (.if_icmp .ge 7, 3) := by decide +kernel
theorem dX8_feed_60 : decode cX8_feed 60 = .ok (.iload_n 2, 1) := by decide +kernel
theorem dX8_feed_61 : decode cX8_feed 61 = .ok (.goto 28, 3) := by decide +kernel
theorem dX8_feed_64 : decode cX8_feed 64 = .ok (.iload 6, 2) := by decide +kernel
theorem dX8_feed_66 : decode cX8_feed 66 = .ok (.bipush 8, 2) := by decide +kernel
theorem dX8_feed_68 : decode cX8_feed 68 = .ok (.if_icmp .ge 7, 3) := by decide +kernel
theorem dX8_feed_71 : decode cX8_feed 71 = .ok (.iload_n 3, 1) := by decide +kernel
theorem dX8_feed_72 : decode cX8_feed 72 = .ok (.goto 17, 3) := by decide +kernel
theorem dX8_feed_75 : decode cX8_feed 75 = .ok (.iload 6, 2) := by decide +kernel
theorem dX8_feed_77 : decode cX8_feed 77 = .ok (.bipush 12, 2) := by decide +kernel
theorem dX8_feed_79 : decode cX8_feed 79 = .ok (.if_icmp .ge 8, 3) := by decide +kernel
theorem dX8_feed_82 : decode cX8_feed 82 = .ok (.iload 4, 2) := by decide +kernel
theorem dX8_feed_84 : decode cX8_feed 84 = .ok (.goto 5, 3) := by decide +kernel
theorem dX8_feed_87 : decode cX8_feed 87 = .ok (.iload 5, 2) := by decide +kernel
theorem dX8_feed_89 : decode cX8_feed 89 = .ok (.istore 7, 2) := by decide +kernel
theorem dX8_feed_91 : decode cX8_feed 91 = .ok (.aload_n 0, 1) := by decide +kernel
theorem dX8_feed_92 : decode cX8_feed 92 = .ok (.getfield 7, 3) := by decide +kernel
theorem dX8_feed_95 : decode cX8_feed 95 = .ok (.aload_n 0, 1) := by decide +kernel
theorem dX8_feed_96 : decode cX8_feed 96 = .ok (.getfield 40, 3) := by decide +kernel
theorem dX8_feed_99 : decode cX8_feed 99 = .ok (.iload 7, 2) := by decide +kernel
theorem dX8_feed_101 : decode cX8_feed 101 = .ok (.bipush 24, 2) := by decide +kernel
theorem dX8_feed_103 : decode cX8_feed 103 = .ok (.bipush 8, 2) := by decide +kernel
theorem dX8_feed_105 : decode cX8_feed 105 = .ok (.iload 6, 2) := by decide +kernel
theorem dX8_feed_107 : decode cX8_feed 107 = .ok (.iconst 4, 1) := by decide +kernel
theorem dX8_feed_108 : decode cX8_feed 108 = .ok (.irem, 1) := by decide +kernel
theorem dX8_feed_109 : decode cX8_feed 109 = .ok (.imul, 1) := by decide +kernel
theorem dX8_feed_110 : decode cX8_feed 110 = .ok (.isub, 1) := by decide +kernel
theorem dX8_feed_111 : decode cX8_feed 111 = .ok (.ishr, 1) := by decide +kernel
theorem dX8_feed_112 : decode cX8_feed 112 = .ok (.sipush 255, 3) := by decide +kernel
theorem dX8_feed_115 : decode cX8_feed 115 = .ok (.iand, 1) := by decide +kernel
theorem dX8_feed_116 : decode cX8_feed 116 = .ok (.iastore, 1) := by decide +kernel
theorem dX8_feed_117 : decode cX8_feed 117 = .ok (.aload_n 0, 1) := by decide +kernel
theorem dX8_feed_118 : decode cX8_feed 118 = .ok (.dup, 1) := by decide +kernel
theorem dX8_feed_119 : decode cX8_feed 119 = .ok (.getfield 40, 3) := by decide +kernel
theorem dX8_feed_122 : decode cX8_feed 122 = .ok (.iconst 1, 1) := by decide +kernel
theorem dX8_feed_123 : decode cX8_feed 123 = .ok (.iadd, 1) := by decide +kernel
theorem dX8_feed_124 : decode cX8_feed 124 = .ok (.putfield 40, 3) := by decide +kernel
theorem dX8_feed_127 : decode cX8_feed 127 = .ok (.iinc 6 1, 3) := by decide +kernel
theorem dX8_feed_130 : decode cX8_feed 130 = .ok (.goto (-82), 3) := by decide +kernel
theorem dX8_feed_133 : decode cX8_feed 133 = .ok (.aload_n 0, 1) := by decide +kernel
theorem dX8_feed_134 : decode cX8_feed 134 = .ok (.getfield 40, 3) := by decide +kernel
theorem dX8_feed_137 : decode cX8_feed 137 = .ok (.ireturn, 1) := by decide +kernel
theorem dX8_erase_0 : decode cX8_erase 0 = .ok (.aload_n 0, 1) := by decide +kernel
theorem dX8_erase_1 : decode cX8_erase 1 = .ok (.iconst 0, 1) := by decide +kernel
theorem dX8_erase_2 : decode cX8_erase 2 = .ok (.putfield 32, 3) := by decide +kernel
theorem dX8_erase_5 : decode cX8_erase 5 = .ok (.aload_n 0, 1) := by decide +kernel
theorem dX8_erase_6 : decode cX8_erase 6 = .ok (.getfield 40, 3) := by decide +kernel
theorem dX8_erase_9 : decode cX8_erase 9 = .ok (.istore_n 1, 1) := by decide +kernel
theorem dX8_erase_10 : decode cX8_erase 10 = .ok (.aload_n 0, 1) := by decide +kernel
theorem dX8_erase_11 : decode cX8_erase 11 = .ok (.iconst 0, 1) := by decide +kernel
theorem dX8_erase_12 : decode cX8_erase 12 = .ok (.putfield 40, 3) := by decide +kernel
theorem dX8_erase_15 : decode cX8_erase 15 = .ok (.aload_n 0, 1) := by decide +kernel
theorem dX8_erase_16 : decode cX8_erase 16 = .ok (.iconst 0, 1) := by decide +kernel
theorem dX8_erase_17 : decode cX8_erase 17 = .ok (.putfield 47, 3) := by decide +kernel
theorem dX8_erase_20 : decode cX8_erase 20 = .ok (.iload_n 1, 1) := by decide +kernel
theorem dX8_erase_21 : decode cX8_erase 21 = .ok (.ireturn, 1) := by decide +kernel
theorem dX8_octet_0 : decode cX8_octet 0 = .ok (.aload_n 0, 1) := by decide +kernel
theorem dX8_octet_1 : decode cX8_octet 1 = .ok (.iconst 0, 1) := by decide +kernel
theorem dX8_octet_2 : decode cX8_octet 2 = .ok (.putfield 32, 3) := by decide +kernel
theorem dX8_octet_5 : decode cX8_octet 5 = .ok (.iload_n 1, 1) := by decide +kernel
theorem dX8_octet_6 : decode cX8_octet 6 = .ok (.iconst 0, 1) := by decide +kernel
theorem dX8_octet_7 : decode cX8_octet 7 = .ok (.aload_n 0, 1) := by decide +kernel
theorem dX8_octet_8 : decode cX8_octet 8 = .ok (.getfield 40, 3) := by decide +kernel
theorem dX8_octet_11 : decode cX8_octet 11 = .ok (.iconst 1, 1) := by decide +kernel
theorem dX8_octet_12 : decode cX8_octet 12 = .ok (.isub, 1) := by decide +kernel
theorem dX8_octet_13 : decode cX8_octet 13 = .ok (.invokestatic 36, 3) := by decide +kernel
theorem dX8_octet_16 : decode cX8_octet 16 = .ok (.ifCond .eq 12, 3) := by decide +kernel
theorem dX8_octet_19 : decode cX8_octet 19 = .ok (.aload_n 0, 1) := by decide +kernel
theorem dX8_octet_20 : decode cX8_octet 20 = .ok (.getfield 7, 3) := by decide +kernel
theorem dX8_octet_23 : decode cX8_octet 23 = .ok (.iload_n 1, 1) := by decide +kernel
theorem dX8_octet_24 : decode cX8_octet 24 = .ok (.iaload, 1) := by decide +kernel
theorem dX8_octet_25 : decode cX8_octet 25 = .ok (.goto 4, 3) := by decide +kernel
theorem dX8_octet_28 : decode cX8_octet 28 = .ok (.iconst (-1), 1) := by decide +kernel
theorem dX8_octet_29 : decode cX8_octet 29 = .ok (.ireturn, 1) := by decide +kernel
theorem dX8_write_0 : decode cX8_write 0 = .ok (.aload_n 0, 1) := by decide +kernel
theorem dX8_write_1 : decode cX8_write 1 = .ok (.iconst 0, 1) := by decide +kernel
theorem dX8_write_2 : decode cX8_write 2 = .ok (.putfield 32, 3) := by decide +kernel
theorem dX8_write_5 : decode cX8_write 5 = .ok (.aload_n 0, 1) := by decide +kernel
theorem dX8_write_6 : decode cX8_write 6 = .ok (.iconst 0, 1) := by decide +kernel
theorem dX8_write_7 : decode cX8_write 7 = .ok (.putfield 40, 3) := by decide +kernel
theorem dX8_write_10 : decode cX8_write 10 = .ok (.aload_n 0, 1) := by decide +kernel
theorem dX8_write_11 : decode cX8_write 11 = .ok (.iconst 1, 1) := by decide +kernel
theorem dX8_write_12 : decode cX8_write 12 = .ok (.putfield 47, 3) := by decide +kernel
theorem dX8_write_15 : decode cX8_write 15 = .ok (.aload_n 0, 1) := by decide +kernel
theorem dX8_write_16 : decode cX8_write 16 = .ok (.lconst 0, 1) := by decide +kernel
theorem dX8_write_17 : decode cX8_write 17 = .ok (.putfield 50, 3) := by decide +kernel
theorem dX8_write_20 : decode cX8_write 20 = .ok (.aload_n 0, 1) := by decide +kernel
theorem dX8_write_21 : decode cX8_write 21 = .ok (.sipush 255, 3) := by decide +kernel
theorem dX8_write_24 : decode cX8_write 24 = .ok (.putfield 54, 3) := by decide +kernel
theorem dX8_write_27 : decode cX8_write 27 = .ok (.aload_n 0, 1) := by decide +kernel
theorem dX8_write_28 : decode cX8_write 28 = .ok (.bipush 24, 2) := by decide +kernel
theorem dX8_write_30 : decode cX8_write 30 = .ok (.putfield 57, 3) := by decide +kernel
theorem dX8_write_33 : decode cX8_write 33 = .ok (.return_, 1) := by decide +kernel
theorem dX8_carry_0 : decode cX8_carry 0 = .ok (.aload_n 0, 1) := by decide +kernel
theorem dX8_carry_1 : decode cX8_carry 1 = .ok (.getfield 40, 3) := by decide +kernel
theorem dX8_carry_4 : decode cX8_carry 4 = .ok (.iconst 1, 1) := by decide +kernel
theorem dX8_carry_5 : decode cX8_carry 5 = .ok (.isub, 1) := by decide +kernel
theorem dX8_carry_6 : decode cX8_carry 6 = .ok (.istore_n 1, 1) := by decide +kernel
theorem dX8_carry_7 : decode cX8_carry 7 = .ok (.iload_n 1, 1) := by decide +kernel
theorem dX8_carry_8 : decode cX8_carry 8 = .ok (.ifCond .lt 28, 3) := by decide +kernel
theorem dX8_carry_11 : decode cX8_carry 11 = .ok (.aload_n 0, 1) := by decide +kernel
theorem dX8_carry_12 : decode cX8_carry 12 = .ok (.getfield 7, 3) := by decide +kernel
theorem dX8_carry_15 : decode cX8_carry 15 = .ok (.iload_n 1, 1) := by decide +kernel
theorem dX8_carry_16 : decode cX8_carry 16 = .ok (.iaload, 1) := by decide +kernel
theorem dX8_carry_17 : decode cX8_carry 17 = .ok (.sipush 255, 3) := by decide +kernel
theorem dX8_carry_20 : decode cX8_carry 20 = .ok (.if_icmp .ne 16, 3) := by decide +kernel
theorem dX8_carry_23 : decode cX8_carry 23 = .ok (.aload_n 0, 1) := by decide +kernel
theorem dX8_carry_24 : decode cX8_carry 24 = .ok (.getfield 7, 3) := by decide +kernel
theorem dX8_carry_27 : decode cX8_carry 27 = .ok (.iload_n 1, 1) := by decide +kernel
theorem dX8_carry_28 : decode cX8_carry 28 = .ok (.iconst 0, 1) := by decide +kernel
theorem dX8_carry_29 : decode cX8_carry 29 = .ok (.iastore, 1) := by decide +kernel
theorem dX8_carry_30 : decode cX8_carry 30 = .ok (.iinc 1 (-1), 3) := by decide +kernel
theorem dX8_carry_33 : decode cX8_carry 33 = .ok (.goto (-26), 3) := by decide +kernel
theorem dX8_carry_36 : decode cX8_carry 36 = .ok (.iload_n 1, 1) := by decide +kernel
theorem dX8_carry_37 : decode cX8_carry 37 = .ok (.ifCond .lt 13, 3) := by decide +kernel
theorem dX8_carry_40 : decode cX8_carry 40 = .ok (.aload_n 0, 1) := by decide +kernel
theorem dX8_carry_41 : decode cX8_carry 41 = .ok (.getfield 7, 3) := by decide +kernel
theorem dX8_carry_44 : decode cX8_carry 44 = .ok (.iload_n 1, 1) := by decide +kernel
theorem dX8_carry_45 : decode cX8_carry 45 = .ok (.dup2, 1) := by decide +kernel
theorem dX8_carry_46 : decode cX8_carry 46 = .ok (.iaload, 1) := by decide +kernel
theorem dX8_carry_47 : decode cX8_carry 47 = .ok (.iconst 1, 1) := by decide +kernel
theorem dX8_carry_48 : decode cX8_carry 48 = .ok (.iadd, 1) := by decide +kernel
theorem dX8_carry_49 : decode cX8_carry 49 = .ok (.iastore, 1) := by decide +kernel
theorem dX8_carry_50 : decode cX8_carry 50 = .ok (.return_, 1) := by decide +kernel
theorem dX8_append_0 : decode cX8_append 0 = .ok (.aload_n 0, 1) := by decide +kernel
theorem dX8_append_1 : decode cX8_append 1 = .ok (.getfield 7, 3) := by decide +kernel
theorem dX8_append_4 : decode cX8_append 4 = .ok (.aload_n 0, 1) := by decide +kernel
theorem dX8_append_5 : decode cX8_append 5 = .ok (.getfield 40, 3) := by decide +kernel
theorem dX8_append_8 : decode cX8_append 8 = .ok (.lload_n 1, 1) := by decide +kernel
theorem dX8_append_9 : decode cX8_append 9 = .ok (.bipush 24, 2) := by decide +kernel
theorem dX8_append_11 : decode cX8_append 11 = .ok (.lshr, 1) := by decide +kernel
theorem dX8_append_12 : decode cX8_append 12 = .ok (.ldc2_w 60, 3) := by decide +kernel
theorem dX8_append_15 : decode cX8_append 15 = .ok (.land, 1) := by decide +kernel
theorem dX8_append_16 : decode cX8_append 16 = .ok (.l2i, 1) := by decide +kernel
theorem dX8_append_17 : decode cX8_append 17 = .ok (.iastore, 1) := by decide +kernel
theorem dX8_append_18 : decode cX8_append 18 = .ok (.aload_n 0, 1) := by decide +kernel
theorem dX8_append_19 : decode cX8_append 19 = .ok (.dup, 1) := by decide +kernel
theorem dX8_append_20 : decode cX8_append 20 = .ok (.getfield 40, 3) := by decide +kernel
theorem dX8_append_23 : decode cX8_append 23 = .ok (.iconst 1, 1) := by decide +kernel
theorem dX8_append_24 : decode cX8_append 24 = .ok (.iadd, 1) := by decide +kernel
theorem dX8_append_25 : decode cX8_append 25 = .ok (.putfield 40, 3) := by decide +kernel
theorem dX8_append_28 : decode cX8_append 28 = .ok (.return_, 1) := by decide +kernel
theorem dX8_writeBit_0 : decode cX8_writeBit 0 = .ok (.iconst 1, 1) := by decide +kernel
theorem dX8_writeBit_1 : decode cX8_writeBit 1 = .ok (.aload_n 0, 1) := by decide +kernel
theorem dX8_writeBit_2 : decode cX8_writeBit 2 = .ok (.getfield 54, 3) := by decide +kernel
theorem dX8_writeBit_5 : decode cX8_writeBit 5 = .ok (.iconst 1, 1) := by decide +kernel
theorem dX8_writeBit_6 : decode cX8_writeBit 6 = .ok (.isub, 1) := by decide +kernel
theorem dX8_writeBit_7 : decode cX8_writeBit 7 = .ok (.iload_n 1, 1) := by decide +kernel
theorem dX8_writeBit_8 : decode cX8_writeBit 8 = .ok (.imul, 1) := by decide +kernel
theorem dX8_writeBit_9 : decode cX8_writeBit 9 = .ok (.sipush 256, 3) := by decide +kernel
theorem dX8_writeBit_12 : decode cX8_writeBit 12 = .ok (.idiv, 1) := by decide +kernel
theorem dX8_writeBit_13 : decode cX8_writeBit 13 = .ok (.iadd, 1) := by decide +kernel
theorem dX8_writeBit_14 : decode cX8_writeBit 14 = .ok (.istore_n 3, 1) := by decide +kernel
theorem dX8_writeBit_15 : decode cX8_writeBit 15 = .ok (.iload_n 2, 1) := by decide +kernel
theorem dX8_writeBit_16 : decode cX8_writeBit 16 = .ok (.ifCond .ne 11, 3) := by decide +kernel
theorem dX8_writeBit_19 : decode cX8_writeBit 19 = .ok (.aload_n 0, 1) := by decide +kernel
theorem dX8_writeBit_20 : decode cX8_writeBit 20 = .ok (.iload_n 3, 1) := by decide +kernel
theorem dX8_writeBit_21 : decode cX8_writeBit 21 = .ok (.putfield 54, 3) := by decide +kernel
theorem dX8_writeBit_24 : decode cX8_writeBit 24 = .ok (.goto 28, 3) := by decide +kernel
theorem dX8_writeBit_27 : decode cX8_writeBit 27 = .ok (.aload_n 0, 1) := by decide +kernel
theorem dX8_writeBit_28 : decode cX8_writeBit 28 = .ok (.aload_n 0, 1) := by decide +kernel
theorem dX8_writeBit_29 : decode cX8_writeBit 29 = .ok (.getfield 50, 3) := by decide +kernel
theorem dX8_writeBit_32 : decode cX8_writeBit 32 = .ok (.iload_n 3, 1) := by decide +kernel
theorem dX8_writeBit_33 : decode cX8_writeBit 33 = .ok (.i2l, 1) := by decide +kernel
theorem dX8_writeBit_34 : decode cX8_writeBit 34 = .ok (.ladd, 1) := by decide +kernel
theorem dX8_writeBit_35 : decode cX8_writeBit 35 = .ok (.ldc2_w 62, 3) := by decide +kernel
theorem dX8_writeBit_38 : decode cX8_writeBit 38 = .ok (.land, 1) := by decide +kernel
theorem dX8_writeBit_39 : decode cX8_writeBit 39 = .ok (.putfield 50, 3) := by decide +kernel
theorem dX8_writeBit_42 : decode cX8_writeBit 42 = .ok (.aload_n 0, 1) := by decide +kernel
theorem dX8_writeBit_43 : decode cX8_writeBit 43 = .ok (.aload_n 0, 1) := by decide +kernel
theorem dX8_writeBit_44 : decode cX8_writeBit 44 = .ok (.getfield 54, 3) := by decide +kernel
theorem dX8_writeBit_47 : decode cX8_writeBit 47 = .ok (.iload_n 3, 1) := by decide +kernel
theorem dX8_writeBit_48 : decode cX8_writeBit 48 = .ok (.isub, 1) := by decide +kernel
theorem dX8_writeBit_49 : decode cX8_writeBit 49 = .ok (.putfield 54, 3) := by decide +kernel
theorem dX8_writeBit_52 : decode cX8_writeBit 52 = .ok (.aload_n 0, 1) := by decide +kernel
theorem dX8_writeBit_53 : decode cX8_writeBit 53 = .ok (.getfield 54, 3) := by decide +kernel
theorem dX8_writeBit_56 : decode cX8_writeBit 56 = .ok (.sipush 128, 3) := by decide +kernel
theorem dX8_writeBit_59 : decode cX8_writeBit 59 = .ok (.if_icmp .ge 90, 3) := by decide +kernel
theorem dX8_writeBit_62 : decode cX8_writeBit 62 = .ok (.aload_n 0, 1) := by decide +kernel
theorem dX8_writeBit_63 : decode cX8_writeBit 63 = .ok (.iconst 2, 1) := by decide +kernel
theorem dX8_writeBit_64 : decode cX8_writeBit 64 = .ok (.aload_n 0, 1) := by decide +kernel
theorem dX8_writeBit_65 : decode cX8_writeBit 65 = .ok (.getfield 54, 3) := by decide +kernel
theorem dX8_writeBit_68 : decode cX8_writeBit 68 = .ok (.imul, 1) := by decide +kernel
theorem dX8_writeBit_69 : decode cX8_writeBit 69 = .ok (.putfield 54, 3) := by decide +kernel
theorem dX8_writeBit_72 : decode cX8_writeBit 72 = .ok (.aload_n 0, 1) := by decide +kernel
theorem dX8_writeBit_73 : decode cX8_writeBit 73 = .ok (.getfield 50, 3) := by decide +kernel
theorem dX8_writeBit_76 : decode cX8_writeBit 76 = .ok (.ldc2_w 64, 3) := by decide +kernel
theorem dX8_writeBit_79 : decode cX8_writeBit 79 = .ok (.lcmp, 1) := by decide +kernel
theorem dX8_writeBit_80 : decode cX8_writeBit 80 = .ok (.ifCond .lt 7, 3) := by decide +kernel
theorem dX8_writeBit_83 : decode cX8_writeBit 83 = .ok (.aload_n 0, 1) := by decide +kernel
theorem dX8_writeBit_84 : decode cX8_writeBit 84 = .ok (.invokevirtual 66, 3) := by decide +kernel
theorem dX8_writeBit_87 : decode cX8_writeBit 87 = .ok (.aload_n 0, 1) := by decide +kernel
theorem dX8_writeBit_88 : decode cX8_writeBit 88 = .ok (.ldc2_w 69, 3) := by decide +kernel
theorem dX8_writeBit_91 : decode cX8_writeBit 91 = .ok (.aload_n 0, 1) := by decide +kernel
theorem dX8_writeBit_92 : decode cX8_writeBit 92 = .ok (.getfield 50, 3) := by decide +kernel
theorem dX8_writeBit_95 : decode cX8_writeBit 95 = .ok (.lmul, 1) := by decide +kernel
theorem dX8_writeBit_96 : decode cX8_writeBit 96 = .ok (.ldc2_w 62, 3) := by decide +kernel
theorem dX8_writeBit_99 : decode cX8_writeBit 99 = .ok (.land, 1) := by decide +kernel
theorem dX8_writeBit_100 : decode cX8_writeBit 100 = .ok (.putfield 50, 3) := by decide +kernel
theorem dX8_writeBit_103 : decode cX8_writeBit 103 = .ok (.aload_n 0, 1) := by decide +kernel
theorem dX8_writeBit_104 : decode cX8_writeBit 104 = .ok (.dup, 1) := by decide +kernel
theorem dX8_writeBit_105 : decode cX8_writeBit 105 = .ok (.getfield 57, 3) := by decide +kernel
theorem dX8_writeBit_108 : decode cX8_writeBit 108 = .ok (.iconst 1, 1) := by decide +kernel
theorem dX8_writeBit_109 : decode cX8_writeBit 109 = .ok (.isub, 1) := by decide +kernel
theorem dX8_writeBit_110 : decode cX8_writeBit 110 = .ok (.putfield 57, 3) := by decide +kernel
theorem dX8_writeBit_113 : decode cX8_writeBit 113 = .ok (.aload_n 0, 1) := by decide +kernel
theorem dX8_writeBit_114 : decode cX8_writeBit 114 = .ok (.getfield 57, 3) := by decide +kernel
theorem dX8_writeBit_117 : decode cX8_writeBit 117 = .ok (.ifCond .ne (-65), 3) := by decide +kernel
theorem dX8_writeBit_120 : decode cX8_writeBit 120 = .ok (.aload_n 0, 1) := by decide +kernel
theorem dX8_writeBit_121 : decode cX8_writeBit 121 = .ok (.aload_n 0, 1) := by decide +kernel
theorem dX8_writeBit_122 : decode cX8_writeBit 122 = .ok (.getfield 50, 3) := by decide +kernel
theorem dX8_writeBit_125 : decode cX8_writeBit 125 = .ok (.invokevirtual 71, 3) := by decide +kernel
theorem dX8_writeBit_128 : decode cX8_writeBit 128 = .ok (.aload_n 0, 1) := by decide +kernel
theorem dX8_writeBit_129 : decode cX8_writeBit 129 = .ok (.aload_n 0, 1) := by decide +kernel
theorem dX8_writeBit_130 : decode cX8_writeBit 130 = .ok (.getfield 50, 3) := by decide +kernel
theorem dX8_writeBit_133 : decode cX8_writeBit 133 = .ok (.ldc2_w 75, 3) := by decide +kernel
theorem dX8_writeBit_136 : decode cX8_writeBit 136 = .ok (.land, 1) := by decide +kernel
theorem dX8_writeBit_137 : decode cX8_writeBit 137 = .ok (.putfield 50, 3) := by decide +kernel
theorem dX8_writeBit_140 : decode cX8_writeBit 140 = .ok (.aload_n 0, 1) := by decide +kernel
theorem dX8_writeBit_141 : decode cX8_writeBit 141 = .ok (.bipush 8, 2) := by decide +kernel
theorem dX8_writeBit_143 : decode cX8_writeBit 143 = .ok (.putfield 57, 3) := by decide +kernel
theorem dX8_writeBit_146 : decode cX8_writeBit 146 = .ok (.goto (-94), 3) := by decide +kernel
theorem dX8_writeBit_149 : decode cX8_writeBit 149 = .ok (.return_, 1) := by decide +kernel
theorem dX8_put_0 : decode cX8_put 0 = .ok (.iload_n 1, 1) := by decide +kernel
theorem dX8_put_1 : decode cX8_put 1 = .ok (.iconst 1, 1) := by decide +kernel
theorem dX8_put_2 : decode cX8_put 2 = .ok (.sipush 255, 3) := by decide +kernel
theorem dX8_put_5 : decode cX8_put 5 = .ok (.invokestatic 36, 3) := by decide +kernel
theorem dX8_put_8 : decode cX8_put 8 = .ok (.ifCond .eq 17, 3) := by decide +kernel
theorem dX8_put_11 : decode cX8_put 11 = .ok (.iload_n 3, 1) := by decide +kernel
theorem dX8_put_12 : decode cX8_put 12 = .ok (.iconst 0, 1) := by decide +kernel
theorem dX8_put_13 : decode cX8_put 13 = .ok (.bipush 32, 2) := by decide +kernel
theorem dX8_put_15 : decode cX8_put 15 = .ok (.invokestatic 36, 3) := by decide +kernel
theorem dX8_put_18 : decode cX8_put 18 = .ok (.ifCond .eq 7, 3) := by decide +kernel
theorem dX8_put_21 : decode cX8_put 21 = .ok (.iconst 1, 1) := by decide +kernel
theorem dX8_put_22 : decode cX8_put 22 = .ok (.goto 4, 3) := by decide +kernel
theorem dX8_put_25 : decode cX8_put 25 = .ok (.iconst 0, 1) := by decide +kernel
theorem dX8_put_26 : decode cX8_put 26 = .ok (.istore 4, 2) := by decide +kernel
theorem dX8_put_28 : decode cX8_put 28 = .ok (.aload_n 0, 1) := by decide +kernel
theorem dX8_put_29 : decode cX8_put 29 = .ok (.iload 4, 2) := by decide +kernel
theorem dX8_put_31 : decode cX8_put 31 = .ok (.ifCond .ne 7, 3) := by decide +kernel
theorem dX8_put_34 : decode cX8_put 34 = .ok (.iconst 1, 1) := by decide +kernel
theorem dX8_put_35 : decode cX8_put 35 = .ok (.goto 26, 3) := by decide +kernel
theorem dX8_put_38 : decode cX8_put 38 = .ok (.aload_n 0, 1) := by decide +kernel
theorem dX8_put_39 : decode cX8_put 39 = .ok (.getfield 47, 3) := by decide +kernel
theorem dX8_put_42 : decode cX8_put 42 = .ok (.iconst 1, 1) := by decide +kernel
theorem dX8_put_43 : decode cX8_put 43 = .ok (.if_icmp .ne 13, 3) := by decide +kernel
theorem dX8_put_46 : decode cX8_put 46 = .ok (.aload_n 0, 1) := by decide +kernel
theorem dX8_put_47 : decode cX8_put 47 = .ok (.getfield 40, 3) := by decide +kernel
theorem dX8_put_50 : decode cX8_put 50 = .ok (.sipush 560, 3) := by decide +kernel
theorem dX8_put_53 : decode cX8_put 53 = .ok (.if_icmp .le 7, 3) := by decide +kernel
theorem dX8_put_56 : decode cX8_put 56 = .ok (.iconst 2, 1) := by decide +kernel
theorem dX8_put_57 : decode cX8_put 57 = .ok (.goto 4, 3) := by decide +kernel
theorem dX8_put_60 : decode cX8_put 60 = .ok (.iconst 0, 1) := by decide +kernel
theorem dX8_put_61 : decode cX8_put 61 = .ok (.invokevirtual 43, 3) := by decide +kernel
theorem dX8_put_64 : decode cX8_put 64 = .ok (.ifCond .eq 5, 3) := by decide +kernel
theorem dX8_put_67 : decode cX8_put 67 = .ok (.iconst 0, 1) := by decide +kernel
theorem dX8_put_68 : decode cX8_put 68 = .ok (.ireturn, 1) := by decide +kernel
theorem dX8_put_69 : decode cX8_put 69 = .ok (.iload_n 3, 1) := by decide +kernel
theorem dX8_put_70 : decode cX8_put 70 = .ok (.iconst 1, 1) := by decide +kernel
theorem dX8_put_71 : decode cX8_put 71 = .ok (.isub, 1) := by decide +kernel
theorem dX8_put_72 : decode cX8_put 72 = .ok (.istore 5, 2) := by decide +kernel
theorem dX8_put_74 : decode cX8_put 74 = .ok (.iload 5, 2) := by decide +kernel
theorem dX8_put_76 : decode cX8_put 76 = .ok (.ifCond .lt 20, 3) := by decide +kernel
theorem dX8_put_79 : decode cX8_put 79 = .ok (.aload_n 0, 1) := by decide +kernel
theorem dX8_put_80 : decode cX8_put 80 = .ok (.iload_n 1, 1) := by decide +kernel
theorem dX8_put_81 : decode cX8_put 81 = .ok (.iload_n 2, 1) := by decide +kernel
theorem dX8_put_82 : decode cX8_put 82 = .ok (.iload 5, 2) := by decide +kernel
theorem dX8_put_84 : decode cX8_put 84 = .ok (.ishr, 1) := by decide +kernel
theorem dX8_put_85 : decode cX8_put 85 = .ok (.iconst 1, 1) := by decide +kernel
theorem dX8_put_86 : decode cX8_put 86 = .ok (.iand, 1) := by decide +kernel
theorem dX8_put_87 : decode cX8_put 87 = .ok (.invokevirtual 77, 3) := by decide +kernel
theorem dX8_put_90 : decode cX8_put 90 = .ok (.iinc 5 (-1), 3) := by decide +kernel
theorem dX8_put_93 : decode cX8_put 93 = .ok (.goto (-19), 3) := by decide +kernel
theorem dX8_put_96 : decode cX8_put 96 = .ok (.aload_n 0, 1) := by decide +kernel
theorem dX8_put_97 : decode cX8_put 97 = .ok (.getfield 40, 3) := by decide +kernel
theorem dX8_put_100 : decode cX8_put 100 = .ok (.ireturn, 1) := by decide +kernel
theorem dX8_end_0 : decode cX8_end 0 = .ok (.aload_n 0, 1) := by decide +kernel
theorem dX8_end_1 : decode cX8_end 1 = .ok (.aload_n 0, 1) := by decide +kernel
theorem dX8_end_2 : decode cX8_end 2 = .ok (.getfield 47, 3) := by decide +kernel
theorem dX8_end_5 : decode cX8_end 5 = .ok (.iconst 1, 1) := by decide +kernel
theorem dX8_end_6 : decode cX8_end 6 = .ok (.if_icmp .eq 7, 3) := by decide +kernel
theorem dX8_end_9 : decode cX8_end 9 = .ok (.iconst 1, 1) := by decide +kernel
theorem dX8_end_10 : decode cX8_end 10 = .ok (.goto 4, 3) := by decide +kernel
theorem dX8_end_13 : decode cX8_end 13 = .ok (.iconst 0, 1) := by decide +kernel
theorem dX8_end_14 : decode cX8_end 14 = .ok (.invokevirtual 43, 3) := by decide +kernel
theorem dX8_end_17 : decode cX8_end 17 = .ok (.ifCond .eq 5, 3) := by decide +kernel
theorem dX8_end_20 : decode cX8_end 20 = .ok (.iconst 0, 1) := by decide +kernel
theorem dX8_end_21 : decode cX8_end 21 = .ok (.ireturn, 1) := by decide +kernel
theorem dX8_end_22 : decode cX8_end 22 = .ok (.aload_n 0, 1) := by decide +kernel
theorem dX8_end_23 : decode cX8_end 23 = .ok (.iconst 0, 1) := by decide +kernel
theorem dX8_end_24 : decode cX8_end 24 = .ok (.putfield 47, 3) := by decide +kernel
theorem dX8_end_27 : decode cX8_end 27 = .ok (.aload_n 0, 1) := by decide +kernel
theorem dX8_end_28 : decode cX8_end 28 = .ok (.getfield 50, 3) := by decide +kernel
theorem dX8_end_31 : decode cX8_end 31 = .ok (.bipush 32, 2) := by decide +kernel
theorem dX8_end_33 : decode cX8_end 33 = .ok (.aload_n 0, 1) := by decide +kernel
theorem dX8_end_34 : decode cX8_end 34 = .ok (.getfield 57, 3) := by decide +kernel
theorem dX8_end_37 : decode cX8_end 37 = .ok (.isub, 1) := by decide +kernel
theorem dX8_end_38 : decode cX8_end 38 = .ok (.lshr, 1) := by decide +kernel
theorem dX8_end_39 : decode cX8_end 39 = .ok (.lconst 1, 1) := by decide +kernel
theorem dX8_end_40 : decode cX8_end 40 = .ok (.land, 1) := by decide +kernel
theorem dX8_end_41 : decode cX8_end 41 = .ok (.lconst 1, 1) := by decide +kernel
theorem dX8_end_42 : decode cX8_end 42 = .ok (.lcmp, 1) := by decide +kernel
theorem dX8_end_43 : decode cX8_end 43 = .ok (.ifCond .ne 7, 3) := by decide +kernel
theorem dX8_end_46 : decode cX8_end 46 = .ok (.aload_n 0, 1) := by decide +kernel
theorem dX8_end_47 : decode cX8_end 47 = .ok (.invokevirtual 66, 3) := by decide +kernel
theorem dX8_end_50 : decode cX8_end 50 = .ok (.aload_n 0, 1) := by decide +kernel
theorem dX8_end_51 : decode cX8_end 51 = .ok (.getfield 50, 3) := by decide +kernel
theorem dX8_end_54 : decode cX8_end 54 = .ok (.aload_n 0, 1) := by decide +kernel
theorem dX8_end_55 : decode cX8_end 55 = .ok (.getfield 57, 3) := by decide +kernel
theorem dX8_end_58 : decode cX8_end 58 = .ok (.bipush 8, 2) := by decide +kernel
theorem dX8_end_60 : decode cX8_end 60 = .ok (.irem, 1) := by decide +kernel
theorem dX8_end_61 : decode cX8_end 61 = .ok (.lshl, 1) := by decide +kernel
theorem dX8_end_62 : decode cX8_end 62 = .ok (.ldc2_w 62, 3) := by decide +kernel
theorem dX8_end_65 : decode cX8_end 65 = .ok (.land, 1) := by decide +kernel
theorem dX8_end_66 : decode cX8_end 66 = .ok (.lstore_n 1, 1) := by decide +kernel
theorem dX8_end_67 : decode cX8_end 67 = .ok (.iconst 0, 1) := by decide +kernel
theorem dX8_end_68 : decode cX8_end 68 = .ok (.istore_n 3, 1) := by decide +kernel
theorem dX8_end_69 : decode cX8_end 69 = .ok (.iload_n 3, 1) := by decide +kernel
theorem dX8_end_70 : decode cX8_end 70 = .ok (.aload_n 0, 1) := by decide +kernel
theorem dX8_end_71 : decode cX8_end 71 = .ok (.getfield 57, 3) := by decide +kernel
theorem dX8_end_74 : decode cX8_end 74 = .ok (.bipush 8, 2) := by decide +kernel
theorem dX8_end_76 : decode cX8_end 76 = .ok (.idiv, 1) := by decide +kernel
theorem dX8_end_77 : decode cX8_end 77 = .ok (.if_icmp .ge 18, 3) := by decide +kernel
theorem dX8_end_80 : decode cX8_end 80 = .ok (.lload_n 1, 1) := by decide +kernel
theorem dX8_end_81 : decode cX8_end 81 = .ok (.bipush 8, 2) := by decide +kernel
theorem dX8_end_83 : decode cX8_end 83 = .ok (.lshl, 1) := by decide +kernel
theorem dX8_end_84 : decode cX8_end 84 = .ok (.ldc2_w 62, 3) := by decide +kernel
theorem dX8_end_87 : decode cX8_end 87 = .ok (.land, 1) := by decide +kernel
theorem dX8_end_88 : decode cX8_end 88 = .ok (.lstore_n 1, 1) := by decide +kernel
theorem dX8_end_89 : decode cX8_end 89 = .ok (.iinc 3 1, 3) := by decide +kernel
theorem dX8_end_92 : decode cX8_end 92 = .ok (.goto (-23), 3) := by decide +kernel
theorem dX8_end_95 : decode cX8_end 95 = .ok (.iconst 0, 1) := by decide +kernel
theorem dX8_end_96 : decode cX8_end 96 = .ok (.istore_n 3, 1) := by decide +kernel
theorem dX8_end_97 : decode cX8_end 97 = .ok (.iload_n 3, 1) := by decide +kernel
theorem dX8_end_98 : decode cX8_end 98 = .ok (.iconst 4, 1) := by decide +kernel
theorem dX8_end_99 : decode cX8_end 99 = .ok (.if_icmp .ge 23, 3) := by decide +kernel
theorem dX8_end_102 : decode cX8_end 102 = .ok (.aload_n 0, 1) := by decide +kernel
theorem dX8_end_103 : decode cX8_end 103 = .ok (.lload_n 1, 1) := by decide +kernel
theorem dX8_end_104 : decode cX8_end 104 = .ok (.invokevirtual 71, 3) := by decide +kernel
theorem dX8_end_107 : decode cX8_end 107 = .ok (.lload_n 1, 1) := by decide +kernel
theorem dX8_end_108 : decode cX8_end 108 = .ok (.bipush 8, 2) := by decide +kernel
theorem dX8_end_110 : decode cX8_end 110 = .ok (.lshl, 1) := by decide +kernel
theorem dX8_end_111 : decode cX8_end 111 = .ok (.ldc2_w 62, 3) := by decide +kernel
theorem dX8_end_114 : decode cX8_end 114 = .ok (.land, 1) := by decide +kernel
theorem dX8_end_115 : decode cX8_end 115 = .ok (.lstore_n 1, 1) := by decide +kernel
theorem dX8_end_116 : decode cX8_end 116 = .ok (.iinc 3 1, 3) := by decide +kernel
theorem dX8_end_119 : decode cX8_end 119 = .ok (.goto (-22), 3) := by decide +kernel
theorem dX8_end_122 : decode cX8_end 122 = .ok (.aload_n 0, 1) := by decide +kernel
theorem dX8_end_123 : decode cX8_end 123 = .ok (.getfield 40, 3) := by decide +kernel
theorem dX8_end_126 : decode cX8_end 126 = .ok (.ireturn, 1) := by decide +kernel
theorem dX8_byteAt_0 : decode cX8_byteAt 0 = .ok (.iload_n 1, 1) := by decide +kernel
theorem dX8_byteAt_1 : decode cX8_byteAt 1 = .ok (.aload_n 0, 1) := by decide +kernel
theorem dX8_byteAt_2 : decode cX8_byteAt 2 = .ok (.getfield 40, 3) := by decide +kernel
theorem dX8_byteAt_5 : decode cX8_byteAt 5 = .ok (.if_icmp .ge 12, 3) := by decide +kernel
theorem dX8_byteAt_8 : decode cX8_byteAt 8 = .ok (.aload_n 0, 1) := by decide +kernel
theorem dX8_byteAt_9 : decode cX8_byteAt 9 = .ok (.getfield 7, 3) := by decide +kernel
theorem dX8_byteAt_12 : decode cX8_byteAt 12 = .ok (.iload_n 1, 1) := by decide +kernel
theorem dX8_byteAt_13 : decode cX8_byteAt 13 = .ok (.iaload, 1) := by decide +kernel
theorem dX8_byteAt_14 : decode cX8_byteAt 14 = .ok (.goto 4, 3) := by decide +kernel
theorem dX8_byteAt_17 : decode cX8_byteAt 17 = .ok (.iconst 0, 1) := by decide +kernel
theorem dX8_byteAt_18 : decode cX8_byteAt 18 = .ok (.ireturn, 1) := by decide +kernel
theorem dX8_open_0 : decode cX8_open 0 = .ok (.aload_n 0, 1) := by decide +kernel
theorem dX8_open_1 : decode cX8_open 1 = .ok (.sipush 256, 3) := by decide +kernel
theorem dX8_open_4 : decode cX8_open 4 = .ok (.aload_n 0, 1) := by decide +kernel
theorem dX8_open_5 : decode cX8_open 5 = .ok (.iconst 0, 1) := by decide +kernel
theorem dX8_open_6 : decode cX8_open 6 = .ok (.invokevirtual 81, 3) := by decide +kernel
theorem dX8_open_9 : decode cX8_open 9 = .ok (.imul, 1) := by decide +kernel
theorem dX8_open_10 : decode cX8_open 10 = .ok (.aload_n 0, 1) := by decide +kernel
theorem dX8_open_11 : decode cX8_open 11 = .ok (.iconst 1, 1) := by decide +kernel
theorem dX8_open_12 : decode cX8_open 12 = .ok (.invokevirtual 81, 3) := by decide +kernel
theorem dX8_open_15 : decode cX8_open 15 = .ok (.iadd, 1) := by decide +kernel
theorem dX8_open_16 : decode cX8_open 16 = .ok (.putfield 85, 3) := by decide +kernel
theorem dX8_open_19 : decode cX8_open 19 = .ok (.aload_n 0, 1) := by decide +kernel
theorem dX8_open_20 : decode cX8_open 20 = .ok (.iconst 2, 1) := by decide +kernel
theorem dX8_open_21 : decode cX8_open 21 = .ok (.putfield 88, 3) := by decide +kernel
theorem dX8_open_24 : decode cX8_open 24 = .ok (.aload_n 0, 1) := by decide +kernel
theorem dX8_open_25 : decode cX8_open 25 = .ok (.sipush 255, 3) := by decide +kernel
theorem dX8_open_28 : decode cX8_open 28 = .ok (.putfield 54, 3) := by decide +kernel
theorem dX8_open_31 : decode cX8_open 31 = .ok (.aload_n 0, 1) := by decide +kernel
theorem dX8_open_32 : decode cX8_open 32 = .ok (.iconst 0, 1) := by decide +kernel
theorem dX8_open_33 : decode cX8_open 33 = .ok (.putfield 57, 3) := by decide +kernel
theorem dX8_open_36 : decode cX8_open 36 = .ok (.return_, 1) := by decide +kernel
theorem dX8_read_0 : decode cX8_read 0 = .ok (.aload_n 0, 1) := by decide +kernel
theorem dX8_read_1 : decode cX8_read 1 = .ok (.iconst 0, 1) := by decide +kernel
theorem dX8_read_2 : decode cX8_read 2 = .ok (.putfield 32, 3) := by decide +kernel
theorem dX8_read_5 : decode cX8_read 5 = .ok (.aload_n 0, 1) := by decide +kernel
theorem dX8_read_6 : decode cX8_read 6 = .ok (.iconst 2, 1) := by decide +kernel
theorem dX8_read_7 : decode cX8_read 7 = .ok (.putfield 47, 3) := by decide +kernel
theorem dX8_read_10 : decode cX8_read 10 = .ok (.aload_n 0, 1) := by decide +kernel
theorem dX8_read_11 : decode cX8_read 11 = .ok (.invokevirtual 91, 3) := by decide +kernel
theorem dX8_read_14 : decode cX8_read 14 = .ok (.return_, 1) := by decide +kernel
theorem dX8_readBit_0 : decode cX8_readBit 0 = .ok (.iconst 1, 1) := by decide +kernel
theorem dX8_readBit_1 : decode cX8_readBit 1 = .ok (.aload_n 0, 1) := by decide +kernel
theorem dX8_readBit_2 : decode cX8_readBit 2 = .ok (.getfield 54, 3) := by decide +kernel
theorem dX8_readBit_5 : decode cX8_readBit 5 = .ok (.iconst 1, 1) := by decide +kernel
theorem dX8_readBit_6 : decode cX8_readBit 6 = .ok (.isub, 1) := by decide +kernel
theorem dX8_readBit_7 : decode cX8_readBit 7 = .ok (.iload_n 1, 1) := by decide +kernel
theorem dX8_readBit_8 : decode cX8_readBit 8 = .ok (.imul, 1) := by decide +kernel
theorem dX8_readBit_9 : decode cX8_readBit 9 = .ok (.sipush 256, 3) := by decide +kernel
theorem dX8_readBit_12 : decode cX8_readBit 12 = .ok (.idiv, 1) := by decide +kernel
theorem dX8_readBit_13 : decode cX8_readBit 13 = .ok (.iadd, 1) := by decide +kernel
theorem dX8_readBit_14 : decode cX8_readBit 14 = .ok (.istore_n 2, 1) := by decide +kernel
theorem dX8_readBit_15 : decode cX8_readBit 15 = .ok (.aload_n 0, 1) := by decide +kernel
theorem dX8_readBit_16 : decode cX8_readBit 16 = .ok (.getfield 85, 3) := by decide +kernel
theorem dX8_readBit_19 : decode cX8_readBit 19 = .ok (.sipush 256, 3) := by decide +kernel
theorem dX8_readBit_22 : decode cX8_readBit 22 = .ok (.iload_n 2, 1) := by decide +kernel
theorem dX8_readBit_23 : decode cX8_readBit 23 = .ok (.imul, 1) := by decide +kernel
theorem dX8_readBit_24 : decode cX8_readBit 24 = .ok (.if_icmp .lt 7, 3) := by decide +kernel
theorem dX8_readBit_27 : decode cX8_readBit 27 = .ok (.iconst 1, 1) := by decide +kernel
theorem dX8_readBit_28 : decode cX8_readBit 28 = .ok (.goto 4, 3) := by decide +kernel
theorem dX8_readBit_31 : decode cX8_readBit 31 = .ok (.iconst 0, 1) := by decide +kernel
theorem dX8_readBit_32 : decode cX8_readBit 32 = .ok (.istore_n 3, 1) := by decide +kernel
theorem dX8_readBit_33 : decode cX8_readBit 33 = .ok (.iload_n 3, 1) := by decide +kernel
theorem dX8_readBit_34 : decode cX8_readBit 34 = .ok (.iconst 1, 1) := by decide +kernel
theorem dX8_readBit_35 : decode cX8_readBit 35 = .ok (.if_icmp .ne 30, 3) := by decide +kernel
theorem dX8_readBit_38 : decode cX8_readBit 38 = .ok (.aload_n 0, 1) := by decide +kernel
theorem dX8_readBit_39 : decode cX8_readBit 39 = .ok (.aload_n 0, 1) := by decide +kernel
theorem dX8_readBit_40 : decode cX8_readBit 40 = .ok (.getfield 54, 3) := by decide +kernel
theorem dX8_readBit_43 : decode cX8_readBit 43 = .ok (.iload_n 2, 1) := by decide +kernel
theorem dX8_readBit_44 : decode cX8_readBit 44 = .ok (.isub, 1) := by decide +kernel
theorem dX8_readBit_45 : decode cX8_readBit 45 = .ok (.putfield 54, 3) := by decide +kernel
theorem dX8_readBit_48 : decode cX8_readBit 48 = .ok (.aload_n 0, 1) := by decide +kernel
theorem dX8_readBit_49 : decode cX8_readBit 49 = .ok (.aload_n 0, 1) := by decide +kernel
theorem dX8_readBit_50 : decode cX8_readBit 50 = .ok (.getfield 85, 3) := by decide +kernel
theorem dX8_readBit_53 : decode cX8_readBit 53 = .ok (.sipush 256, 3) := by decide +kernel
theorem dX8_readBit_56 : decode cX8_readBit 56 = .ok (.iload_n 2, 1) := by decide +kernel
theorem dX8_readBit_57 : decode cX8_readBit 57 = .ok (.imul, 1) := by decide +kernel
theorem dX8_readBit_58 : decode cX8_readBit 58 = .ok (.isub, 1) := by decide +kernel
theorem dX8_readBit_59 : decode cX8_readBit 59 = .ok (.putfield 85, 3) := by decide +kernel
theorem dX8_readBit_62 : decode cX8_readBit 62 = .ok (.goto 8, 3) := by decide +kernel
theorem dX8_readBit_65 : decode cX8_readBit 65 = .ok (.aload_n 0, 1) := by decide +kernel
theorem dX8_readBit_66 : decode cX8_readBit 66 = .ok (.iload_n 2, 1) := by decide +kernel
theorem dX8_readBit_67 : decode cX8_readBit 67 = .ok (.putfield 54, 3) := by decide +kernel
theorem dX8_readBit_70 : decode cX8_readBit 70 = .ok (.aload_n 0, 1) := by decide +kernel
theorem dX8_readBit_71 : decode cX8_readBit 71 = .ok (.getfield 54, 3) := by decide +kernel
theorem dX8_readBit_74 : decode cX8_readBit 74 = .ok (.sipush 128, 3) := by decide +kernel
theorem dX8_readBit_77 : decode cX8_readBit 77 = .ok (.if_icmp .ge 77, 3) := by decide +kernel
theorem dX8_readBit_80 : decode cX8_readBit 80 = .ok (.aload_n 0, 1) := by decide +kernel
theorem dX8_readBit_81 : decode cX8_readBit 81 = .ok (.iconst 2, 1) := by decide +kernel
theorem dX8_readBit_82 : decode cX8_readBit 82 = .ok (.aload_n 0, 1) := by decide +kernel
theorem dX8_readBit_83 : decode cX8_readBit 83 = .ok (.getfield 54, 3) := by decide +kernel
theorem dX8_readBit_86 : decode cX8_readBit 86 = .ok (.imul, 1) := by decide +kernel
theorem dX8_readBit_87 : decode cX8_readBit 87 = .ok (.putfield 54, 3) := by decide +kernel
theorem dX8_readBit_90 : decode cX8_readBit 90 = .ok (.aload_n 0, 1) := by decide +kernel
theorem dX8_readBit_91 : decode cX8_readBit 91 = .ok (.iconst 2, 1) := by decide +kernel
theorem dX8_readBit_92 : decode cX8_readBit 92 = .ok (.aload_n 0, 1) := by decide +kernel
theorem dX8_readBit_93 : decode cX8_readBit 93 = .ok (.getfield 85, 3) := by decide +kernel
theorem dX8_readBit_96 : decode cX8_readBit 96 = .ok (.imul, 1) := by decide +kernel
theorem dX8_readBit_97 : decode cX8_readBit 97 = .ok (.putfield 85, 3) := by decide +kernel
theorem dX8_readBit_100 : decode cX8_readBit 100 = .ok (.aload_n 0, 1) := by decide +kernel
theorem dX8_readBit_101 : decode cX8_readBit 101 = .ok (.dup, 1) := by decide +kernel
theorem dX8_readBit_102 : decode cX8_readBit 102 = .ok (.getfield 57, 3) := by decide +kernel
theorem dX8_readBit_105 : decode cX8_readBit 105 = .ok (.iconst 1, 1) := by decide +kernel
theorem dX8_readBit_106 : decode cX8_readBit 106 = .ok (.iadd, 1) := by decide +kernel
theorem dX8_readBit_107 : decode cX8_readBit 107 = .ok (.putfield 57, 3) := by decide +kernel
theorem dX8_readBit_110 : decode cX8_readBit 110 = .ok (.aload_n 0, 1) := by decide +kernel
theorem dX8_readBit_111 : decode cX8_readBit 111 = .ok (.getfield 57, 3) := by decide +kernel
theorem dX8_readBit_114 : decode cX8_readBit 114 = .ok (.bipush 8, 2) := by decide +kernel
theorem dX8_readBit_116 : decode cX8_readBit 116 = .ok (.if_icmp .ne (-46), 3) := by decide +kernel
theorem dX8_readBit_119 : decode cX8_readBit 119 = .ok (.aload_n 0, 1) := by decide +kernel
theorem dX8_readBit_120 : decode cX8_readBit 120 = .ok (.iconst 0, 1) := by decide +kernel
theorem dX8_readBit_121 : decode cX8_readBit 121 = .ok (.putfield 57, 3) := by decide +kernel
theorem dX8_readBit_124 : decode cX8_readBit 124 = .ok (.aload_n 0, 1) := by decide +kernel
theorem dX8_readBit_125 : decode cX8_readBit 125 = .ok (.aload_n 0, 1) := by decide +kernel
theorem dX8_readBit_126 : decode cX8_readBit 126 = .ok (.getfield 85, 3) := by decide +kernel
theorem dX8_readBit_129 : decode cX8_readBit 129 = .ok (.aload_n 0, 1) := by decide +kernel
theorem dX8_readBit_130 : decode cX8_readBit 130 = .ok (.aload_n 0, 1) := by decide +kernel
theorem dX8_readBit_131 : decode cX8_readBit 131 = .ok (.getfield 88, 3) := by decide +kernel
theorem dX8_readBit_134 : decode cX8_readBit 134 = .ok (.invokevirtual 81, 3) := by decide +kernel
theorem dX8_readBit_137 : decode cX8_readBit 137 = .ok (.iadd, 1) := by decide +kernel
theorem dX8_readBit_138 : decode cX8_readBit 138 = .ok (.putfield 85, 3) := by decide +kernel
theorem dX8_readBit_141 : decode cX8_readBit 141 = .ok (.aload_n 0, 1) := by decide +kernel
theorem dX8_readBit_142 : decode cX8_readBit 142 = .ok (.dup, 1) := by decide +kernel
theorem dX8_readBit_143 : decode cX8_readBit 143 = .ok (.getfield 88, 3) := by decide +kernel
theorem dX8_readBit_146 : decode cX8_readBit 146 = .ok (.iconst 1, 1) := by decide +kernel
theorem dX8_readBit_147 : decode cX8_readBit 147 = .ok (.iadd, 1) := by decide +kernel
theorem dX8_readBit_148 : decode cX8_readBit 148 = .ok (.putfield 88, 3) := by decide +kernel
theorem dX8_readBit_151 : decode cX8_readBit 151 = .ok (.goto (-81), 3) := by decide +kernel
theorem dX8_readBit_154 : decode cX8_readBit 154 = .ok (.iload_n 3, 1) := by decide +kernel
theorem dX8_readBit_155 : decode cX8_readBit 155 = .ok (.ireturn, 1) := by decide +kernel
theorem dX8_readMany_0 : decode cX8_readMany 0 = .ok (.iconst 0, 1) := by decide +kernel
theorem dX8_readMany_1 : decode cX8_readMany 1 = .ok (.istore_n 3, 1) := by decide +kernel
theorem dX8_readMany_2 : decode cX8_readMany 2 = .ok (.iconst 0, 1) := by decide +kernel
theorem dX8_readMany_3 : decode cX8_readMany 3 = .ok (.istore 4, 2) := by decide +kernel
theorem dX8_readMany_5 : decode cX8_readMany 5 = .ok (.iload 4, 2) := by decide +kernel
theorem dX8_readMany_7 : decode cX8_readMany 7 = .ok (.iload_n 2, 1) := by decide +kernel
theorem dX8_readMany_8 : decode cX8_readMany 8 = .ok (.if_icmp .ge 19, 3) := by decide +kernel
theorem dX8_readMany_11 : decode cX8_readMany 11 = .ok (.iconst 2, 1) := by decide +kernel
theorem dX8_readMany_12 : decode cX8_readMany 12 = .ok (.iload_n 3, 1) := by decide +kernel
theorem dX8_readMany_13 : decode cX8_readMany 13 = .ok (.imul, 1) := by decide +kernel
theorem dX8_readMany_14 : decode cX8_readMany 14 = .ok (.aload_n 0, 1) := by decide +kernel
theorem dX8_readMany_15 : decode cX8_readMany 15 = .ok (.iload_n 1, 1) := by decide +kernel
theorem dX8_readMany_16 : decode cX8_readMany 16 = .ok (.invokevirtual 94, 3) := by decide +kernel
theorem dX8_readMany_19 : decode cX8_readMany 19 = .ok (.iadd, 1) := by decide +kernel
theorem dX8_readMany_20 : decode cX8_readMany 20 = .ok (.istore_n 3, 1) := by decide +kernel
theorem dX8_readMany_21 : decode cX8_readMany 21 = .ok (.iinc 4 1, 3) := by decide +kernel
theorem dX8_readMany_24 : decode cX8_readMany 24 = .ok (.goto (-19), 3) := by decide +kernel
theorem dX8_readMany_27 : decode cX8_readMany 27 = .ok (.iload_n 3, 1) := by decide +kernel
theorem dX8_readMany_28 : decode cX8_readMany 28 = .ok (.ireturn, 1) := by decide +kernel
theorem dX8_get_0 : decode cX8_get 0 = .ok (.iload_n 1, 1) := by decide +kernel
theorem dX8_get_1 : decode cX8_get 1 = .ok (.iconst 1, 1) := by decide +kernel
theorem dX8_get_2 : decode cX8_get 2 = .ok (.sipush 255, 3) := by decide +kernel
theorem dX8_get_5 : decode cX8_get 5 = .ok (.invokestatic 36, 3) := by decide +kernel
theorem dX8_get_8 : decode cX8_get 8 = .ok (.ifCond .eq 17, 3) := by decide +kernel
theorem dX8_get_11 : decode cX8_get 11 = .ok (.iload_n 2, 1) := by decide +kernel
theorem dX8_get_12 : decode cX8_get 12 = .ok (.iconst 0, 1) := by decide +kernel
theorem dX8_get_13 : decode cX8_get 13 = .ok (.bipush 32, 2) := by decide +kernel
theorem dX8_get_15 : decode cX8_get 15 = .ok (.invokestatic 36, 3) := by decide +kernel
theorem dX8_get_18 : decode cX8_get 18 = .ok (.ifCond .eq 7, 3) := by decide +kernel
theorem dX8_get_21 : decode cX8_get 21 = .ok (.iconst 1, 1) := by decide +kernel
theorem dX8_get_22 : decode cX8_get 22 = .ok (.goto 4, 3) := by decide +kernel
theorem dX8_get_25 : decode cX8_get 25 = .ok (.iconst 0, 1) := by decide +kernel
theorem dX8_get_26 : decode cX8_get 26 = .ok (.istore_n 3, 1) := by decide +kernel
theorem dX8_get_27 : decode cX8_get 27 = .ok (.aload_n 0, 1) := by decide +kernel
theorem dX8_get_28 : decode cX8_get 28 = .ok (.iload_n 3, 1) := by decide +kernel
theorem dX8_get_29 : decode cX8_get 29 = .ok (.ifCond .ne 7, 3) := by decide +kernel
theorem dX8_get_32 : decode cX8_get 32 = .ok (.iconst 1, 1) := by decide +kernel
theorem dX8_get_33 : decode cX8_get 33 = .ok (.goto 16, 3) := by decide +kernel
theorem dX8_get_36 : decode cX8_get 36 = .ok (.aload_n 0, 1) := by decide +kernel
theorem dX8_get_37 : decode cX8_get 37 = .ok (.getfield 47, 3) := by decide +kernel
theorem dX8_get_40 : decode cX8_get 40 = .ok (.iconst 2, 1) := by decide +kernel
theorem dX8_get_41 : decode cX8_get 41 = .ok (.if_icmp .eq 7, 3) := by decide +kernel
theorem dX8_get_44 : decode cX8_get 44 = .ok (.iconst 2, 1) := by decide +kernel
theorem dX8_get_45 : decode cX8_get 45 = .ok (.goto 4, 3) := by decide +kernel
theorem dX8_get_48 : decode cX8_get 48 = .ok (.iconst 0, 1) := by decide +kernel
theorem dX8_get_49 : decode cX8_get 49 = .ok (.invokevirtual 43, 3) := by decide +kernel
theorem dX8_get_52 : decode cX8_get 52 = .ok (.ifCond .eq 5, 3) := by decide +kernel
theorem dX8_get_55 : decode cX8_get 55 = .ok (.iconst 0, 1) := by decide +kernel
theorem dX8_get_56 : decode cX8_get 56 = .ok (.ireturn, 1) := by decide +kernel
theorem dX8_get_57 : decode cX8_get 57 = .ok (.aload_n 0, 1) := by decide +kernel
theorem dX8_get_58 : decode cX8_get 58 = .ok (.iload_n 1, 1) := by decide +kernel
theorem dX8_get_59 : decode cX8_get 59 = .ok (.iload_n 2, 1) := by decide +kernel
theorem dX8_get_60 : decode cX8_get 60 = .ok (.invokevirtual 97, 3) := by decide +kernel
theorem dX8_get_63 : decode cX8_get 63 = .ok (.ireturn, 1) := by decide +kernel
theorem dX8_band_0 : decode cX8_band 0 = .ok (.iload_n 0, 1) := by decide +kernel
theorem dX8_band_1 : decode cX8_band 1 = .ok (.iconst 4, 1) := by decide +kernel
theorem dX8_band_2 : decode cX8_band 2 = .ok (.if_icmp .ge 7, 3) := by decide +kernel
theorem dX8_band_5 : decode cX8_band 5 = .ok (.iload_n 0, 1) := by decide +kernel
theorem dX8_band_6 : decode cX8_band 6 = .ok (.goto 35, 3) := by decide +kernel
theorem dX8_band_9 : decode cX8_band 9 = .ok (.iload_n 0, 1) := by decide +kernel
theorem dX8_band_10 : decode cX8_band 10 = .ok (.iconst 5, 1) := by decide +kernel
theorem dX8_band_11 : decode cX8_band 11 = .ok (.if_icmp .ne 7, 3) := by decide +kernel
theorem dX8_band_14 : decode cX8_band 14 = .ok (.iconst 4, 1) := by decide +kernel
theorem dX8_band_15 : decode cX8_band 15 = .ok (.goto 26, 3) := by decide +kernel
theorem dX8_band_18 : decode cX8_band 18 = .ok (.iload_n 0, 1) := by decide +kernel
theorem dX8_band_19 : decode cX8_band 19 = .ok (.bipush 6, 2) := by decide +kernel
theorem dX8_band_21 : decode cX8_band 21 = .ok (.if_icmp .ne 7, 3) := by decide +kernel
theorem dX8_band_24 : decode cX8_band 24 = .ok (.iconst 5, 1) := by decide +kernel
theorem dX8_band_25 : decode cX8_band 25 = .ok (.goto 16, 3) := by decide +kernel
theorem dX8_band_28 : decode cX8_band 28 = .ok (.iload_n 0, 1) := by decide +kernel
theorem dX8_band_29 : decode cX8_band 29 = .ok (.bipush 15, 2) := by decide +kernel
theorem dX8_band_31 : decode cX8_band 31 = .ok (.if_icmp .ne 8, 3) := by decide +kernel
theorem dX8_band_34 : decode cX8_band 34 = .ok (.bipush 7, 2) := by decide +kernel
theorem dX8_band_36 : decode cX8_band 36 = .ok (.goto 5, 3) := by decide +kernel
theorem dX8_band_39 : decode cX8_band 39 = .ok (.bipush 6, 2) := by decide +kernel
theorem dX8_band_41 : decode cX8_band 41 = .ok (.ireturn, 1) := by decide +kernel
theorem dX8_spot_0 : decode cX8_spot 0 = .ok (.iload_n 0, 1) := by decide +kernel
theorem dX8_spot_1 : decode cX8_spot 1 = .ok (.tableswitch 113 0 15 #[79, 79, 81, 83, 86, 88, 90, 92, 95, 98, 101, 104, 107, 110, 113, 79], 79) := by decide +kernel
theorem dX8_spot_80 : decode cX8_spot 80 = .ok (.iload_n 0, 1) := by decide +kernel
theorem dX8_spot_81 : decode cX8_spot 81 = .ok (.ireturn, 1) := by decide +kernel
theorem dX8_spot_82 : decode cX8_spot 82 = .ok (.iconst 4, 1) := by decide +kernel
theorem dX8_spot_83 : decode cX8_spot 83 = .ok (.ireturn, 1) := by decide +kernel
theorem dX8_spot_84 : decode cX8_spot 84 = .ok (.bipush 8, 2) := by decide +kernel
theorem dX8_spot_86 : decode cX8_spot 86 = .ok (.ireturn, 1) := by decide +kernel
theorem dX8_spot_87 : decode cX8_spot 87 = .ok (.iconst 5, 1) := by decide +kernel
theorem dX8_spot_88 : decode cX8_spot 88 = .ok (.ireturn, 1) := by decide +kernel
theorem dX8_spot_89 : decode cX8_spot 89 = .ok (.iconst 2, 1) := by decide +kernel
theorem dX8_spot_90 : decode cX8_spot 90 = .ok (.ireturn, 1) := by decide +kernel
theorem dX8_spot_91 : decode cX8_spot 91 = .ok (.iconst 3, 1) := by decide +kernel
theorem dX8_spot_92 : decode cX8_spot 92 = .ok (.ireturn, 1) := by decide +kernel
theorem dX8_spot_93 : decode cX8_spot 93 = .ok (.bipush 6, 2) := by decide +kernel
theorem dX8_spot_95 : decode cX8_spot 95 = .ok (.ireturn, 1) := by decide +kernel
theorem dX8_spot_96 : decode cX8_spot 96 = .ok (.bipush 9, 2) := by decide +kernel
theorem dX8_spot_98 : decode cX8_spot 98 = .ok (.ireturn, 1) := by decide +kernel
theorem dX8_spot_99 : decode cX8_spot 99 = .ok (.bipush 12, 2) := by decide +kernel
theorem dX8_spot_101 : decode cX8_spot 101 = .ok (.ireturn, 1) := by decide +kernel
theorem dX8_spot_102 : decode cX8_spot 102 = .ok (.bipush 13, 2) := by decide +kernel
theorem dX8_spot_104 : decode cX8_spot 104 = .ok (.ireturn, 1) := by decide +kernel
theorem dX8_spot_105 : decode cX8_spot 105 = .ok (.bipush 10, 2) := by decide +kernel
theorem dX8_spot_107 : decode cX8_spot 107 = .ok (.ireturn, 1) := by decide +kernel
theorem dX8_spot_108 : decode cX8_spot 108 = .ok (.bipush 7, 2) := by decide +kernel
theorem dX8_spot_110 : decode cX8_spot 110 = .ok (.ireturn, 1) := by decide +kernel
theorem dX8_spot_111 : decode cX8_spot 111 = .ok (.bipush 11, 2) := by decide +kernel
theorem dX8_spot_113 : decode cX8_spot 113 = .ok (.ireturn, 1) := by decide +kernel
theorem dX8_spot_114 : decode cX8_spot 114 = .ok (.bipush 14, 2) := by decide +kernel
theorem dX8_spot_116 : decode cX8_spot 116 = .ok (.ireturn, 1) := by decide +kernel
theorem dX8_last_0 : decode cX8_last 0 = .ok (.iload_n 0, 1) := by decide +kernel
theorem dX8_last_1 : decode cX8_last 1 = .ok (.tableswitch 91 0 9 #[55, 55, 59, 63, 67, 71, 75, 79, 83, 87], 55) := by decide +kernel
theorem dX8_last_56 : decode cX8_last 56 = .ok (.sipush 254, 3) := by decide +kernel
theorem dX8_last_59 : decode cX8_last 59 = .ok (.ireturn, 1) := by decide +kernel
theorem dX8_last_60 : decode cX8_last 60 = .ok (.sipush 243, 3) := by decide +kernel
theorem dX8_last_63 : decode cX8_last 63 = .ok (.ireturn, 1) := by decide +kernel
theorem dX8_last_64 : decode cX8_last 64 = .ok (.sipush 230, 3) := by decide +kernel
theorem dX8_last_67 : decode cX8_last 67 = .ok (.ireturn, 1) := by decide +kernel
theorem dX8_last_68 : decode cX8_last 68 = .ok (.sipush 196, 3) := by decide +kernel
theorem dX8_last_71 : decode cX8_last 71 = .ok (.ireturn, 1) := by decide +kernel
theorem dX8_last_72 : decode cX8_last 72 = .ok (.sipush 177, 3) := by decide +kernel
theorem dX8_last_75 : decode cX8_last 75 = .ok (.ireturn, 1) := by decide +kernel
theorem dX8_last_76 : decode cX8_last 76 = .ok (.sipush 153, 3) := by decide +kernel
theorem dX8_last_79 : decode cX8_last 79 = .ok (.ireturn, 1) := by decide +kernel
theorem dX8_last_80 : decode cX8_last 80 = .ok (.sipush 140, 3) := by decide +kernel
theorem dX8_last_83 : decode cX8_last 83 = .ok (.ireturn, 1) := by decide +kernel
theorem dX8_last_84 : decode cX8_last 84 = .ok (.sipush 133, 3) := by decide +kernel
theorem dX8_last_87 : decode cX8_last 87 = .ok (.ireturn, 1) := by decide +kernel
theorem dX8_last_88 : decode cX8_last 88 = .ok (.sipush 130, 3) := by decide +kernel
theorem dX8_last_91 : decode cX8_last 91 = .ok (.ireturn, 1) := by decide +kernel
theorem dX8_last_92 : decode cX8_last 92 = .ok (.sipush 129, 3) := by decide +kernel
theorem dX8_last_95 : decode cX8_last 95 = .ok (.ireturn, 1) := by decide +kernel
theorem dX8_added_0 : decode cX8_added 0 = .ok (.iconst 0, 1) := by decide +kernel
theorem dX8_added_1 : decode cX8_added 1 = .ok (.istore 5, 2) := by decide +kernel
theorem dX8_added_3 : decode cX8_added 3 = .ok (.iload 4, 2) := by decide +kernel
theorem dX8_added_5 : decode cX8_added 5 = .ok (.iconst 1, 1) := by decide +kernel
theorem dX8_added_6 : decode cX8_added 6 = .ok (.isub, 1) := by decide +kernel
theorem dX8_added_7 : decode cX8_added 7 = .ok (.istore 6, 2) := by decide +kernel
theorem dX8_added_9 : decode cX8_added 9 = .ok (.iload 6, 2) := by decide +kernel
theorem dX8_added_11 : decode cX8_added 11 = .ok (.ifCond .lt 32, 3) := by decide +kernel
theorem dX8_added_14 : decode cX8_added 14 = .ok (.iconst 2, 1) := by decide +kernel
theorem dX8_added_15 : decode cX8_added 15 = .ok (.iload 5, 2) := by decide +kernel
theorem dX8_added_17 : decode cX8_added 17 = .ok (.imul, 1) := by decide +kernel
theorem dX8_added_18 : decode cX8_added 18 = .ok (.aload_n 0, 1) := by decide +kernel
theorem dX8_added_19 : decode cX8_added 19 = .ok (.lload_n 2, 1) := by decide +kernel
theorem dX8_added_20 : decode cX8_added 20 = .ok (.bipush 8, 2) := by decide +kernel
theorem dX8_added_22 : decode cX8_added 22 = .ok (.iload 6, 2) := by decide +kernel
theorem dX8_added_24 : decode cX8_added 24 = .ok (.imul, 1) := by decide +kernel
theorem dX8_added_25 : decode cX8_added 25 = .ok (.lshr, 1) := by decide +kernel
theorem dX8_added_26 : decode cX8_added 26 = .ok (.ldc2_w 60, 3) := by decide +kernel
theorem dX8_added_29 : decode cX8_added 29 = .ok (.land, 1) := by decide +kernel
theorem dX8_added_30 : decode cX8_added 30 = .ok (.l2i, 1) := by decide +kernel
theorem dX8_added_31 : decode cX8_added 31 = .ok (.invokevirtual 94, 3) := by decide +kernel
theorem dX8_added_34 : decode cX8_added 34 = .ok (.iadd, 1) := by decide +kernel
theorem dX8_added_35 : decode cX8_added 35 = .ok (.istore 5, 2) := by decide +kernel
theorem dX8_added_37 : decode cX8_added 37 = .ok (.iinc 6 (-1), 3) := by decide +kernel
theorem dX8_added_40 : decode cX8_added 40 = .ok (.goto (-31), 3) := by decide +kernel
theorem dX8_added_43 : decode cX8_added 43 = .ok (.iload_n 1, 1) := by decide +kernel
theorem dX8_added_44 : decode cX8_added 44 = .ok (.iload 5, 2) := by decide +kernel
theorem dX8_added_46 : decode cX8_added 46 = .ok (.iadd, 1) := by decide +kernel
theorem dX8_added_47 : decode cX8_added 47 = .ok (.ireturn, 1) := by decide +kernel
theorem dX8_tell_0 : decode cX8_tell 0 = .ok (.aload_n 0, 1) := by decide +kernel
theorem dX8_tell_1 : decode cX8_tell 1 = .ok (.aload_n 0, 1) := by decide +kernel
theorem dX8_tell_2 : decode cX8_tell 2 = .ok (.getfield 13, 3) := by decide +kernel
theorem dX8_tell_5 : decode cX8_tell 5 = .ok (.iload_n 1, 1) := by decide +kernel
theorem dX8_tell_6 : decode cX8_tell 6 = .ok (.iload_n 2, 1) := by decide +kernel
theorem dX8_tell_7 : decode cX8_tell 7 = .ok (.iadd, 1) := by decide +kernel
theorem dX8_tell_8 : decode cX8_tell 8 = .ok (.iaload, 1) := by decide +kernel
theorem dX8_tell_9 : decode cX8_tell 9 = .ok (.invokevirtual 94, 3) := by decide +kernel
theorem dX8_tell_12 : decode cX8_tell 12 = .ok (.ireturn, 1) := by decide +kernel
theorem dX8_large_0 : decode cX8_large 0 = .ok (.aload_n 0, 1) := by decide +kernel
theorem dX8_large_1 : decode cX8_large 1 = .ok (.iload_n 1, 1) := by decide +kernel
theorem dX8_large_2 : decode cX8_large 2 = .ok (.bipush 6, 2) := by decide +kernel
theorem dX8_large_4 : decode cX8_large 4 = .ok (.invokevirtual 101, 3) := by decide +kernel
theorem dX8_large_7 : decode cX8_large 7 = .ok (.ifCond .ne 36, 3) := by decide +kernel
theorem dX8_large_10 : decode cX8_large 10 = .ok (.aload_n 0, 1) := by decide +kernel
theorem dX8_large_11 : decode cX8_large 11 = .ok (.iload_n 1, 1) := by decide +kernel
theorem dX8_large_12 : decode cX8_large 12 = .ok (.bipush 7, 2) := by decide +kernel
theorem dX8_large_14 : decode cX8_large 14 = .ok (.invokevirtual 101, 3) := by decide +kernel
theorem dX8_large_17 : decode cX8_large 17 = .ok (.ifCond .ne 15, 3) := by decide +kernel
theorem dX8_large_20 : decode cX8_large 20 = .ok (.aload_n 0, 1) := by decide +kernel
theorem dX8_large_21 : decode cX8_large 21 = .ok (.iconst 5, 1) := by decide +kernel
theorem dX8_large_22 : decode cX8_large 22 = .ok (.ldc2_w 104, 3) := by decide +kernel
theorem dX8_large_25 : decode cX8_large 25 = .ok (.iconst 1, 1) := by decide +kernel
theorem dX8_large_26 : decode cX8_large 26 = .ok (.invokevirtual 106, 3) := by decide +kernel
theorem dX8_large_29 : decode cX8_large 29 = .ok (.goto 13, 3) := by decide +kernel
theorem dX8_large_32 : decode cX8_large 32 = .ok (.aload_n 0, 1) := by decide +kernel
theorem dX8_large_33 : decode cX8_large 33 = .ok (.bipush 7, 2) := by decide +kernel
theorem dX8_large_35 : decode cX8_large 35 = .ok (.ldc2_w 110, 3) := by decide +kernel
theorem dX8_large_38 : decode cX8_large 38 = .ok (.iconst 2, 1) := by decide +kernel
theorem dX8_large_39 : decode cX8_large 39 = .ok (.invokevirtual 106, 3) := by decide +kernel
theorem dX8_large_42 : decode cX8_large 42 = .ok (.ireturn, 1) := by decide +kernel
theorem dX8_large_43 : decode cX8_large 43 = .ok (.aload_n 0, 1) := by decide +kernel
theorem dX8_large_44 : decode cX8_large 44 = .ok (.iload_n 1, 1) := by decide +kernel
theorem dX8_large_45 : decode cX8_large 45 = .ok (.bipush 8, 2) := by decide +kernel
theorem dX8_large_47 : decode cX8_large 47 = .ok (.invokevirtual 101, 3) := by decide +kernel
theorem dX8_large_50 : decode cX8_large 50 = .ok (.ifCond .ne 37, 3) := by decide +kernel
theorem dX8_large_53 : decode cX8_large 53 = .ok (.aload_n 0, 1) := by decide +kernel
theorem dX8_large_54 : decode cX8_large 54 = .ok (.iload_n 1, 1) := by decide +kernel
theorem dX8_large_55 : decode cX8_large 55 = .ok (.bipush 9, 2) := by decide +kernel
theorem dX8_large_57 : decode cX8_large 57 = .ok (.invokevirtual 101, 3) := by decide +kernel
theorem dX8_large_60 : decode cX8_large 60 = .ok (.ifCond .ne 16, 3) := by decide +kernel
theorem dX8_large_63 : decode cX8_large 63 = .ok (.aload_n 0, 1) := by decide +kernel
theorem dX8_large_64 : decode cX8_large 64 = .ok (.bipush 11, 2) := by decide +kernel
theorem dX8_large_66 : decode cX8_large 66 = .ok (.ldc2_w 112, 3) := by decide +kernel
theorem dX8_large_69 : decode cX8_large 69 = .ok (.iconst 3, 1) := by decide +kernel
theorem dX8_large_70 : decode cX8_large 70 = .ok (.invokevirtual 106, 3) := by decide +kernel
theorem dX8_large_73 : decode cX8_large 73 = .ok (.goto 13, 3) := by decide +kernel
theorem dX8_large_76 : decode cX8_large 76 = .ok (.aload_n 0, 1) := by decide +kernel
theorem dX8_large_77 : decode cX8_large 77 = .ok (.bipush 19, 2) := by decide +kernel
theorem dX8_large_79 : decode cX8_large 79 = .ok (.ldc2_w 114, 3) := by decide +kernel
theorem dX8_large_82 : decode cX8_large 82 = .ok (.iconst 4, 1) := by decide +kernel
theorem dX8_large_83 : decode cX8_large 83 = .ok (.invokevirtual 106, 3) := by decide +kernel
theorem dX8_large_86 : decode cX8_large 86 = .ok (.ireturn, 1) := by decide +kernel
theorem dX8_large_87 : decode cX8_large 87 = .ok (.aload_n 0, 1) := by decide +kernel
theorem dX8_large_88 : decode cX8_large 88 = .ok (.iload_n 1, 1) := by decide +kernel
theorem dX8_large_89 : decode cX8_large 89 = .ok (.bipush 10, 2) := by decide +kernel
theorem dX8_large_91 : decode cX8_large 91 = .ok (.invokevirtual 101, 3) := by decide +kernel
theorem dX8_large_94 : decode cX8_large 94 = .ok (.ifCond .ne 14, 3) := by decide +kernel
theorem dX8_large_97 : decode cX8_large 97 = .ok (.aload_n 0, 1) := by decide +kernel
theorem dX8_large_98 : decode cX8_large 98 = .ok (.bipush 35, 2) := by decide +kernel
theorem dX8_large_100 : decode cX8_large 100 = .ok (.ldc2_w 116, 3) := by decide +kernel
theorem dX8_large_103 : decode cX8_large 103 = .ok (.iconst 5, 1) := by decide +kernel
theorem dX8_large_104 : decode cX8_large 104 = .ok (.invokevirtual 106, 3) := by decide +kernel
theorem dX8_large_107 : decode cX8_large 107 = .ok (.ireturn, 1) := by decide +kernel
theorem dX8_large_108 : decode cX8_large 108 = .ok (.iconst 0, 1) := by decide +kernel
theorem dX8_large_109 : decode cX8_large 109 = .ok (.istore_n 2, 1) := by decide +kernel
theorem dX8_large_110 : decode cX8_large 110 = .ok (.iconst 0, 1) := by decide +kernel
theorem dX8_large_111 : decode cX8_large 111 = .ok (.istore_n 3, 1) := by decide +kernel
theorem dX8_large_112 : decode cX8_large 112 = .ok (.iload_n 3, 1) := by decide +kernel
theorem dX8_large_113 : decode cX8_large 113 = .ok (.bipush 11, 2) := by decide +kernel
theorem dX8_large_115 : decode cX8_large 115 = .ok (.if_icmp .ge 22, 3) := by decide +kernel
theorem dX8_large_118 : decode cX8_large 118 = .ok (.iconst 2, 1) := by decide +kernel
theorem dX8_large_119 : decode cX8_large 119 = .ok (.iload_n 2, 1) := by decide +kernel
theorem dX8_large_120 : decode cX8_large 120 = .ok (.imul, 1) := by decide +kernel
theorem dX8_large_121 : decode cX8_large 121 = .ok (.aload_n 0, 1) := by decide +kernel
theorem dX8_large_122 : decode cX8_large 122 = .ok (.iload_n 3, 1) := by decide +kernel
theorem dX8_large_123 : decode cX8_large 123 = .ok (.invokestatic 118, 3) := by decide +kernel
