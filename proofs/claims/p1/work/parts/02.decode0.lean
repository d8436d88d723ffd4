theorem dX0_init_0 : decode cX0_init 0 = .ok (.aload_n 0, 1) := by decide +kernel
theorem dX0_init_1 : decode cX0_init 1 = .ok (.invokespecial 1, 3) := by decide +kernel
theorem dX0_init_4 : decode cX0_init 4 = .ok (.aload_n 0, 1) := by decide +kernel
theorem dX0_init_5 : decode cX0_init 5 = .ok (.aload_n 1, 1) := by decide +kernel
theorem dX0_init_6 : decode cX0_init 6 = .ok (.putfield 7, 3) := by decide +kernel
theorem dX0_init_9 : decode cX0_init 9 = .ok (.aload_n 0, 1) := by decide +kernel
theorem dX0_init_10 : decode cX0_init 10 = .ok (.iconst 0, 1) := by decide +kernel
theorem dX0_init_11 : decode cX0_init 11 = .ok (.putfield 13, 3) := by decide +kernel
theorem dX0_init_14 : decode cX0_init 14 = .ok (.aload_n 0, 1) := by decide +kernel
theorem dX0_init_15 : decode cX0_init 15 = .ok (.sipush 255, 3) := by decide +kernel
theorem dX0_init_18 : decode cX0_init 18 = .ok (.putfield 17, 3) := by decide +kernel
theorem dX0_init_21 : decode cX0_init 21 = .ok (.aload_n 0, 1) := by decide +kernel
theorem dX0_init_22 : decode cX0_init 22 = .ok (.iconst 0, 1) := by decide +kernel
theorem dX0_init_23 : decode cX0_init 23 = .ok (.putfield 20, 3) := by decide +kernel
theorem dX0_init_26 : decode cX0_init 26 = .ok (.aload_n 0, 1) := by decide +kernel
theorem dX0_init_27 : decode cX0_init 27 = .ok (.iconst 0, 1) := by decide +kernel
theorem dX0_init_28 : decode cX0_init 28 = .ok (.putfield 23, 3) := by decide +kernel
theorem dX0_init_31 : decode cX0_init 31 = .ok (.return_, 1) := by decide +kernel
theorem dX0_start_0 : decode cX0_start 0 = .ok (.aload_n 0, 1) := by decide +kernel
theorem dX0_start_1 : decode cX0_start 1 = .ok (.aload_n 0, 1) := by decide +kernel
theorem dX0_start_2 : decode cX0_start 2 = .ok (.getfield 7, 3) := by decide +kernel
theorem dX0_start_5 : decode cX0_start 5 = .ok (.iconst 0, 1) := by decide +kernel
theorem dX0_start_6 : decode cX0_start 6 = .ok (.invokevirtual 26, 3) := by decide +kernel
theorem dX0_start_9 : decode cX0_start 9 = .ok (.bipush 8, 2) := by decide +kernel
theorem dX0_start_11 : decode cX0_start 11 = .ok (.ishl, 1) := by decide +kernel
theorem dX0_start_12 : decode cX0_start 12 = .ok (.aload_n 0, 1) := by decide +kernel
theorem dX0_start_13 : decode cX0_start 13 = .ok (.getfield 7, 3) := by decide +kernel
theorem dX0_start_16 : decode cX0_start 16 = .ok (.iconst 1, 1) := by decide +kernel
theorem dX0_start_17 : decode cX0_start 17 = .ok (.invokevirtual 26, 3) := by decide +kernel
theorem dX0_start_20 : decode cX0_start 20 = .ok (.iadd, 1) := by decide +kernel
theorem dX0_start_21 : decode cX0_start 21 = .ok (.putfield 13, 3) := by decide +kernel
theorem dX0_start_24 : decode cX0_start 24 = .ok (.aload_n 0, 1) := by decide +kernel
theorem dX0_start_25 : decode cX0_start 25 = .ok (.sipush 255, 3) := by decide +kernel
theorem dX0_start_28 : decode cX0_start 28 = .ok (.putfield 17, 3) := by decide +kernel
theorem dX0_start_31 : decode cX0_start 31 = .ok (.aload_n 0, 1) := by decide +kernel
theorem dX0_start_32 : decode cX0_start 32 = .ok (.iconst 0, 1) := by decide +kernel
theorem dX0_start_33 : decode cX0_start 33 = .ok (.putfield 20, 3) := by decide +kernel
theorem dX0_start_36 : decode cX0_start 36 = .ok (.aload_n 0, 1) := by decide +kernel
theorem dX0_start_37 : decode cX0_start 37 = .ok (.iconst 2, 1) := by decide +kernel
theorem dX0_start_38 : decode cX0_start 38 = .ok (.putfield 23, 3) := by decide +kernel
theorem dX0_start_41 : decode cX0_start 41 = .ok (.return_, 1) := by decide +kernel
theorem dX0_readBit_0 : decode cX0_readBit 0 = .ok (.aload_n 0, 1) := by decide +kernel
theorem dX0_readBit_1 : decode cX0_readBit 1 = .ok (.getfield 17, 3) := by decide +kernel
theorem dX0_readBit_4 : decode cX0_readBit 4 = .ok (.iload_n 1, 1) := by decide +kernel
theorem dX0_readBit_5 : decode cX0_readBit 5 = .ok (.invokestatic 32, 3) := by decide +kernel
theorem dX0_readBit_8 : decode cX0_readBit 8 = .ok (.istore_n 2, 1) := by decide +kernel
theorem dX0_readBit_9 : decode cX0_readBit 9 = .ok (.aload_n 0, 1) := by decide +kernel
theorem dX0_readBit_10 : decode cX0_readBit 10 = .ok (.getfield 13, 3) := by decide +kernel
theorem dX0_readBit_13 : decode cX0_readBit 13 = .ok (.iload_n 2, 1) := by decide +kernel
theorem dX0_readBit_14 : decode cX0_readBit 14 = .ok (.bipush 8, 2) := by decide +kernel
theorem dX0_readBit_16 : decode cX0_readBit 16 = .ok (.ishl, 1) := by decide +kernel
theorem dX0_readBit_17 : decode cX0_readBit 17 = .ok (.if_icmp .lt 7, 3) := by decide +kernel
theorem dX0_readBit_20 : decode cX0_readBit 20 = .ok (.iconst 1, 1) := by decide +kernel
theorem dX0_readBit_21 : decode cX0_readBit 21 = .ok (.goto 4, 3) := by decide +kernel
theorem dX0_readBit_24 : decode cX0_readBit 24 = .ok (.iconst 0, 1) := by decide +kernel
theorem dX0_readBit_25 : decode cX0_readBit 25 = .ok (.istore_n 3, 1) := by decide +kernel
theorem dX0_readBit_26 : decode cX0_readBit 26 = .ok (.iload_n 3, 1) := by decide +kernel
theorem dX0_readBit_27 : decode cX0_readBit 27 = .ok (.iconst 1, 1) := by decide +kernel
theorem dX0_readBit_28 : decode cX0_readBit 28 = .ok (.if_icmp .ne 29, 3) := by decide +kernel
theorem dX0_readBit_31 : decode cX0_readBit 31 = .ok (.aload_n 0, 1) := by decide +kernel
theorem dX0_readBit_32 : decode cX0_readBit 32 = .ok (.dup, 1) := by decide +kernel
theorem dX0_readBit_33 : decode cX0_readBit 33 = .ok (.getfield 17, 3) := by decide +kernel
theorem dX0_readBit_36 : decode cX0_readBit 36 = .ok (.iload_n 2, 1) := by decide +kernel
theorem dX0_readBit_37 : decode cX0_readBit 37 = .ok (.isub, 1) := by decide +kernel
theorem dX0_readBit_38 : decode cX0_readBit 38 = .ok (.putfield 17, 3) := by decide +kernel
theorem dX0_readBit_41 : decode cX0_readBit 41 = .ok (.aload_n 0, 1) := by decide +kernel
theorem dX0_readBit_42 : decode cX0_readBit 42 = .ok (.dup, 1) := by decide +kernel
theorem dX0_readBit_43 : decode cX0_readBit 43 = .ok (.getfield 13, 3) := by decide +kernel
theorem dX0_readBit_46 : decode cX0_readBit 46 = .ok (.iload_n 2, 1) := by decide +kernel
theorem dX0_readBit_47 : decode cX0_readBit 47 = .ok (.bipush 8, 2) := by decide +kernel
theorem dX0_readBit_49 : decode cX0_readBit 49 = .ok (.ishl, 1) := by decide +kernel
theorem dX0_readBit_50 : decode cX0_readBit 50 = .ok (.isub, 1) := by decide +kernel
theorem dX0_readBit_51 : decode cX0_readBit 51 = .ok (.putfield 13, 3) := by decide +kernel
theorem dX0_readBit_54 : decode cX0_readBit 54 = .ok (.goto 8, 3) := by decide +kernel
theorem dX0_readBit_57 : decode cX0_readBit 57 = .ok (.aload_n 0, 1) := by decide +kernel
theorem dX0_readBit_58 : decode cX0_readBit 58 = .ok (.iload_n 2, 1) := by decide +kernel
theorem dX0_readBit_59 : decode cX0_readBit 59 = .ok (.putfield 17, 3) := by decide +kernel
theorem dX0_readBit_62 : decode cX0_readBit 62 = .ok (.iconst 0, 1) := by decide +kernel
theorem dX0_readBit_63 : decode cX0_readBit 63 = .ok (.istore 4, 2) := by decide +kernel
theorem dX0_readBit_65 : decode cX0_readBit 65 = .ok (.iload 4, 2) := by decide +kernel
theorem dX0_readBit_67 : decode cX0_readBit 67 = .ok (.bipush 7, 2) := by decide +kernel
theorem dX0_readBit_69 : decode cX0_readBit 69 = .ok (.if_icmp .ge 98, 3) := by decide +kernel
theorem dX0_readBit_72 : decode cX0_readBit 72 = .ok (.aload_n 0, 1) := by decide +kernel
theorem dX0_readBit_73 : decode cX0_readBit 73 = .ok (.getfield 17, 3) := by decide +kernel
theorem dX0_readBit_76 : decode cX0_readBit 76 = .ok (.sipush 128, 3) := by decide +kernel
theorem dX0_readBit_79 : decode cX0_readBit 79 = .ok (.if_icmp .ge 88, 3) := by decide +kernel
theorem dX0_readBit_82 : decode cX0_readBit 82 = .ok (.aload_n 0, 1) := by decide +kernel
theorem dX0_readBit_83 : decode cX0_readBit 83 = .ok (.dup, 1) := by decide +kernel
theorem dX0_readBit_84 : decode cX0_readBit 84 = .ok (.getfield 17, 3) := by decide +kernel
theorem dX0_readBit_87 : decode cX0_readBit 87 = .ok (.iconst 1, 1) := by decide +kernel
theorem dX0_readBit_88 : decode cX0_readBit 88 = .ok (.ishl, 1) := by decide +kernel
theorem dX0_readBit_89 : decode cX0_readBit 89 = .ok (.putfield 17, 3) := by decide +kernel
theorem dX0_readBit_92 : decode cX0_readBit 92 = .ok (.aload_n 0, 1) := by decide +kernel
theorem dX0_readBit_93 : decode cX0_readBit 93 = .ok (.aload_n 0, 1) := by decide +kernel
theorem dX0_readBit_94 : decode cX0_readBit 94 = .ok (.getfield 13, 3) := by decide +kernel
theorem dX0_readBit_97 : decode cX0_readBit 97 = .ok (.iconst 1, 1) := by decide +kernel
theorem dX0_readBit_98 : decode cX0_readBit 98 = .ok (.ishl, 1) := by decide +kernel
theorem dX0_readBit_99 : decode cX0_readBit 99 = .ok (.ldc 38, 2) := by decide +kernel
theorem dX0_readBit_101 : decode cX0_readBit 101 = .ok (.invokestatic 39, 3) := by decide +kernel
theorem dX0_readBit_104 : decode cX0_readBit 104 = .ok (.putfield 13, 3) := by decide +kernel
theorem dX0_readBit_107 : decode cX0_readBit 107 = .ok (.aload_n 0, 1) := by decide +kernel
theorem dX0_readBit_108 : decode cX0_readBit 108 = .ok (.dup, 1) := by decide +kernel
theorem dX0_readBit_109 : decode cX0_readBit 109 = .ok (.getfield 20, 3) := by decide +kernel
theorem dX0_readBit_112 : decode cX0_readBit 112 = .ok (.iconst 1, 1) := by decide +kernel
theorem dX0_readBit_113 : decode cX0_readBit 113 = .ok (.iadd, 1) := by decide +kernel
theorem dX0_readBit_114 : decode cX0_readBit 114 = .ok (.putfield 20, 3) := by decide +kernel
theorem dX0_readBit_117 : decode cX0_readBit 117 = .ok (.aload_n 0, 1) := by decide +kernel
theorem dX0_readBit_118 : decode cX0_readBit 118 = .ok (.getfield 20, 3) := by decide +kernel
theorem dX0_readBit_121 : decode cX0_readBit 121 = .ok (.bipush 8, 2) := by decide +kernel
theorem dX0_readBit_123 : decode cX0_readBit 123 = .ok (.if_icmp .ne 38, 3) := by decide +kernel
theorem dX0_readBit_126 : decode cX0_readBit 126 = .ok (.aload_n 0, 1) := by decide +kernel
theorem dX0_readBit_127 : decode cX0_readBit 127 = .ok (.iconst 0, 1) := by decide +kernel
theorem dX0_readBit_128 : decode cX0_readBit 128 = .ok (.putfield 20, 3) := by decide +kernel
theorem dX0_readBit_131 : decode cX0_readBit 131 = .ok (.aload_n 0, 1) := by decide +kernel
theorem dX0_readBit_132 : decode cX0_readBit 132 = .ok (.dup, 1) := by decide +kernel
theorem dX0_readBit_133 : decode cX0_readBit 133 = .ok (.getfield 13, 3) := by decide +kernel
theorem dX0_readBit_136 : decode cX0_readBit 136 = .ok (.aload_n 0, 1) := by decide +kernel
theorem dX0_readBit_137 : decode cX0_readBit 137 = .ok (.getfield 7, 3) := by decide +kernel
theorem dX0_readBit_140 : decode cX0_readBit 140 = .ok (.aload_n 0, 1) := by decide +kernel
theorem dX0_readBit_141 : decode cX0_readBit 141 = .ok (.getfield 23, 3) := by decide +kernel
theorem dX0_readBit_144 : decode cX0_readBit 144 = .ok (.invokevirtual 26, 3) := by decide +kernel
theorem dX0_readBit_147 : decode cX0_readBit 147 = .ok (.iadd, 1) := by decide +kernel
theorem dX0_readBit_148 : decode cX0_readBit 148 = .ok (.putfield 13, 3) := by decide +kernel
theorem dX0_readBit_151 : decode cX0_readBit 151 = .ok (.aload_n 0, 1) := by decide +kernel
theorem dX0_readBit_152 : decode cX0_readBit 152 = .ok (.dup, 1) := by decide +kernel
theorem dX0_readBit_153 : decode cX0_readBit 153 = .ok (.getfield 23, 3) := by decide +kernel
theorem dX0_readBit_156 : decode cX0_readBit 156 = .ok (.iconst 1, 1) := by decide +kernel
theorem dX0_readBit_157 : decode cX0_readBit 157 = .ok (.iadd, 1) := by decide +kernel
theorem dX0_readBit_158 : decode cX0_readBit 158 = .ok (.putfield 23, 3) := by decide +kernel
theorem dX0_readBit_161 : decode cX0_readBit 161 = .ok (.iinc 4 1, 3) := by decide +kernel
theorem dX0_readBit_164 : decode cX0_readBit 164 = .ok (.goto (-99), 3) := by decide +kernel
theorem dX0_readBit_167 : decode cX0_readBit 167 = .ok (.iload_n 3, 1) := by decide +kernel
theorem dX0_readBit_168 : decode cX0_readBit 168 = .ok (.ireturn, 1) := by decide +kernel
theorem dX0_readBits_0 : decode cX0_readBits 0 = .ok (.iconst 0, 1) := by decide +kernel
theorem dX0_readBits_1 : decode cX0_readBits 1 = .ok (.istore_n 3, 1) := by decide +kernel
theorem dX0_readBits_2 : decode cX0_readBits 2 = .ok (.iconst 0, 1) := by decide +kernel
theorem dX0_readBits_3 : decode cX0_readBits 3 = .ok (.istore 4, 2) := by decide +kernel
theorem dX0_readBits_5 : decode cX0_readBits 5 = .ok (.iload 4, 2) := by decide +kernel
theorem dX0_readBits_7 : decode cX0_readBits 7 = .ok (.iload_n 2, 1) := by decide +kernel
theorem dX0_readBits_8 : decode cX0_readBits 8 = .ok (.if_icmp .ge 19, 3) := by decide +kernel
theorem dX0_readBits_11 : decode cX0_readBits 11 = .ok (.iload_n 3, 1) := by decide +kernel
theorem dX0_readBits_12 : decode cX0_readBits 12 = .ok (.iconst 1, 1) := by decide +kernel
theorem dX0_readBits_13 : decode cX0_readBits 13 = .ok (.ishl, 1) := by decide +kernel
theorem dX0_readBits_14 : decode cX0_readBits 14 = .ok (.aload_n 0, 1) := by decide +kernel
theorem dX0_readBits_15 : decode cX0_readBits 15 = .ok (.iload_n 1, 1) := by decide +kernel
theorem dX0_readBits_16 : decode cX0_readBits 16 = .ok (.invokevirtual 44, 3) := by decide +kernel
theorem dX0_readBits_19 : decode cX0_readBits 19 = .ok (.ior, 1) := by decide +kernel
theorem dX0_readBits_20 : decode cX0_readBits 20 = .ok (.istore_n 3, 1) := by decide +kernel
theorem dX0_readBits_21 : decode cX0_readBits 21 = .ok (.iinc 4 1, 3) := by decide +kernel
theorem dX0_readBits_24 : decode cX0_readBits 24 = .ok (.goto (-19), 3) := by decide +kernel
theorem dX0_readBits_27 : decode cX0_readBits 27 = .ok (.iload_n 3, 1) := by decide +kernel
theorem dX0_readBits_28 : decode cX0_readBits 28 = .ok (.ireturn, 1) := by decide +kernel
theorem dX0_readNumber_0 : decode cX0_readNumber 0 = .ok (.aload_n 0, 1) := by decide +kernel
theorem dX0_readNumber_1 : decode cX0_readNumber 1 = .ok (.sipush 128, 3) := by decide +kernel
theorem dX0_readNumber_4 : decode cX0_readNumber 4 = .ok (.iload_n 1, 1) := by decide +kernel
theorem dX0_readNumber_5 : decode cX0_readNumber 5 = .ok (.invokevirtual 47, 3) := by decide +kernel
theorem dX0_readNumber_8 : decode cX0_readNumber 8 = .ok (.ireturn, 1) := by decide +kernel
theorem dX0_octetsBeyond_0 : decode cX0_octetsBeyond 0 = .ok (.iconst 0, 1) := by decide +kernel
theorem dX0_octetsBeyond_1 : decode cX0_octetsBeyond 1 = .ok (.aload_n 0, 1) := by decide +kernel
theorem dX0_octetsBeyond_2 : decode cX0_octetsBeyond 2 = .ok (.getfield 23, 3) := by decide +kernel
theorem dX0_octetsBeyond_5 : decode cX0_octetsBeyond 5 = .ok (.aload_n 0, 1) := by decide +kernel
theorem dX0_octetsBeyond_6 : decode cX0_octetsBeyond 6 = .ok (.getfield 7, 3) := by decide +kernel
theorem dX0_octetsBeyond_9 : decode cX0_octetsBeyond 9 = .ok (.invokevirtual 50, 3) := by decide +kernel
theorem dX0_octetsBeyond_12 : decode cX0_octetsBeyond 12 = .ok (.isub, 1) := by decide +kernel
theorem dX0_octetsBeyond_13 : decode cX0_octetsBeyond 13 = .ok (.invokestatic 54, 3) := by decide +kernel
theorem dX0_octetsBeyond_16 : decode cX0_octetsBeyond 16 = .ok (.ireturn, 1) := by decide +kernel
theorem dX1_init_0 : decode cX1_init 0 = .ok (.aload_n 0, 1) := by decide +kernel
theorem dX1_init_1 : decode cX1_init 1 = .ok (.invokespecial 1, 3) := by decide +kernel
theorem dX1_init_4 : decode cX1_init 4 = .ok (.aload_n 0, 1) := by decide +kernel
theorem dX1_init_5 : decode cX1_init 5 = .ok (.aload_n 1, 1) := by decide +kernel
theorem dX1_init_6 : decode cX1_init 6 = .ok (.putfield 7, 3) := by decide +kernel
theorem dX1_init_9 : decode cX1_init 9 = .ok (.aload_n 0, 1) := by decide +kernel
theorem dX1_init_10 : decode cX1_init 10 = .ok (.iconst 0, 1) := by decide +kernel
theorem dX1_init_11 : decode cX1_init 11 = .ok (.putfield 13, 3) := by decide +kernel
theorem dX1_init_14 : decode cX1_init 14 = .ok (.aload_n 0, 1) := by decide +kernel
theorem dX1_init_15 : decode cX1_init 15 = .ok (.sipush 255, 3) := by decide +kernel
theorem dX1_init_18 : decode cX1_init 18 = .ok (.putfield 17, 3) := by decide +kernel
theorem dX1_init_21 : decode cX1_init 21 = .ok (.aload_n 0, 1) := by decide +kernel
theorem dX1_init_22 : decode cX1_init 22 = .ok (.bipush 24, 2) := by decide +kernel
theorem dX1_init_24 : decode cX1_init 24 = .ok (.putfield 20, 3) := by decide +kernel
theorem dX1_init_27 : decode cX1_init 27 = .ok (.return_, 1) := by decide +kernel
theorem dX1_start_0 : decode cX1_start 0 = .ok (.aload_n 0, 1) := by decide +kernel
theorem dX1_start_1 : decode cX1_start 1 = .ok (.iconst 0, 1) := by decide +kernel
theorem dX1_start_2 : decode cX1_start 2 = .ok (.putfield 13, 3) := by decide +kernel
theorem dX1_start_5 : decode cX1_start 5 = .ok (.aload_n 0, 1) := by decide +kernel
theorem dX1_start_6 : decode cX1_start 6 = .ok (.sipush 255, 3) := by decide +kernel
theorem dX1_start_9 : decode cX1_start 9 = .ok (.putfield 17, 3) := by decide +kernel
theorem dX1_start_12 : decode cX1_start 12 = .ok (.aload_n 0, 1) := by decide +kernel
theorem dX1_start_13 : decode cX1_start 13 = .ok (.bipush 24, 2) := by decide +kernel
theorem dX1_start_15 : decode cX1_start 15 = .ok (.putfield 20, 3) := by decide +kernel
theorem dX1_start_18 : decode cX1_start 18 = .ok (.return_, 1) := by decide +kernel
theorem dX1_writeBit_0 : decode cX1_writeBit 0 = .ok (.aload_n 0, 1) := by decide +kernel
theorem dX1_writeBit_1 : decode cX1_writeBit 1 = .ok (.getfield 17, 3) := by decide +kernel
theorem dX1_writeBit_4 : decode cX1_writeBit 4 = .ok (.iload_n 1, 1) := by decide +kernel
theorem dX1_writeBit_5 : decode cX1_writeBit 5 = .ok (.invokestatic 23, 3) := by decide +kernel
theorem dX1_writeBit_8 : decode cX1_writeBit 8 = .ok (.istore_n 3, 1) := by decide +kernel
theorem dX1_writeBit_9 : decode cX1_writeBit 9 = .ok (.iload_n 2, 1) := by decide +kernel
theorem dX1_writeBit_10 : decode cX1_writeBit 10 = .ok (.ifCond .ne 11, 3) := by decide +kernel
theorem dX1_writeBit_13 : decode cX1_writeBit 13 = .ok (.aload_n 0, 1) := by decide +kernel
theorem dX1_writeBit_14 : decode cX1_writeBit 14 = .ok (.iload_n 3, 1) := by decide +kernel
theorem dX1_writeBit_15 : decode cX1_writeBit 15 = .ok (.putfield 17, 3) := by decide +kernel
theorem dX1_writeBit_18 : decode cX1_writeBit 18 = .ok (.goto 23, 3) := by decide +kernel
theorem dX1_writeBit_21 : decode cX1_writeBit 21 = .ok (.aload_n 0, 1) := by decide +kernel
theorem dX1_writeBit_22 : decode cX1_writeBit 22 = .ok (.dup, 1) := by decide +kernel
theorem dX1_writeBit_23 : decode cX1_writeBit 23 = .ok (.getfield 13, 3) := by decide +kernel
theorem dX1_writeBit_26 : decode cX1_writeBit 26 = .ok (.iload_n 3, 1) := by decide +kernel
theorem dX1_writeBit_27 : decode cX1_writeBit 27 = .ok (.iadd, 1) := by decide +kernel
theorem dX1_writeBit_28 : decode cX1_writeBit 28 = .ok (.putfield 13, 3) := by decide +kernel
theorem dX1_writeBit_31 : decode cX1_writeBit 31 = .ok (.aload_n 0, 1) := by decide +kernel
theorem dX1_writeBit_32 : decode cX1_writeBit 32 = .ok (.dup, 1) := by decide +kernel
theorem dX1_writeBit_33 : decode cX1_writeBit 33 = .ok (.getfield 17, 3) := by decide +kernel
theorem dX1_writeBit_36 : decode cX1_writeBit 36 = .ok (.iload_n 3, 1) := by decide +kernel
theorem dX1_writeBit_37 : decode cX1_writeBit 37 = .ok (.isub, 1) := by decide +kernel
theorem dX1_writeBit_38 : decode cX1_writeBit 38 = .ok (.putfield 17, 3) := by decide +kernel
theorem dX1_writeBit_41 : decode cX1_writeBit 41 = .ok (.iconst 0, 1) := by decide +kernel
theorem dX1_writeBit_42 : decode cX1_writeBit 42 = .ok (.istore 4, 2) := by decide +kernel
theorem dX1_writeBit_44 : decode cX1_writeBit 44 = .ok (.iload 4, 2) := by decide +kernel
theorem dX1_writeBit_46 : decode cX1_writeBit 46 = .ok (.bipush 7, 2) := by decide +kernel
theorem dX1_writeBit_48 : decode cX1_writeBit 48 = .ok (.if_icmp .ge 33, 3) := by decide +kernel
theorem dX1_writeBit_51 : decode cX1_writeBit 51 = .ok (.aload_n 0, 1) := by decide +kernel
theorem dX1_writeBit_52 : decode cX1_writeBit 52 = .ok (.getfield 17, 3) := by decide +kernel
theorem dX1_writeBit_55 : decode cX1_writeBit 55 = .ok (.sipush 128, 3) := by decide +kernel
theorem dX1_writeBit_58 : decode cX1_writeBit 58 = .ok (.if_icmp .ge 23, 3) := by decide +kernel
theorem dX1_writeBit_61 : decode cX1_writeBit 61 = .ok (.aload_n 0, 1) := by decide +kernel
theorem dX1_writeBit_62 : decode cX1_writeBit 62 = .ok (.dup, 1) := by decide +kernel
theorem dX1_writeBit_63 : decode cX1_writeBit 63 = .ok (.getfield 17, 3) := by decide +kernel
theorem dX1_writeBit_66 : decode cX1_writeBit 66 = .ok (.iconst 1, 1) := by decide +kernel
theorem dX1_writeBit_67 : decode cX1_writeBit 67 = .ok (.ishl, 1) := by decide +kernel
theorem dX1_writeBit_68 : decode cX1_writeBit 68 = .ok (.putfield 17, 3) := by decide +kernel
theorem dX1_writeBit_71 : decode cX1_writeBit 71 = .ok (.aload_n 0, 1) := by decide +kernel
theorem dX1_writeBit_72 : decode cX1_writeBit 72 = .ok (.invokevirtual 29, 3) := by decide +kernel
theorem dX1_writeBit_75 : decode cX1_writeBit 75 = .ok (.iinc 4 1, 3) := by decide +kernel
theorem dX1_writeBit_78 : decode cX1_writeBit 78 = .ok (.goto (-34), 3) := by decide +kernel
theorem dX1_writeBit_81 : decode cX1_writeBit 81 = .ok (.return_, 1) := by decide +kernel
theorem dX1_shiftBottom_0 : decode cX1_shiftBottom 0 = .ok (.aload_n 0, 1) := by decide +kernel
theorem dX1_shiftBottom_1 : decode cX1_shiftBottom 1 = .ok (.getfield 13, 3) := by decide +kernel
theorem dX1_shiftBottom_4 : decode cX1_shiftBottom 4 = .ok (.ifCond .ge 10, 3) := by decide +kernel
theorem dX1_shiftBottom_7 : decode cX1_shiftBottom 7 = .ok (.aload_n 0, 1) := by decide +kernel
theorem dX1_shiftBottom_8 : decode cX1_shiftBottom 8 = .ok (.getfield 7, 3) := by decide +kernel
theorem dX1_shiftBottom_11 : decode cX1_shiftBottom 11 = .ok (.invokevirtual 32, 3) := by decide +kernel
theorem dX1_shiftBottom_14 : decode cX1_shiftBottom 14 = .ok (.aload_n 0, 1) := by decide +kernel
theorem dX1_shiftBottom_15 : decode cX1_shiftBottom 15 = .ok (.dup, 1) := by decide +kernel
theorem dX1_shiftBottom_16 : decode cX1_shiftBottom 16 = .ok (.getfield 13, 3) := by decide +kernel
theorem dX1_shiftBottom_19 : decode cX1_shiftBottom 19 = .ok (.iconst 1, 1) := by decide +kernel
theorem dX1_shiftBottom_20 : decode cX1_shiftBottom 20 = .ok (.ishl, 1) := by decide +kernel
theorem dX1_shiftBottom_21 : decode cX1_shiftBottom 21 = .ok (.putfield 13, 3) := by decide +kernel
theorem dX1_shiftBottom_24 : decode cX1_shiftBottom 24 = .ok (.aload_n 0, 1) := by decide +kernel
theorem dX1_shiftBottom_25 : decode cX1_shiftBottom 25 = .ok (.dup, 1) := by decide +kernel
theorem dX1_shiftBottom_26 : decode cX1_shiftBottom 26 = .ok (.getfield 20, 3) := by decide +kernel
theorem dX1_shiftBottom_29 : decode cX1_shiftBottom 29 = .ok (.iconst 1, 1) := by decide +kernel
theorem dX1_shiftBottom_30 : decode cX1_shiftBottom 30 = .ok (.isub, 1) := by decide +kernel
theorem dX1_shiftBottom_31 : decode cX1_shiftBottom 31 = .ok (.putfield 20, 3) := by decide +kernel
theorem dX1_shiftBottom_34 : decode cX1_shiftBottom 34 = .ok (.aload_n 0, 1) := by decide +kernel
theorem dX1_shiftBottom_35 : decode cX1_shiftBottom 35 = .ok (.getfield 20, 3) := by decide +kernel
theorem dX1_shiftBottom_38 : decode cX1_shiftBottom 38 = .ok (.ifCond .ne 34, 3) := by decide +kernel
theorem dX1_shiftBottom_41 : decode cX1_shiftBottom 41 = .ok (.aload_n 0, 1) := by decide +kernel
theorem dX1_shiftBottom_42 : decode cX1_shiftBottom 42 = .ok (.getfield 7, 3) := by decide +kernel
theorem dX1_shiftBottom_45 : decode cX1_shiftBottom 45 = .ok (.aload_n 0, 1) := by decide +kernel
theorem dX1_shiftBottom_46 : decode cX1_shiftBottom 46 = .ok (.getfield 13, 3) := by decide +kernel
theorem dX1_shiftBottom_49 : decode cX1_shiftBottom 49 = .ok (.bipush 24, 2) := by decide +kernel
theorem dX1_shiftBottom_51 : decode cX1_shiftBottom 51 = .ok (.iushr, 1) := by decide +kernel
theorem dX1_shiftBottom_52 : decode cX1_shiftBottom 52 = .ok (.invokevirtual 37, 3) := by decide +kernel
theorem dX1_shiftBottom_55 : decode cX1_shiftBottom 55 = .ok (.aload_n 0, 1) := by decide +kernel
theorem dX1_shiftBottom_56 : decode cX1_shiftBottom 56 = .ok (.dup, 1) := by decide +kernel
theorem dX1_shiftBottom_57 : decode cX1_shiftBottom 57 = .ok (.getfield 13, 3) := by decide +kernel
theorem dX1_shiftBottom_60 : decode cX1_shiftBottom 60 = .ok (.ldc 41, 2) := by decide +kernel
theorem dX1_shiftBottom_62 : decode cX1_shiftBottom 62 = .ok (.iand, 1) := by decide +kernel
theorem dX1_shiftBottom_63 : decode cX1_shiftBottom 63 = .ok (.putfield 13, 3) := by decide +kernel
theorem dX1_shiftBottom_66 : decode cX1_shiftBottom 66 = .ok (.aload_n 0, 1) := by decide +kernel
theorem dX1_shiftBottom_67 : decode cX1_shiftBottom 67 = .ok (.bipush 8, 2) := by decide +kernel
theorem dX1_shiftBottom_69 : decode cX1_shiftBottom 69 = .ok (.putfield 20, 3) := by decide +kernel
theorem dX1_shiftBottom_72 : decode cX1_shiftBottom 72 = .ok (.return_, 1) := by decide +kernel
theorem dX1_finish_0 : decode cX1_finish 0 = .ok (.aload_n 0, 1) := by decide +kernel
theorem dX1_finish_1 : decode cX1_finish 1 = .ok (.getfield 13, 3) := by decide +kernel
theorem dX1_finish_4 : decode cX1_finish 4 = .ok (.bipush 32, 2) := by decide +kernel
theorem dX1_finish_6 : decode cX1_finish 6 = .ok (.aload_n 0, 1) := by decide +kernel
theorem dX1_finish_7 : decode cX1_finish 7 = .ok (.getfield 20, 3) := by decide +kernel
theorem dX1_finish_10 : decode cX1_finish 10 = .ok (.isub, 1) := by decide +kernel
theorem dX1_finish_11 : decode cX1_finish 11 = .ok (.iushr, 1) := by decide +kernel
theorem dX1_finish_12 : decode cX1_finish 12 = .ok (.iconst 1, 1) := by decide +kernel
theorem dX1_finish_13 : decode cX1_finish 13 = .ok (.iand, 1) := by decide +kernel
theorem dX1_finish_14 : decode cX1_finish 14 = .ok (.ifCond .eq 10, 3) := by decide +kernel
theorem dX1_finish_17 : decode cX1_finish 17 = .ok (.aload_n 0, 1) := by decide +kernel
theorem dX1_finish_18 : decode cX1_finish 18 = .ok (.getfield 7, 3) := by decide +kernel
theorem dX1_finish_21 : decode cX1_finish 21 = .ok (.invokevirtual 32, 3) := by decide +kernel
theorem dX1_finish_24 : decode cX1_finish 24 = .ok (.aload_n 0, 1) := by decide +kernel
theorem dX1_finish_25 : decode cX1_finish 25 = .ok (.dup, 1) := by decide +kernel
theorem dX1_finish_26 : decode cX1_finish 26 = .ok (.getfield 13, 3) := by decide +kernel
theorem dX1_finish_29 : decode cX1_finish 29 = .ok (.aload_n 0, 1) := by decide +kernel
theorem dX1_finish_30 : decode cX1_finish 30 = .ok (.getfield 20, 3) := by decide +kernel
theorem dX1_finish_33 : decode cX1_finish 33 = .ok (.ishl, 1) := by decide +kernel
theorem dX1_finish_34 : decode cX1_finish 34 = .ok (.putfield 13, 3) := by decide +kernel
theorem dX1_finish_37 : decode cX1_finish 37 = .ok (.iconst 0, 1) := by decide +kernel
theorem dX1_finish_38 : decode cX1_finish 38 = .ok (.istore_n 1, 1) := by decide +kernel
theorem dX1_finish_39 : decode cX1_finish 39 = .ok (.iload_n 1, 1) := by decide +kernel
theorem dX1_finish_40 : decode cX1_finish 40 = .ok (.iconst 4, 1) := by decide +kernel
theorem dX1_finish_41 : decode cX1_finish 41 = .ok (.if_icmp .ge 34, 3) := by decide +kernel
theorem dX1_finish_44 : decode cX1_finish 44 = .ok (.aload_n 0, 1) := by decide +kernel
theorem dX1_finish_45 : decode cX1_finish 45 = .ok (.getfield 7, 3) := by decide +kernel
theorem dX1_finish_48 : decode cX1_finish 48 = .ok (.aload_n 0, 1) := by decide +kernel
theorem dX1_finish_49 : decode cX1_finish 49 = .ok (.getfield 13, 3) := by decide +kernel
theorem dX1_finish_52 : decode cX1_finish 52 = .ok (.bipush 24, 2) := by decide +kernel
theorem dX1_finish_54 : decode cX1_finish 54 = .ok (.iushr, 1) := by decide +kernel
theorem dX1_finish_55 : decode cX1_finish 55 = .ok (.invokevirtual 37, 3) := by decide +kernel
theorem dX1_finish_58 : decode cX1_finish 58 = .ok (.aload_n 0, 1) := by decide +kernel
theorem dX1_finish_59 : decode cX1_finish 59 = .ok (.dup, 1) := by decide +kernel
theorem dX1_finish_60 : decode cX1_finish 60 = .ok (.getfield 13, 3) := by decide +kernel
theorem dX1_finish_63 : decode cX1_finish 63 = .ok (.bipush 8, 2) := by decide +kernel
theorem dX1_finish_65 : decode cX1_finish 65 = .ok (.ishl, 1) := by decide +kernel
theorem dX1_finish_66 : decode cX1_finish 66 = .ok (.putfield 13, 3) := by decide +kernel
theorem dX1_finish_69 : decode cX1_finish 69 = .ok (.iinc 1 1, 3) := by decide +kernel
theorem dX1_finish_72 : decode cX1_finish 72 = .ok (.goto (-33), 3) := by decide +kernel
theorem dX1_finish_75 : decode cX1_finish 75 = .ok (.return_, 1) := by decide +kernel
theorem dX2_init_0 : decode cX2_init 0 = .ok (.aload_n 0, 1) := by decide +kernel
theorem dX2_init_1 : decode cX2_init 1 = .ok (.invokespecial 3, 3) := by decide +kernel
theorem dX2_init_4 : decode cX2_init 4 = .ok (.aload_n 0, 1) := by decide +kernel
theorem dX2_init_5 : decode cX2_init 5 = .ok (.sipush 264, 3) := by decide +kernel
theorem dX2_init_8 : decode cX2_init 8 = .ok (.newarray .int, 2) := by decide +kernel
theorem dX2_init_10 : decode cX2_init 10 = .ok (.putfield 9, 3) := by decide +kernel
theorem dX2_init_13 : decode cX2_init 13 = .ok (.return_, 1) := by decide +kernel
theorem dX2_readProbabilities_0 : decode cX2_readProbabilities 0 = .ok (.iconst 0, 1) := by decide +kernel
theorem dX2_readProbabilities_1 : decode cX2_readProbabilities 1 = .ok (.istore_n 2, 1) := by decide +kernel
theorem dX2_readProbabilities_2 : decode cX2_readProbabilities 2 = .ok (.iconst 0, 1) := by decide +kernel
theorem dX2_readProbabilities_3 : decode cX2_readProbabilities 3 = .ok (.istore_n 3, 1) := by decide +kernel
theorem dX2_readProbabilities_4 : decode cX2_readProbabilities 4 = .ok (.iload_n 3, 1) := by decide +kernel
theorem dX2_readProbabilities_5 : decode cX2_readProbabilities 5 = .ok (.sipush 264, 3) := by decide +kernel
theorem dX2_readProbabilities_8 : decode cX2_readProbabilities 8 = .ok (.if_icmp .ge 48, 3) := by decide +kernel
theorem dX2_readProbabilities_11 : decode cX2_readProbabilities 11 = .ok (.aload_n 0, 1) := by decide +kernel
theorem dX2_readProbabilities_12 : decode cX2_readProbabilities 12 = .ok (.getfield 9, 3) := by decide +kernel
theorem dX2_readProbabilities_15 : decode cX2_readProbabilities 15 = .ok (.iload_n 3, 1) := by decide +kernel
theorem dX2_readProbabilities_16 : decode cX2_readProbabilities 16 = .ok (.sipush 128, 3) := by decide +kernel
theorem dX2_readProbabilities_19 : decode cX2_readProbabilities 19 = .ok (.iastore, 1) := by decide +kernel
theorem dX2_readProbabilities_20 : decode cX2_readProbabilities 20 = .ok (.aload_n 1, 1) := by decide +kernel
theorem dX2_readProbabilities_21 : decode cX2_readProbabilities 21 = .ok (.sipush 250, 3) := by decide +kernel
theorem dX2_readProbabilities_24 : decode cX2_readProbabilities 24 = .ok (.invokevirtual 13, 3) := by decide +kernel
theorem dX2_readProbabilities_27 : decode cX2_readProbabilities 27 = .ok (.iconst 1, 1) := by decide +kernel
theorem dX2_readProbabilities_28 : decode cX2_readProbabilities 28 = .ok (.if_icmp .ne 22, 3) := by decide +kernel
theorem dX2_readProbabilities_31 : decode cX2_readProbabilities 31 = .ok (.aload_n 0, 1) := by decide +kernel
theorem dX2_readProbabilities_32 : decode cX2_readProbabilities 32 = .ok (.getfield 9, 3) := by decide +kernel
theorem dX2_readProbabilities_35 : decode cX2_readProbabilities 35 = .ok (.iload_n 3, 1) := by decide +kernel
theorem dX2_readProbabilities_36 : decode cX2_readProbabilities 36 = .ok (.iconst 1, 1) := by decide +kernel
theorem dX2_readProbabilities_37 : decode cX2_readProbabilities 37 = .ok (.aload_n 1, 1) := by decide +kernel
theorem dX2_readProbabilities_38 : decode cX2_readProbabilities 38 = .ok (.bipush 8, 2) := by decide +kernel
theorem dX2_readProbabilities_40 : decode cX2_readProbabilities 40 = .ok (.invokevirtual 19, 3) := by decide +kernel
theorem dX2_readProbabilities_43 : decode cX2_readProbabilities 43 = .ok (.invokestatic 22, 3) := by decide +kernel
theorem dX2_readProbabilities_46 : decode cX2_readProbabilities 46 = .ok (.iastore, 1) := by decide +kernel
theorem dX2_readProbabilities_47 : decode cX2_readProbabilities 47 = .ok (.iinc 2 1, 3) := by decide +kernel
theorem dX2_readProbabilities_50 : decode cX2_readProbabilities 50 = .ok (.iinc 3 1, 3) := by decide +kernel
theorem dX2_readProbabilities_53 : decode cX2_readProbabilities 53 = .ok (.goto (-49), 3) := by decide +kernel
theorem dX2_readProbabilities_56 : decode cX2_readProbabilities 56 = .ok (.iload_n 2, 1) := by decide +kernel
theorem dX2_readProbabilities_57 : decode cX2_readProbabilities 57 = .ok (.ireturn, 1) := by decide +kernel
theorem dX2_readBlock_0 : decode cX2_readBlock 0 = .ok (.iload_n 2, 1) := by decide +kernel
theorem dX2_readBlock_1 : decode cX2_readBlock 1 = .ok (.istore 5, 2) := by decide +kernel
theorem dX2_readBlock_3 : decode cX2_readBlock 3 = .ok (.iconst 1, 1) := by decide +kernel
theorem dX2_readBlock_4 : decode cX2_readBlock 4 = .ok (.istore 6, 2) := by decide +kernel
theorem dX2_readBlock_6 : decode cX2_readBlock 6 = .ok (.iconst 0, 1) := by decide +kernel
theorem dX2_readBlock_7 : decode cX2_readBlock 7 = .ok (.istore 7, 2) := by decide +kernel
theorem dX2_readBlock_9 : decode cX2_readBlock 9 = .ok (.iload 7, 2) := by decide +kernel
theorem dX2_readBlock_11 : decode cX2_readBlock 11 = .ok (.bipush 16, 2) := by decide +kernel
theorem dX2_readBlock_13 : decode cX2_readBlock 13 = .ok (.if_icmp .ge 127, 3) := by decide +kernel
theorem dX2_readBlock_16 : decode cX2_readBlock 16 = .ok (.getstatic 30, 3) := by decide +kernel
theorem dX2_readBlock_19 : decode cX2_readBlock 19 = .ok (.iload 7, 2) := by decide +kernel
theorem dX2_readBlock_21 : decode cX2_readBlock 21 = .ok (.iaload, 1) := by decide +kernel
theorem dX2_readBlock_22 : decode cX2_readBlock 22 = .ok (.iconst 3, 1) := by decide +kernel
theorem dX2_readBlock_23 : decode cX2_readBlock 23 = .ok (.imul, 1) := by decide +kernel
theorem dX2_readBlock_24 : decode cX2_readBlock 24 = .ok (.iload 5, 2) := by decide +kernel
theorem dX2_readBlock_26 : decode cX2_readBlock 26 = .ok (.iadd, 1) := by decide +kernel
theorem dX2_readBlock_27 : decode cX2_readBlock 27 = .ok (.bipush 11, 2) := by decide +kernel
theorem dX2_readBlock_29 : decode cX2_readBlock 29 = .ok (.imul, 1) := by decide +kernel
theorem dX2_readBlock_30 : decode cX2_readBlock 30 = .ok (.istore 8, 2) := by decide +kernel
theorem dX2_readBlock_32 : decode cX2_readBlock 32 = .ok (.iload 6, 2) := by decide +kernel
theorem dX2_readBlock_34 : decode cX2_readBlock 34 = .ok (.ifCond .eq 20, 3) := by decide +kernel
theorem dX2_readBlock_37 : decode cX2_readBlock 37 = .ok (.aload_n 1, 1) := by decide +kernel
theorem dX2_readBlock_38 : decode cX2_readBlock 38 = .ok (.aload_n 0, 1) := by decide +kernel
theorem dX2_readBlock_39 : decode cX2_readBlock 39 = .ok (.getfield 9, 3) := by decide +kernel
theorem dX2_readBlock_42 : decode cX2_readBlock 42 = .ok (.iload 8, 2) := by decide +kernel
theorem dX2_readBlock_44 : decode cX2_readBlock 44 = .ok (.iaload, 1) := by decide +kernel
theorem dX2_readBlock_45 : decode cX2_readBlock 45 = .ok (.invokevirtual 13, 3) := by decide +kernel
theorem dX2_readBlock_48 : decode cX2_readBlock 48 = .ok (.ifCond .ne 6, 3) := by decide +kernel
theorem dX2_readBlock_51 : decode cX2_readBlock 51 = .ok (.iload 7, 2) := by decide +kernel
theorem dX2_readBlock_53 : decode cX2_readBlock 53 = .ok (.ireturn, 1) := by decide +kernel
theorem dX2_readBlock_54 : decode cX2_readBlock 54 = .ok (.aload_n 1, 1) := by decide +kernel
theorem dX2_readBlock_55 : decode cX2_readBlock 55 = .ok (.aload_n 0, 1) := by decide +kernel
theorem dX2_readBlock_56 : decode cX2_readBlock 56 = .ok (.getfield 9, 3) := by decide +kernel
theorem dX2_readBlock_59 : decode cX2_readBlock 59 = .ok (.iload 8, 2) := by decide +kernel
theorem dX2_readBlock_61 : decode cX2_readBlock 61 = .ok (.iconst 1, 1) := by decide +kernel
theorem dX2_readBlock_62 : decode cX2_readBlock 62 = .ok (.iadd, 1) := by decide +kernel
theorem dX2_readBlock_63 : decode cX2_readBlock 63 = .ok (.iaload, 1) := by decide +kernel
theorem dX2_readBlock_64 : decode cX2_readBlock 64 = .ok (.invokevirtual 13, 3) := by decide +kernel
theorem dX2_readBlock_67 : decode cX2_readBlock 67 = .ok (.ifCond .ne 7, 3) := by decide +kernel
theorem dX2_readBlock_70 : decode cX2_readBlock 70 = .ok (.iconst 0, 1) := by decide +kernel
theorem dX2_readBlock_71 : decode cX2_readBlock 71 = .ok (.goto 10, 3) := by decide +kernel
theorem dX2_readBlock_74 : decode cX2_readBlock 74 = .ok (.aload_n 0, 1) := by decide +kernel
theorem dX2_readBlock_75 : decode cX2_readBlock 75 = .ok (.aload_n 1, 1) := by decide +kernel
theorem dX2_readBlock_76 : decode cX2_readBlock 76 = .ok (.iload 8, 2) := by decide +kernel
theorem dX2_readBlock_78 : decode cX2_readBlock 78 = .ok (.invokevirtual 33, 3) := by decide +kernel
theorem dX2_readBlock_81 : decode cX2_readBlock 81 = .ok (.istore 9, 2) := by decide +kernel
theorem dX2_readBlock_83 : decode cX2_readBlock 83 = .ok (.iload 9, 2) := by decide +kernel
theorem dX2_readBlock_85 : decode cX2_readBlock 85 = .ok (.ifCond .le 29, 3) := by decide +kernel
theorem dX2_readBlock_88 : decode cX2_readBlock 88 = .ok (.aload_n 3, 1) := by decide +kernel
theorem dX2_readBlock_89 : decode cX2_readBlock 89 = .ok (.iload 4, 2) := by decide +kernel
theorem dX2_readBlock_91 : decode cX2_readBlock 91 = .ok (.iload 7, 2) := by decide +kernel
theorem dX2_readBlock_93 : decode cX2_readBlock 93 = .ok (.iadd, 1) := by decide +kernel
theorem dX2_readBlock_94 : decode cX2_readBlock 94 = .ok (.aload_n 1, 1) := by decide +kernel
theorem dX2_readBlock_95 : decode cX2_readBlock 95 = .ok (.sipush 128, 3) := by decide +kernel
theorem dX2_readBlock_98 : decode cX2_readBlock 98 = .ok (.invokevirtual 13, 3) := by decide +kernel
theorem dX2_readBlock_101 : decode cX2_readBlock 101 = .ok (.iconst 1, 1) := by decide +kernel
theorem dX2_readBlock_102 : decode cX2_readBlock 102 = .ok (.if_icmp .ne 9, 3) := by decide +kernel
theorem dX2_readBlock_105 : decode cX2_readBlock 105 = .ok (.iload 9, 2) := by decide +kernel
theorem dX2_readBlock_107 : decode cX2_readBlock 107 = .ok (.ineg, 1) := by decide +kernel
theorem dX2_readBlock_108 : decode cX2_readBlock 108 = .ok (.goto 5, 3) := by decide +kernel
theorem dX2_readBlock_111 : decode cX2_readBlock 111 = .ok (.iload 9, 2) := by decide +kernel
theorem dX2_readBlock_113 : decode cX2_readBlock 113 = .ok (.iastore, 1) := by decide +kernel
theorem dX2_readBlock_114 : decode cX2_readBlock 114 = .ok (.iload 9, 2) := by decide +kernel
theorem dX2_readBlock_116 : decode cX2_readBlock 116 = .ok (.iconst 2, 1) := by decide +kernel
theorem dX2_readBlock_117 : decode cX2_readBlock 117 = .ok (.invokestatic 37, 3) := by decide +kernel
theorem dX2_readBlock_120 : decode cX2_readBlock 120 = .ok (.istore 5, 2) := by decide +kernel
theorem dX2_readBlock_122 : decode cX2_readBlock 122 = .ok (.iload 9, 2) := by decide +kernel
theorem dX2_readBlock_124 : decode cX2_readBlock 124 = .ok (.ifCond .eq 7, 3) := by decide +kernel
theorem dX2_readBlock_127 : decode cX2_readBlock 127 = .ok (.iconst 1, 1) := by decide +kernel
theorem dX2_readBlock_128 : decode cX2_readBlock 128 = .ok (.goto 4, 3) := by decide +kernel
theorem dX2_readBlock_131 : decode cX2_readBlock 131 = .ok (.iconst 0, 1) := by decide +kernel
theorem dX2_readBlock_132 : decode cX2_readBlock 132 = .ok (.istore 6, 2) := by decide +kernel
theorem dX2_readBlock_134 : decode cX2_readBlock 134 = .ok (.iinc 7 1, 3) := by decide +kernel
theorem dX2_readBlock_137 : decode cX2_readBlock 137 = .ok (.goto (-128), 3) := by decide +kernel
theorem dX2_readBlock_140 : decode cX2_readBlock 140 = .ok (.bipush 16, 2) := by decide +kernel
theorem dX2_readBlock_142 : decode cX2_readBlock 142 = .ok (.ireturn, 1) := by decide +kernel
theorem dX2_readSize_0 : decode cX2_readSize 0 = .ok (.aload_n 1, 1) := by decide +kernel
theorem dX2_readSize_1 : decode cX2_readSize 1 = .ok (.aload_n 0, 1) := by decide +kernel
theorem dX2_readSize_2 : decode cX2_readSize 2 = .ok (.getfield 9, 3) := by decide +kernel
theorem dX2_readSize_5 : decode cX2_readSize 5 = .ok (.iload_n 2, 1) := by decide +kernel
theorem dX2_readSize_6 : decode cX2_readSize 6 = .ok (.iconst 2, 1) := by decide +kernel
theorem dX2_readSize_7 : decode cX2_readSize 7 = .ok (.iadd, 1) := by decide +kernel
theorem dX2_readSize_8 : decode cX2_readSize 8 = .ok (.iaload, 1) := by decide +kernel
theorem dX2_readSize_9 : decode cX2_readSize 9 = .ok (.invokevirtual 13, 3) := by decide +kernel
theorem dX2_readSize_12 : decode cX2_readSize 12 = .ok (.ifCond .ne 5, 3) := by decide +kernel
theorem dX2_readSize_15 : decode cX2_readSize 15 = .ok (.iconst 1, 1) := by decide +kernel
theorem dX2_readSize_16 : decode cX2_readSize 16 = .ok (.ireturn, 1) := by decide +kernel
theorem dX2_readSize_17 : decode cX2_readSize 17 = .ok (.aload_n 1, 1) := by decide +kernel
theorem dX2_readSize_18 : decode cX2_readSize 18 = .ok (.aload_n 0, 1) := by decide +kernel
theorem dX2_readSize_19 : decode cX2_readSize 19 = .ok (.getfield 9, 3) := by decide +kernel
theorem dX2_readSize_22 : decode cX2_readSize 22 = .ok (.iload_n 2, 1) := by decide +kernel
theorem dX2_readSize_23 : decode cX2_readSize 23 = .ok (.iconst 3, 1) := by decide +kernel
theorem dX2_readSize_24 : decode cX2_readSize 24 = .ok (.iadd, 1) := by decide +kernel
theorem dX2_readSize_25 : decode cX2_readSize 25 = .ok (.iaload, 1) := by decide +kernel
theorem dX2_readSize_26 : decode cX2_readSize 26 = .ok (.invokevirtual 13, 3) := by decide +kernel
theorem dX2_readSize_29 : decode cX2_readSize 29 = .ok (.iconst 1, 1) := by decide +kernel
theorem dX2_readSize_30 : decode cX2_readSize 30 = .ok (.if_icmp .ne 14, 3) := by decide +kernel
theorem dX2_readSize_33 : decode cX2_readSize 33 = .ok (.aload_n 1, 1) := by decide +kernel
theorem dX2_readSize_34 : decode cX2_readSize 34 = .ok (.aload_n 0, 1) := by decide +kernel
theorem dX2_readSize_35 : decode cX2_readSize 35 = .ok (.aload_n 1, 1) := by decide +kernel
theorem dX2_readSize_36 : decode cX2_readSize 36 = .ok (.iload_n 2, 1) := by decide +kernel
theorem dX2_readSize_37 : decode cX2_readSize 37 = .ok (.invokevirtual 40, 3) := by decide +kernel
theorem dX2_readSize_40 : decode cX2_readSize 40 = .ok (.invokestatic 43, 3) := by decide +kernel
theorem dX2_readSize_43 : decode cX2_readSize 43 = .ok (.ireturn, 1) := by decide +kernel
theorem dX2_readSize_44 : decode cX2_readSize 44 = .ok (.aload_n 1, 1) := by decide +kernel
theorem dX2_readSize_45 : decode cX2_readSize 45 = .ok (.aload_n 0, 1) := by decide +kernel
theorem dX2_readSize_46 : decode cX2_readSize 46 = .ok (.getfield 9, 3) := by decide +kernel
theorem dX2_readSize_49 : decode cX2_readSize 49 = .ok (.iload_n 2, 1) := by decide +kernel
theorem dX2_readSize_50 : decode cX2_readSize 50 = .ok (.iconst 4, 1) := by decide +kernel
theorem dX2_readSize_51 : decode cX2_readSize 51 = .ok (.iadd, 1) := by decide +kernel
theorem dX2_readSize_52 : decode cX2_readSize 52 = .ok (.iaload, 1) := by decide +kernel
theorem dX2_readSize_53 : decode cX2_readSize 53 = .ok (.invokevirtual 13, 3) := by decide +kernel
theorem dX2_readSize_56 : decode cX2_readSize 56 = .ok (.ifCond .ne 5, 3) := by decide +kernel
theorem dX2_readSize_59 : decode cX2_readSize 59 = .ok (.iconst 2, 1) := by decide +kernel
theorem dX2_readSize_60 : decode cX2_readSize 60 = .ok (.ireturn, 1) := by decide +kernel
theorem dX2_readSize_61 : decode cX2_readSize 61 = .ok (.iconst 3, 1) := by decide +kernel
theorem dX2_readSize_62 : decode cX2_readSize 62 = .ok (.aload_n 1, 1) := by decide +kernel
theorem dX2_readSize_63 : decode cX2_readSize 63 = .ok (.aload_n 0, 1) := by decide +kernel
theorem dX2_readSize_64 : decode cX2_readSize 64 = .ok (.getfield 9, 3) := by decide +kernel
theorem dX2_readSize_67 : decode cX2_readSize 67 = .ok (.iload_n 2, 1) := by decide +kernel
theorem dX2_readSize_68 : decode cX2_readSize 68 = .ok (.iconst 5, 1) := by decide +kernel
theorem dX2_readSize_69 : decode cX2_readSize 69 = .ok (.iadd, 1) := by decide +kernel
theorem dX2_readSize_70 : decode cX2_readSize 70 = .ok (.iaload, 1) := by decide +kernel
theorem dX2_readSize_71 : decode cX2_readSize 71 = .ok (.invokevirtual 13, 3) := by decide +kernel
theorem dX2_readSize_74 : decode cX2_readSize 74 = .ok (.iadd, 1) := by decide +kernel
theorem dX2_readSize_75 : decode cX2_readSize 75 = .ok (.ireturn, 1) := by decide +kernel
theorem dX2_readSizeClass_0 : decode cX2_readSizeClass 0 = .ok (.aload_n 1, 1) := by decide +kernel
theorem dX2_readSizeClass_1 : decode cX2_readSizeClass 1 = .ok (.aload_n 0, 1) := by decide +kernel
theorem dX2_readSizeClass_2 : decode cX2_readSizeClass 2 = .ok (.getfield 9, 3) := by decide +kernel
theorem dX2_readSizeClass_5 : decode cX2_readSizeClass 5 = .ok (.iload_n 2, 1) := by decide +kernel
theorem dX2_readSizeClass_6 : decode cX2_readSizeClass 6 = .ok (.bipush 6, 2) := by decide +kernel
theorem dX2_readSizeClass_8 : decode cX2_readSizeClass 8 = .ok (.iadd, 1) := by decide +kernel
theorem dX2_readSizeClass_9 : decode cX2_readSizeClass 9 = .ok (.iaload, 1) := by decide +kernel
theorem dX2_readSizeClass_10 : decode cX2_readSizeClass 10 = .ok (.invokevirtual 13, 3) := by decide +kernel
theorem dX2_readSizeClass_13 : decode cX2_readSizeClass 13 = .ok (.ifCond .ne 17, 3) := by decide +kernel
theorem dX2_readSizeClass_16 : decode cX2_readSizeClass 16 = .ok (.aload_n 1, 1) := by decide +kernel
theorem dX2_readSizeClass_17 : decode cX2_readSizeClass 17 = .ok (.aload_n 0, 1) := by decide +kernel
theorem dX2_readSizeClass_18 : decode cX2_readSizeClass 18 = .ok (.getfield 9, 3) := by decide +kernel
theorem dX2_readSizeClass_21 : decode cX2_readSizeClass 21 = .ok (.iload_n 2, 1) := by decide +kernel
theorem dX2_readSizeClass_22 : decode cX2_readSizeClass 22 = .ok (.bipush 7, 2) := by decide +kernel
theorem dX2_readSizeClass_24 : decode cX2_readSizeClass 24 = .ok (.iadd, 1) := by decide +kernel
theorem dX2_readSizeClass_25 : decode cX2_readSizeClass 25 = .ok (.iaload, 1) := by decide +kernel
theorem dX2_readSizeClass_26 : decode cX2_readSizeClass 26 = .ok (.invokevirtual 13, 3) := by decide +kernel
theorem dX2_readSizeClass_29 : decode cX2_readSizeClass 29 = .ok (.ireturn, 1) := by decide +kernel
theorem dX2_readSizeClass_30 : decode cX2_readSizeClass 30 = .ok (.aload_n 1, 1) := by decide +kernel
theorem dX2_readSizeClass_31 : decode cX2_readSizeClass 31 = .ok (.aload_n 0, 1) := by decide +kernel
theorem dX2_readSizeClass_32 : decode cX2_readSizeClass 32 = .ok (.getfield 9, 3) := by decide +kernel
theorem dX2_readSizeClass_35 : decode cX2_readSizeClass 35 = .ok (.iload_n 2, 1) := by decide +kernel
theorem dX2_readSizeClass_36 : decode cX2_readSizeClass 36 = .ok (.bipush 8, 2) := by decide +kernel
theorem dX2_readSizeClass_38 : decode cX2_readSizeClass 38 = .ok (.iadd, 1) := by decide +kernel
theorem dX2_readSizeClass_39 : decode cX2_readSizeClass 39 = .ok (.iaload, 1) := by decide +kernel
theorem dX2_readSizeClass_40 : decode cX2_readSizeClass 40 = .ok (.invokevirtual 13, 3) := by decide +kernel
theorem dX2_readSizeClass_43 : decode cX2_readSizeClass 43 = .ok (.ifCond .ne 19, 3) := by decide +kernel
theorem dX2_readSizeClass_46 : decode cX2_readSizeClass 46 = .ok (.iconst 2, 1) := by decide +kernel
theorem dX2_readSizeClass_47 : decode cX2_readSizeClass 47 = .ok (.aload_n 1, 1) := by decide +kernel
theorem dX2_readSizeClass_48 : decode cX2_readSizeClass 48 = .ok (.aload_n 0, 1) := by decide +kernel
theorem dX2_readSizeClass_49 : decode cX2_readSizeClass 49 = .ok (.getfield 9, 3) := by decide +kernel
theorem dX2_readSizeClass_52 : decode cX2_readSizeClass 52 = .ok (.iload_n 2, 1) := by decide +kernel
theorem dX2_readSizeClass_53 : decode cX2_readSizeClass 53 = .ok (.bipush 9, 2) := by decide +kernel
theorem dX2_readSizeClass_55 : decode cX2_readSizeClass 55 = .ok (.iadd, 1) := by decide +kernel
theorem dX2_readSizeClass_56 : decode cX2_readSizeClass 56 = .ok (.iaload, 1) := by decide +kernel
theorem dX2_readSizeClass_57 : decode cX2_readSizeClass 57 = .ok (.invokevirtual 13, 3) := by decide +kernel
theorem dX2_readSizeClass_60 : decode cX2_readSizeClass 60 = .ok (.iadd, 1) := by decide +kernel
theorem dX2_readSizeClass_61 : decode cX2_readSizeClass 61 = .ok (.ireturn, 1) := by decide +kernel
theorem dX2_readSizeClass_62 : decode cX2_readSizeClass 62 = .ok (.iconst 4, 1) := by decide +kernel
theorem dX2_readSizeClass_63 : decode cX2_readSizeClass 63 = .ok (.aload_n 1, 1) := by decide +kernel
theorem dX2_readSizeClass_64 : decode cX2_readSizeClass 64 = .ok (.aload_n 0, 1) := by decide +kernel
theorem dX2_readSizeClass_65 : decode cX2_readSizeClass 65 = .ok (.getfield 9, 3) := by decide +kernel
theorem dX2_readSizeClass_68 : decode cX2_readSizeClass 68 = .ok (.iload_n 2, 1) := by decide +kernel
theorem dX2_readSizeClass_69 : decode cX2_readSizeClass 69 = .ok (.bipush 10, 2) := by decide +kernel
theorem dX2_readSizeClass_71 : decode cX2_readSizeClass 71 = .ok (.iadd, 1) := by decide +kernel
theorem dX2_readSizeClass_72 : decode cX2_readSizeClass 72 = .ok (.iaload, 1) := by decide +kernel
theorem dX2_readSizeClass_73 : decode cX2_readSizeClass 73 = .ok (.invokevirtual 13, 3) := by decide +kernel
theorem dX2_readSizeClass_76 : decode cX2_readSizeClass 76 = .ok (.iadd, 1) := by decide +kernel
theorem dX2_readSizeClass_77 : decode cX2_readSizeClass 77 = .ok (.ireturn, 1) := by decide +kernel
theorem dX2_readLargeSize_0 : decode cX2_readLargeSize 0 = .ok (.iconst 0, 1) := by decide +kernel
theorem dX2_readLargeSize_1 : decode cX2_readLargeSize 1 = .ok (.istore_n 2, 1) := by decide +kernel
theorem dX2_readLargeSize_2 : decode cX2_readLargeSize 2 = .ok (.getstatic 46, 3) := by decide +kernel
theorem dX2_readLargeSize_5 : decode cX2_readLargeSize 5 = .ok (.iload_n 1, 1) := by decide +kernel
theorem dX2_readLargeSize_6 : decode cX2_readLargeSize 6 = .ok (.iaload, 1) := by decide +kernel
theorem dX2_readLargeSize_7 : decode cX2_readLargeSize 7 = .ok (.istore_n 3, 1) := by decide +kernel
theorem dX2_readLargeSize_8 : decode cX2_readLargeSize 8 = .ok (.iload_n 3, 1) := by decide +kernel
theorem dX2_readLargeSize_9 : decode cX2_readLargeSize 9 = .ok (.getstatic 46, 3) := by decide +kernel
theorem dX2_readLargeSize_12 : decode cX2_readLargeSize 12 = .ok (.iload_n 1, 1) := by decide +kernel
theorem dX2_readLargeSize_13 : decode cX2_readLargeSize 13 = .ok (.iconst 1, 1) := by decide +kernel
theorem dX2_readLargeSize_14 : decode cX2_readLargeSize 14 = .ok (.iadd, 1) := by decide +kernel
theorem dX2_readLargeSize_15 : decode cX2_readLargeSize 15 = .ok (.iaload, 1) := by decide +kernel
theorem dX2_readLargeSize_16 : decode cX2_readLargeSize 16 = .ok (.if_icmp .ge 23, 3) := by decide +kernel
theorem dX2_readLargeSize_19 : decode cX2_readLargeSize 19 = .ok (.iload_n 2, 1) := by decide +kernel
theorem dX2_readLargeSize_20 : decode cX2_readLargeSize 20 = .ok (.iconst 1, 1) := by decide +kernel
theorem dX2_readLargeSize_21 : decode cX2_readLargeSize 21 = .ok (.ishl, 1) := by decide +kernel
theorem dX2_readLargeSize_22 : decode cX2_readLargeSize 22 = .ok (.aload_n 0, 1) := by decide +kernel
theorem dX2_readLargeSize_23 : decode cX2_readLargeSize 23 = .ok (.getstatic 49, 3) := by decide +kernel
theorem dX2_readLargeSize_26 : decode cX2_readLargeSize 26 = .ok (.iload_n 3, 1) := by decide +kernel
theorem dX2_readLargeSize_27 : decode cX2_readLargeSize 27 = .ok (.iaload, 1) := by decide +kernel
theorem dX2_readLargeSize_28 : decode cX2_readLargeSize 28 = .ok (.invokevirtual 13, 3) := by decide +kernel
theorem dX2_readLargeSize_31 : decode cX2_readLargeSize 31 = .ok (.ior, 1) := by decide +kernel
theorem dX2_readLargeSize_32 : decode cX2_readLargeSize 32 = .ok (.istore_n 2, 1) := by decide +kernel
theorem dX2_readLargeSize_33 : decode cX2_readLargeSize 33 = .ok (.iinc 3 1, 3) := by decide +kernel
theorem dX2_readLargeSize_36 : decode cX2_readLargeSize 36 = .ok (.goto (-28), 3) := by decide +kernel
theorem dX2_readLargeSize_39 : decode cX2_readLargeSize 39 = .ok (.getstatic 52, 3) := by decide +kernel
theorem dX2_readLargeSize_42 : decode cX2_readLargeSize 42 = .ok (.iload_n 1, 1) := by decide +kernel
theorem dX2_readLargeSize_43 : decode cX2_readLargeSize 43 = .ok (.iaload, 1) := by decide +kernel
theorem dX2_readLargeSize_44 : decode cX2_readLargeSize 44 = .ok (.iload_n 2, 1) := by decide +kernel
theorem dX2_readLargeSize_45 : decode cX2_readLargeSize 45 = .ok (.iadd, 1) := by decide +kernel
theorem dX2_readLargeSize_46 : decode cX2_readLargeSize 46 = .ok (.ireturn, 1) := by decide +kernel
theorem dX3_init_0 : decode cX3_init 0 = .ok (.aload_n 0, 1) := by decide +kernel
theorem dX3_init_1 : decode cX3_init 1 = .ok (.invokespecial 3, 3) := by decide +kernel
theorem dX3_init_4 : decode cX3_init 4 = .ok (.aload_n 0, 1) := by decide +kernel
theorem dX3_init_5 : decode cX3_init 5 = .ok (.sipush 600, 3) := by decide +kernel
theorem dX3_init_8 : decode cX3_init 8 = .ok (.newarray .int, 2) := by decide +kernel
theorem dX3_init_10 : decode cX3_init 10 = .ok (.putfield 9, 3) := by decide +kernel
theorem dX3_init_13 : decode cX3_init 13 = .ok (.aload_n 0, 1) := by decide +kernel
theorem dX3_init_14 : decode cX3_init 14 = .ok (.iconst 0, 1) := by decide +kernel
theorem dX3_init_15 : decode cX3_init 15 = .ok (.putfield 15, 3) := by decide +kernel
theorem dX3_init_18 : decode cX3_init 18 = .ok (.return_, 1) := by decide +kernel
theorem dX3_size_0 : decode cX3_size 0 = .ok (.aload_n 0, 1) := by decide +kernel
theorem dX3_size_1 : decode cX3_size 1 = .ok (.getfield 15, 3) := by decide +kernel
theorem dX3_size_4 : decode cX3_size 4 = .ok (.ireturn, 1) := by decide +kernel
theorem dX3_clear_0 : decode cX3_clear 0 = .ok (.aload_n 0, 1) := by decide +kernel
theorem dX3_clear_1 : decode cX3_clear 1 = .ok (.iconst 0, 1) := by decide +kernel
theorem dX3_clear_2 : decode cX3_clear 2 = .ok (.putfield 15, 3) := by decide +kernel
theorem dX3_clear_5 : decode cX3_clear 5 = .ok (.return_, 1) := by decide +kernel
theorem dX3_append_0 : decode cX3_append 0 = .ok (.aload_n 0, 1) := by decide +kernel
theorem dX3_append_1 : decode cX3_append 1 = .ok (.getfield 15, 3) := by decide +kernel
theorem dX3_append_4 : decode cX3_append 4 = .ok (.sipush 600, 3) := by decide +kernel
theorem dX3_append_7 : decode cX3_append 7 = .ok (.if_icmp .ge 27, 3) := by decide +kernel
theorem dX3_append_10 : decode cX3_append 10 = .ok (.aload_n 0, 1) := by decide +kernel
theorem dX3_append_11 : decode cX3_append 11 = .ok (.getfield 9, 3) := by decide +kernel
theorem dX3_append_14 : decode cX3_append 14 = .ok (.aload_n 0, 1) := by decide +kernel
theorem dX3_append_15 : decode cX3_append 15 = .ok (.getfield 15, 3) := by decide +kernel
theorem dX3_append_18 : decode cX3_append 18 = .ok (.iload_n 1, 1) := by decide +kernel
theorem dX3_append_19 : decode cX3_append 19 = .ok (.sipush 255, 3) := by decide +kernel
theorem dX3_append_22 : decode cX3_append 22 = .ok (.iand, 1) := by decide +kernel
theorem dX3_append_23 : decode cX3_append 23 = .ok (.iastore, 1) := by decide +kernel
theorem dX3_append_24 : decode cX3_append 24 = .ok (.aload_n 0, 1) := by decide +kernel
theorem dX3_append_25 : decode cX3_append 25 = .ok (.dup, 1) := by decide +kernel
theorem dX3_append_26 : decode cX3_append 26 = .ok (.getfield 15, 3) := by decide +kernel
theorem dX3_append_29 : decode cX3_append 29 = .ok (.iconst 1, 1) := by decide +kernel
theorem dX3_append_30 : decode cX3_append 30 = .ok (.iadd, 1) := by decide +kernel
theorem dX3_append_31 : decode cX3_append 31 = .ok (.putfield 15, 3) := by decide +kernel
theorem dX3_append_34 : decode cX3_append 34 = .ok (.return_, 1) := by decide +kernel
theorem dX3_at_0 : decode cX3_at 0 = .ok (.iload_n 1, 1) := by decide +kernel
theorem dX3_at_1 : decode cX3_at 1 = .ok (.ifCond .lt 20, 3) := by decide +kernel
theorem dX3_at_4 : decode cX3_at 4 = .ok (.iload_n 1, 1) := by decide +kernel
theorem dX3_at_5 : decode cX3_at 5 = .ok (.aload_n 0, 1) := by decide +kernel
theorem dX3_at_6 : decode cX3_at 6 = .ok (.getfield 15, 3) := by decide +kernel
theorem dX3_at_9 : decode cX3_at 9 = .ok (.if_icmp .ge 12, 3) := by decide +kernel
theorem dX3_at_12 : decode cX3_at 12 = .ok (.aload_n 0, 1) := by decide +kernel
theorem dX3_at_13 : decode cX3_at 13 = .ok (.getfield 9, 3) := by decide +kernel
theorem dX3_at_16 : decode cX3_at 16 = .ok (.iload_n 1, 1) := by decide +kernel
theorem dX3_at_17 : decode cX3_at 17 = .ok (.iaload, 1) := by decide +kernel
theorem dX3_at_18 : decode cX3_at 18 = .ok (.goto 4, 3) := by decide +kernel
theorem dX3_at_21 : decode cX3_at 21 = .ok (.iconst 0, 1) := by decide +kernel
theorem dX3_at_22 : decode cX3_at 22 = .ok (.ireturn, 1) := by decide +kernel
theorem dX3_addOneToLast_0 : decode cX3_addOneToLast 0 = .ok (.aload_n 0, 1) := by decide +kernel
theorem dX3_addOneToLast_1 : decode cX3_addOneToLast 1 = .ok (.getfield 15, 3) := by decide +kernel
theorem dX3_addOneToLast_4 : decode cX3_addOneToLast 4 = .ok (.iconst 1, 1) := by decide +kernel
theorem dX3_addOneToLast_5 : decode cX3_addOneToLast 5 = .ok (.isub, 1) := by decide +kernel
theorem dX3_addOneToLast_6 : decode cX3_addOneToLast 6 = .ok (.istore_n 1, 1) := by decide +kernel
theorem dX3_addOneToLast_7 : decode cX3_addOneToLast 7 = .ok (.iload_n 1, 1) := by decide +kernel
theorem dX3_addOneToLast_8 : decode cX3_addOneToLast 8 = .ok (.ifCond .lt 28, 3) := by decide +kernel
theorem dX3_addOneToLast_11 : decode cX3_addOneToLast 11 = .ok (.aload_n 0, 1) := by decide +kernel
theorem dX3_addOneToLast_12 : decode cX3_addOneToLast 12 = .ok (.getfield 9, 3) := by decide +kernel
theorem dX3_addOneToLast_15 : decode cX3_addOneToLast 15 = .ok (.iload_n 1, 1) := by decide +kernel
theorem dX3_addOneToLast_16 : decode cX3_addOneToLast 16 = .ok (.iaload, 1) := by decide +kernel
theorem dX3_addOneToLast_17 : decode cX3_addOneToLast 17 = .ok (.sipush 255, 3) := by decide +kernel
theorem dX3_addOneToLast_20 : decode cX3_addOneToLast 20 = .ok (.if_icmp .ne 16, 3) := by decide +kernel
theorem dX3_addOneToLast_23 : decode cX3_addOneToLast 23 = .ok (.aload_n 0, 1) := by decide +kernel
theorem dX3_addOneToLast_24 : decode cX3_addOneToLast 24 = .ok (.getfield 9, 3) := by decide +kernel
theorem dX3_addOneToLast_27 : decode cX3_addOneToLast 27 = .ok (.iload_n 1, 1) := by decide +kernel
theorem dX3_addOneToLast_28 : decode cX3_addOneToLast 28 = .ok (.iconst 0, 1) := by decide +kernel
theorem dX3_addOneToLast_29 : decode cX3_addOneToLast 29 = .ok (.iastore, 1) := by decide +kernel
theorem dX3_addOneToLast_30 : decode cX3_addOneToLast 30 = .ok (.iinc 1 (-1), 3) := by decide +kernel
theorem dX3_addOneToLast_33 : decode cX3_addOneToLast 33 = .ok (.goto (-26), 3) := by decide +kernel
theorem dX3_addOneToLast_36 : decode cX3_addOneToLast 36 = .ok (.iload_n 1, 1) := by decide +kernel
theorem dX3_addOneToLast_37 : decode cX3_addOneToLast 37 = .ok (.ifCond .lt 13, 3) := by decide +kernel
theorem dX3_addOneToLast_40 : decode cX3_addOneToLast 40 = .ok (.aload_n 0, 1) := by decide +kernel
theorem dX3_addOneToLast_41 : decode cX3_addOneToLast 41 = .ok (.getfield 9, 3) := by decide +kernel
theorem dX3_addOneToLast_44 : decode cX3_addOneToLast 44 = .ok (.iload_n 1, 1) := by decide +kernel
theorem dX3_addOneToLast_45 : decode cX3_addOneToLast 45 = .ok (.dup2, 1) := by decide +kernel
theorem dX3_addOneToLast_46 : decode cX3_addOneToLast 46 = .ok (.iaload, 1) := by decide +kernel
theorem dX3_addOneToLast_47 : decode cX3_addOneToLast 47 = .ok (.iconst 1, 1) := by decide +kernel
theorem dX3_addOneToLast_48 : decode cX3_addOneToLast 48 = .ok (.iadd, 1) := by decide +kernel
theorem dX3_addOneToLast_49 : decode cX3_addOneToLast 49 = .ok (.iastore, 1) := by decide +kernel
theorem dX3_addOneToLast_50 : decode cX3_addOneToLast 50 = .ok (.return_, 1) := by decide +kernel
theorem dX4_init_0 : decode cX4_init 0 = .ok (.aload_n 0, 1) := by decide +kernel
theorem dX4_init_1 : decode cX4_init 1 = .ok (.invokespecial 3, 3) := by decide +kernel
theorem dX4_init_4 : decode cX4_init 4 = .ok (.aload_n 0, 1) := by decide +kernel
theorem dX4_init_5 : decode cX4_init 5 = .ok (.new 9, 3) := by decide +kernel
theorem dX4_init_8 : decode cX4_init 8 = .ok (.dup, 1) := by decide +kernel
theorem dX4_init_9 : decode cX4_init 9 = .ok (.invokespecial 11, 3) := by decide +kernel
theorem dX4_init_12 : decode cX4_init 12 = .ok (.putfield 12, 3) := by decide +kernel
theorem dX4_init_15 : decode cX4_init 15 = .ok (.aload_n 0, 1) := by decide +kernel
theorem dX4_init_16 : decode cX4_init 16 = .ok (.new 18, 3) := by decide +kernel
theorem dX4_init_19 : decode cX4_init 19 = .ok (.dup, 1) := by decide +kernel
theorem dX4_init_20 : decode cX4_init 20 = .ok (.invokespecial 20, 3) := by decide +kernel
theorem dX4_init_23 : decode cX4_init 23 = .ok (.putfield 21, 3) := by decide +kernel
theorem dX4_init_26 : decode cX4_init 26 = .ok (.aload_n 0, 1) := by decide +kernel
theorem dX4_init_27 : decode cX4_init 27 = .ok (.new 25, 3) := by decide +kernel
theorem dX4_init_30 : decode cX4_init 30 = .ok (.dup, 1) := by decide +kernel
theorem dX4_init_31 : decode cX4_init 31 = .ok (.invokespecial 27, 3) := by decide +kernel
theorem dX4_init_34 : decode cX4_init 34 = .ok (.putfield 28, 3) := by decide +kernel
theorem dX4_init_37 : decode cX4_init 37 = .ok (.aload_n 0, 1) := by decide +kernel
theorem dX4_init_38 : decode cX4_init 38 = .ok (.bipush 16, 2) := by decide +kernel
theorem dX4_init_40 : decode cX4_init 40 = .ok (.newarray .int, 2) := by decide +kernel
theorem dX4_init_42 : decode cX4_init 42 = .ok (.putfield 32, 3) := by decide +kernel
theorem dX4_init_45 : decode cX4_init 45 = .ok (.aload_n 0, 1) := by decide +kernel
theorem dX4_init_46 : decode cX4_init 46 = .ok (.bipush 16, 2) := by decide +kernel
theorem dX4_init_48 : decode cX4_init 48 = .ok (.newarray .int, 2) := by decide +kernel
theorem dX4_init_50 : decode cX4_init 50 = .ok (.putfield 36, 3) := by decide +kernel
theorem dX4_init_53 : decode cX4_init 53 = .ok (.aload_n 0, 1) := by decide +kernel
theorem dX4_init_54 : decode cX4_init 54 = .ok (.sipush 256, 3) := by decide +kernel
theorem dX4_init_57 : decode cX4_init 57 = .ok (.newarray .int, 2) := by decide +kernel
theorem dX4_init_59 : decode cX4_init 59 = .ok (.putfield 39, 3) := by decide +kernel
theorem dX4_init_62 : decode cX4_init 62 = .ok (.aload_n 0, 1) := by decide +kernel
theorem dX4_init_63 : decode cX4_init 63 = .ok (.bipush 16, 2) := by decide +kernel
theorem dX4_init_65 : decode cX4_init 65 = .ok (.newarray .boolean, 2) := by decide +kernel
theorem dX4_init_67 : decode cX4_init 67 = .ok (.putfield 42, 3) := by decide +kernel
theorem dX4_init_70 : decode cX4_init 70 = .ok (.aload_n 0, 1) := by decide +kernel
theorem dX4_init_71 : decode cX4_init 71 = .ok (.iconst 0, 1) := by decide +kernel
theorem dX4_init_72 : decode cX4_init 72 = .ok (.putfield 46, 3) := by decide +kernel
theorem dX4_init_75 : decode cX4_init 75 = .ok (.aload_n 0, 1) := by decide +kernel
theorem dX4_init_76 : decode cX4_init 76 = .ok (.iconst 0, 1) := by decide +kernel
theorem dX4_init_77 : decode cX4_init 77 = .ok (.putfield 50, 3) := by decide +kernel
theorem dX4_init_80 : decode cX4_init 80 = .ok (.aload_n 0, 1) := by decide +kernel
theorem dX4_init_81 : decode cX4_init 81 = .ok (.iconst 0, 1) := by decide +kernel
theorem dX4_init_82 : decode cX4_init 82 = .ok (.putfield 53, 3) := by decide +kernel
theorem dX4_init_85 : decode cX4_init 85 = .ok (.aload_n 0, 1) := by decide +kernel
theorem dX4_init_86 : decode cX4_init 86 = .ok (.iconst 0, 1) := by decide +kernel
theorem dX4_init_87 : decode cX4_init 87 = .ok (.putfield 56, 3) := by decide +kernel
theorem dX4_init_90 : decode cX4_init 90 = .ok (.aload_n 0, 1) := by decide +kernel
theorem dX4_init_91 : decode cX4_init 91 = .ok (.iconst 0, 1) := by decide +kernel
theorem dX4_init_92 : decode cX4_init 92 = .ok (.putfield 59, 3) := by decide +kernel
theorem dX4_init_95 : decode cX4_init 95 = .ok (.aload_n 0, 1) := by decide +kernel
theorem dX4_init_96 : decode cX4_init 96 = .ok (.iconst 0, 1) := by decide +kernel
theorem dX4_init_97 : decode cX4_init 97 = .ok (.putfield 62, 3) := by decide +kernel
theorem dX4_init_100 : decode cX4_init 100 = .ok (.aload_n 0, 1) := by decide +kernel
theorem dX4_init_101 : decode cX4_init 101 = .ok (.iconst 0, 1) := by decide +kernel
theorem dX4_init_102 : decode cX4_init 102 = .ok (.putfield 65, 3) := by decide +kernel
theorem dX4_init_105 : decode cX4_init 105 = .ok (.return_, 1) := by decide +kernel
theorem dX4_readFrom_0 : decode cX4_readFrom 0 = .ok (.aload_n 0, 1) := by decide +kernel
theorem dX4_readFrom_1 : decode cX4_readFrom 1 = .ok (.iconst 1, 1) := by decide +kernel
theorem dX4_readFrom_2 : decode cX4_readFrom 2 = .ok (.aload_n 1, 1) := by decide +kernel
theorem dX4_readFrom_3 : decode cX4_readFrom 3 = .ok (.iconst 2, 1) := by decide +kernel
theorem dX4_readFrom_4 : decode cX4_readFrom 4 = .ok (.invokevirtual 68, 3) := by decide +kernel
theorem dX4_readFrom_7 : decode cX4_readFrom 7 = .ok (.iadd, 1) := by decide +kernel
theorem dX4_readFrom_8 : decode cX4_readFrom 8 = .ok (.putfield 46, 3) := by decide +kernel
theorem dX4_readFrom_11 : decode cX4_readFrom 11 = .ok (.aload_n 0, 1) := by decide +kernel
theorem dX4_readFrom_12 : decode cX4_readFrom 12 = .ok (.iconst 1, 1) := by decide +kernel
theorem dX4_readFrom_13 : decode cX4_readFrom 13 = .ok (.aload_n 1, 1) := by decide +kernel
theorem dX4_readFrom_14 : decode cX4_readFrom 14 = .ok (.iconst 2, 1) := by decide +kernel
theorem dX4_readFrom_15 : decode cX4_readFrom 15 = .ok (.invokevirtual 68, 3) := by decide +kernel
theorem dX4_readFrom_18 : decode cX4_readFrom 18 = .ok (.iadd, 1) := by decide +kernel
theorem dX4_readFrom_19 : decode cX4_readFrom 19 = .ok (.putfield 50, 3) := by decide +kernel
theorem dX4_readFrom_22 : decode cX4_readFrom 22 = .ok (.aload_n 0, 1) := by decide +kernel
theorem dX4_readFrom_23 : decode cX4_readFrom 23 = .ok (.aload_n 1, 1) := by decide +kernel
theorem dX4_readFrom_24 : decode cX4_readFrom 24 = .ok (.bipush 7, 2) := by decide +kernel
theorem dX4_readFrom_26 : decode cX4_readFrom 26 = .ok (.invokevirtual 68, 3) := by decide +kernel
theorem dX4_readFrom_29 : decode cX4_readFrom 29 = .ok (.putfield 53, 3) := by decide +kernel
theorem dX4_readFrom_32 : decode cX4_readFrom 32 = .ok (.aload_n 0, 1) := by decide +kernel
theorem dX4_readFrom_33 : decode cX4_readFrom 33 = .ok (.aload_n 1, 1) := by decide +kernel
theorem dX4_readFrom_34 : decode cX4_readFrom 34 = .ok (.bipush 6, 2) := by decide +kernel
theorem dX4_readFrom_36 : decode cX4_readFrom 36 = .ok (.invokevirtual 68, 3) := by decide +kernel
theorem dX4_readFrom_39 : decode cX4_readFrom 39 = .ok (.putfield 56, 3) := by decide +kernel
theorem dX4_readFrom_42 : decode cX4_readFrom 42 = .ok (.aload_n 0, 1) := by decide +kernel
theorem dX4_readFrom_43 : decode cX4_readFrom 43 = .ok (.aload_n 0, 1) := by decide +kernel
theorem dX4_readFrom_44 : decode cX4_readFrom 44 = .ok (.getfield 12, 3) := by decide +kernel
theorem dX4_readFrom_47 : decode cX4_readFrom 47 = .ok (.aload_n 1, 1) := by decide +kernel
theorem dX4_readFrom_48 : decode cX4_readFrom 48 = .ok (.invokevirtual 74, 3) := by decide +kernel
theorem dX4_readFrom_51 : decode cX4_readFrom 51 = .ok (.putfield 59, 3) := by decide +kernel
theorem dX4_readFrom_54 : decode cX4_readFrom 54 = .ok (.iconst 0, 1) := by decide +kernel
theorem dX4_readFrom_55 : decode cX4_readFrom 55 = .ok (.istore_n 2, 1) := by decide +kernel
theorem dX4_readFrom_56 : decode cX4_readFrom 56 = .ok (.iload_n 2, 1) := by decide +kernel
theorem dX4_readFrom_57 : decode cX4_readFrom 57 = .ok (.aload_n 0, 1) := by decide +kernel
theorem dX4_readFrom_58 : decode cX4_readFrom 58 = .ok (.getfield 39, 3) := by decide +kernel
theorem dX4_readFrom_61 : decode cX4_readFrom 61 = .ok (.arraylength, 1) := by decide +kernel
theorem dX4_readFrom_62 : decode cX4_readFrom 62 = .ok (.if_icmp .ge 16, 3) := by decide +kernel
theorem dX4_readFrom_65 : decode cX4_readFrom 65 = .ok (.aload_n 0, 1) := by decide +kernel
theorem dX4_readFrom_66 : decode cX4_readFrom 66 = .ok (.getfield 39, 3) := by decide +kernel
theorem dX4_readFrom_69 : decode cX4_readFrom 69 = .ok (.iload_n 2, 1) := by decide +kernel
theorem dX4_readFrom_70 : decode cX4_readFrom 70 = .ok (.iconst 0, 1) := by decide +kernel
theorem dX4_readFrom_71 : decode cX4_readFrom 71 = .ok (.iastore, 1) := by decide +kernel
theorem dX4_readFrom_72 : decode cX4_readFrom 72 = .ok (.iinc 2 1, 3) := by decide +kernel
theorem dX4_readFrom_75 : decode cX4_readFrom 75 = .ok (.goto (-19), 3) := by decide +kernel
theorem dX4_readFrom_78 : decode cX4_readFrom 78 = .ok (.iconst 0, 1) := by decide +kernel
theorem dX4_readFrom_79 : decode cX4_readFrom 79 = .ok (.istore_n 2, 1) := by decide +kernel
theorem dX4_readFrom_80 : decode cX4_readFrom 80 = .ok (.iload_n 2, 1) := by decide +kernel
theorem dX4_readFrom_81 : decode cX4_readFrom 81 = .ok (.aload_n 0, 1) := by decide +kernel
theorem dX4_readFrom_82 : decode cX4_readFrom 82 = .ok (.getfield 50, 3) := by decide +kernel
theorem dX4_readFrom_85 : decode cX4_readFrom 85 = .ok (.if_icmp .ge 97, 3) := by decide +kernel
theorem dX4_readFrom_88 : decode cX4_readFrom 88 = .ok (.iconst 0, 1) := by decide +kernel
theorem dX4_readFrom_89 : decode cX4_readFrom 89 = .ok (.istore_n 3, 1) := by decide +kernel
theorem dX4_readFrom_90 : decode cX4_readFrom 90 = .ok (.iload_n 3, 1) := by decide +kernel
theorem dX4_readFrom_91 : decode cX4_readFrom 91 = .ok (.aload_n 0, 1) := by decide +kernel
theorem dX4_readFrom_92 : decode cX4_readFrom 92 = .ok (.getfield 46, 3) := by decide +kernel
theorem dX4_readFrom_95 : decode cX4_readFrom 95 = .ok (.if_icmp .ge 81, 3) := by decide +kernel
theorem dX4_readFrom_98 : decode cX4_readFrom 98 = .ok (.iload_n 2, 1) := by decide +kernel
theorem dX4_readFrom_99 : decode cX4_readFrom 99 = .ok (.aload_n 0, 1) := by decide +kernel
theorem dX4_readFrom_100 : decode cX4_readFrom 100 = .ok (.getfield 46, 3) := by decide +kernel
theorem dX4_readFrom_103 : decode cX4_readFrom 103 = .ok (.imul, 1) := by decide +kernel
theorem dX4_readFrom_104 : decode cX4_readFrom 104 = .ok (.iload_n 3, 1) := by decide +kernel
theorem dX4_readFrom_105 : decode cX4_readFrom 105 = .ok (.iadd, 1) := by decide +kernel
theorem dX4_readFrom_106 : decode cX4_readFrom 106 = .ok (.istore 4, 2) := by decide +kernel
theorem dX4_readFrom_108 : decode cX4_readFrom 108 = .ok (.aload_n 0, 1) := by decide +kernel
theorem dX4_readFrom_109 : decode cX4_readFrom 109 = .ok (.getfield 32, 3) := by decide +kernel
theorem dX4_readFrom_112 : decode cX4_readFrom 112 = .ok (.iload 4, 2) := by decide +kernel
theorem dX4_readFrom_114 : decode cX4_readFrom 114 = .ok (.aload_n 1, 1) := by decide +kernel
theorem dX4_readFrom_115 : decode cX4_readFrom 115 = .ok (.invokestatic 78, 3) := by decide +kernel
theorem dX4_readFrom_118 : decode cX4_readFrom 118 = .ok (.iastore, 1) := by decide +kernel
theorem dX4_readFrom_119 : decode cX4_readFrom 119 = .ok (.aload_n 0, 1) := by decide +kernel
theorem dX4_readFrom_120 : decode cX4_readFrom 120 = .ok (.getfield 36, 3) := by decide +kernel
theorem dX4_readFrom_123 : decode cX4_readFrom 123 = .ok (.iload 4, 2) := by decide +kernel
theorem dX4_readFrom_125 : decode cX4_readFrom 125 = .ok (.aload_n 0, 1) := by decide +kernel
theorem dX4_readFrom_126 : decode cX4_readFrom 126 = .ok (.getfield 12, 3) := by decide +kernel
theorem dX4_readFrom_129 : decode cX4_readFrom 129 = .ok (.aload_n 1, 1) := by decide +kernel
theorem dX4_readFrom_130 : decode cX4_readFrom 130 = .ok (.aload_n 0, 1) := by decide +kernel
theorem dX4_readFrom_131 : decode cX4_readFrom 131 = .ok (.iload_n 3, 1) := by decide +kernel
theorem dX4_readFrom_132 : decode cX4_readFrom 132 = .ok (.iload_n 2, 1) := by decide +kernel
theorem dX4_readFrom_133 : decode cX4_readFrom 133 = .ok (.invokevirtual 81, 3) := by decide +kernel
theorem dX4_readFrom_136 : decode cX4_readFrom 136 = .ok (.aload_n 0, 1) := by decide +kernel
theorem dX4_readFrom_137 : decode cX4_readFrom 137 = .ok (.getfield 39, 3) := by decide +kernel
theorem dX4_readFrom_140 : decode cX4_readFrom 140 = .ok (.iload 4, 2) := by decide +kernel
theorem dX4_readFrom_142 : decode cX4_readFrom 142 = .ok (.bipush 16, 2) := by decide +kernel
theorem dX4_readFrom_144 : decode cX4_readFrom 144 = .ok (.imul, 1) := by decide +kernel
theorem dX4_readFrom_145 : decode cX4_readFrom 145 = .ok (.invokevirtual 85, 3) := by decide +kernel
theorem dX4_readFrom_148 : decode cX4_readFrom 148 = .ok (.iastore, 1) := by decide +kernel
theorem dX4_readFrom_149 : decode cX4_readFrom 149 = .ok (.aload_n 0, 1) := by decide +kernel
theorem dX4_readFrom_150 : decode cX4_readFrom 150 = .ok (.getfield 42, 3) := by decide +kernel
theorem dX4_readFrom_153 : decode cX4_readFrom 153 = .ok (.iload 4, 2) := by decide +kernel
theorem dX4_readFrom_155 : decode cX4_readFrom 155 = .ok (.aload_n 0, 1) := by decide +kernel
theorem dX4_readFrom_156 : decode cX4_readFrom 156 = .ok (.iload 4, 2) := by decide +kernel
theorem dX4_readFrom_158 : decode cX4_readFrom 158 = .ok (.invokevirtual 89, 3) := by decide +kernel
theorem dX4_readFrom_161 : decode cX4_readFrom 161 = .ok (.bastore, 1) := by decide +kernel
theorem dX4_readFrom_162 : decode cX4_readFrom 162 = .ok (.aload_n 0, 1) := by decide +kernel
theorem dX4_readFrom_163 : decode cX4_readFrom 163 = .ok (.iload 4, 2) := by decide +kernel
theorem dX4_readFrom_165 : decode cX4_readFrom 165 = .ok (.iload_n 3, 1) := by decide +kernel
theorem dX4_readFrom_166 : decode cX4_readFrom 166 = .ok (.iload_n 2, 1) := by decide +kernel
theorem dX4_readFrom_167 : decode cX4_readFrom 167 = .ok (.invokevirtual 93, 3) := by decide +kernel
theorem dX4_readFrom_170 : decode cX4_readFrom 170 = .ok (.iinc 3 1, 3) := by decide +kernel
theorem dX4_readFrom_173 : decode cX4_readFrom 173 = .ok (.goto (-83), 3) := by decide +kernel
theorem dX4_readFrom_176 : decode cX4_readFrom 176 = .ok (.iinc 2 1, 3) := by decide +kernel
theorem dX4_readFrom_179 : decode cX4_readFrom 179 = .ok (.goto (-99), 3) := by decide +kernel
theorem dX4_readFrom_182 : decode cX4_readFrom 182 = .ok (.aload_n 0, 1) := by decide +kernel
theorem dX4_readFrom_183 : decode cX4_readFrom 183 = .ok (.aload_n 1, 1) := by decide +kernel
theorem dX4_readFrom_184 : decode cX4_readFrom 184 = .ok (.invokevirtual 97, 3) := by decide +kernel
theorem dX4_readFrom_187 : decode cX4_readFrom 187 = .ok (.putfield 62, 3) := by decide +kernel
theorem dX4_readFrom_190 : decode cX4_readFrom 190 = .ok (.aload_n 0, 1) := by decide +kernel
theorem dX4_readFrom_191 : decode cX4_readFrom 191 = .ok (.aload_n 0, 1) := by decide +kernel
theorem dX4_readFrom_192 : decode cX4_readFrom 192 = .ok (.getfield 56, 3) := by decide +kernel
theorem dX4_readFrom_195 : decode cX4_readFrom 195 = .ok (.ifCond .le 25, 3) := by decide +kernel
theorem dX4_readFrom_198 : decode cX4_readFrom 198 = .ok (.aload_n 0, 1) := by decide +kernel
theorem dX4_readFrom_199 : decode cX4_readFrom 199 = .ok (.getfield 28, 3) := by decide +kernel
theorem dX4_readFrom_202 : decode cX4_readFrom 202 = .ok (.aload_n 0, 1) := by decide +kernel
theorem dX4_readFrom_203 : decode cX4_readFrom 203 = .ok (.getfield 46, 3) := by decide +kernel
theorem dX4_readFrom_206 : decode cX4_readFrom 206 = .ok (.aload_n 0, 1) := by decide +kernel
theorem dX4_readFrom_207 : decode cX4_readFrom 207 = .ok (.getfield 50, 3) := by decide +kernel
theorem dX4_readFrom_210 : decode cX4_readFrom 210 = .ok (.aload_n 0, 1) := by decide +kernel
theorem dX4_readFrom_211 : decode cX4_readFrom 211 = .ok (.getfield 56, 3) := by decide +kernel
theorem dX4_readFrom_214 : decode cX4_readFrom 214 = .ok (.invokevirtual 100, 3) := by decide +kernel
theorem dX4_readFrom_217 : decode cX4_readFrom 217 = .ok (.goto 4, 3) := by decide +kernel
theorem dX4_readFrom_220 : decode cX4_readFrom 220 = .ok (.iconst 0, 1) := by decide +kernel
theorem dX4_readFrom_221 : decode cX4_readFrom 221 = .ok (.putfield 65, 3) := by decide +kernel
theorem dX4_readFrom_224 : decode cX4_readFrom 224 = .ok (.return_, 1) := by decide +kernel
theorem dX4_readWay_0 : decode cX4_readWay 0 = .ok (.aload_n 0, 1) := by decide +kernel
theorem dX4_readWay_1 : decode cX4_readWay 1 = .ok (.bipush 112, 2) := by decide +kernel
theorem dX4_readWay_3 : decode cX4_readWay 3 = .ok (.invokevirtual 104, 3) := by decide +kernel
theorem dX4_readWay_6 : decode cX4_readWay 6 = .ok (.ifCond .ne 5, 3) := by decide +kernel
theorem dX4_readWay_9 : decode cX4_readWay 9 = .ok (.iconst 0, 1) := by decide +kernel
theorem dX4_readWay_10 : decode cX4_readWay 10 = .ok (.ireturn, 1) := by decide +kernel
theorem dX4_readWay_11 : decode cX4_readWay 11 = .ok (.aload_n 0, 1) := by decide +kernel
theorem dX4_readWay_12 : decode cX4_readWay 12 = .ok (.bipush 86, 2) := by decide +kernel
theorem dX4_readWay_14 : decode cX4_readWay 14 = .ok (.invokevirtual 104, 3) := by decide +kernel
theorem dX4_readWay_17 : decode cX4_readWay 17 = .ok (.ifCond .ne 5, 3) := by decide +kernel
theorem dX4_readWay_20 : decode cX4_readWay 20 = .ok (.iconst 1, 1) := by decide +kernel
theorem dX4_readWay_21 : decode cX4_readWay 21 = .ok (.ireturn, 1) := by decide +kernel
theorem dX4_readWay_22 : decode cX4_readWay 22 = .ok (.aload_n 0, 1) := by decide +kernel
theorem dX4_readWay_23 : decode cX4_readWay 23 = .ok (.sipush 140, 3) := by decide +kernel
theorem dX4_readWay_26 : decode cX4_readWay 26 = .ok (.invokevirtual 104, 3) := by decide +kernel
theorem dX4_readWay_29 : decode cX4_readWay 29 = .ok (.ifCond .ne 7, 3) := by decide +kernel
theorem dX4_readWay_32 : decode cX4_readWay 32 = .ok (.iconst 2, 1) := by decide +kernel
theorem dX4_readWay_33 : decode cX4_readWay 33 = .ok (.goto 4, 3) := by decide +kernel
theorem dX4_readWay_36 : decode cX4_readWay 36 = .ok (.iconst 3, 1) := by decide +kernel
theorem dX4_readWay_37 : decode cX4_readWay 37 = .ok (.ireturn, 1) := by decide +kernel
theorem dX4_contextOf_0 : decode cX4_contextOf 0 = .ok (.iload_n 2, 1) := by decide +kernel
theorem dX4_contextOf_1 : decode cX4_contextOf 1 = .ok (.aload_n 0, 1) := by decide +kernel
theorem dX4_contextOf_2 : decode cX4_contextOf 2 = .ok (.getfield 46, 3) := by decide +kernel
theorem dX4_contextOf_5 : decode cX4_contextOf 5 = .ok (.imul, 1) := by decide +kernel
theorem dX4_contextOf_6 : decode cX4_contextOf 6 = .ok (.iload_n 1, 1) := by decide +kernel
theorem dX4_contextOf_7 : decode cX4_contextOf 7 = .ok (.iadd, 1) := by decide +kernel
theorem dX4_contextOf_8 : decode cX4_contextOf 8 = .ok (.istore_n 3, 1) := by decide +kernel
theorem dX4_contextOf_9 : decode cX4_contextOf 9 = .ok (.iconst 0, 1) := by decide +kernel
theorem dX4_contextOf_10 : decode cX4_contextOf 10 = .ok (.istore 4, 2) := by decide +kernel
theorem dX4_contextOf_12 : decode cX4_contextOf 12 = .ok (.iload_n 1, 1) := by decide +kernel
theorem dX4_contextOf_13 : decode cX4_contextOf 13 = .ok (.ifCond .le 17, 3) := by decide +kernel
theorem dX4_contextOf_16 : decode cX4_contextOf 16 = .ok (.aload_n 0, 1) := by decide +kernel
theorem dX4_contextOf_17 : decode cX4_contextOf 17 = .ok (.getfield 42, 3) := by decide +kernel
theorem dX4_contextOf_20 : decode cX4_contextOf 20 = .ok (.iload_n 3, 1) := by decide +kernel
theorem dX4_contextOf_21 : decode cX4_contextOf 21 = .ok (.iconst 1, 1) := by decide +kernel
theorem dX4_contextOf_22 : decode cX4_contextOf 22 = .ok (.isub, 1) := by decide +kernel
theorem dX4_contextOf_23 : decode cX4_contextOf 23 = .ok (.baload, 1) := by decide +kernel
theorem dX4_contextOf_24 : decode cX4_contextOf 24 = .ok (.ifCond .eq 6, 3) := by decide +kernel
theorem dX4_contextOf_27 : decode cX4_contextOf 27 = .ok (.iinc 4 1, 3) := by decide +kernel
theorem dX4_contextOf_30 : decode cX4_contextOf 30 = .ok (.iload_n 2, 1) := by decide +kernel
theorem dX4_contextOf_31 : decode cX4_contextOf 31 = .ok (.ifCond .le 20, 3) := by decide +kernel
theorem dX4_contextOf_34 : decode cX4_contextOf 34 = .ok (.aload_n 0, 1) := by decide +kernel
theorem dX4_contextOf_35 : decode cX4_contextOf 35 = .ok (.getfield 42, 3) := by decide +kernel
theorem dX4_contextOf_38 : decode cX4_contextOf 38 = .ok (.iload_n 3, 1) := by decide +kernel
theorem dX4_contextOf_39 : decode cX4_contextOf 39 = .ok (.aload_n 0, 1) := by decide +kernel
theorem dX4_contextOf_40 : decode cX4_contextOf 40 = .ok (.getfield 46, 3) := by decide +kernel
theorem dX4_contextOf_43 : decode cX4_contextOf 43 = .ok (.isub, 1) := by decide +kernel
theorem dX4_contextOf_44 : decode cX4_contextOf 44 = .ok (.baload, 1) := by decide +kernel
theorem dX4_contextOf_45 : decode cX4_contextOf 45 = .ok (.ifCond .eq 6, 3) := by decide +kernel
theorem dX4_contextOf_48 : decode cX4_contextOf 48 = .ok (.iinc 4 1, 3) := by decide +kernel
theorem dX4_contextOf_51 : decode cX4_contextOf 51 = .ok (.iload 4, 2) := by decide +kernel
theorem dX4_contextOf_53 : decode cX4_contextOf 53 = .ok (.ireturn, 1) := by decide +kernel
theorem dX4_hasSomeNotZero_0 : decode cX4_hasSomeNotZero 0 = .ok (.iconst 0, 1) := by decide +kernel
theorem dX4_hasSomeNotZero_1 : decode cX4_hasSomeNotZero 1 = .ok (.istore_n 2, 1) := by decide +kernel
theorem dX4_hasSomeNotZero_2 : decode cX4_hasSomeNotZero 2 = .ok (.iload_n 2, 1) := by decide +kernel
theorem dX4_hasSomeNotZero_3 : decode cX4_hasSomeNotZero 3 = .ok (.bipush 16, 2) := by decide +kernel
theorem dX4_hasSomeNotZero_5 : decode cX4_hasSomeNotZero 5 = .ok (.if_icmp .ge 25, 3) := by decide +kernel
theorem dX4_hasSomeNotZero_8 : decode cX4_hasSomeNotZero 8 = .ok (.aload_n 0, 1) := by decide +kernel
theorem dX4_hasSomeNotZero_9 : decode cX4_hasSomeNotZero 9 = .ok (.getfield 39, 3) := by decide +kernel
theorem dX4_hasSomeNotZero_12 : decode cX4_hasSomeNotZero 12 = .ok (.iload_n 1, 1) := by decide +kernel
theorem dX4_hasSomeNotZero_13 : decode cX4_hasSomeNotZero 13 = .ok (.bipush 16, 2) := by decide +kernel
theorem dX4_hasSomeNotZero_15 : decode cX4_hasSomeNotZero 15 = .ok (.imul, 1) := by decide +kernel
theorem dX4_hasSomeNotZero_16 : decode cX4_hasSomeNotZero 16 = .ok (.iload_n 2, 1) := by decide +kernel
theorem dX4_hasSomeNotZero_17 : decode cX4_hasSomeNotZero 17 = .ok (.iadd, 1) := by decide +kernel
theorem dX4_hasSomeNotZero_18 : decode cX4_hasSomeNotZero 18 = .ok (.iaload, 1) := by decide +kernel
theorem dX4_hasSomeNotZero_19 : decode cX4_hasSomeNotZero 19 = .ok (.ifCond .eq 5, 3) := by decide +kernel
theorem dX4_hasSomeNotZero_22 : decode cX4_hasSomeNotZero 22 = .ok (.iconst 1, 1) := by decide +kernel
theorem dX4_hasSomeNotZero_23 : decode cX4_hasSomeNotZero 23 = .ok (.ireturn, 1) := by decide +kernel
theorem dX4_hasSomeNotZero_24 : decode cX4_hasSomeNotZero 24 = .ok (.iinc 2 1, 3) := by decide +kernel
theorem dX4_hasSomeNotZero_27 : decode cX4_hasSomeNotZero 27 = .ok (.goto (-25), 3) := by decide +kernel
theorem dX4_hasSomeNotZero_30 : decode cX4_hasSomeNotZero 30 = .ok (.iconst 0, 1) := by decide +kernel
theorem dX4_hasSomeNotZero_31 : decode cX4_hasSomeNotZero 31 = .ok (.ireturn, 1) := by decide +kernel
theorem dX4_rebuild_0 : decode cX4_rebuild 0 = .ok (.aload_n 0, 1) := by decide +kernel
theorem dX4_rebuild_1 : decode cX4_rebuild 1 = .ok (.getfield 21, 3) := by decide +kernel
theorem dX4_rebuild_4 : decode cX4_rebuild 4 = .ok (.aload_n 0, 1) := by decide +kernel
theorem dX4_rebuild_5 : decode cX4_rebuild 5 = .ok (.getfield 39, 3) := by decide +kernel
theorem dX4_rebuild_8 : decode cX4_rebuild 8 = .ok (.iload_n 1, 1) := by decide +kernel
theorem dX4_rebuild_9 : decode cX4_rebuild 9 = .ok (.bipush 16, 2) := by decide +kernel
theorem dX4_rebuild_11 : decode cX4_rebuild 11 = .ok (.imul, 1) := by decide +kernel
theorem dX4_rebuild_12 : decode cX4_rebuild 12 = .ok (.aload_n 0, 1) := by decide +kernel
theorem dX4_rebuild_13 : decode cX4_rebuild 13 = .ok (.getfield 53, 3) := by decide +kernel
theorem dX4_rebuild_16 : decode cX4_rebuild 16 = .ok (.invokevirtual 107, 3) := by decide +kernel
theorem dX4_rebuild_19 : decode cX4_rebuild 19 = .ok (.aload_n 0, 1) := by decide +kernel
theorem dX4_rebuild_20 : decode cX4_rebuild 20 = .ok (.getfield 21, 3) := by decide +kernel
theorem dX4_rebuild_23 : decode cX4_rebuild 23 = .ok (.invokevirtual 111, 3) := by decide +kernel
