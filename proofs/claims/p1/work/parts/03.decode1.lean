theorem dX4_rebuild_26 : decode cX4_rebuild 26 = .ok (.aload_n 0, 1) := by decide +kernel
theorem dX4_rebuild_27 : decode cX4_rebuild 27 = .ok (.getfield 28, 3) := by decide +kernel
theorem dX4_rebuild_30 : decode cX4_rebuild 30 = .ok (.iconst 4, 1) := by decide +kernel
theorem dX4_rebuild_31 : decode cX4_rebuild 31 = .ok (.iload_n 2, 1) := by decide +kernel
theorem dX4_rebuild_32 : decode cX4_rebuild 32 = .ok (.imul, 1) := by decide +kernel
theorem dX4_rebuild_33 : decode cX4_rebuild 33 = .ok (.iconst 4, 1) := by decide +kernel
theorem dX4_rebuild_34 : decode cX4_rebuild 34 = .ok (.iload_n 3, 1) := by decide +kernel
theorem dX4_rebuild_35 : decode cX4_rebuild 35 = .ok (.imul, 1) := by decide +kernel
theorem dX4_rebuild_36 : decode cX4_rebuild 36 = .ok (.aload_n 0, 1) := by decide +kernel
theorem dX4_rebuild_37 : decode cX4_rebuild 37 = .ok (.getfield 32, 3) := by decide +kernel
theorem dX4_rebuild_40 : decode cX4_rebuild 40 = .ok (.iload_n 1, 1) := by decide +kernel
theorem dX4_rebuild_41 : decode cX4_rebuild 41 = .ok (.iaload, 1) := by decide +kernel
theorem dX4_rebuild_42 : decode cX4_rebuild 42 = .ok (.aload_n 0, 1) := by decide +kernel
theorem dX4_rebuild_43 : decode cX4_rebuild 43 = .ok (.getfield 21, 3) := by decide +kernel
theorem dX4_rebuild_46 : decode cX4_rebuild 46 = .ok (.getfield 114, 3) := by decide +kernel
theorem dX4_rebuild_49 : decode cX4_rebuild 49 = .ok (.invokevirtual 118, 3) := by decide +kernel
theorem dX4_rebuild_52 : decode cX4_rebuild 52 = .ok (.return_, 1) := by decide +kernel
theorem dX4_blocks_0 : decode cX4_blocks 0 = .ok (.aload_n 0, 1) := by decide +kernel
theorem dX4_blocks_1 : decode cX4_blocks 1 = .ok (.getfield 46, 3) := by decide +kernel
theorem dX4_blocks_4 : decode cX4_blocks 4 = .ok (.aload_n 0, 1) := by decide +kernel
theorem dX4_blocks_5 : decode cX4_blocks 5 = .ok (.getfield 50, 3) := by decide +kernel
theorem dX4_blocks_8 : decode cX4_blocks 8 = .ok (.imul, 1) := by decide +kernel
theorem dX4_blocks_9 : decode cX4_blocks 9 = .ok (.ireturn, 1) := by decide +kernel
theorem dX4_hasBlock_0 : decode cX4_hasBlock 0 = .ok (.iload_n 1, 1) := by decide +kernel
theorem dX4_hasBlock_1 : decode cX4_hasBlock 1 = .ok (.ifCond .lt 15, 3) := by decide +kernel
theorem dX4_hasBlock_4 : decode cX4_hasBlock 4 = .ok (.iload_n 1, 1) := by decide +kernel
theorem dX4_hasBlock_5 : decode cX4_hasBlock 5 = .ok (.aload_n 0, 1) := by decide +kernel
theorem dX4_hasBlock_6 : decode cX4_hasBlock 6 = .ok (.invokevirtual 121, 3) := by decide +kernel
theorem dX4_hasBlock_9 : decode cX4_hasBlock 9 = .ok (.if_icmp .ge 7, 3) := by decide +kernel
theorem dX4_hasBlock_12 : decode cX4_hasBlock 12 = .ok (.iconst 1, 1) := by decide +kernel
theorem dX4_hasBlock_13 : decode cX4_hasBlock 13 = .ok (.goto 4, 3) := by decide +kernel
theorem dX4_hasBlock_16 : decode cX4_hasBlock 16 = .ok (.iconst 0, 1) := by decide +kernel
theorem dX4_hasBlock_17 : decode cX4_hasBlock 17 = .ok (.ireturn, 1) := by decide +kernel
theorem dX4_sampleAt_0 : decode cX4_sampleAt 0 = .ok (.iload_n 1, 1) := by decide +kernel
theorem dX4_sampleAt_1 : decode cX4_sampleAt 1 = .ok (.ifCond .lt 31, 3) := by decide +kernel
theorem dX4_sampleAt_4 : decode cX4_sampleAt 4 = .ok (.iload_n 1, 1) := by decide +kernel
theorem dX4_sampleAt_5 : decode cX4_sampleAt 5 = .ok (.iconst 4, 1) := by decide +kernel
theorem dX4_sampleAt_6 : decode cX4_sampleAt 6 = .ok (.aload_n 0, 1) := by decide +kernel
theorem dX4_sampleAt_7 : decode cX4_sampleAt 7 = .ok (.getfield 46, 3) := by decide +kernel
theorem dX4_sampleAt_10 : decode cX4_sampleAt 10 = .ok (.imul, 1) := by decide +kernel
theorem dX4_sampleAt_11 : decode cX4_sampleAt 11 = .ok (.if_icmp .ge 21, 3) := by decide +kernel
theorem dX4_sampleAt_14 : decode cX4_sampleAt 14 = .ok (.iload_n 2, 1) := by decide +kernel
theorem dX4_sampleAt_15 : decode cX4_sampleAt 15 = .ok (.ifCond .lt 17, 3) := by decide +kernel
theorem dX4_sampleAt_18 : decode cX4_sampleAt 18 = .ok (.iload_n 2, 1) := by decide +kernel
theorem dX4_sampleAt_19 : decode cX4_sampleAt 19 = .ok (.iconst 4, 1) := by decide +kernel
theorem dX4_sampleAt_20 : decode cX4_sampleAt 20 = .ok (.aload_n 0, 1) := by decide +kernel
theorem dX4_sampleAt_21 : decode cX4_sampleAt 21 = .ok (.getfield 50, 3) := by decide +kernel
theorem dX4_sampleAt_24 : decode cX4_sampleAt 24 = .ok (.imul, 1) := by decide +kernel
theorem dX4_sampleAt_25 : decode cX4_sampleAt 25 = .ok (.if_icmp .ge 7, 3) := by decide +kernel
theorem dX4_sampleAt_28 : decode cX4_sampleAt 28 = .ok (.iconst 1, 1) := by decide +kernel
theorem dX4_sampleAt_29 : decode cX4_sampleAt 29 = .ok (.goto 4, 3) := by decide +kernel
theorem dX4_sampleAt_32 : decode cX4_sampleAt 32 = .ok (.iconst 0, 1) := by decide +kernel
theorem dX4_sampleAt_33 : decode cX4_sampleAt 33 = .ok (.istore_n 3, 1) := by decide +kernel
theorem dX4_sampleAt_34 : decode cX4_sampleAt 34 = .ok (.iload_n 3, 1) := by decide +kernel
theorem dX4_sampleAt_35 : decode cX4_sampleAt 35 = .ok (.ifCond .eq 15, 3) := by decide +kernel
theorem dX4_sampleAt_38 : decode cX4_sampleAt 38 = .ok (.aload_n 0, 1) := by decide +kernel
theorem dX4_sampleAt_39 : decode cX4_sampleAt 39 = .ok (.getfield 28, 3) := by decide +kernel
theorem dX4_sampleAt_42 : decode cX4_sampleAt 42 = .ok (.iload_n 1, 1) := by decide +kernel
theorem dX4_sampleAt_43 : decode cX4_sampleAt 43 = .ok (.iload_n 2, 1) := by decide +kernel
theorem dX4_sampleAt_44 : decode cX4_sampleAt 44 = .ok (.invokevirtual 124, 3) := by decide +kernel
theorem dX4_sampleAt_47 : decode cX4_sampleAt 47 = .ok (.goto 4, 3) := by decide +kernel
theorem dX4_sampleAt_50 : decode cX4_sampleAt 50 = .ok (.iconst (-1), 1) := by decide +kernel
theorem dX4_sampleAt_51 : decode cX4_sampleAt 51 = .ok (.ireturn, 1) := by decide +kernel
theorem dX4_wayOf_0 : decode cX4_wayOf 0 = .ok (.aload_n 0, 1) := by decide +kernel
theorem dX4_wayOf_1 : decode cX4_wayOf 1 = .ok (.iload_n 1, 1) := by decide +kernel
theorem dX4_wayOf_2 : decode cX4_wayOf 2 = .ok (.invokevirtual 127, 3) := by decide +kernel
theorem dX4_wayOf_5 : decode cX4_wayOf 5 = .ok (.ifCond .eq 12, 3) := by decide +kernel
theorem dX4_wayOf_8 : decode cX4_wayOf 8 = .ok (.aload_n 0, 1) := by decide +kernel
theorem dX4_wayOf_9 : decode cX4_wayOf 9 = .ok (.getfield 32, 3) := by decide +kernel
theorem dX4_wayOf_12 : decode cX4_wayOf 12 = .ok (.iload_n 1, 1) := by decide +kernel
theorem dX4_wayOf_13 : decode cX4_wayOf 13 = .ok (.iaload, 1) := by decide +kernel
theorem dX4_wayOf_14 : decode cX4_wayOf 14 = .ok (.goto 4, 3) := by decide +kernel
theorem dX4_wayOf_17 : decode cX4_wayOf 17 = .ok (.iconst (-1), 1) := by decide +kernel
theorem dX4_wayOf_18 : decode cX4_wayOf 18 = .ok (.ireturn, 1) := by decide +kernel
theorem dX4_coefficientsReadOf_0 : decode cX4_coefficientsReadOf 0 = .ok (.aload_n 0, 1) := by decide +kernel
theorem dX4_coefficientsReadOf_1 : decode cX4_coefficientsReadOf 1 = .ok (.iload_n 1, 1) := by decide +kernel
theorem dX4_coefficientsReadOf_2 : decode cX4_coefficientsReadOf 2 = .ok (.invokevirtual 127, 3) := by decide +kernel
theorem dX4_coefficientsReadOf_5 : decode cX4_coefficientsReadOf 5 = .ok (.ifCond .eq 12, 3) := by decide +kernel
theorem dX4_coefficientsReadOf_8 : decode cX4_coefficientsReadOf 8 = .ok (.aload_n 0, 1) := by decide +kernel
theorem dX4_coefficientsReadOf_9 : decode cX4_coefficientsReadOf 9 = .ok (.getfield 36, 3) := by decide +kernel
theorem dX4_coefficientsReadOf_12 : decode cX4_coefficientsReadOf 12 = .ok (.iload_n 1, 1) := by decide +kernel
theorem dX4_coefficientsReadOf_13 : decode cX4_coefficientsReadOf 13 = .ok (.iaload, 1) := by decide +kernel
theorem dX4_coefficientsReadOf_14 : decode cX4_coefficientsReadOf 14 = .ok (.goto 4, 3) := by decide +kernel
theorem dX4_coefficientsReadOf_17 : decode cX4_coefficientsReadOf 17 = .ok (.iconst (-1), 1) := by decide +kernel
theorem dX4_coefficientsReadOf_18 : decode cX4_coefficientsReadOf 18 = .ok (.ireturn, 1) := by decide +kernel
theorem dX4_coefficientOf_0 : decode cX4_coefficientOf 0 = .ok (.aload_n 0, 1) := by decide +kernel
theorem dX4_coefficientOf_1 : decode cX4_coefficientOf 1 = .ok (.iload_n 1, 1) := by decide +kernel
theorem dX4_coefficientOf_2 : decode cX4_coefficientOf 2 = .ok (.invokevirtual 127, 3) := by decide +kernel
theorem dX4_coefficientOf_5 : decode cX4_coefficientOf 5 = .ok (.ifCond .eq 17, 3) := by decide +kernel
theorem dX4_coefficientOf_8 : decode cX4_coefficientOf 8 = .ok (.aload_n 0, 1) := by decide +kernel
theorem dX4_coefficientOf_9 : decode cX4_coefficientOf 9 = .ok (.getfield 39, 3) := by decide +kernel
theorem dX4_coefficientOf_12 : decode cX4_coefficientOf 12 = .ok (.iload_n 1, 1) := by decide +kernel
theorem dX4_coefficientOf_13 : decode cX4_coefficientOf 13 = .ok (.bipush 16, 2) := by decide +kernel
theorem dX4_coefficientOf_15 : decode cX4_coefficientOf 15 = .ok (.imul, 1) := by decide +kernel
theorem dX4_coefficientOf_16 : decode cX4_coefficientOf 16 = .ok (.iload_n 2, 1) := by decide +kernel
theorem dX4_coefficientOf_17 : decode cX4_coefficientOf 17 = .ok (.iadd, 1) := by decide +kernel
theorem dX4_coefficientOf_18 : decode cX4_coefficientOf 18 = .ok (.iaload, 1) := by decide +kernel
theorem dX4_coefficientOf_19 : decode cX4_coefficientOf 19 = .ok (.goto 4, 3) := by decide +kernel
theorem dX4_coefficientOf_22 : decode cX4_coefficientOf 22 = .ok (.iconst 0, 1) := by decide +kernel
theorem dX4_coefficientOf_23 : decode cX4_coefficientOf 23 = .ok (.ireturn, 1) := by decide +kernel
theorem dX5_init_0 : decode cX5_init 0 = .ok (.aload_n 0, 1) := by decide +kernel
theorem dX5_init_1 : decode cX5_init 1 = .ok (.invokespecial 1, 3) := by decide +kernel
theorem dX5_init_4 : decode cX5_init 4 = .ok (.aload_n 0, 1) := by decide +kernel
theorem dX5_init_5 : decode cX5_init 5 = .ok (.sipush 256, 3) := by decide +kernel
theorem dX5_init_8 : decode cX5_init 8 = .ok (.newarray .int, 2) := by decide +kernel
theorem dX5_init_10 : decode cX5_init 10 = .ok (.putfield 9, 3) := by decide +kernel
theorem dX5_init_13 : decode cX5_init 13 = .ok (.return_, 1) := by decide +kernel
theorem dX5_at_0 : decode cX5_at 0 = .ok (.aload_n 0, 1) := by decide +kernel
theorem dX5_at_1 : decode cX5_at 1 = .ok (.getfield 9, 3) := by decide +kernel
theorem dX5_at_4 : decode cX5_at 4 = .ok (.iload_n 2, 1) := by decide +kernel
theorem dX5_at_5 : decode cX5_at 5 = .ok (.bipush 16, 2) := by decide +kernel
theorem dX5_at_7 : decode cX5_at 7 = .ok (.imul, 1) := by decide +kernel
theorem dX5_at_8 : decode cX5_at 8 = .ok (.iload_n 1, 1) := by decide +kernel
theorem dX5_at_9 : decode cX5_at 9 = .ok (.iadd, 1) := by decide +kernel
theorem dX5_at_10 : decode cX5_at 10 = .ok (.iaload, 1) := by decide +kernel
theorem dX5_at_11 : decode cX5_at 11 = .ok (.ireturn, 1) := by decide +kernel
theorem dX5_above_0 : decode cX5_above 0 = .ok (.iload_n 2, 1) := by decide +kernel
theorem dX5_above_1 : decode cX5_above 1 = .ok (.ifCond .ne 8, 3) := by decide +kernel
theorem dX5_above_4 : decode cX5_above 4 = .ok (.bipush 127, 2) := by decide +kernel
theorem dX5_above_6 : decode cX5_above 6 = .ok (.goto 11, 3) := by decide +kernel
theorem dX5_above_9 : decode cX5_above 9 = .ok (.aload_n 0, 1) := by decide +kernel
theorem dX5_above_10 : decode cX5_above 10 = .ok (.iload_n 1, 1) := by decide +kernel
theorem dX5_above_11 : decode cX5_above 11 = .ok (.iload_n 2, 1) := by decide +kernel
theorem dX5_above_12 : decode cX5_above 12 = .ok (.iconst 1, 1) := by decide +kernel
theorem dX5_above_13 : decode cX5_above 13 = .ok (.isub, 1) := by decide +kernel
theorem dX5_above_14 : decode cX5_above 14 = .ok (.invokevirtual 13, 3) := by decide +kernel
theorem dX5_above_17 : decode cX5_above 17 = .ok (.ireturn, 1) := by decide +kernel
theorem dX5_leftOf_0 : decode cX5_leftOf 0 = .ok (.iload_n 1, 1) := by decide +kernel
theorem dX5_leftOf_1 : decode cX5_leftOf 1 = .ok (.ifCond .ne 9, 3) := by decide +kernel
theorem dX5_leftOf_4 : decode cX5_leftOf 4 = .ok (.sipush 129, 3) := by decide +kernel
theorem dX5_leftOf_7 : decode cX5_leftOf 7 = .ok (.goto 11, 3) := by decide +kernel
theorem dX5_leftOf_10 : decode cX5_leftOf 10 = .ok (.aload_n 0, 1) := by decide +kernel
theorem dX5_leftOf_11 : decode cX5_leftOf 11 = .ok (.iload_n 1, 1) := by decide +kernel
theorem dX5_leftOf_12 : decode cX5_leftOf 12 = .ok (.iconst 1, 1) := by decide +kernel
theorem dX5_leftOf_13 : decode cX5_leftOf 13 = .ok (.isub, 1) := by decide +kernel
theorem dX5_leftOf_14 : decode cX5_leftOf 14 = .ok (.iload_n 2, 1) := by decide +kernel
theorem dX5_leftOf_15 : decode cX5_leftOf 15 = .ok (.invokevirtual 13, 3) := by decide +kernel
theorem dX5_leftOf_18 : decode cX5_leftOf 18 = .ok (.ireturn, 1) := by decide +kernel
theorem dX5_corner_0 : decode cX5_corner 0 = .ok (.iload_n 2, 1) := by decide +kernel
theorem dX5_corner_1 : decode cX5_corner 1 = .ok (.ifCond .ne 8, 3) := by decide +kernel
theorem dX5_corner_4 : decode cX5_corner 4 = .ok (.bipush 127, 2) := by decide +kernel
theorem dX5_corner_6 : decode cX5_corner 6 = .ok (.goto 11, 3) := by decide +kernel
theorem dX5_corner_9 : decode cX5_corner 9 = .ok (.aload_n 0, 1) := by decide +kernel
theorem dX5_corner_10 : decode cX5_corner 10 = .ok (.iload_n 1, 1) := by decide +kernel
theorem dX5_corner_11 : decode cX5_corner 11 = .ok (.iload_n 2, 1) := by decide +kernel
theorem dX5_corner_12 : decode cX5_corner 12 = .ok (.iconst 1, 1) := by decide +kernel
theorem dX5_corner_13 : decode cX5_corner 13 = .ok (.isub, 1) := by decide +kernel
theorem dX5_corner_14 : decode cX5_corner 14 = .ok (.invokevirtual 17, 3) := by decide +kernel
theorem dX5_corner_17 : decode cX5_corner 17 = .ok (.ireturn, 1) := by decide +kernel
theorem dX5_rebuild_0 : decode cX5_rebuild 0 = .ok (.aload_n 0, 1) := by decide +kernel
theorem dX5_rebuild_1 : decode cX5_rebuild 1 = .ok (.iload_n 1, 1) := by decide +kernel
theorem dX5_rebuild_2 : decode cX5_rebuild 2 = .ok (.iload_n 2, 1) := by decide +kernel
theorem dX5_rebuild_3 : decode cX5_rebuild 3 = .ok (.invokevirtual 20, 3) := by decide +kernel
theorem dX5_rebuild_6 : decode cX5_rebuild 6 = .ok (.istore 5, 2) := by decide +kernel
theorem dX5_rebuild_8 : decode cX5_rebuild 8 = .ok (.aload_n 0, 1) := by decide +kernel
theorem dX5_rebuild_9 : decode cX5_rebuild 9 = .ok (.iload_n 1, 1) := by decide +kernel
theorem dX5_rebuild_10 : decode cX5_rebuild 10 = .ok (.iload_n 2, 1) := by decide +kernel
theorem dX5_rebuild_11 : decode cX5_rebuild 11 = .ok (.invokevirtual 23, 3) := by decide +kernel
theorem dX5_rebuild_14 : decode cX5_rebuild 14 = .ok (.istore 6, 2) := by decide +kernel
theorem dX5_rebuild_16 : decode cX5_rebuild 16 = .ok (.iconst 0, 1) := by decide +kernel
theorem dX5_rebuild_17 : decode cX5_rebuild 17 = .ok (.istore 7, 2) := by decide +kernel
theorem dX5_rebuild_19 : decode cX5_rebuild 19 = .ok (.iload 7, 2) := by decide +kernel
theorem dX5_rebuild_21 : decode cX5_rebuild 21 = .ok (.bipush 16, 2) := by decide +kernel
theorem dX5_rebuild_23 : decode cX5_rebuild 23 = .ok (.if_icmp .ge 125, 3) := by decide +kernel
theorem dX5_rebuild_26 : decode cX5_rebuild 26 = .ok (.iload_n 1, 1) := by decide +kernel
theorem dX5_rebuild_27 : decode cX5_rebuild 27 = .ok (.iload 7, 2) := by decide +kernel
theorem dX5_rebuild_29 : decode cX5_rebuild 29 = .ok (.iconst 4, 1) := by decide +kernel
theorem dX5_rebuild_30 : decode cX5_rebuild 30 = .ok (.irem, 1) := by decide +kernel
theorem dX5_rebuild_31 : decode cX5_rebuild 31 = .ok (.iadd, 1) := by decide +kernel
theorem dX5_rebuild_32 : decode cX5_rebuild 32 = .ok (.istore 8, 2) := by decide +kernel
theorem dX5_rebuild_34 : decode cX5_rebuild 34 = .ok (.iload_n 2, 1) := by decide +kernel
theorem dX5_rebuild_35 : decode cX5_rebuild 35 = .ok (.iload 7, 2) := by decide +kernel
theorem dX5_rebuild_37 : decode cX5_rebuild 37 = .ok (.iconst 4, 1) := by decide +kernel
theorem dX5_rebuild_38 : decode cX5_rebuild 38 = .ok (.idiv, 1) := by decide +kernel
theorem dX5_rebuild_39 : decode cX5_rebuild 39 = .ok (.iadd, 1) := by decide +kernel
theorem dX5_rebuild_40 : decode cX5_rebuild 40 = .ok (.istore 9, 2) := by decide +kernel
theorem dX5_rebuild_42 : decode cX5_rebuild 42 = .ok (.iload 5, 2) := by decide +kernel
theorem dX5_rebuild_44 : decode cX5_rebuild 44 = .ok (.istore 10, 2) := by decide +kernel
theorem dX5_rebuild_46 : decode cX5_rebuild 46 = .ok (.iload_n 3, 1) := by decide +kernel
theorem dX5_rebuild_47 : decode cX5_rebuild 47 = .ok (.iconst 1, 1) := by decide +kernel
theorem dX5_rebuild_48 : decode cX5_rebuild 48 = .ok (.if_icmp .ne 15, 3) := by decide +kernel
theorem dX5_rebuild_51 : decode cX5_rebuild 51 = .ok (.aload_n 0, 1) := by decide +kernel
theorem dX5_rebuild_52 : decode cX5_rebuild 52 = .ok (.iload 8, 2) := by decide +kernel
theorem dX5_rebuild_54 : decode cX5_rebuild 54 = .ok (.iload_n 2, 1) := by decide +kernel
theorem dX5_rebuild_55 : decode cX5_rebuild 55 = .ok (.invokevirtual 28, 3) := by decide +kernel
theorem dX5_rebuild_58 : decode cX5_rebuild 58 = .ok (.istore 10, 2) := by decide +kernel
theorem dX5_rebuild_60 : decode cX5_rebuild 60 = .ok (.goto 53, 3) := by decide +kernel
theorem dX5_rebuild_63 : decode cX5_rebuild 63 = .ok (.iload_n 3, 1) := by decide +kernel
theorem dX5_rebuild_64 : decode cX5_rebuild 64 = .ok (.iconst 2, 1) := by decide +kernel
theorem dX5_rebuild_65 : decode cX5_rebuild 65 = .ok (.if_icmp .ne 15, 3) := by decide +kernel
theorem dX5_rebuild_68 : decode cX5_rebuild 68 = .ok (.aload_n 0, 1) := by decide +kernel
theorem dX5_rebuild_69 : decode cX5_rebuild 69 = .ok (.iload_n 1, 1) := by decide +kernel
theorem dX5_rebuild_70 : decode cX5_rebuild 70 = .ok (.iload 9, 2) := by decide +kernel
theorem dX5_rebuild_72 : decode cX5_rebuild 72 = .ok (.invokevirtual 17, 3) := by decide +kernel
theorem dX5_rebuild_75 : decode cX5_rebuild 75 = .ok (.istore 10, 2) := by decide +kernel
theorem dX5_rebuild_77 : decode cX5_rebuild 77 = .ok (.goto 36, 3) := by decide +kernel
theorem dX5_rebuild_80 : decode cX5_rebuild 80 = .ok (.iload_n 3, 1) := by decide +kernel
theorem dX5_rebuild_81 : decode cX5_rebuild 81 = .ok (.iconst 3, 1) := by decide +kernel
theorem dX5_rebuild_82 : decode cX5_rebuild 82 = .ok (.if_icmp .ne 31, 3) := by decide +kernel
theorem dX5_rebuild_85 : decode cX5_rebuild 85 = .ok (.aload_n 0, 1) := by decide +kernel
theorem dX5_rebuild_86 : decode cX5_rebuild 86 = .ok (.iload_n 1, 1) := by decide +kernel
theorem dX5_rebuild_87 : decode cX5_rebuild 87 = .ok (.iload 9, 2) := by decide +kernel
theorem dX5_rebuild_89 : decode cX5_rebuild 89 = .ok (.invokevirtual 17, 3) := by decide +kernel
theorem dX5_rebuild_92 : decode cX5_rebuild 92 = .ok (.aload_n 0, 1) := by decide +kernel
theorem dX5_rebuild_93 : decode cX5_rebuild 93 = .ok (.iload 8, 2) := by decide +kernel
theorem dX5_rebuild_95 : decode cX5_rebuild 95 = .ok (.iload_n 2, 1) := by decide +kernel
theorem dX5_rebuild_96 : decode cX5_rebuild 96 = .ok (.invokevirtual 28, 3) := by decide +kernel
theorem dX5_rebuild_99 : decode cX5_rebuild 99 = .ok (.iadd, 1) := by decide +kernel
theorem dX5_rebuild_100 : decode cX5_rebuild 100 = .ok (.iload 6, 2) := by decide +kernel
theorem dX5_rebuild_102 : decode cX5_rebuild 102 = .ok (.isub, 1) := by decide +kernel
theorem dX5_rebuild_103 : decode cX5_rebuild 103 = .ok (.i2l, 1) := by decide +kernel
theorem dX5_rebuild_104 : decode cX5_rebuild 104 = .ok (.iconst 0, 1) := by decide +kernel
theorem dX5_rebuild_105 : decode cX5_rebuild 105 = .ok (.sipush 255, 3) := by decide +kernel
theorem dX5_rebuild_108 : decode cX5_rebuild 108 = .ok (.invokestatic 31, 3) := by decide +kernel
theorem dX5_rebuild_111 : decode cX5_rebuild 111 = .ok (.istore 10, 2) := by decide +kernel
theorem dX5_rebuild_113 : decode cX5_rebuild 113 = .ok (.aload_n 0, 1) := by decide +kernel
theorem dX5_rebuild_114 : decode cX5_rebuild 114 = .ok (.getfield 9, 3) := by decide +kernel
theorem dX5_rebuild_117 : decode cX5_rebuild 117 = .ok (.iload 9, 2) := by decide +kernel
theorem dX5_rebuild_119 : decode cX5_rebuild 119 = .ok (.bipush 16, 2) := by decide +kernel
theorem dX5_rebuild_121 : decode cX5_rebuild 121 = .ok (.imul, 1) := by decide +kernel
theorem dX5_rebuild_122 : decode cX5_rebuild 122 = .ok (.iload 8, 2) := by decide +kernel
theorem dX5_rebuild_124 : decode cX5_rebuild 124 = .ok (.iadd, 1) := by decide +kernel
theorem dX5_rebuild_125 : decode cX5_rebuild 125 = .ok (.iload 10, 2) := by decide +kernel
theorem dX5_rebuild_127 : decode cX5_rebuild 127 = .ok (.i2l, 1) := by decide +kernel
theorem dX5_rebuild_128 : decode cX5_rebuild 128 = .ok (.aload 4, 2) := by decide +kernel
theorem dX5_rebuild_130 : decode cX5_rebuild 130 = .ok (.iload 7, 2) := by decide +kernel
theorem dX5_rebuild_132 : decode cX5_rebuild 132 = .ok (.laload, 1) := by decide +kernel
theorem dX5_rebuild_133 : decode cX5_rebuild 133 = .ok (.ladd, 1) := by decide +kernel
theorem dX5_rebuild_134 : decode cX5_rebuild 134 = .ok (.iconst 0, 1) := by decide +kernel
theorem dX5_rebuild_135 : decode cX5_rebuild 135 = .ok (.sipush 255, 3) := by decide +kernel
theorem dX5_rebuild_138 : decode cX5_rebuild 138 = .ok (.invokestatic 31, 3) := by decide +kernel
theorem dX5_rebuild_141 : decode cX5_rebuild 141 = .ok (.iastore, 1) := by decide +kernel
theorem dX5_rebuild_142 : decode cX5_rebuild 142 = .ok (.iinc 7 1, 3) := by decide +kernel
theorem dX5_rebuild_145 : decode cX5_rebuild 145 = .ok (.goto (-126), 3) := by decide +kernel
theorem dX5_rebuild_148 : decode cX5_rebuild 148 = .ok (.return_, 1) := by decide +kernel
theorem dX5_evenOf_0 : decode cX5_evenOf 0 = .ok (.iconst 4, 1) := by decide +kernel
theorem dX5_evenOf_1 : decode cX5_evenOf 1 = .ok (.istore_n 3, 1) := by decide +kernel
theorem dX5_evenOf_2 : decode cX5_evenOf 2 = .ok (.iconst 0, 1) := by decide +kernel
theorem dX5_evenOf_3 : decode cX5_evenOf 3 = .ok (.istore 4, 2) := by decide +kernel
theorem dX5_evenOf_5 : decode cX5_evenOf 5 = .ok (.iload 4, 2) := by decide +kernel
theorem dX5_evenOf_7 : decode cX5_evenOf 7 = .ok (.iconst 4, 1) := by decide +kernel
theorem dX5_evenOf_8 : decode cX5_evenOf 8 = .ok (.if_icmp .ge 31, 3) := by decide +kernel
theorem dX5_evenOf_11 : decode cX5_evenOf 11 = .ok (.iload_n 3, 1) := by decide +kernel
theorem dX5_evenOf_12 : decode cX5_evenOf 12 = .ok (.aload_n 0, 1) := by decide +kernel
theorem dX5_evenOf_13 : decode cX5_evenOf 13 = .ok (.iload_n 1, 1) := by decide +kernel
theorem dX5_evenOf_14 : decode cX5_evenOf 14 = .ok (.iload 4, 2) := by decide +kernel
theorem dX5_evenOf_16 : decode cX5_evenOf 16 = .ok (.iadd, 1) := by decide +kernel
theorem dX5_evenOf_17 : decode cX5_evenOf 17 = .ok (.iload_n 2, 1) := by decide +kernel
theorem dX5_evenOf_18 : decode cX5_evenOf 18 = .ok (.invokevirtual 28, 3) := by decide +kernel
theorem dX5_evenOf_21 : decode cX5_evenOf 21 = .ok (.aload_n 0, 1) := by decide +kernel
theorem dX5_evenOf_22 : decode cX5_evenOf 22 = .ok (.iload_n 1, 1) := by decide +kernel
theorem dX5_evenOf_23 : decode cX5_evenOf 23 = .ok (.iload_n 2, 1) := by decide +kernel
theorem dX5_evenOf_24 : decode cX5_evenOf 24 = .ok (.iload 4, 2) := by decide +kernel
theorem dX5_evenOf_26 : decode cX5_evenOf 26 = .ok (.iadd, 1) := by decide +kernel
theorem dX5_evenOf_27 : decode cX5_evenOf 27 = .ok (.invokevirtual 17, 3) := by decide +kernel
theorem dX5_evenOf_30 : decode cX5_evenOf 30 = .ok (.iadd, 1) := by decide +kernel
theorem dX5_evenOf_31 : decode cX5_evenOf 31 = .ok (.iadd, 1) := by decide +kernel
theorem dX5_evenOf_32 : decode cX5_evenOf 32 = .ok (.istore_n 3, 1) := by decide +kernel
theorem dX5_evenOf_33 : decode cX5_evenOf 33 = .ok (.iinc 4 1, 3) := by decide +kernel
theorem dX5_evenOf_36 : decode cX5_evenOf 36 = .ok (.goto (-31), 3) := by decide +kernel
theorem dX5_evenOf_39 : decode cX5_evenOf 39 = .ok (.iload_n 3, 1) := by decide +kernel
theorem dX5_evenOf_40 : decode cX5_evenOf 40 = .ok (.bipush 8, 2) := by decide +kernel
theorem dX5_evenOf_42 : decode cX5_evenOf 42 = .ok (.idiv, 1) := by decide +kernel
theorem dX5_evenOf_43 : decode cX5_evenOf 43 = .ok (.ireturn, 1) := by decide +kernel
theorem dX5_filterAll_0 : decode cX5_filterAll 0 = .ok (.iconst 2, 1) := by decide +kernel
theorem dX5_filterAll_1 : decode cX5_filterAll 1 = .ok (.iload_n 3, 1) := by decide +kernel
theorem dX5_filterAll_2 : decode cX5_filterAll 2 = .ok (.imul, 1) := by decide +kernel
theorem dX5_filterAll_3 : decode cX5_filterAll 3 = .ok (.iconst 4, 1) := by decide +kernel
theorem dX5_filterAll_4 : decode cX5_filterAll 4 = .ok (.iadd, 1) := by decide +kernel
theorem dX5_filterAll_5 : decode cX5_filterAll 5 = .ok (.istore 4, 2) := by decide +kernel
theorem dX5_filterAll_7 : decode cX5_filterAll 7 = .ok (.iconst 0, 1) := by decide +kernel
theorem dX5_filterAll_8 : decode cX5_filterAll 8 = .ok (.istore 5, 2) := by decide +kernel
theorem dX5_filterAll_10 : decode cX5_filterAll 10 = .ok (.iconst 0, 1) := by decide +kernel
theorem dX5_filterAll_11 : decode cX5_filterAll 11 = .ok (.istore 6, 2) := by decide +kernel
theorem dX5_filterAll_13 : decode cX5_filterAll 13 = .ok (.iload 6, 2) := by decide +kernel
theorem dX5_filterAll_15 : decode cX5_filterAll 15 = .ok (.iload_n 2, 1) := by decide +kernel
theorem dX5_filterAll_16 : decode cX5_filterAll 16 = .ok (.if_icmp .ge 78, 3) := by decide +kernel
theorem dX5_filterAll_19 : decode cX5_filterAll 19 = .ok (.iconst 0, 1) := by decide +kernel
theorem dX5_filterAll_20 : decode cX5_filterAll 20 = .ok (.istore 7, 2) := by decide +kernel
theorem dX5_filterAll_22 : decode cX5_filterAll 22 = .ok (.iload 7, 2) := by decide +kernel
theorem dX5_filterAll_24 : decode cX5_filterAll 24 = .ok (.iload_n 1, 1) := by decide +kernel
theorem dX5_filterAll_25 : decode cX5_filterAll 25 = .ok (.if_icmp .ge 63, 3) := by decide +kernel
theorem dX5_filterAll_28 : decode cX5_filterAll 28 = .ok (.iconst 4, 1) := by decide +kernel
theorem dX5_filterAll_29 : decode cX5_filterAll 29 = .ok (.iload 6, 2) := by decide +kernel
theorem dX5_filterAll_31 : decode cX5_filterAll 31 = .ok (.bipush 16, 2) := by decide +kernel
theorem dX5_filterAll_33 : decode cX5_filterAll 33 = .ok (.imul, 1) := by decide +kernel
theorem dX5_filterAll_34 : decode cX5_filterAll 34 = .ok (.iload 7, 2) := by decide +kernel
theorem dX5_filterAll_36 : decode cX5_filterAll 36 = .ok (.iadd, 1) := by decide +kernel
theorem dX5_filterAll_37 : decode cX5_filterAll 37 = .ok (.imul, 1) := by decide +kernel
theorem dX5_filterAll_38 : decode cX5_filterAll 38 = .ok (.istore 8, 2) := by decide +kernel
theorem dX5_filterAll_40 : decode cX5_filterAll 40 = .ok (.iload 7, 2) := by decide +kernel
theorem dX5_filterAll_42 : decode cX5_filterAll 42 = .ok (.ifCond .le 19, 3) := by decide +kernel
theorem dX5_filterAll_45 : decode cX5_filterAll 45 = .ok (.iload 5, 2) := by decide +kernel
theorem dX5_filterAll_47 : decode cX5_filterAll 47 = .ok (.aload_n 0, 1) := by decide +kernel
theorem dX5_filterAll_48 : decode cX5_filterAll 48 = .ok (.iload 8, 2) := by decide +kernel
theorem dX5_filterAll_50 : decode cX5_filterAll 50 = .ok (.bipush 16, 2) := by decide +kernel
theorem dX5_filterAll_52 : decode cX5_filterAll 52 = .ok (.iconst 1, 1) := by decide +kernel
theorem dX5_filterAll_53 : decode cX5_filterAll 53 = .ok (.iload 4, 2) := by decide +kernel
theorem dX5_filterAll_55 : decode cX5_filterAll 55 = .ok (.invokevirtual 37, 3) := by decide +kernel
theorem dX5_filterAll_58 : decode cX5_filterAll 58 = .ok (.iadd, 1) := by decide +kernel
theorem dX5_filterAll_59 : decode cX5_filterAll 59 = .ok (.istore 5, 2) := by decide +kernel
theorem dX5_filterAll_61 : decode cX5_filterAll 61 = .ok (.iload 6, 2) := by decide +kernel
theorem dX5_filterAll_63 : decode cX5_filterAll 63 = .ok (.ifCond .le 19, 3) := by decide +kernel
theorem dX5_filterAll_66 : decode cX5_filterAll 66 = .ok (.iload 5, 2) := by decide +kernel
theorem dX5_filterAll_68 : decode cX5_filterAll 68 = .ok (.aload_n 0, 1) := by decide +kernel
theorem dX5_filterAll_69 : decode cX5_filterAll 69 = .ok (.iload 8, 2) := by decide +kernel
theorem dX5_filterAll_71 : decode cX5_filterAll 71 = .ok (.iconst 1, 1) := by decide +kernel
theorem dX5_filterAll_72 : decode cX5_filterAll 72 = .ok (.bipush 16, 2) := by decide +kernel
theorem dX5_filterAll_74 : decode cX5_filterAll 74 = .ok (.iload 4, 2) := by decide +kernel
theorem dX5_filterAll_76 : decode cX5_filterAll 76 = .ok (.invokevirtual 37, 3) := by decide +kernel
theorem dX5_filterAll_79 : decode cX5_filterAll 79 = .ok (.iadd, 1) := by decide +kernel
theorem dX5_filterAll_80 : decode cX5_filterAll 80 = .ok (.istore 5, 2) := by decide +kernel
theorem dX5_filterAll_82 : decode cX5_filterAll 82 = .ok (.iinc 7 1, 3) := by decide +kernel
theorem dX5_filterAll_85 : decode cX5_filterAll 85 = .ok (.goto (-63), 3) := by decide +kernel
theorem dX5_filterAll_88 : decode cX5_filterAll 88 = .ok (.iinc 6 1, 3) := by decide +kernel
theorem dX5_filterAll_91 : decode cX5_filterAll 91 = .ok (.goto (-78), 3) := by decide +kernel
theorem dX5_filterAll_94 : decode cX5_filterAll 94 = .ok (.iload 5, 2) := by decide +kernel
theorem dX5_filterAll_96 : decode cX5_filterAll 96 = .ok (.ireturn, 1) := by decide +kernel
theorem dX5_filterEdge_0 : decode cX5_filterEdge 0 = .ok (.iconst 0, 1) := by decide +kernel
theorem dX5_filterEdge_1 : decode cX5_filterEdge 1 = .ok (.istore 5, 2) := by decide +kernel
theorem dX5_filterEdge_3 : decode cX5_filterEdge 3 = .ok (.iconst 0, 1) := by decide +kernel
theorem dX5_filterEdge_4 : decode cX5_filterEdge 4 = .ok (.istore 6, 2) := by decide +kernel
theorem dX5_filterEdge_6 : decode cX5_filterEdge 6 = .ok (.iload 6, 2) := by decide +kernel
theorem dX5_filterEdge_8 : decode cX5_filterEdge 8 = .ok (.iconst 4, 1) := by decide +kernel
theorem dX5_filterEdge_9 : decode cX5_filterEdge 9 = .ok (.if_icmp .ge 28, 3) := by decide +kernel
theorem dX5_filterEdge_12 : decode cX5_filterEdge 12 = .ok (.aload_n 0, 1) := by decide +kernel
theorem dX5_filterEdge_13 : decode cX5_filterEdge 13 = .ok (.iload_n 1, 1) := by decide +kernel
theorem dX5_filterEdge_14 : decode cX5_filterEdge 14 = .ok (.iload 6, 2) := by decide +kernel
theorem dX5_filterEdge_16 : decode cX5_filterEdge 16 = .ok (.iload_n 2, 1) := by decide +kernel
theorem dX5_filterEdge_17 : decode cX5_filterEdge 17 = .ok (.imul, 1) := by decide +kernel
theorem dX5_filterEdge_18 : decode cX5_filterEdge 18 = .ok (.iadd, 1) := by decide +kernel
theorem dX5_filterEdge_19 : decode cX5_filterEdge 19 = .ok (.iload_n 3, 1) := by decide +kernel
theorem dX5_filterEdge_20 : decode cX5_filterEdge 20 = .ok (.iload 4, 2) := by decide +kernel
theorem dX5_filterEdge_22 : decode cX5_filterEdge 22 = .ok (.invokevirtual 41, 3) := by decide +kernel
theorem dX5_filterEdge_25 : decode cX5_filterEdge 25 = .ok (.ifCond .eq 6, 3) := by decide +kernel
theorem dX5_filterEdge_28 : decode cX5_filterEdge 28 = .ok (.iinc 5 1, 3) := by decide +kernel
theorem dX5_filterEdge_31 : decode cX5_filterEdge 31 = .ok (.iinc 6 1, 3) := by decide +kernel
theorem dX5_filterEdge_34 : decode cX5_filterEdge 34 = .ok (.goto (-28), 3) := by decide +kernel
theorem dX5_filterEdge_37 : decode cX5_filterEdge 37 = .ok (.iload 5, 2) := by decide +kernel
theorem dX5_filterEdge_39 : decode cX5_filterEdge 39 = .ok (.ireturn, 1) := by decide +kernel
theorem dX5_filterFour_0 : decode cX5_filterFour 0 = .ok (.aload_n 0, 1) := by decide +kernel
theorem dX5_filterFour_1 : decode cX5_filterFour 1 = .ok (.getfield 9, 3) := by decide +kernel
theorem dX5_filterFour_4 : decode cX5_filterFour 4 = .ok (.iload_n 1, 1) := by decide +kernel
theorem dX5_filterFour_5 : decode cX5_filterFour 5 = .ok (.iconst 2, 1) := by decide +kernel
theorem dX5_filterFour_6 : decode cX5_filterFour 6 = .ok (.iload_n 2, 1) := by decide +kernel
theorem dX5_filterFour_7 : decode cX5_filterFour 7 = .ok (.imul, 1) := by decide +kernel
theorem dX5_filterFour_8 : decode cX5_filterFour 8 = .ok (.isub, 1) := by decide +kernel
theorem dX5_filterFour_9 : decode cX5_filterFour 9 = .ok (.iaload, 1) := by decide +kernel
theorem dX5_filterFour_10 : decode cX5_filterFour 10 = .ok (.sipush 128, 3) := by decide +kernel
theorem dX5_filterFour_13 : decode cX5_filterFour 13 = .ok (.isub, 1) := by decide +kernel
theorem dX5_filterFour_14 : decode cX5_filterFour 14 = .ok (.istore 4, 2) := by decide +kernel
theorem dX5_filterFour_16 : decode cX5_filterFour 16 = .ok (.aload_n 0, 1) := by decide +kernel
theorem dX5_filterFour_17 : decode cX5_filterFour 17 = .ok (.getfield 9, 3) := by decide +kernel
theorem dX5_filterFour_20 : decode cX5_filterFour 20 = .ok (.iload_n 1, 1) := by decide +kernel
theorem dX5_filterFour_21 : decode cX5_filterFour 21 = .ok (.iload_n 2, 1) := by decide +kernel
theorem dX5_filterFour_22 : decode cX5_filterFour 22 = .ok (.isub, 1) := by decide +kernel
theorem dX5_filterFour_23 : decode cX5_filterFour 23 = .ok (.iaload, 1) := by decide +kernel
theorem dX5_filterFour_24 : decode cX5_filterFour 24 = .ok (.sipush 128, 3) := by decide +kernel
theorem dX5_filterFour_27 : decode cX5_filterFour 27 = .ok (.isub, 1) := by decide +kernel
theorem dX5_filterFour_28 : decode cX5_filterFour 28 = .ok (.istore 5, 2) := by decide +kernel
theorem dX5_filterFour_30 : decode cX5_filterFour 30 = .ok (.aload_n 0, 1) := by decide +kernel
theorem dX5_filterFour_31 : decode cX5_filterFour 31 = .ok (.getfield 9, 3) := by decide +kernel
theorem dX5_filterFour_34 : decode cX5_filterFour 34 = .ok (.iload_n 1, 1) := by decide +kernel
theorem dX5_filterFour_35 : decode cX5_filterFour 35 = .ok (.iaload, 1) := by decide +kernel
theorem dX5_filterFour_36 : decode cX5_filterFour 36 = .ok (.sipush 128, 3) := by decide +kernel
theorem dX5_filterFour_39 : decode cX5_filterFour 39 = .ok (.isub, 1) := by decide +kernel
theorem dX5_filterFour_40 : decode cX5_filterFour 40 = .ok (.istore 6, 2) := by decide +kernel
theorem dX5_filterFour_42 : decode cX5_filterFour 42 = .ok (.aload_n 0, 1) := by decide +kernel
theorem dX5_filterFour_43 : decode cX5_filterFour 43 = .ok (.getfield 9, 3) := by decide +kernel
theorem dX5_filterFour_46 : decode cX5_filterFour 46 = .ok (.iload_n 1, 1) := by decide +kernel
theorem dX5_filterFour_47 : decode cX5_filterFour 47 = .ok (.iload_n 2, 1) := by decide +kernel
theorem dX5_filterFour_48 : decode cX5_filterFour 48 = .ok (.iadd, 1) := by decide +kernel
theorem dX5_filterFour_49 : decode cX5_filterFour 49 = .ok (.iaload, 1) := by decide +kernel
theorem dX5_filterFour_50 : decode cX5_filterFour 50 = .ok (.sipush 128, 3) := by decide +kernel
theorem dX5_filterFour_53 : decode cX5_filterFour 53 = .ok (.isub, 1) := by decide +kernel
theorem dX5_filterFour_54 : decode cX5_filterFour 54 = .ok (.istore 7, 2) := by decide +kernel
theorem dX5_filterFour_56 : decode cX5_filterFour 56 = .ok (.iconst 2, 1) := by decide +kernel
theorem dX5_filterFour_57 : decode cX5_filterFour 57 = .ok (.iload 5, 2) := by decide +kernel
theorem dX5_filterFour_59 : decode cX5_filterFour 59 = .ok (.iload 6, 2) := by decide +kernel
theorem dX5_filterFour_61 : decode cX5_filterFour 61 = .ok (.isub, 1) := by decide +kernel
theorem dX5_filterFour_62 : decode cX5_filterFour 62 = .ok (.invokestatic 45, 3) := by decide +kernel
theorem dX5_filterFour_65 : decode cX5_filterFour 65 = .ok (.imul, 1) := by decide +kernel
theorem dX5_filterFour_66 : decode cX5_filterFour 66 = .ok (.iload 4, 2) := by decide +kernel
theorem dX5_filterFour_68 : decode cX5_filterFour 68 = .ok (.iload 7, 2) := by decide +kernel
theorem dX5_filterFour_70 : decode cX5_filterFour 70 = .ok (.isub, 1) := by decide +kernel
theorem dX5_filterFour_71 : decode cX5_filterFour 71 = .ok (.invokestatic 45, 3) := by decide +kernel
theorem dX5_filterFour_74 : decode cX5_filterFour 74 = .ok (.iconst 2, 1) := by decide +kernel
theorem dX5_filterFour_75 : decode cX5_filterFour 75 = .ok (.idiv, 1) := by decide +kernel
theorem dX5_filterFour_76 : decode cX5_filterFour 76 = .ok (.iadd, 1) := by decide +kernel
theorem dX5_filterFour_77 : decode cX5_filterFour 77 = .ok (.iload_n 3, 1) := by decide +kernel
theorem dX5_filterFour_78 : decode cX5_filterFour 78 = .ok (.if_icmp .le 5, 3) := by decide +kernel
theorem dX5_filterFour_81 : decode cX5_filterFour 81 = .ok (.iconst 0, 1) := by decide +kernel
theorem dX5_filterFour_82 : decode cX5_filterFour 82 = .ok (.ireturn, 1) := by decide +kernel
theorem dX5_filterFour_83 : decode cX5_filterFour 83 = .ok (.iload 4, 2) := by decide +kernel
theorem dX5_filterFour_85 : decode cX5_filterFour 85 = .ok (.iload 7, 2) := by decide +kernel
theorem dX5_filterFour_87 : decode cX5_filterFour 87 = .ok (.isub, 1) := by decide +kernel
theorem dX5_filterFour_88 : decode cX5_filterFour 88 = .ok (.invokestatic 51, 3) := by decide +kernel
theorem dX5_filterFour_91 : decode cX5_filterFour 91 = .ok (.iconst 3, 1) := by decide +kernel
theorem dX5_filterFour_92 : decode cX5_filterFour 92 = .ok (.iload 6, 2) := by decide +kernel
theorem dX5_filterFour_94 : decode cX5_filterFour 94 = .ok (.iload 5, 2) := by decide +kernel
theorem dX5_filterFour_96 : decode cX5_filterFour 96 = .ok (.isub, 1) := by decide +kernel
theorem dX5_filterFour_97 : decode cX5_filterFour 97 = .ok (.imul, 1) := by decide +kernel
theorem dX5_filterFour_98 : decode cX5_filterFour 98 = .ok (.iadd, 1) := by decide +kernel
theorem dX5_filterFour_99 : decode cX5_filterFour 99 = .ok (.invokestatic 51, 3) := by decide +kernel
theorem dX5_filterFour_102 : decode cX5_filterFour 102 = .ok (.istore 8, 2) := by decide +kernel
theorem dX5_filterFour_104 : decode cX5_filterFour 104 = .ok (.iload 6, 2) := by decide +kernel
theorem dX5_filterFour_106 : decode cX5_filterFour 106 = .ok (.iload 8, 2) := by decide +kernel
theorem dX5_filterFour_108 : decode cX5_filterFour 108 = .ok (.iconst 4, 1) := by decide +kernel
theorem dX5_filterFour_109 : decode cX5_filterFour 109 = .ok (.iadd, 1) := by decide +kernel
theorem dX5_filterFour_110 : decode cX5_filterFour 110 = .ok (.invokestatic 51, 3) := by decide +kernel
theorem dX5_filterFour_113 : decode cX5_filterFour 113 = .ok (.iconst 3, 1) := by decide +kernel
theorem dX5_filterFour_114 : decode cX5_filterFour 114 = .ok (.ishr, 1) := by decide +kernel
theorem dX5_filterFour_115 : decode cX5_filterFour 115 = .ok (.isub, 1) := by decide +kernel
theorem dX5_filterFour_116 : decode cX5_filterFour 116 = .ok (.invokestatic 51, 3) := by decide +kernel
theorem dX5_filterFour_119 : decode cX5_filterFour 119 = .ok (.istore 9, 2) := by decide +kernel
theorem dX5_filterFour_121 : decode cX5_filterFour 121 = .ok (.iload 5, 2) := by decide +kernel
theorem dX5_filterFour_123 : decode cX5_filterFour 123 = .ok (.iload 8, 2) := by decide +kernel
theorem dX5_filterFour_125 : decode cX5_filterFour 125 = .ok (.iconst 3, 1) := by decide +kernel
theorem dX5_filterFour_126 : decode cX5_filterFour 126 = .ok (.iadd, 1) := by decide +kernel
theorem dX5_filterFour_127 : decode cX5_filterFour 127 = .ok (.invokestatic 51, 3) := by decide +kernel
theorem dX5_filterFour_130 : decode cX5_filterFour 130 = .ok (.iconst 3, 1) := by decide +kernel
theorem dX5_filterFour_131 : decode cX5_filterFour 131 = .ok (.ishr, 1) := by decide +kernel
theorem dX5_filterFour_132 : decode cX5_filterFour 132 = .ok (.iadd, 1) := by decide +kernel
theorem dX5_filterFour_133 : decode cX5_filterFour 133 = .ok (.invokestatic 51, 3) := by decide +kernel
theorem dX5_filterFour_136 : decode cX5_filterFour 136 = .ok (.istore 10, 2) := by decide +kernel
theorem dX5_filterFour_138 : decode cX5_filterFour 138 = .ok (.aload_n 0, 1) := by decide +kernel
theorem dX5_filterFour_139 : decode cX5_filterFour 139 = .ok (.getfield 9, 3) := by decide +kernel
theorem dX5_filterFour_142 : decode cX5_filterFour 142 = .ok (.iload_n 1, 1) := by decide +kernel
theorem dX5_filterFour_143 : decode cX5_filterFour 143 = .ok (.iload 9, 2) := by decide +kernel
theorem dX5_filterFour_145 : decode cX5_filterFour 145 = .ok (.sipush 128, 3) := by decide +kernel
theorem dX5_filterFour_148 : decode cX5_filterFour 148 = .ok (.iadd, 1) := by decide +kernel
theorem dX5_filterFour_149 : decode cX5_filterFour 149 = .ok (.iastore, 1) := by decide +kernel
theorem dX5_filterFour_150 : decode cX5_filterFour 150 = .ok (.aload_n 0, 1) := by decide +kernel
theorem dX5_filterFour_151 : decode cX5_filterFour 151 = .ok (.getfield 9, 3) := by decide +kernel
theorem dX5_filterFour_154 : decode cX5_filterFour 154 = .ok (.iload_n 1, 1) := by decide +kernel
theorem dX5_filterFour_155 : decode cX5_filterFour 155 = .ok (.iload_n 2, 1) := by decide +kernel
theorem dX5_filterFour_156 : decode cX5_filterFour 156 = .ok (.isub, 1) := by decide +kernel
theorem dX5_filterFour_157 : decode cX5_filterFour 157 = .ok (.iload 10, 2) := by decide +kernel
theorem dX5_filterFour_159 : decode cX5_filterFour 159 = .ok (.sipush 128, 3) := by decide +kernel
theorem dX5_filterFour_162 : decode cX5_filterFour 162 = .ok (.iadd, 1) := by decide +kernel
theorem dX5_filterFour_163 : decode cX5_filterFour 163 = .ok (.iastore, 1) := by decide +kernel
theorem dX5_filterFour_164 : decode cX5_filterFour 164 = .ok (.iload 9, 2) := by decide +kernel
theorem dX5_filterFour_166 : decode cX5_filterFour 166 = .ok (.iload 6, 2) := by decide +kernel
theorem dX5_filterFour_168 : decode cX5_filterFour 168 = .ok (.if_icmp .ne 10, 3) := by decide +kernel
theorem dX5_filterFour_171 : decode cX5_filterFour 171 = .ok (.iload 10, 2) := by decide +kernel
theorem dX5_filterFour_173 : decode cX5_filterFour 173 = .ok (.iload 5, 2) := by decide +kernel
theorem dX5_filterFour_175 : decode cX5_filterFour 175 = .ok (.if_icmp .eq 7, 3) := by decide +kernel
theorem dX5_filterFour_178 : decode cX5_filterFour 178 = .ok (.iconst 1, 1) := by decide +kernel
theorem dX5_filterFour_179 : decode cX5_filterFour 179 = .ok (.goto 4, 3) := by decide +kernel
theorem dX5_filterFour_182 : decode cX5_filterFour 182 = .ok (.iconst 0, 1) := by decide +kernel
theorem dX5_filterFour_183 : decode cX5_filterFour 183 = .ok (.ireturn, 1) := by decide +kernel
theorem dX5_small_0 : decode cX5_small 0 = .ok (.iload_n 0, 1) := by decide +kernel
theorem dX5_small_1 : decode cX5_small 1 = .ok (.i2l, 1) := by decide +kernel
theorem dX5_small_2 : decode cX5_small 2 = .ok (.bipush (-128), 2) := by decide +kernel
theorem dX5_small_4 : decode cX5_small 4 = .ok (.bipush 127, 2) := by decide +kernel
theorem dX5_small_6 : decode cX5_small 6 = .ok (.invokestatic 31, 3) := by decide +kernel
theorem dX5_small_9 : decode cX5_small 9 = .ok (.ireturn, 1) := by decide +kernel
theorem dX6_init_0 : decode cX6_init 0 = .ok (.aload_n 0, 1) := by decide +kernel
theorem dX6_init_1 : decode cX6_init 1 = .ok (.invokespecial 1, 3) := by decide +kernel
theorem dX6_init_4 : decode cX6_init 4 = .ok (.aload_n 0, 1) := by decide +kernel
theorem dX6_init_5 : decode cX6_init 5 = .ok (.bipush 16, 2) := by decide +kernel
theorem dX6_init_7 : decode cX6_init 7 = .ok (.newarray .long, 2) := by decide +kernel
theorem dX6_init_9 : decode cX6_init 9 = .ok (.putfield 7, 3) := by decide +kernel
theorem dX6_init_12 : decode cX6_init 12 = .ok (.return_, 1) := by decide +kernel
theorem dX6_layOut_0 : decode cX6_layOut 0 = .ok (.iconst 4, 1) := by decide +kernel
theorem dX6_layOut_1 : decode cX6_layOut 1 = .ok (.iload_n 3, 1) := by decide +kernel
theorem dX6_layOut_2 : decode cX6_layOut 2 = .ok (.iadd, 1) := by decide +kernel
theorem dX6_layOut_3 : decode cX6_layOut 3 = .ok (.istore 4, 2) := by decide +kernel
theorem dX6_layOut_5 : decode cX6_layOut 5 = .ok (.iconst 0, 1) := by decide +kernel
theorem dX6_layOut_6 : decode cX6_layOut 6 = .ok (.istore 5, 2) := by decide +kernel
theorem dX6_layOut_8 : decode cX6_layOut 8 = .ok (.iload 5, 2) := by decide +kernel
theorem dX6_layOut_10 : decode cX6_layOut 10 = .ok (.bipush 16, 2) := by decide +kernel
theorem dX6_layOut_12 : decode cX6_layOut 12 = .ok (.if_icmp .ge 40, 3) := by decide +kernel
theorem dX6_layOut_15 : decode cX6_layOut 15 = .ok (.aload_n 0, 1) := by decide +kernel
theorem dX6_layOut_16 : decode cX6_layOut 16 = .ok (.getfield 7, 3) := by decide +kernel
theorem dX6_layOut_19 : decode cX6_layOut 19 = .ok (.getstatic 15, 3) := by decide +kernel
theorem dX6_layOut_22 : decode cX6_layOut 22 = .ok (.iload 5, 2) := by decide +kernel
theorem dX6_layOut_24 : decode cX6_layOut 24 = .ok (.iaload, 1) := by decide +kernel
theorem dX6_layOut_25 : decode cX6_layOut 25 = .ok (.aload_n 1, 1) := by decide +kernel
theorem dX6_layOut_26 : decode cX6_layOut 26 = .ok (.iload_n 2, 1) := by decide +kernel
theorem dX6_layOut_27 : decode cX6_layOut 27 = .ok (.iload 5, 2) := by decide +kernel
theorem dX6_layOut_29 : decode cX6_layOut 29 = .ok (.iadd, 1) := by decide +kernel
theorem dX6_layOut_30 : decode cX6_layOut 30 = .ok (.iaload, 1) := by decide +kernel
theorem dX6_layOut_31 : decode cX6_layOut 31 = .ok (.i2l, 1) := by decide +kernel
theorem dX6_layOut_32 : decode cX6_layOut 32 = .ok (.iload 4, 2) := by decide +kernel
theorem dX6_layOut_34 : decode cX6_layOut 34 = .ok (.i2l, 1) := by decide +kernel
theorem dX6_layOut_35 : decode cX6_layOut 35 = .ok (.lmul, 1) := by decide +kernel
theorem dX6_layOut_36 : decode cX6_layOut 36 = .ok (.lastore, 1) := by decide +kernel
theorem dX6_layOut_37 : decode cX6_layOut 37 = .ok (.iconst 4, 1) := by decide +kernel
theorem dX6_layOut_38 : decode cX6_layOut 38 = .ok (.iload_n 3, 1) := by decide +kernel
theorem dX6_layOut_39 : decode cX6_layOut 39 = .ok (.iadd, 1) := by decide +kernel
theorem dX6_layOut_40 : decode cX6_layOut 40 = .ok (.iload_n 3, 1) := by decide +kernel
theorem dX6_layOut_41 : decode cX6_layOut 41 = .ok (.iconst 2, 1) := by decide +kernel
theorem dX6_layOut_42 : decode cX6_layOut 42 = .ok (.idiv, 1) := by decide +kernel
theorem dX6_layOut_43 : decode cX6_layOut 43 = .ok (.iadd, 1) := by decide +kernel
theorem dX6_layOut_44 : decode cX6_layOut 44 = .ok (.istore 4, 2) := by decide +kernel
theorem dX6_layOut_46 : decode cX6_layOut 46 = .ok (.iinc 5 1, 3) := by decide +kernel
theorem dX6_layOut_49 : decode cX6_layOut 49 = .ok (.goto (-41), 3) := by decide +kernel
theorem dX6_layOut_52 : decode cX6_layOut 52 = .ok (.return_, 1) := by decide +kernel
theorem dX6_turnBack_0 : decode cX6_turnBack 0 = .ok (.iconst 0, 1) := by decide +kernel
theorem dX6_turnBack_1 : decode cX6_turnBack 1 = .ok (.istore_n 1, 1) := by decide +kernel
theorem dX6_turnBack_2 : decode cX6_turnBack 2 = .ok (.iload_n 1, 1) := by decide +kernel
theorem dX6_turnBack_3 : decode cX6_turnBack 3 = .ok (.iconst 4, 1) := by decide +kernel
theorem dX6_turnBack_4 : decode cX6_turnBack 4 = .ok (.if_icmp .ge 15, 3) := by decide +kernel
theorem dX6_turnBack_7 : decode cX6_turnBack 7 = .ok (.aload_n 0, 1) := by decide +kernel
theorem dX6_turnBack_8 : decode cX6_turnBack 8 = .ok (.iload_n 1, 1) := by decide +kernel
theorem dX6_turnBack_9 : decode cX6_turnBack 9 = .ok (.iconst 4, 1) := by decide +kernel
theorem dX6_turnBack_10 : decode cX6_turnBack 10 = .ok (.invokevirtual 19, 3) := by decide +kernel
theorem dX6_turnBack_13 : decode cX6_turnBack 13 = .ok (.iinc 1 1, 3) := by decide +kernel
theorem dX6_turnBack_16 : decode cX6_turnBack 16 = .ok (.goto (-14), 3) := by decide +kernel
theorem dX6_turnBack_19 : decode cX6_turnBack 19 = .ok (.iconst 0, 1) := by decide +kernel
theorem dX6_turnBack_20 : decode cX6_turnBack 20 = .ok (.istore_n 1, 1) := by decide +kernel
theorem dX6_turnBack_21 : decode cX6_turnBack 21 = .ok (.iload_n 1, 1) := by decide +kernel
theorem dX6_turnBack_22 : decode cX6_turnBack 22 = .ok (.iconst 4, 1) := by decide +kernel
theorem dX6_turnBack_23 : decode cX6_turnBack 23 = .ok (.if_icmp .ge 17, 3) := by decide +kernel
theorem dX6_turnBack_26 : decode cX6_turnBack 26 = .ok (.aload_n 0, 1) := by decide +kernel
theorem dX6_turnBack_27 : decode cX6_turnBack 27 = .ok (.iconst 4, 1) := by decide +kernel
theorem dX6_turnBack_28 : decode cX6_turnBack 28 = .ok (.iload_n 1, 1) := by decide +kernel
theorem dX6_turnBack_29 : decode cX6_turnBack 29 = .ok (.imul, 1) := by decide +kernel
theorem dX6_turnBack_30 : decode cX6_turnBack 30 = .ok (.iconst 1, 1) := by decide +kernel
theorem dX6_turnBack_31 : decode cX6_turnBack 31 = .ok (.invokevirtual 19, 3) := by decide +kernel
theorem dX6_turnBack_34 : decode cX6_turnBack 34 = .ok (.iinc 1 1, 3) := by decide +kernel
theorem dX6_turnBack_37 : decode cX6_turnBack 37 = .ok (.goto (-16), 3) := by decide +kernel
theorem dX6_turnBack_40 : decode cX6_turnBack 40 = .ok (.iconst 0, 1) := by decide +kernel
theorem dX6_turnBack_41 : decode cX6_turnBack 41 = .ok (.istore_n 1, 1) := by decide +kernel
theorem dX6_turnBack_42 : decode cX6_turnBack 42 = .ok (.iload_n 1, 1) := by decide +kernel
theorem dX6_turnBack_43 : decode cX6_turnBack 43 = .ok (.bipush 16, 2) := by decide +kernel
theorem dX6_turnBack_45 : decode cX6_turnBack 45 = .ok (.if_icmp .ge 27, 3) := by decide +kernel
theorem dX6_turnBack_48 : decode cX6_turnBack 48 = .ok (.aload_n 0, 1) := by decide +kernel
theorem dX6_turnBack_49 : decode cX6_turnBack 49 = .ok (.getfield 7, 3) := by decide +kernel
theorem dX6_turnBack_52 : decode cX6_turnBack 52 = .ok (.iload_n 1, 1) := by decide +kernel
theorem dX6_turnBack_53 : decode cX6_turnBack 53 = .ok (.aload_n 0, 1) := by decide +kernel
theorem dX6_turnBack_54 : decode cX6_turnBack 54 = .ok (.getfield 7, 3) := by decide +kernel
theorem dX6_turnBack_57 : decode cX6_turnBack 57 = .ok (.iload_n 1, 1) := by decide +kernel
theorem dX6_turnBack_58 : decode cX6_turnBack 58 = .ok (.laload, 1) := by decide +kernel
theorem dX6_turnBack_59 : decode cX6_turnBack 59 = .ok (.ldc2_w 23, 3) := by decide +kernel
theorem dX6_turnBack_62 : decode cX6_turnBack 62 = .ok (.ladd, 1) := by decide +kernel
theorem dX6_turnBack_63 : decode cX6_turnBack 63 = .ok (.iconst 3, 1) := by decide +kernel
theorem dX6_turnBack_64 : decode cX6_turnBack 64 = .ok (.lshr, 1) := by decide +kernel
theorem dX6_turnBack_65 : decode cX6_turnBack 65 = .ok (.lastore, 1) := by decide +kernel
theorem dX6_turnBack_66 : decode cX6_turnBack 66 = .ok (.iinc 1 1, 3) := by decide +kernel
theorem dX6_turnBack_69 : decode cX6_turnBack 69 = .ok (.goto (-27), 3) := by decide +kernel
theorem dX6_turnBack_72 : decode cX6_turnBack 72 = .ok (.return_, 1) := by decide +kernel
theorem dX6_turnFour_0 : decode cX6_turnFour 0 = .ok (.aload_n 0, 1) := by decide +kernel
theorem dX6_turnFour_1 : decode cX6_turnFour 1 = .ok (.getfield 7, 3) := by decide +kernel
theorem dX6_turnFour_4 : decode cX6_turnFour 4 = .ok (.iload_n 1, 1) := by decide +kernel
theorem dX6_turnFour_5 : decode cX6_turnFour 5 = .ok (.laload, 1) := by decide +kernel
theorem dX6_turnFour_6 : decode cX6_turnFour 6 = .ok (.lstore_n 3, 1) := by decide +kernel
theorem dX6_turnFour_7 : decode cX6_turnFour 7 = .ok (.aload_n 0, 1) := by decide +kernel
theorem dX6_turnFour_8 : decode cX6_turnFour 8 = .ok (.getfield 7, 3) := by decide +kernel
theorem dX6_turnFour_11 : decode cX6_turnFour 11 = .ok (.iload_n 1, 1) := by decide +kernel
theorem dX6_turnFour_12 : decode cX6_turnFour 12 = .ok (.iload_n 2, 1) := by decide +kernel
theorem dX6_turnFour_13 : decode cX6_turnFour 13 = .ok (.iadd, 1) := by decide +kernel
theorem dX6_turnFour_14 : decode cX6_turnFour 14 = .ok (.laload, 1) := by decide +kernel
theorem dX6_turnFour_15 : decode cX6_turnFour 15 = .ok (.lstore 5, 2) := by decide +kernel
theorem dX6_turnFour_17 : decode cX6_turnFour 17 = .ok (.aload_n 0, 1) := by decide +kernel
theorem dX6_turnFour_18 : decode cX6_turnFour 18 = .ok (.getfield 7, 3) := by decide +kernel
theorem dX6_turnFour_21 : decode cX6_turnFour 21 = .ok (.iload_n 1, 1) := by decide +kernel
theorem dX6_turnFour_22 : decode cX6_turnFour 22 = .ok (.iconst 2, 1) := by decide +kernel
theorem dX6_turnFour_23 : decode cX6_turnFour 23 = .ok (.iload_n 2, 1) := by decide +kernel
theorem dX6_turnFour_24 : decode cX6_turnFour 24 = .ok (.imul, 1) := by decide +kernel
theorem dX6_turnFour_25 : decode cX6_turnFour 25 = .ok (.iadd, 1) := by decide +kernel
theorem dX6_turnFour_26 : decode cX6_turnFour 26 = .ok (.laload, 1) := by decide +kernel
theorem dX6_turnFour_27 : decode cX6_turnFour 27 = .ok (.lstore 7, 2) := by decide +kernel
theorem dX6_turnFour_29 : decode cX6_turnFour 29 = .ok (.aload_n 0, 1) := by decide +kernel
theorem dX6_turnFour_30 : decode cX6_turnFour 30 = .ok (.getfield 7, 3) := by decide +kernel
theorem dX6_turnFour_33 : decode cX6_turnFour 33 = .ok (.iload_n 1, 1) := by decide +kernel
theorem dX6_turnFour_34 : decode cX6_turnFour 34 = .ok (.iconst 3, 1) := by decide +kernel
theorem dX6_turnFour_35 : decode cX6_turnFour 35 = .ok (.iload_n 2, 1) := by decide +kernel
theorem dX6_turnFour_36 : decode cX6_turnFour 36 = .ok (.imul, 1) := by decide +kernel
theorem dX6_turnFour_37 : decode cX6_turnFour 37 = .ok (.iadd, 1) := by decide +kernel
theorem dX6_turnFour_38 : decode cX6_turnFour 38 = .ok (.laload, 1) := by decide +kernel
theorem dX6_turnFour_39 : decode cX6_turnFour 39 = .ok (.lstore 9, 2) := by decide +kernel
theorem dX6_turnFour_41 : decode cX6_turnFour 41 = .ok (.lload_n 3, 1) := by decide +kernel
theorem dX6_turnFour_42 : decode cX6_turnFour 42 = .ok (.lload 7, 2) := by decide +kernel
theorem dX6_turnFour_44 : decode cX6_turnFour 44 = .ok (.ladd, 1) := by decide +kernel
theorem dX6_turnFour_45 : decode cX6_turnFour 45 = .ok (.lstore 11, 2) := by decide +kernel
theorem dX6_turnFour_47 : decode cX6_turnFour 47 = .ok (.lload_n 3, 1) := by decide +kernel
theorem dX6_turnFour_48 : decode cX6_turnFour 48 = .ok (.lload 7, 2) := by decide +kernel
theorem dX6_turnFour_50 : decode cX6_turnFour 50 = .ok (.lsub, 1) := by decide +kernel
theorem dX6_turnFour_51 : decode cX6_turnFour 51 = .ok (.lstore 13, 2) := by decide +kernel
theorem dX6_turnFour_53 : decode cX6_turnFour 53 = .ok (.lload 5, 2) := by decide +kernel
theorem dX6_turnFour_55 : decode cX6_turnFour 55 = .ok (.invokestatic 25, 3) := by decide +kernel
theorem dX6_turnFour_58 : decode cX6_turnFour 58 = .ok (.lload 9, 2) := by decide +kernel
theorem dX6_turnFour_60 : decode cX6_turnFour 60 = .ok (.invokestatic 29, 3) := by decide +kernel
theorem dX6_turnFour_63 : decode cX6_turnFour 63 = .ok (.lsub, 1) := by decide +kernel
theorem dX6_turnFour_64 : decode cX6_turnFour 64 = .ok (.lstore 15, 2) := by decide +kernel
theorem dX6_turnFour_66 : decode cX6_turnFour 66 = .ok (.lload 5, 2) := by decide +kernel
theorem dX6_turnFour_68 : decode cX6_turnFour 68 = .ok (.invokestatic 29, 3) := by decide +kernel
theorem dX6_turnFour_71 : decode cX6_turnFour 71 = .ok (.lload 9, 2) := by decide +kernel
theorem dX6_turnFour_73 : decode cX6_turnFour 73 = .ok (.invokestatic 25, 3) := by decide +kernel
theorem dX6_turnFour_76 : decode cX6_turnFour 76 = .ok (.ladd, 1) := by decide +kernel
theorem dX6_turnFour_77 : decode cX6_turnFour 77 = .ok (.lstore 17, 2) := by decide +kernel
theorem dX6_turnFour_79 : decode cX6_turnFour 79 = .ok (.aload_n 0, 1) := by decide +kernel
theorem dX6_turnFour_80 : decode cX6_turnFour 80 = .ok (.getfield 7, 3) := by decide +kernel
theorem dX6_turnFour_83 : decode cX6_turnFour 83 = .ok (.iload_n 1, 1) := by decide +kernel
theorem dX6_turnFour_84 : decode cX6_turnFour 84 = .ok (.lload 11, 2) := by decide +kernel
theorem dX6_turnFour_86 : decode cX6_turnFour 86 = .ok (.lload 17, 2) := by decide +kernel
theorem dX6_turnFour_88 : decode cX6_turnFour 88 = .ok (.ladd, 1) := by decide +kernel
theorem dX6_turnFour_89 : decode cX6_turnFour 89 = .ok (.lastore, 1) := by decide +kernel
theorem dX6_turnFour_90 : decode cX6_turnFour 90 = .ok (.aload_n 0, 1) := by decide +kernel
theorem dX6_turnFour_91 : decode cX6_turnFour 91 = .ok (.getfield 7, 3) := by decide +kernel
theorem dX6_turnFour_94 : decode cX6_turnFour 94 = .ok (.iload_n 1, 1) := by decide +kernel
theorem dX6_turnFour_95 : decode cX6_turnFour 95 = .ok (.iload_n 2, 1) := by decide +kernel
theorem dX6_turnFour_96 : decode cX6_turnFour 96 = .ok (.iadd, 1) := by decide +kernel
theorem dX6_turnFour_97 : decode cX6_turnFour 97 = .ok (.lload 13, 2) := by decide +kernel
theorem dX6_turnFour_99 : decode cX6_turnFour 99 = .ok (.lload 15, 2) := by decide +kernel
theorem dX6_turnFour_101 : decode cX6_turnFour 101 = .ok (.ladd, 1) := by decide +kernel
theorem dX6_turnFour_102 : decode cX6_turnFour 102 = .ok (.lastore, 1) := by decide +kernel
theorem dX6_turnFour_103 : decode cX6_turnFour 103 = .ok (.aload_n 0, 1) := by decide +kernel
theorem dX6_turnFour_104 : decode cX6_turnFour 104 = .ok (.getfield 7, 3) := by decide +kernel
theorem dX6_turnFour_107 : decode cX6_turnFour 107 = .ok (.iload_n 1, 1) := by decide +kernel
theorem dX6_turnFour_108 : decode cX6_turnFour 108 = .ok (.iconst 2, 1) := by decide +kernel
theorem dX6_turnFour_109 : decode cX6_turnFour 109 = .ok (.iload_n 2, 1) := by decide +kernel
theorem dX6_turnFour_110 : decode cX6_turnFour 110 = .ok (.imul, 1) := by decide +kernel
theorem dX6_turnFour_111 : decode cX6_turnFour 111 = .ok (.iadd, 1) := by decide +kernel
theorem dX6_turnFour_112 : decode cX6_turnFour 112 = .ok (.lload 13, 2) := by decide +kernel
theorem dX6_turnFour_114 : decode cX6_turnFour 114 = .ok (.lload 15, 2) := by decide +kernel
theorem dX6_turnFour_116 : decode cX6_turnFour 116 = .ok (.lsub, 1) := by decide +kernel
theorem dX6_turnFour_117 : decode cX6_turnFour 117 = .ok (.lastore, 1) := by decide +kernel
theorem dX6_turnFour_118 : decode cX6_turnFour 118 = .ok (.aload_n 0, 1) := by decide +kernel
theorem dX6_turnFour_119 : decode cX6_turnFour 119 = .ok (.getfield 7, 3) := by decide +kernel
theorem dX6_turnFour_122 : decode cX6_turnFour 122 = .ok (.iload_n 1, 1) := by decide +kernel
theorem dX6_turnFour_123 : decode cX6_turnFour 123 = .ok (.iconst 3, 1) := by decide +kernel
theorem dX6_turnFour_124 : decode cX6_turnFour 124 = .ok (.iload_n 2, 1) := by decide +kernel
theorem dX6_turnFour_125 : decode cX6_turnFour 125 = .ok (.imul, 1) := by decide +kernel
theorem dX6_turnFour_126 : decode cX6_turnFour 126 = .ok (.iadd, 1) := by decide +kernel
theorem dX6_turnFour_127 : decode cX6_turnFour 127 = .ok (.lload 11, 2) := by decide +kernel
theorem dX6_turnFour_129 : decode cX6_turnFour 129 = .ok (.lload 17, 2) := by decide +kernel
theorem dX6_turnFour_131 : decode cX6_turnFour 131 = .ok (.lsub, 1) := by decide +kernel
theorem dX6_turnFour_132 : decode cX6_turnFour 132 = .ok (.lastore, 1) := by decide +kernel
theorem dX6_turnFour_133 : decode cX6_turnFour 133 = .ok (.return_, 1) := by decide +kernel
theorem dX6_timesM_0 : decode cX6_timesM 0 = .ok (.lload_n 0, 1) := by decide +kernel
theorem dX6_timesM_1 : decode cX6_timesM 1 = .ok (.lload_n 0, 1) := by decide +kernel
theorem dX6_timesM_2 : decode cX6_timesM 2 = .ok (.ldc2_w 32, 3) := by decide +kernel
theorem dX6_timesM_5 : decode cX6_timesM 5 = .ok (.lmul, 1) := by decide +kernel
theorem dX6_timesM_6 : decode cX6_timesM 6 = .ok (.bipush 16, 2) := by decide +kernel
theorem dX6_timesM_8 : decode cX6_timesM 8 = .ok (.lshr, 1) := by decide +kernel
theorem dX6_timesM_9 : decode cX6_timesM 9 = .ok (.ladd, 1) := by decide +kernel
theorem dX6_timesM_10 : decode cX6_timesM 10 = .ok (.lreturn, 1) := by decide +kernel
theorem dX6_timesH_0 : decode cX6_timesH 0 = .ok (.lload_n 0, 1) := by decide +kernel
theorem dX6_timesH_1 : decode cX6_timesH 1 = .ok (.ldc2_w 34, 3) := by decide +kernel
theorem dX6_timesH_4 : decode cX6_timesH 4 = .ok (.lmul, 1) := by decide +kernel
theorem dX6_timesH_5 : decode cX6_timesH 5 = .ok (.bipush 16, 2) := by decide +kernel
theorem dX6_timesH_7 : decode cX6_timesH 7 = .ok (.lshr, 1) := by decide +kernel
theorem dX6_timesH_8 : decode cX6_timesH 8 = .ok (.lreturn, 1) := by decide +kernel
theorem dX7_init_0 : decode cX7_init 0 = .ok (.aload_n 0, 1) := by decide +kernel
theorem dX7_init_1 : decode cX7_init 1 = .ok (.invokespecial 1, 3) := by decide +kernel
theorem dX7_init_4 : decode cX7_init 4 = .ok (.aload_n 0, 1) := by decide +kernel
theorem dX7_init_5 : decode cX7_init 5 = .ok (.new 7, 3) := by decide +kernel
theorem dX7_init_8 : decode cX7_init 8 = .ok (.dup, 1) := by decide +kernel
theorem dX7_init_9 : decode cX7_init 9 = .ok (.invokespecial 9, 3) := by decide +kernel
theorem dX7_init_12 : decode cX7_init 12 = .ok (.putfield 10, 3) := by decide +kernel
theorem dX7_init_15 : decode cX7_init 15 = .ok (.aload_n 0, 1) := by decide +kernel
theorem dX7_init_16 : decode cX7_init 16 = .ok (.new 16, 3) := by decide +kernel
theorem dX7_init_19 : decode cX7_init 19 = .ok (.dup, 1) := by decide +kernel
theorem dX7_init_20 : decode cX7_init 20 = .ok (.aload_n 0, 1) := by decide +kernel
theorem dX7_init_21 : decode cX7_init 21 = .ok (.getfield 10, 3) := by decide +kernel
theorem dX7_init_24 : decode cX7_init 24 = .ok (.invokespecial 18, 3) := by decide +kernel
theorem dX7_init_27 : decode cX7_init 27 = .ok (.putfield 21, 3) := by decide +kernel
theorem dX7_init_30 : decode cX7_init 30 = .ok (.aload_n 0, 1) := by decide +kernel
theorem dX7_init_31 : decode cX7_init 31 = .ok (.new 25, 3) := by decide +kernel
theorem dX7_init_34 : decode cX7_init 34 = .ok (.dup, 1) := by decide +kernel
theorem dX7_init_35 : decode cX7_init 35 = .ok (.aload_n 0, 1) := by decide +kernel
theorem dX7_init_36 : decode cX7_init 36 = .ok (.getfield 10, 3) := by decide +kernel
theorem dX7_init_39 : decode cX7_init 39 = .ok (.invokespecial 27, 3) := by decide +kernel
theorem dX7_init_42 : decode cX7_init 42 = .ok (.putfield 28, 3) := by decide +kernel
theorem dX7_init_45 : decode cX7_init 45 = .ok (.aload_n 0, 1) := by decide +kernel
theorem dX7_init_46 : decode cX7_init 46 = .ok (.new 32, 3) := by decide +kernel
theorem dX7_init_49 : decode cX7_init 49 = .ok (.dup, 1) := by decide +kernel
theorem dX7_init_50 : decode cX7_init 50 = .ok (.invokespecial 34, 3) := by decide +kernel
theorem dX7_init_53 : decode cX7_init 53 = .ok (.putfield 35, 3) := by decide +kernel
theorem dX7_init_56 : decode cX7_init 56 = .ok (.aload_n 0, 1) := by decide +kernel
theorem dX7_init_57 : decode cX7_init 57 = .ok (.iconst 0, 1) := by decide +kernel
theorem dX7_init_58 : decode cX7_init 58 = .ok (.putfield 39, 3) := by decide +kernel
theorem dX7_init_61 : decode cX7_init 61 = .ok (.return_, 1) := by decide +kernel
theorem dX7_feed_0 : decode cX7_feed 0 = .ok (.iload_n 1, 1) := by decide +kernel
theorem dX7_feed_1 : decode cX7_feed 1 = .ok (.ifCond .lt 9, 3) := by decide +kernel
theorem dX7_feed_4 : decode cX7_feed 4 = .ok (.iload_n 1, 1) := by decide +kernel
theorem dX7_feed_5 : decode cX7_feed 5 = .ok (.bipush 16, 2) := by decide +kernel
theorem dX7_feed_7 : decode cX7_feed 7 = .ok (.if_icmp .le 13, 3) := by decide +kernel
theorem dX7_feed_10 : decode cX7_feed 10 = .ok (.new 43, 3) := by decide +kernel
theorem dX7_feed_13 : decode cX7_feed 13 = .ok (.dup, 1) := by decide +kernel
theorem dX7_feed_14 : decode cX7_feed 14 = .ok (.ldc 45, 2) := by decide +kernel
theorem dX7_feed_16 : decode cX7_feed 16 = .ok (.invokespecial 47, 3) := by decide +kernel
theorem dX7_feed_19 : decode cX7_feed 19 = .ok (.athrow, 1) := by decide +kernel
theorem dX7_feed_20 : decode cX7_feed 20 = .ok (.aload_n 0, 1) := by decide +kernel
theorem dX7_feed_21 : decode cX7_feed 21 = .ok (.getfield 10, 3) := by decide +kernel
theorem dX7_feed_24 : decode cX7_feed 24 = .ok (.invokevirtual 50, 3) := by decide +kernel
theorem dX7_feed_27 : decode cX7_feed 27 = .ok (.iload_n 1, 1) := by decide +kernel
theorem dX7_feed_28 : decode cX7_feed 28 = .ok (.iadd, 1) := by decide +kernel
theorem dX7_feed_29 : decode cX7_feed 29 = .ok (.sipush 600, 3) := by decide +kernel
theorem dX7_feed_32 : decode cX7_feed 32 = .ok (.if_icmp .le 13, 3) := by decide +kernel
theorem dX7_feed_35 : decode cX7_feed 35 = .ok (.new 54, 3) := by decide +kernel
theorem dX7_feed_38 : decode cX7_feed 38 = .ok (.dup, 1) := by decide +kernel
theorem dX7_feed_39 : decode cX7_feed 39 = .ok (.ldc 56, 2) := by decide +kernel
theorem dX7_feed_41 : decode cX7_feed 41 = .ok (.invokespecial 58, 3) := by decide +kernel
theorem dX7_feed_44 : decode cX7_feed 44 = .ok (.athrow, 1) := by decide +kernel
theorem dX7_feed_45 : decode cX7_feed 45 = .ok (.aload_n 0, 1) := by decide +kernel
theorem dX7_feed_46 : decode cX7_feed 46 = .ok (.iconst 0, 1) := by decide +kernel
theorem dX7_feed_47 : decode cX7_feed 47 = .ok (.putfield 39, 3) := by decide +kernel
theorem dX7_feed_50 : decode cX7_feed 50 = .ok (.iconst 0, 1) := by decide +kernel
theorem dX7_feed_51 : decode cX7_feed 51 = .ok (.istore 6, 2) := by decide +kernel
theorem dX7_feed_53 : decode cX7_feed 53 = .ok (.iload 6, 2) := by decide +kernel
theorem dX7_feed_55 : decode cX7_feed 55 = .ok (.iload_n 1, 1) := by decide +kernel
theorem dX7_feed_56 : decode cX7_feed 56 = .ok (.if_icmp .ge 66, 3) := by decide +kernel
theorem dX7_feed_59 : decode cX7_feed 59 = .ok (.iload 6, 2) := by decide +kernel
theorem dX7_feed_61 : decode cX7_feed 61 = .ok (.iconst 4, 1) := by decide +kernel
theorem dX7_feed_62 : decode cX7_feed 62 = .ok (.if_icmp .ge 7, 3) := by decide +kernel
theorem dX7_feed_65 : decode cX7_feed 65 = .ok (.iload_n 2, 1) := by decide +kernel
theorem dX7_feed_66 : decode cX7_feed 66 = .ok (.goto 28, 3) := by decide +kernel
theorem dX7_feed_69 : decode cX7_feed 69 = .ok (.iload 6, 2) := by decide +kernel
theorem dX7_feed_71 : decode cX7_feed 71 = .ok (.bipush 8, 2) := by decide +kernel
theorem dX7_feed_73 : decode cX7_feed 73 = .ok (.if_icmp .ge 7, 3) := by decide +kernel
theorem dX7_feed_76 : decode cX7_feed 76 = .ok (.iload_n 3, 1) := by decide +kernel
theorem dX7_feed_77 : decode cX7_feed 77 = .ok (.goto 17, 3) := by decide +kernel
theorem dX7_feed_80 : decode cX7_feed 80 = .ok (.iload 6, 2) := by decide +kernel
theorem dX7_feed_82 : decode cX7_feed 82 = .ok (.bipush 12, 2) := by decide +kernel
theorem dX7_feed_84 : decode cX7_feed 84 = .ok (.if_icmp .ge 8, 3) := by decide +kernel
theorem dX7_feed_87 : decode cX7_feed 87 = .ok (.iload 4, 2) := by decide +kernel
theorem dX7_feed_89 : decode cX7_feed 89 = .ok (.goto 5, 3) := by decide +kernel
theorem dX7_feed_92 : decode cX7_feed 92 = .ok (.iload 5, 2) := by decide +kernel
theorem dX7_feed_94 : decode cX7_feed 94 = .ok (.istore 7, 2) := by decide +kernel
theorem dX7_feed_96 : decode cX7_feed 96 = .ok (.aload_n 0, 1) := by decide +kernel
theorem dX7_feed_97 : decode cX7_feed 97 = .ok (.getfield 10, 3) := by decide +kernel
theorem dX7_feed_100 : decode cX7_feed 100 = .ok (.iload 7, 2) := by decide +kernel
theorem dX7_feed_102 : decode cX7_feed 102 = .ok (.bipush 24, 2) := by decide +kernel
theorem dX7_feed_104 : decode cX7_feed 104 = .ok (.bipush 8, 2) := by decide +kernel
theorem dX7_feed_106 : decode cX7_feed 106 = .ok (.iload 6, 2) := by decide +kernel
theorem dX7_feed_108 : decode cX7_feed 108 = .ok (.iconst 4, 1) := by decide +kernel
theorem dX7_feed_109 : decode cX7_feed 109 = .ok (.irem, 1) := by decide +kernel
theorem dX7_feed_110 : decode cX7_feed 110 = .ok (.imul, 1) := by decide +kernel
theorem dX7_feed_111 : decode cX7_feed 111 = .ok (.isub, 1) := by decide +kernel
theorem dX7_feed_112 : decode cX7_feed 112 = .ok (.iushr, 1) := by decide +kernel
theorem dX7_feed_113 : decode cX7_feed 113 = .ok (.invokevirtual 59, 3) := by decide +kernel
theorem dX7_feed_116 : decode cX7_feed 116 = .ok (.iinc 6 1, 3) := by decide +kernel
theorem dX7_feed_119 : decode cX7_feed 119 = .ok (.goto (-66), 3) := by decide +kernel
theorem dX7_feed_122 : decode cX7_feed 122 = .ok (.aload_n 0, 1) := by decide +kernel
theorem dX7_feed_123 : decode cX7_feed 123 = .ok (.getfield 10, 3) := by decide +kernel
theorem dX7_feed_126 : decode cX7_feed 126 = .ok (.invokevirtual 50, 3) := by decide +kernel
theorem dX7_feed_129 : decode cX7_feed 129 = .ok (.ireturn, 1) := by decide +kernel
theorem dX7_erase_0 : decode cX7_erase 0 = .ok (.aload_n 0, 1) := by decide +kernel
theorem dX7_erase_1 : decode cX7_erase 1 = .ok (.getfield 10, 3) := by decide +kernel
theorem dX7_erase_4 : decode cX7_erase 4 = .ok (.invokevirtual 50, 3) := by decide +kernel
theorem dX7_erase_7 : decode cX7_erase 7 = .ok (.istore_n 1, 1) := by decide +kernel
theorem dX7_erase_8 : decode cX7_erase 8 = .ok (.aload_n 0, 1) := by decide +kernel
theorem dX7_erase_9 : decode cX7_erase 9 = .ok (.getfield 10, 3) := by decide +kernel
theorem dX7_erase_12 : decode cX7_erase 12 = .ok (.invokevirtual 63, 3) := by decide +kernel
theorem dX7_erase_15 : decode cX7_erase 15 = .ok (.aload_n 0, 1) := by decide +kernel
theorem dX7_erase_16 : decode cX7_erase 16 = .ok (.iconst 0, 1) := by decide +kernel
theorem dX7_erase_17 : decode cX7_erase 17 = .ok (.putfield 39, 3) := by decide +kernel
theorem dX7_erase_20 : decode cX7_erase 20 = .ok (.iload_n 1, 1) := by decide +kernel
theorem dX7_erase_21 : decode cX7_erase 21 = .ok (.ireturn, 1) := by decide +kernel
theorem dX7_write_0 : decode cX7_write 0 = .ok (.aload_n 0, 1) := by decide +kernel
theorem dX7_write_1 : decode cX7_write 1 = .ok (.getfield 10, 3) := by decide +kernel
theorem dX7_write_4 : decode cX7_write 4 = .ok (.invokevirtual 63, 3) := by decide +kernel
theorem dX7_write_7 : decode cX7_write 7 = .ok (.aload_n 0, 1) := by decide +kernel
theorem dX7_write_8 : decode cX7_write 8 = .ok (.getfield 21, 3) := by decide +kernel
theorem dX7_write_11 : decode cX7_write 11 = .ok (.invokevirtual 66, 3) := by decide +kernel
theorem dX7_write_14 : decode cX7_write 14 = .ok (.aload_n 0, 1) := by decide +kernel
theorem dX7_write_15 : decode cX7_write 15 = .ok (.iconst 1, 1) := by decide +kernel
theorem dX7_write_16 : decode cX7_write 16 = .ok (.putfield 39, 3) := by decide +kernel
theorem dX7_write_19 : decode cX7_write 19 = .ok (.return_, 1) := by decide +kernel
theorem dX7_put_0 : decode cX7_put 0 = .ok (.iload_n 1, 1) := by decide +kernel
theorem dX7_put_1 : decode cX7_put 1 = .ok (.iload_n 3, 1) := by decide +kernel
theorem dX7_put_2 : decode cX7_put 2 = .ok (.invokestatic 69, 3) := by decide +kernel
theorem dX7_put_5 : decode cX7_put 5 = .ok (.aload_n 0, 1) := by decide +kernel
theorem dX7_put_6 : decode cX7_put 6 = .ok (.getfield 39, 3) := by decide +kernel
theorem dX7_put_9 : decode cX7_put 9 = .ok (.iconst 1, 1) := by decide +kernel
theorem dX7_put_10 : decode cX7_put 10 = .ok (.if_icmp .eq 13, 3) := by decide +kernel
theorem dX7_put_13 : decode cX7_put 13 = .ok (.new 54, 3) := by decide +kernel
theorem dX7_put_16 : decode cX7_put 16 = .ok (.dup, 1) := by decide +kernel
theorem dX7_put_17 : decode cX7_put 17 = .ok (.ldc 73, 2) := by decide +kernel
theorem dX7_put_19 : decode cX7_put 19 = .ok (.invokespecial 58, 3) := by decide +kernel
theorem dX7_put_22 : decode cX7_put 22 = .ok (.athrow, 1) := by decide +kernel
theorem dX7_put_23 : decode cX7_put 23 = .ok (.aload_n 0, 1) := by decide +kernel
theorem dX7_put_24 : decode cX7_put 24 = .ok (.getfield 10, 3) := by decide +kernel
theorem dX7_put_27 : decode cX7_put 27 = .ok (.invokevirtual 50, 3) := by decide +kernel
theorem dX7_put_30 : decode cX7_put 30 = .ok (.sipush 560, 3) := by decide +kernel
theorem dX7_put_33 : decode cX7_put 33 = .ok (.if_icmp .le 13, 3) := by decide +kernel
theorem dX7_put_36 : decode cX7_put 36 = .ok (.new 54, 3) := by decide +kernel
theorem dX7_put_39 : decode cX7_put 39 = .ok (.dup, 1) := by decide +kernel
theorem dX7_put_40 : decode cX7_put 40 = .ok (.ldc 75, 2) := by decide +kernel
theorem dX7_put_42 : decode cX7_put 42 = .ok (.invokespecial 58, 3) := by decide +kernel
theorem dX7_put_45 : decode cX7_put 45 = .ok (.athrow, 1) := by decide +kernel
theorem dX7_put_46 : decode cX7_put 46 = .ok (.iload_n 3, 1) := by decide +kernel
theorem dX7_put_47 : decode cX7_put 47 = .ok (.iconst 1, 1) := by decide +kernel
theorem dX7_put_48 : decode cX7_put 48 = .ok (.isub, 1) := by decide +kernel
theorem dX7_put_49 : decode cX7_put 49 = .ok (.istore 4, 2) := by decide +kernel
theorem dX7_put_51 : decode cX7_put 51 = .ok (.iload 4, 2) := by decide +kernel
theorem dX7_put_53 : decode cX7_put 53 = .ok (.ifCond .lt 23, 3) := by decide +kernel
theorem dX7_put_56 : decode cX7_put 56 = .ok (.aload_n 0, 1) := by decide +kernel
theorem dX7_put_57 : decode cX7_put 57 = .ok (.getfield 21, 3) := by decide +kernel
theorem dX7_put_60 : decode cX7_put 60 = .ok (.iload_n 1, 1) := by decide +kernel
theorem dX7_put_61 : decode cX7_put 61 = .ok (.iload_n 2, 1) := by decide +kernel
theorem dX7_put_62 : decode cX7_put 62 = .ok (.iload 4, 2) := by decide +kernel
theorem dX7_put_64 : decode cX7_put 64 = .ok (.iushr, 1) := by decide +kernel
theorem dX7_put_65 : decode cX7_put 65 = .ok (.iconst 1, 1) := by decide +kernel
theorem dX7_put_66 : decode cX7_put 66 = .ok (.iand, 1) := by decide +kernel
theorem dX7_put_67 : decode cX7_put 67 = .ok (.invokevirtual 77, 3) := by decide +kernel
theorem dX7_put_70 : decode cX7_put 70 = .ok (.iinc 4 (-1), 3) := by decide +kernel
theorem dX7_put_73 : decode cX7_put 73 = .ok (.goto (-22), 3) := by decide +kernel
theorem dX7_put_76 : decode cX7_put 76 = .ok (.aload_n 0, 1) := by decide +kernel
theorem dX7_put_77 : decode cX7_put 77 = .ok (.getfield 10, 3) := by decide +kernel
theorem dX7_put_80 : decode cX7_put 80 = .ok (.invokevirtual 50, 3) := by decide +kernel
theorem dX7_put_83 : decode cX7_put 83 = .ok (.ireturn, 1) := by decide +kernel
theorem dX7_end_0 : decode cX7_end 0 = .ok (.aload_n 0, 1) := by decide +kernel
theorem dX7_end_1 : decode cX7_end 1 = .ok (.getfield 39, 3) := by decide +kernel
theorem dX7_end_4 : decode cX7_end 4 = .ok (.iconst 1, 1) := by decide +kernel
theorem dX7_end_5 : decode cX7_end 5 = .ok (.if_icmp .eq 13, 3) := by decide +kernel
theorem dX7_end_8 : decode cX7_end 8 = .ok (.new 54, 3) := by decide +kernel
theorem dX7_end_11 : decode cX7_end 11 = .ok (.dup, 1) := by decide +kernel
theorem dX7_end_12 : decode cX7_end 12 = .ok (.ldc 73, 2) := by decide +kernel
theorem dX7_end_14 : decode cX7_end 14 = .ok (.invokespecial 58, 3) := by decide +kernel
theorem dX7_end_17 : decode cX7_end 17 = .ok (.athrow, 1) := by decide +kernel
theorem dX7_end_18 : decode cX7_end 18 = .ok (.aload_n 0, 1) := by decide +kernel
theorem dX7_end_19 : decode cX7_end 19 = .ok (.getfield 21, 3) := by decide +kernel
theorem dX7_end_22 : decode cX7_end 22 = .ok (.invokevirtual 80, 3) := by decide +kernel
theorem dX7_end_25 : decode cX7_end 25 = .ok (.aload_n 0, 1) := by decide +kernel
theorem dX7_end_26 : decode cX7_end 26 = .ok (.iconst 0, 1) := by decide +kernel
theorem dX7_end_27 : decode cX7_end 27 = .ok (.putfield 39, 3) := by decide +kernel
theorem dX7_end_30 : decode cX7_end 30 = .ok (.aload_n 0, 1) := by decide +kernel
theorem dX7_end_31 : decode cX7_end 31 = .ok (.getfield 10, 3) := by decide +kernel
theorem dX7_end_34 : decode cX7_end 34 = .ok (.invokevirtual 50, 3) := by decide +kernel
theorem dX7_end_37 : decode cX7_end 37 = .ok (.ireturn, 1) := by decide +kernel
theorem dX7_read_0 : decode cX7_read 0 = .ok (.aload_n 0, 1) := by decide +kernel
theorem dX7_read_1 : decode cX7_read 1 = .ok (.getfield 28, 3) := by decide +kernel
theorem dX7_read_4 : decode cX7_read 4 = .ok (.invokevirtual 83, 3) := by decide +kernel
theorem dX7_read_7 : decode cX7_read 7 = .ok (.aload_n 0, 1) := by decide +kernel
theorem dX7_read_8 : decode cX7_read 8 = .ok (.iconst 2, 1) := by decide +kernel
theorem dX7_read_9 : decode cX7_read 9 = .ok (.putfield 39, 3) := by decide +kernel
theorem dX7_read_12 : decode cX7_read 12 = .ok (.return_, 1) := by decide +kernel
theorem dX7_get_0 : decode cX7_get 0 = .ok (.iload_n 1, 1) := by decide +kernel
theorem dX7_get_1 : decode cX7_get 1 = .ok (.iload_n 2, 1) := by decide +kernel
theorem dX7_get_2 : decode cX7_get 2 = .ok (.invokestatic 69, 3) := by decide +kernel
theorem dX7_get_5 : decode cX7_get 5 = .ok (.aload_n 0, 1) := by decide +kernel
theorem dX7_get_6 : decode cX7_get 6 = .ok (.getfield 39, 3) := by decide +kernel
theorem dX7_get_9 : decode cX7_get 9 = .ok (.iconst 2, 1) := by decide +kernel
theorem dX7_get_10 : decode cX7_get 10 = .ok (.if_icmp .eq 13, 3) := by decide +kernel
theorem dX7_get_13 : decode cX7_get 13 = .ok (.new 54, 3) := by decide +kernel
theorem dX7_get_16 : decode cX7_get 16 = .ok (.dup, 1) := by decide +kernel
theorem dX7_get_17 : decode cX7_get 17 = .ok (.ldc 84, 2) := by decide +kernel
theorem dX7_get_19 : decode cX7_get 19 = .ok (.invokespecial 58, 3) := by decide +kernel
theorem dX7_get_22 : decode cX7_get 22 = .ok (.athrow, 1) := by decide +kernel
theorem dX7_get_23 : decode cX7_get 23 = .ok (.aload_n 0, 1) := by decide +kernel
theorem dX7_get_24 : decode cX7_get 24 = .ok (.getfield 28, 3) := by decide +kernel
theorem dX7_get_27 : decode cX7_get 27 = .ok (.iload_n 1, 1) := by decide +kernel
theorem dX7_get_28 : decode cX7_get 28 = .ok (.iload_n 2, 1) := by decide +kernel
theorem dX7_get_29 : decode cX7_get 29 = .ok (.invokevirtual 86, 3) := by decide +kernel
theorem dX7_get_32 : decode cX7_get 32 = .ok (.ireturn, 1) := by decide +kernel
theorem dX7_decode_0 : decode cX7_decode 0 = .ok (.aload_n 0, 1) := by decide +kernel
theorem dX7_decode_1 : decode cX7_decode 1 = .ok (.getfield 28, 3) := by decide +kernel
theorem dX7_decode_4 : decode cX7_decode 4 = .ok (.invokevirtual 83, 3) := by decide +kernel
theorem dX7_decode_7 : decode cX7_decode 7 = .ok (.aload_n 0, 1) := by decide +kernel
theorem dX7_decode_8 : decode cX7_decode 8 = .ok (.getfield 35, 3) := by decide +kernel
theorem dX7_decode_11 : decode cX7_decode 11 = .ok (.aload_n 0, 1) := by decide +kernel
theorem dX7_decode_12 : decode cX7_decode 12 = .ok (.getfield 28, 3) := by decide +kernel
theorem dX7_decode_15 : decode cX7_decode 15 = .ok (.invokevirtual 90, 3) := by decide +kernel
theorem dX7_decode_18 : decode cX7_decode 18 = .ok (.aload_n 0, 1) := by decide +kernel
theorem dX7_decode_19 : decode cX7_decode 19 = .ok (.iconst 0, 1) := by decide +kernel
theorem dX7_decode_20 : decode cX7_decode 20 = .ok (.putfield 39, 3) := by decide +kernel
theorem dX7_decode_23 : decode cX7_decode 23 = .ok (.aload_n 0, 1) := by decide +kernel
theorem dX7_decode_24 : decode cX7_decode 24 = .ok (.getfield 35, 3) := by decide +kernel
theorem dX7_decode_27 : decode cX7_decode 27 = .ok (.invokevirtual 94, 3) := by decide +kernel
theorem dX7_decode_30 : decode cX7_decode 30 = .ok (.ireturn, 1) := by decide +kernel
theorem dX7_sample_0 : decode cX7_sample 0 = .ok (.aload_n 0, 1) := by decide +kernel
theorem dX7_sample_1 : decode cX7_sample 1 = .ok (.getfield 35, 3) := by decide +kernel
theorem dX7_sample_4 : decode cX7_sample 4 = .ok (.iload_n 1, 1) := by decide +kernel
theorem dX7_sample_5 : decode cX7_sample 5 = .ok (.iload_n 2, 1) := by decide +kernel
theorem dX7_sample_6 : decode cX7_sample 6 = .ok (.invokevirtual 97, 3) := by decide +kernel
theorem dX7_sample_9 : decode cX7_sample 9 = .ok (.ireturn, 1) := by decide +kernel
theorem dX7_block_0 : decode cX7_block 0 = .ok (.iload_n 2, 1) := by decide +kernel
theorem dX7_block_1 : decode cX7_block 1 = .ok (.ifCond .lt 9, 3) := by decide +kernel
theorem dX7_block_4 : decode cX7_block 4 = .ok (.iload_n 2, 1) := by decide +kernel
theorem dX7_block_5 : decode cX7_block 5 = .ok (.bipush 18, 2) := by decide +kernel
theorem dX7_block_7 : decode cX7_block 7 = .ok (.if_icmp .lt 13, 3) := by decide +kernel
theorem dX7_block_10 : decode cX7_block 10 = .ok (.new 43, 3) := by decide +kernel
theorem dX7_block_13 : decode cX7_block 13 = .ok (.dup, 1) := by decide +kernel
theorem dX7_block_14 : decode cX7_block 14 = .ok (.ldc 100, 2) := by decide +kernel
theorem dX7_block_16 : decode cX7_block 16 = .ok (.invokespecial 47, 3) := by decide +kernel
theorem dX7_block_19 : decode cX7_block 19 = .ok (.athrow, 1) := by decide +kernel
theorem dX7_block_20 : decode cX7_block 20 = .ok (.iload_n 2, 1) := by decide +kernel
theorem dX7_block_21 : decode cX7_block 21 = .ok (.iconst 2, 1) := by decide +kernel
theorem dX7_block_22 : decode cX7_block 22 = .ok (.if_icmp .lt 15, 3) := by decide +kernel
theorem dX7_block_25 : decode cX7_block 25 = .ok (.aload_n 0, 1) := by decide +kernel
theorem dX7_block_26 : decode cX7_block 26 = .ok (.getfield 35, 3) := by decide +kernel
theorem dX7_block_29 : decode cX7_block 29 = .ok (.iload_n 1, 1) := by decide +kernel
theorem dX7_block_30 : decode cX7_block 30 = .ok (.iload_n 2, 1) := by decide +kernel
theorem dX7_block_31 : decode cX7_block 31 = .ok (.iconst 2, 1) := by decide +kernel
theorem dX7_block_32 : decode cX7_block 32 = .ok (.isub, 1) := by decide +kernel
theorem dX7_block_33 : decode cX7_block 33 = .ok (.invokevirtual 102, 3) := by decide +kernel
theorem dX7_block_36 : decode cX7_block 36 = .ok (.ireturn, 1) := by decide +kernel
theorem dX7_block_37 : decode cX7_block 37 = .ok (.iload_n 2, 1) := by decide +kernel
theorem dX7_block_38 : decode cX7_block 38 = .ok (.ifCond .ne 14, 3) := by decide +kernel
theorem dX7_block_41 : decode cX7_block 41 = .ok (.aload_n 0, 1) := by decide +kernel
theorem dX7_block_42 : decode cX7_block 42 = .ok (.getfield 35, 3) := by decide +kernel
theorem dX7_block_45 : decode cX7_block 45 = .ok (.iload_n 1, 1) := by decide +kernel
theorem dX7_block_46 : decode cX7_block 46 = .ok (.invokevirtual 105, 3) := by decide +kernel
theorem dX7_block_49 : decode cX7_block 49 = .ok (.goto 11, 3) := by decide +kernel
theorem dX7_block_52 : decode cX7_block 52 = .ok (.aload_n 0, 1) := by decide +kernel
