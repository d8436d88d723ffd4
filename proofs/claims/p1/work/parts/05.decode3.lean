theorem dX8_large_126 : decode cX8_large 126 = .ok (.invokevirtual 94, 3) := by decide +kernel
theorem dX8_large_129 : decode cX8_large 129 = .ok (.iadd, 1) := by decide +kernel
theorem dX8_large_130 : decode cX8_large 130 = .ok (.istore_n 2, 1) := by decide +kernel
theorem dX8_large_131 : decode cX8_large 131 = .ok (.iinc 3 1, 3) := by decide +kernel
theorem dX8_large_134 : decode cX8_large 134 = .ok (.goto (-22), 3) := by decide +kernel
theorem dX8_large_137 : decode cX8_large 137 = .ok (.bipush 67, 2) := by decide +kernel
theorem dX8_large_139 : decode cX8_large 139 = .ok (.iload_n 2, 1) := by decide +kernel
theorem dX8_large_140 : decode cX8_large 140 = .ok (.iadd, 1) := by decide +kernel
theorem dX8_large_141 : decode cX8_large 141 = .ok (.ireturn, 1) := by decide +kernel
theorem dX8_sizeOf_0 : decode cX8_sizeOf 0 = .ok (.aload_n 0, 1) := by decide +kernel
theorem dX8_sizeOf_1 : decode cX8_sizeOf 1 = .ok (.iload_n 1, 1) := by decide +kernel
theorem dX8_sizeOf_2 : decode cX8_sizeOf 2 = .ok (.iconst 2, 1) := by decide +kernel
theorem dX8_sizeOf_3 : decode cX8_sizeOf 3 = .ok (.invokevirtual 101, 3) := by decide +kernel
theorem dX8_sizeOf_6 : decode cX8_sizeOf 6 = .ok (.ifCond .ne 5, 3) := by decide +kernel
theorem dX8_sizeOf_9 : decode cX8_sizeOf 9 = .ok (.iconst 1, 1) := by decide +kernel
theorem dX8_sizeOf_10 : decode cX8_sizeOf 10 = .ok (.ireturn, 1) := by decide +kernel
theorem dX8_sizeOf_11 : decode cX8_sizeOf 11 = .ok (.aload_n 0, 1) := by decide +kernel
theorem dX8_sizeOf_12 : decode cX8_sizeOf 12 = .ok (.iload_n 1, 1) := by decide +kernel
theorem dX8_sizeOf_13 : decode cX8_sizeOf 13 = .ok (.iconst 3, 1) := by decide +kernel
theorem dX8_sizeOf_14 : decode cX8_sizeOf 14 = .ok (.invokevirtual 101, 3) := by decide +kernel
theorem dX8_sizeOf_17 : decode cX8_sizeOf 17 = .ok (.iconst 1, 1) := by decide +kernel
theorem dX8_sizeOf_18 : decode cX8_sizeOf 18 = .ok (.if_icmp .ne 9, 3) := by decide +kernel
theorem dX8_sizeOf_21 : decode cX8_sizeOf 21 = .ok (.aload_n 0, 1) := by decide +kernel
theorem dX8_sizeOf_22 : decode cX8_sizeOf 22 = .ok (.iload_n 1, 1) := by decide +kernel
theorem dX8_sizeOf_23 : decode cX8_sizeOf 23 = .ok (.invokevirtual 121, 3) := by decide +kernel
theorem dX8_sizeOf_26 : decode cX8_sizeOf 26 = .ok (.ireturn, 1) := by decide +kernel
theorem dX8_sizeOf_27 : decode cX8_sizeOf 27 = .ok (.aload_n 0, 1) := by decide +kernel
theorem dX8_sizeOf_28 : decode cX8_sizeOf 28 = .ok (.iload_n 1, 1) := by decide +kernel
theorem dX8_sizeOf_29 : decode cX8_sizeOf 29 = .ok (.iconst 4, 1) := by decide +kernel
theorem dX8_sizeOf_30 : decode cX8_sizeOf 30 = .ok (.invokevirtual 101, 3) := by decide +kernel
theorem dX8_sizeOf_33 : decode cX8_sizeOf 33 = .ok (.ifCond .ne 5, 3) := by decide +kernel
theorem dX8_sizeOf_36 : decode cX8_sizeOf 36 = .ok (.iconst 2, 1) := by decide +kernel
theorem dX8_sizeOf_37 : decode cX8_sizeOf 37 = .ok (.ireturn, 1) := by decide +kernel
theorem dX8_sizeOf_38 : decode cX8_sizeOf 38 = .ok (.iconst 3, 1) := by decide +kernel
theorem dX8_sizeOf_39 : decode cX8_sizeOf 39 = .ok (.aload_n 0, 1) := by decide +kernel
theorem dX8_sizeOf_40 : decode cX8_sizeOf 40 = .ok (.iload_n 1, 1) := by decide +kernel
theorem dX8_sizeOf_41 : decode cX8_sizeOf 41 = .ok (.iconst 5, 1) := by decide +kernel
theorem dX8_sizeOf_42 : decode cX8_sizeOf 42 = .ok (.invokevirtual 101, 3) := by decide +kernel
theorem dX8_sizeOf_45 : decode cX8_sizeOf 45 = .ok (.iadd, 1) := by decide +kernel
theorem dX8_sizeOf_46 : decode cX8_sizeOf 46 = .ok (.ireturn, 1) := by decide +kernel
theorem dX8_hasSome_0 : decode cX8_hasSome 0 = .ok (.iconst 0, 1) := by decide +kernel
theorem dX8_hasSome_1 : decode cX8_hasSome 1 = .ok (.istore_n 2, 1) := by decide +kernel
theorem dX8_hasSome_2 : decode cX8_hasSome 2 = .ok (.iload_n 2, 1) := by decide +kernel
theorem dX8_hasSome_3 : decode cX8_hasSome 3 = .ok (.bipush 16, 2) := by decide +kernel
theorem dX8_hasSome_5 : decode cX8_hasSome 5 = .ok (.if_icmp .ge 25, 3) := by decide +kernel
theorem dX8_hasSome_8 : decode cX8_hasSome 8 = .ok (.aload_n 0, 1) := by decide +kernel
theorem dX8_hasSome_9 : decode cX8_hasSome 9 = .ok (.getfield 22, 3) := by decide +kernel
theorem dX8_hasSome_12 : decode cX8_hasSome 12 = .ok (.bipush 16, 2) := by decide +kernel
theorem dX8_hasSome_14 : decode cX8_hasSome 14 = .ok (.iload_n 1, 1) := by decide +kernel
theorem dX8_hasSome_15 : decode cX8_hasSome 15 = .ok (.imul, 1) := by decide +kernel
theorem dX8_hasSome_16 : decode cX8_hasSome 16 = .ok (.iload_n 2, 1) := by decide +kernel
theorem dX8_hasSome_17 : decode cX8_hasSome 17 = .ok (.iadd, 1) := by decide +kernel
theorem dX8_hasSome_18 : decode cX8_hasSome 18 = .ok (.iaload, 1) := by decide +kernel
theorem dX8_hasSome_19 : decode cX8_hasSome 19 = .ok (.ifCond .eq 5, 3) := by decide +kernel
theorem dX8_hasSome_22 : decode cX8_hasSome 22 = .ok (.iconst 1, 1) := by decide +kernel
theorem dX8_hasSome_23 : decode cX8_hasSome 23 = .ok (.ireturn, 1) := by decide +kernel
theorem dX8_hasSome_24 : decode cX8_hasSome 24 = .ok (.iinc 2 1, 3) := by decide +kernel
theorem dX8_hasSome_27 : decode cX8_hasSome 27 = .ok (.goto (-25), 3) := by decide +kernel
theorem dX8_hasSome_30 : decode cX8_hasSome 30 = .ok (.iconst 0, 1) := by decide +kernel
theorem dX8_hasSome_31 : decode cX8_hasSome 31 = .ok (.ireturn, 1) := by decide +kernel
theorem dX8_readCoefficients_0 : decode cX8_readCoefficients 0 = .ok (.iconst 0, 1) := by decide +kernel
theorem dX8_readCoefficients_1 : decode cX8_readCoefficients 1 = .ok (.istore_n 2, 1) := by decide +kernel
theorem dX8_readCoefficients_2 : decode cX8_readCoefficients 2 = .ok (.iload_n 1, 1) := by decide +kernel
theorem dX8_readCoefficients_3 : decode cX8_readCoefficients 3 = .ok (.aload_n 0, 1) := by decide +kernel
theorem dX8_readCoefficients_4 : decode cX8_readCoefficients 4 = .ok (.getfield 124, 3) := by decide +kernel
theorem dX8_readCoefficients_7 : decode cX8_readCoefficients 7 = .ok (.irem, 1) := by decide +kernel
theorem dX8_readCoefficients_8 : decode cX8_readCoefficients 8 = .ok (.ifCond .le 16, 3) := by decide +kernel
theorem dX8_readCoefficients_11 : decode cX8_readCoefficients 11 = .ok (.aload_n 0, 1) := by decide +kernel
theorem dX8_readCoefficients_12 : decode cX8_readCoefficients 12 = .ok (.iload_n 1, 1) := by decide +kernel
theorem dX8_readCoefficients_13 : decode cX8_readCoefficients 13 = .ok (.iconst 1, 1) := by decide +kernel
theorem dX8_readCoefficients_14 : decode cX8_readCoefficients 14 = .ok (.isub, 1) := by decide +kernel
theorem dX8_readCoefficients_15 : decode cX8_readCoefficients 15 = .ok (.invokevirtual 127, 3) := by decide +kernel
theorem dX8_readCoefficients_18 : decode cX8_readCoefficients 18 = .ok (.ifCond .eq 6, 3) := by decide +kernel
theorem dX8_readCoefficients_21 : decode cX8_readCoefficients 21 = .ok (.iinc 2 1, 3) := by decide +kernel
theorem dX8_readCoefficients_24 : decode cX8_readCoefficients 24 = .ok (.iload_n 1, 1) := by decide +kernel
theorem dX8_readCoefficients_25 : decode cX8_readCoefficients 25 = .ok (.aload_n 0, 1) := by decide +kernel
theorem dX8_readCoefficients_26 : decode cX8_readCoefficients 26 = .ok (.getfield 124, 3) := by decide +kernel
theorem dX8_readCoefficients_29 : decode cX8_readCoefficients 29 = .ok (.if_icmp .lt 19, 3) := by decide +kernel
theorem dX8_readCoefficients_32 : decode cX8_readCoefficients 32 = .ok (.aload_n 0, 1) := by decide +kernel
theorem dX8_readCoefficients_33 : decode cX8_readCoefficients 33 = .ok (.iload_n 1, 1) := by decide +kernel
theorem dX8_readCoefficients_34 : decode cX8_readCoefficients 34 = .ok (.aload_n 0, 1) := by decide +kernel
theorem dX8_readCoefficients_35 : decode cX8_readCoefficients 35 = .ok (.getfield 124, 3) := by decide +kernel
theorem dX8_readCoefficients_38 : decode cX8_readCoefficients 38 = .ok (.isub, 1) := by decide +kernel
theorem dX8_readCoefficients_39 : decode cX8_readCoefficients 39 = .ok (.invokevirtual 127, 3) := by decide +kernel
theorem dX8_readCoefficients_42 : decode cX8_readCoefficients 42 = .ok (.ifCond .eq 6, 3) := by decide +kernel
theorem dX8_readCoefficients_45 : decode cX8_readCoefficients 45 = .ok (.iinc 2 1, 3) := by decide +kernel
theorem dX8_readCoefficients_48 : decode cX8_readCoefficients 48 = .ok (.iconst 0, 1) := by decide +kernel
theorem dX8_readCoefficients_49 : decode cX8_readCoefficients 49 = .ok (.istore_n 3, 1) := by decide +kernel
theorem dX8_readCoefficients_50 : decode cX8_readCoefficients 50 = .ok (.iload_n 3, 1) := by decide +kernel
theorem dX8_readCoefficients_51 : decode cX8_readCoefficients 51 = .ok (.bipush 16, 2) := by decide +kernel
theorem dX8_readCoefficients_53 : decode cX8_readCoefficients 53 = .ok (.if_icmp .ge 21, 3) := by decide +kernel
theorem dX8_readCoefficients_56 : decode cX8_readCoefficients 56 = .ok (.aload_n 0, 1) := by decide +kernel
theorem dX8_readCoefficients_57 : decode cX8_readCoefficients 57 = .ok (.getfield 22, 3) := by decide +kernel
theorem dX8_readCoefficients_60 : decode cX8_readCoefficients 60 = .ok (.bipush 16, 2) := by decide +kernel
theorem dX8_readCoefficients_62 : decode cX8_readCoefficients 62 = .ok (.iload_n 1, 1) := by decide +kernel
theorem dX8_readCoefficients_63 : decode cX8_readCoefficients 63 = .ok (.imul, 1) := by decide +kernel
theorem dX8_readCoefficients_64 : decode cX8_readCoefficients 64 = .ok (.iload_n 3, 1) := by decide +kernel
theorem dX8_readCoefficients_65 : decode cX8_readCoefficients 65 = .ok (.iadd, 1) := by decide +kernel
theorem dX8_readCoefficients_66 : decode cX8_readCoefficients 66 = .ok (.iconst 0, 1) := by decide +kernel
theorem dX8_readCoefficients_67 : decode cX8_readCoefficients 67 = .ok (.iastore, 1) := by decide +kernel
theorem dX8_readCoefficients_68 : decode cX8_readCoefficients 68 = .ok (.iinc 3 1, 3) := by decide +kernel
theorem dX8_readCoefficients_71 : decode cX8_readCoefficients 71 = .ok (.goto (-21), 3) := by decide +kernel
theorem dX8_readCoefficients_74 : decode cX8_readCoefficients 74 = .ok (.iconst 0, 1) := by decide +kernel
theorem dX8_readCoefficients_75 : decode cX8_readCoefficients 75 = .ok (.istore_n 3, 1) := by decide +kernel
theorem dX8_readCoefficients_76 : decode cX8_readCoefficients 76 = .ok (.iconst 1, 1) := by decide +kernel
theorem dX8_readCoefficients_77 : decode cX8_readCoefficients 77 = .ok (.istore 4, 2) := by decide +kernel
theorem dX8_readCoefficients_79 : decode cX8_readCoefficients 79 = .ok (.iconst 0, 1) := by decide +kernel
theorem dX8_readCoefficients_80 : decode cX8_readCoefficients 80 = .ok (.istore 5, 2) := by decide +kernel
theorem dX8_readCoefficients_82 : decode cX8_readCoefficients 82 = .ok (.iload 4, 2) := by decide +kernel
theorem dX8_readCoefficients_84 : decode cX8_readCoefficients 84 = .ok (.ifCond .eq 137, 3) := by decide +kernel
theorem dX8_readCoefficients_87 : decode cX8_readCoefficients 87 = .ok (.iload_n 3, 1) := by decide +kernel
theorem dX8_readCoefficients_88 : decode cX8_readCoefficients 88 = .ok (.bipush 16, 2) := by decide +kernel
theorem dX8_readCoefficients_90 : decode cX8_readCoefficients 90 = .ok (.if_icmp .ge 131, 3) := by decide +kernel
theorem dX8_readCoefficients_93 : decode cX8_readCoefficients 93 = .ok (.bipush 11, 2) := by decide +kernel
theorem dX8_readCoefficients_95 : decode cX8_readCoefficients 95 = .ok (.iconst 3, 1) := by decide +kernel
theorem dX8_readCoefficients_96 : decode cX8_readCoefficients 96 = .ok (.iload_n 3, 1) := by decide +kernel
theorem dX8_readCoefficients_97 : decode cX8_readCoefficients 97 = .ok (.invokestatic 130, 3) := by decide +kernel
theorem dX8_readCoefficients_100 : decode cX8_readCoefficients 100 = .ok (.imul, 1) := by decide +kernel
theorem dX8_readCoefficients_101 : decode cX8_readCoefficients 101 = .ok (.iload_n 2, 1) := by decide +kernel
theorem dX8_readCoefficients_102 : decode cX8_readCoefficients 102 = .ok (.iadd, 1) := by decide +kernel
theorem dX8_readCoefficients_103 : decode cX8_readCoefficients 103 = .ok (.imul, 1) := by decide +kernel
theorem dX8_readCoefficients_104 : decode cX8_readCoefficients 104 = .ok (.istore 6, 2) := by decide +kernel
theorem dX8_readCoefficients_106 : decode cX8_readCoefficients 106 = .ok (.iload 5, 2) := by decide +kernel
theorem dX8_readCoefficients_108 : decode cX8_readCoefficients 108 = .ok (.ifCond .ne 14, 3) := by decide +kernel
theorem dX8_readCoefficients_111 : decode cX8_readCoefficients 111 = .ok (.aload_n 0, 1) := by decide +kernel
theorem dX8_readCoefficients_112 : decode cX8_readCoefficients 112 = .ok (.iload 6, 2) := by decide +kernel
theorem dX8_readCoefficients_114 : decode cX8_readCoefficients 114 = .ok (.iconst 0, 1) := by decide +kernel
theorem dX8_readCoefficients_115 : decode cX8_readCoefficients 115 = .ok (.invokevirtual 101, 3) := by decide +kernel
theorem dX8_readCoefficients_118 : decode cX8_readCoefficients 118 = .ok (.iconst 1, 1) := by decide +kernel
theorem dX8_readCoefficients_119 : decode cX8_readCoefficients 119 = .ok (.if_icmp .ne 7, 3) := by decide +kernel
theorem dX8_readCoefficients_122 : decode cX8_readCoefficients 122 = .ok (.iconst 1, 1) := by decide +kernel
theorem dX8_readCoefficients_123 : decode cX8_readCoefficients 123 = .ok (.goto 4, 3) := by decide +kernel
theorem dX8_readCoefficients_126 : decode cX8_readCoefficients 126 = .ok (.iconst 0, 1) := by decide +kernel
theorem dX8_readCoefficients_127 : decode cX8_readCoefficients 127 = .ok (.istore 4, 2) := by decide +kernel
theorem dX8_readCoefficients_129 : decode cX8_readCoefficients 129 = .ok (.iload 4, 2) := by decide +kernel
theorem dX8_readCoefficients_131 : decode cX8_readCoefficients 131 = .ok (.ifCond .eq 87, 3) := by decide +kernel
theorem dX8_readCoefficients_134 : decode cX8_readCoefficients 134 = .ok (.aload_n 0, 1) := by decide +kernel
theorem dX8_readCoefficients_135 : decode cX8_readCoefficients 135 = .ok (.iload 6, 2) := by decide +kernel
theorem dX8_readCoefficients_137 : decode cX8_readCoefficients 137 = .ok (.iconst 1, 1) := by decide +kernel
theorem dX8_readCoefficients_138 : decode cX8_readCoefficients 138 = .ok (.invokevirtual 101, 3) := by decide +kernel
theorem dX8_readCoefficients_141 : decode cX8_readCoefficients 141 = .ok (.ifCond .ne 7, 3) := by decide +kernel
theorem dX8_readCoefficients_144 : decode cX8_readCoefficients 144 = .ok (.iconst 0, 1) := by decide +kernel
theorem dX8_readCoefficients_145 : decode cX8_readCoefficients 145 = .ok (.goto 9, 3) := by decide +kernel
theorem dX8_readCoefficients_148 : decode cX8_readCoefficients 148 = .ok (.aload_n 0, 1) := by decide +kernel
theorem dX8_readCoefficients_149 : decode cX8_readCoefficients 149 = .ok (.iload 6, 2) := by decide +kernel
theorem dX8_readCoefficients_151 : decode cX8_readCoefficients 151 = .ok (.invokevirtual 133, 3) := by decide +kernel
theorem dX8_readCoefficients_154 : decode cX8_readCoefficients 154 = .ok (.istore 7, 2) := by decide +kernel
theorem dX8_readCoefficients_156 : decode cX8_readCoefficients 156 = .ok (.iload 7, 2) := by decide +kernel
theorem dX8_readCoefficients_158 : decode cX8_readCoefficients 158 = .ok (.iconst 1, 1) := by decide +kernel
theorem dX8_readCoefficients_159 : decode cX8_readCoefficients 159 = .ok (.if_icmp .le 7, 3) := by decide +kernel
theorem dX8_readCoefficients_162 : decode cX8_readCoefficients 162 = .ok (.iconst 2, 1) := by decide +kernel
theorem dX8_readCoefficients_163 : decode cX8_readCoefficients 163 = .ok (.goto 5, 3) := by decide +kernel
theorem dX8_readCoefficients_166 : decode cX8_readCoefficients 166 = .ok (.iload 7, 2) := by decide +kernel
theorem dX8_readCoefficients_168 : decode cX8_readCoefficients 168 = .ok (.istore_n 2, 1) := by decide +kernel
theorem dX8_readCoefficients_169 : decode cX8_readCoefficients 169 = .ok (.iload 7, 2) := by decide +kernel
theorem dX8_readCoefficients_171 : decode cX8_readCoefficients 171 = .ok (.ifCond .ne 7, 3) := by decide +kernel
theorem dX8_readCoefficients_174 : decode cX8_readCoefficients 174 = .ok (.iconst 1, 1) := by decide +kernel
theorem dX8_readCoefficients_175 : decode cX8_readCoefficients 175 = .ok (.goto 4, 3) := by decide +kernel
theorem dX8_readCoefficients_178 : decode cX8_readCoefficients 178 = .ok (.iconst 0, 1) := by decide +kernel
theorem dX8_readCoefficients_179 : decode cX8_readCoefficients 179 = .ok (.istore 5, 2) := by decide +kernel
theorem dX8_readCoefficients_181 : decode cX8_readCoefficients 181 = .ok (.iload 7, 2) := by decide +kernel
theorem dX8_readCoefficients_183 : decode cX8_readCoefficients 183 = .ok (.ifCond .le 19, 3) := by decide +kernel
theorem dX8_readCoefficients_186 : decode cX8_readCoefficients 186 = .ok (.aload_n 0, 1) := by decide +kernel
theorem dX8_readCoefficients_187 : decode cX8_readCoefficients 187 = .ok (.sipush 128, 3) := by decide +kernel
theorem dX8_readCoefficients_190 : decode cX8_readCoefficients 190 = .ok (.invokevirtual 94, 3) := by decide +kernel
theorem dX8_readCoefficients_193 : decode cX8_readCoefficients 193 = .ok (.iconst 1, 1) := by decide +kernel
theorem dX8_readCoefficients_194 : decode cX8_readCoefficients 194 = .ok (.if_icmp .ne 8, 3) := by decide +kernel
theorem dX8_readCoefficients_197 : decode cX8_readCoefficients 197 = .ok (.iload 7, 2) := by decide +kernel
theorem dX8_readCoefficients_199 : decode cX8_readCoefficients 199 = .ok (.ineg, 1) := by decide +kernel
theorem dX8_readCoefficients_200 : decode cX8_readCoefficients 200 = .ok (.istore 7, 2) := by decide +kernel
theorem dX8_readCoefficients_202 : decode cX8_readCoefficients 202 = .ok (.aload_n 0, 1) := by decide +kernel
theorem dX8_readCoefficients_203 : decode cX8_readCoefficients 203 = .ok (.getfield 22, 3) := by decide +kernel
theorem dX8_readCoefficients_206 : decode cX8_readCoefficients 206 = .ok (.bipush 16, 2) := by decide +kernel
theorem dX8_readCoefficients_208 : decode cX8_readCoefficients 208 = .ok (.iload_n 1, 1) := by decide +kernel
theorem dX8_readCoefficients_209 : decode cX8_readCoefficients 209 = .ok (.imul, 1) := by decide +kernel
theorem dX8_readCoefficients_210 : decode cX8_readCoefficients 210 = .ok (.iload_n 3, 1) := by decide +kernel
theorem dX8_readCoefficients_211 : decode cX8_readCoefficients 211 = .ok (.iadd, 1) := by decide +kernel
theorem dX8_readCoefficients_212 : decode cX8_readCoefficients 212 = .ok (.iload 7, 2) := by decide +kernel
theorem dX8_readCoefficients_214 : decode cX8_readCoefficients 214 = .ok (.iastore, 1) := by decide +kernel
theorem dX8_readCoefficients_215 : decode cX8_readCoefficients 215 = .ok (.iinc 3 1, 3) := by decide +kernel
theorem dX8_readCoefficients_218 : decode cX8_readCoefficients 218 = .ok (.goto (-136), 3) := by decide +kernel
theorem dX8_readCoefficients_221 : decode cX8_readCoefficients 221 = .ok (.aload_n 0, 1) := by decide +kernel
theorem dX8_readCoefficients_222 : decode cX8_readCoefficients 222 = .ok (.getfield 19, 3) := by decide +kernel
theorem dX8_readCoefficients_225 : decode cX8_readCoefficients 225 = .ok (.iload_n 1, 1) := by decide +kernel
theorem dX8_readCoefficients_226 : decode cX8_readCoefficients 226 = .ok (.iload_n 3, 1) := by decide +kernel
theorem dX8_readCoefficients_227 : decode cX8_readCoefficients 227 = .ok (.iastore, 1) := by decide +kernel
theorem dX8_readCoefficients_228 : decode cX8_readCoefficients 228 = .ok (.return_, 1) := by decide +kernel
theorem dX8_whole_0 : decode cX8_whole 0 = .ok (.lload_n 0, 1) := by decide +kernel
theorem dX8_whole_1 : decode cX8_whole 1 = .ok (.lload_n 0, 1) := by decide +kernel
theorem dX8_whole_2 : decode cX8_whole 2 = .ok (.ldc2_w 136, 3) := by decide +kernel
theorem dX8_whole_5 : decode cX8_whole 5 = .ok (.lmul, 1) := by decide +kernel
theorem dX8_whole_6 : decode cX8_whole 6 = .ok (.bipush 16, 2) := by decide +kernel
theorem dX8_whole_8 : decode cX8_whole 8 = .ok (.lshr, 1) := by decide +kernel
theorem dX8_whole_9 : decode cX8_whole 9 = .ok (.ladd, 1) := by decide +kernel
theorem dX8_whole_10 : decode cX8_whole 10 = .ok (.lreturn, 1) := by decide +kernel
theorem dX8_half_0 : decode cX8_half 0 = .ok (.lload_n 0, 1) := by decide +kernel
theorem dX8_half_1 : decode cX8_half 1 = .ok (.ldc2_w 138, 3) := by decide +kernel
theorem dX8_half_4 : decode cX8_half 4 = .ok (.lmul, 1) := by decide +kernel
theorem dX8_half_5 : decode cX8_half 5 = .ok (.bipush 16, 2) := by decide +kernel
theorem dX8_half_7 : decode cX8_half 7 = .ok (.lshr, 1) := by decide +kernel
theorem dX8_half_8 : decode cX8_half 8 = .ok (.lreturn, 1) := by decide +kernel
theorem dX8_turn_0 : decode cX8_turn 0 = .ok (.aload_n 0, 1) := by decide +kernel
theorem dX8_turn_1 : decode cX8_turn 1 = .ok (.getfield 28, 3) := by decide +kernel
theorem dX8_turn_4 : decode cX8_turn 4 = .ok (.iload_n 1, 1) := by decide +kernel
theorem dX8_turn_5 : decode cX8_turn 5 = .ok (.laload, 1) := by decide +kernel
theorem dX8_turn_6 : decode cX8_turn 6 = .ok (.lstore_n 3, 1) := by decide +kernel
theorem dX8_turn_7 : decode cX8_turn 7 = .ok (.aload_n 0, 1) := by decide +kernel
theorem dX8_turn_8 : decode cX8_turn 8 = .ok (.getfield 28, 3) := by decide +kernel
theorem dX8_turn_11 : decode cX8_turn 11 = .ok (.iload_n 1, 1) := by decide +kernel
theorem dX8_turn_12 : decode cX8_turn 12 = .ok (.iload_n 2, 1) := by decide +kernel
theorem dX8_turn_13 : decode cX8_turn 13 = .ok (.iadd, 1) := by decide +kernel
theorem dX8_turn_14 : decode cX8_turn 14 = .ok (.laload, 1) := by decide +kernel
theorem dX8_turn_15 : decode cX8_turn 15 = .ok (.lstore 5, 2) := by decide +kernel
theorem dX8_turn_17 : decode cX8_turn 17 = .ok (.aload_n 0, 1) := by decide +kernel
theorem dX8_turn_18 : decode cX8_turn 18 = .ok (.getfield 28, 3) := by decide +kernel
theorem dX8_turn_21 : decode cX8_turn 21 = .ok (.iload_n 1, 1) := by decide +kernel
theorem dX8_turn_22 : decode cX8_turn 22 = .ok (.iconst 2, 1) := by decide +kernel
theorem dX8_turn_23 : decode cX8_turn 23 = .ok (.iload_n 2, 1) := by decide +kernel
theorem dX8_turn_24 : decode cX8_turn 24 = .ok (.imul, 1) := by decide +kernel
theorem dX8_turn_25 : decode cX8_turn 25 = .ok (.iadd, 1) := by decide +kernel
theorem dX8_turn_26 : decode cX8_turn 26 = .ok (.laload, 1) := by decide +kernel
theorem dX8_turn_27 : decode cX8_turn 27 = .ok (.lstore 7, 2) := by decide +kernel
theorem dX8_turn_29 : decode cX8_turn 29 = .ok (.aload_n 0, 1) := by decide +kernel
theorem dX8_turn_30 : decode cX8_turn 30 = .ok (.getfield 28, 3) := by decide +kernel
theorem dX8_turn_33 : decode cX8_turn 33 = .ok (.iload_n 1, 1) := by decide +kernel
theorem dX8_turn_34 : decode cX8_turn 34 = .ok (.iconst 3, 1) := by decide +kernel
theorem dX8_turn_35 : decode cX8_turn 35 = .ok (.iload_n 2, 1) := by decide +kernel
theorem dX8_turn_36 : decode cX8_turn 36 = .ok (.imul, 1) := by decide +kernel
theorem dX8_turn_37 : decode cX8_turn 37 = .ok (.iadd, 1) := by decide +kernel
theorem dX8_turn_38 : decode cX8_turn 38 = .ok (.laload, 1) := by decide +kernel
theorem dX8_turn_39 : decode cX8_turn 39 = .ok (.lstore 9, 2) := by decide +kernel
theorem dX8_turn_41 : decode cX8_turn 41 = .ok (.lload_n 3, 1) := by decide +kernel
theorem dX8_turn_42 : decode cX8_turn 42 = .ok (.lload 7, 2) := by decide +kernel
theorem dX8_turn_44 : decode cX8_turn 44 = .ok (.ladd, 1) := by decide +kernel
theorem dX8_turn_45 : decode cX8_turn 45 = .ok (.lstore 11, 2) := by decide +kernel
theorem dX8_turn_47 : decode cX8_turn 47 = .ok (.lload_n 3, 1) := by decide +kernel
theorem dX8_turn_48 : decode cX8_turn 48 = .ok (.lload 7, 2) := by decide +kernel
theorem dX8_turn_50 : decode cX8_turn 50 = .ok (.lsub, 1) := by decide +kernel
theorem dX8_turn_51 : decode cX8_turn 51 = .ok (.lstore 13, 2) := by decide +kernel
theorem dX8_turn_53 : decode cX8_turn 53 = .ok (.lload 5, 2) := by decide +kernel
theorem dX8_turn_55 : decode cX8_turn 55 = .ok (.invokestatic 140, 3) := by decide +kernel
theorem dX8_turn_58 : decode cX8_turn 58 = .ok (.lload 9, 2) := by decide +kernel
theorem dX8_turn_60 : decode cX8_turn 60 = .ok (.invokestatic 144, 3) := by decide +kernel
theorem dX8_turn_63 : decode cX8_turn 63 = .ok (.lsub, 1) := by decide +kernel
theorem dX8_turn_64 : decode cX8_turn 64 = .ok (.lstore 15, 2) := by decide +kernel
theorem dX8_turn_66 : decode cX8_turn 66 = .ok (.lload 5, 2) := by decide +kernel
theorem dX8_turn_68 : decode cX8_turn 68 = .ok (.invokestatic 144, 3) := by decide +kernel
theorem dX8_turn_71 : decode cX8_turn 71 = .ok (.lload 9, 2) := by decide +kernel
theorem dX8_turn_73 : decode cX8_turn 73 = .ok (.invokestatic 140, 3) := by decide +kernel
theorem dX8_turn_76 : decode cX8_turn 76 = .ok (.ladd, 1) := by decide +kernel
theorem dX8_turn_77 : decode cX8_turn 77 = .ok (.lstore 17, 2) := by decide +kernel
theorem dX8_turn_79 : decode cX8_turn 79 = .ok (.aload_n 0, 1) := by decide +kernel
theorem dX8_turn_80 : decode cX8_turn 80 = .ok (.getfield 28, 3) := by decide +kernel
theorem dX8_turn_83 : decode cX8_turn 83 = .ok (.iload_n 1, 1) := by decide +kernel
theorem dX8_turn_84 : decode cX8_turn 84 = .ok (.lload 11, 2) := by decide +kernel
theorem dX8_turn_86 : decode cX8_turn 86 = .ok (.lload 17, 2) := by decide +kernel
theorem dX8_turn_88 : decode cX8_turn 88 = .ok (.ladd, 1) := by decide +kernel
theorem dX8_turn_89 : decode cX8_turn 89 = .ok (.lastore, 1) := by decide +kernel
theorem dX8_turn_90 : decode cX8_turn 90 = .ok (.aload_n 0, 1) := by decide +kernel
theorem dX8_turn_91 : decode cX8_turn 91 = .ok (.getfield 28, 3) := by decide +kernel
theorem dX8_turn_94 : decode cX8_turn 94 = .ok (.iload_n 1, 1) := by decide +kernel
theorem dX8_turn_95 : decode cX8_turn 95 = .ok (.iload_n 2, 1) := by decide +kernel
theorem dX8_turn_96 : decode cX8_turn 96 = .ok (.iadd, 1) := by decide +kernel
theorem dX8_turn_97 : decode cX8_turn 97 = .ok (.lload 13, 2) := by decide +kernel
theorem dX8_turn_99 : decode cX8_turn 99 = .ok (.lload 15, 2) := by decide +kernel
theorem dX8_turn_101 : decode cX8_turn 101 = .ok (.ladd, 1) := by decide +kernel
theorem dX8_turn_102 : decode cX8_turn 102 = .ok (.lastore, 1) := by decide +kernel
theorem dX8_turn_103 : decode cX8_turn 103 = .ok (.aload_n 0, 1) := by decide +kernel
theorem dX8_turn_104 : decode cX8_turn 104 = .ok (.getfield 28, 3) := by decide +kernel
theorem dX8_turn_107 : decode cX8_turn 107 = .ok (.iload_n 1, 1) := by decide +kernel
theorem dX8_turn_108 : decode cX8_turn 108 = .ok (.iconst 2, 1) := by decide +kernel
theorem dX8_turn_109 : decode cX8_turn 109 = .ok (.iload_n 2, 1) := by decide +kernel
theorem dX8_turn_110 : decode cX8_turn 110 = .ok (.imul, 1) := by decide +kernel
theorem dX8_turn_111 : decode cX8_turn 111 = .ok (.iadd, 1) := by decide +kernel
theorem dX8_turn_112 : decode cX8_turn 112 = .ok (.lload 13, 2) := by decide +kernel
theorem dX8_turn_114 : decode cX8_turn 114 = .ok (.lload 15, 2) := by decide +kernel
theorem dX8_turn_116 : decode cX8_turn 116 = .ok (.lsub, 1) := by decide +kernel
theorem dX8_turn_117 : decode cX8_turn 117 = .ok (.lastore, 1) := by decide +kernel
theorem dX8_turn_118 : decode cX8_turn 118 = .ok (.aload_n 0, 1) := by decide +kernel
theorem dX8_turn_119 : decode cX8_turn 119 = .ok (.getfield 28, 3) := by decide +kernel
theorem dX8_turn_122 : decode cX8_turn 122 = .ok (.iload_n 1, 1) := by decide +kernel
theorem dX8_turn_123 : decode cX8_turn 123 = .ok (.iconst 3, 1) := by decide +kernel
theorem dX8_turn_124 : decode cX8_turn 124 = .ok (.iload_n 2, 1) := by decide +kernel
theorem dX8_turn_125 : decode cX8_turn 125 = .ok (.imul, 1) := by decide +kernel
theorem dX8_turn_126 : decode cX8_turn 126 = .ok (.iadd, 1) := by decide +kernel
theorem dX8_turn_127 : decode cX8_turn 127 = .ok (.lload 11, 2) := by decide +kernel
theorem dX8_turn_129 : decode cX8_turn 129 = .ok (.lload 17, 2) := by decide +kernel
theorem dX8_turn_131 : decode cX8_turn 131 = .ok (.lsub, 1) := by decide +kernel
theorem dX8_turn_132 : decode cX8_turn 132 = .ok (.lastore, 1) := by decide +kernel
theorem dX8_turn_133 : decode cX8_turn 133 = .ok (.return_, 1) := by decide +kernel
theorem dX8_transform_0 : decode cX8_transform 0 = .ok (.iconst 0, 1) := by decide +kernel
theorem dX8_transform_1 : decode cX8_transform 1 = .ok (.istore_n 2, 1) := by decide +kernel
theorem dX8_transform_2 : decode cX8_transform 2 = .ok (.iload_n 2, 1) := by decide +kernel
theorem dX8_transform_3 : decode cX8_transform 3 = .ok (.bipush 16, 2) := by decide +kernel
theorem dX8_transform_5 : decode cX8_transform 5 = .ok (.if_icmp .ge 61, 3) := by decide +kernel
theorem dX8_transform_8 : decode cX8_transform 8 = .ok (.iload_n 2, 1) := by decide +kernel
theorem dX8_transform_9 : decode cX8_transform 9 = .ok (.ifCond .ne 13, 3) := by decide +kernel
theorem dX8_transform_12 : decode cX8_transform 12 = .ok (.iconst 4, 1) := by decide +kernel
theorem dX8_transform_13 : decode cX8_transform 13 = .ok (.aload_n 0, 1) := by decide +kernel
theorem dX8_transform_14 : decode cX8_transform 14 = .ok (.getfield 147, 3) := by decide +kernel
theorem dX8_transform_17 : decode cX8_transform 17 = .ok (.iadd, 1) := by decide +kernel
theorem dX8_transform_18 : decode cX8_transform 18 = .ok (.i2l, 1) := by decide +kernel
theorem dX8_transform_19 : decode cX8_transform 19 = .ok (.goto 17, 3) := by decide +kernel
theorem dX8_transform_22 : decode cX8_transform 22 = .ok (.iconst 4, 1) := by decide +kernel
theorem dX8_transform_23 : decode cX8_transform 23 = .ok (.aload_n 0, 1) := by decide +kernel
theorem dX8_transform_24 : decode cX8_transform 24 = .ok (.getfield 147, 3) := by decide +kernel
theorem dX8_transform_27 : decode cX8_transform 27 = .ok (.iadd, 1) := by decide +kernel
theorem dX8_transform_28 : decode cX8_transform 28 = .ok (.aload_n 0, 1) := by decide +kernel
theorem dX8_transform_29 : decode cX8_transform 29 = .ok (.getfield 147, 3) := by decide +kernel
theorem dX8_transform_32 : decode cX8_transform 32 = .ok (.iconst 2, 1) := by decide +kernel
theorem dX8_transform_33 : decode cX8_transform 33 = .ok (.idiv, 1) := by decide +kernel
theorem dX8_transform_34 : decode cX8_transform 34 = .ok (.iadd, 1) := by decide +kernel
theorem dX8_transform_35 : decode cX8_transform 35 = .ok (.i2l, 1) := by decide +kernel
theorem dX8_transform_36 : decode cX8_transform 36 = .ok (.lstore_n 3, 1) := by decide +kernel
theorem dX8_transform_37 : decode cX8_transform 37 = .ok (.aload_n 0, 1) := by decide +kernel
theorem dX8_transform_38 : decode cX8_transform 38 = .ok (.getfield 28, 3) := by decide +kernel
theorem dX8_transform_41 : decode cX8_transform 41 = .ok (.iload_n 2, 1) := by decide +kernel
theorem dX8_transform_42 : decode cX8_transform 42 = .ok (.invokestatic 150, 3) := by decide +kernel
theorem dX8_transform_45 : decode cX8_transform 45 = .ok (.aload_n 0, 1) := by decide +kernel
theorem dX8_transform_46 : decode cX8_transform 46 = .ok (.getfield 22, 3) := by decide +kernel
theorem dX8_transform_49 : decode cX8_transform 49 = .ok (.bipush 16, 2) := by decide +kernel
theorem dX8_transform_51 : decode cX8_transform 51 = .ok (.iload_n 1, 1) := by decide +kernel
theorem dX8_transform_52 : decode cX8_transform 52 = .ok (.imul, 1) := by decide +kernel
theorem dX8_transform_53 : decode cX8_transform 53 = .ok (.iload_n 2, 1) := by decide +kernel
theorem dX8_transform_54 : decode cX8_transform 54 = .ok (.iadd, 1) := by decide +kernel
theorem dX8_transform_55 : decode cX8_transform 55 = .ok (.iaload, 1) := by decide +kernel
theorem dX8_transform_56 : decode cX8_transform 56 = .ok (.i2l, 1) := by decide +kernel
theorem dX8_transform_57 : decode cX8_transform 57 = .ok (.lload_n 3, 1) := by decide +kernel
theorem dX8_transform_58 : decode cX8_transform 58 = .ok (.lmul, 1) := by decide +kernel
theorem dX8_transform_59 : decode cX8_transform 59 = .ok (.lastore, 1) := by decide +kernel
theorem dX8_transform_60 : decode cX8_transform 60 = .ok (.iinc 2 1, 3) := by decide +kernel
theorem dX8_transform_63 : decode cX8_transform 63 = .ok (.goto (-61), 3) := by decide +kernel
theorem dX8_transform_66 : decode cX8_transform 66 = .ok (.iconst 0, 1) := by decide +kernel
theorem dX8_transform_67 : decode cX8_transform 67 = .ok (.istore_n 2, 1) := by decide +kernel
theorem dX8_transform_68 : decode cX8_transform 68 = .ok (.iload_n 2, 1) := by decide +kernel
theorem dX8_transform_69 : decode cX8_transform 69 = .ok (.iconst 4, 1) := by decide +kernel
theorem dX8_transform_70 : decode cX8_transform 70 = .ok (.if_icmp .ge 15, 3) := by decide +kernel
theorem dX8_transform_73 : decode cX8_transform 73 = .ok (.aload_n 0, 1) := by decide +kernel
theorem dX8_transform_74 : decode cX8_transform 74 = .ok (.iload_n 2, 1) := by decide +kernel
theorem dX8_transform_75 : decode cX8_transform 75 = .ok (.iconst 4, 1) := by decide +kernel
theorem dX8_transform_76 : decode cX8_transform 76 = .ok (.invokevirtual 153, 3) := by decide +kernel
theorem dX8_transform_79 : decode cX8_transform 79 = .ok (.iinc 2 1, 3) := by decide +kernel
theorem dX8_transform_82 : decode cX8_transform 82 = .ok (.goto (-14), 3) := by decide +kernel
theorem dX8_transform_85 : decode cX8_transform 85 = .ok (.iconst 0, 1) := by decide +kernel
theorem dX8_transform_86 : decode cX8_transform 86 = .ok (.istore_n 2, 1) := by decide +kernel
theorem dX8_transform_87 : decode cX8_transform 87 = .ok (.iload_n 2, 1) := by decide +kernel
theorem dX8_transform_88 : decode cX8_transform 88 = .ok (.iconst 4, 1) := by decide +kernel
theorem dX8_transform_89 : decode cX8_transform 89 = .ok (.if_icmp .ge 17, 3) := by decide +kernel
theorem dX8_transform_92 : decode cX8_transform 92 = .ok (.aload_n 0, 1) := by decide +kernel
theorem dX8_transform_93 : decode cX8_transform 93 = .ok (.iconst 4, 1) := by decide +kernel
theorem dX8_transform_94 : decode cX8_transform 94 = .ok (.iload_n 2, 1) := by decide +kernel
theorem dX8_transform_95 : decode cX8_transform 95 = .ok (.imul, 1) := by decide +kernel
theorem dX8_transform_96 : decode cX8_transform 96 = .ok (.iconst 1, 1) := by decide +kernel
theorem dX8_transform_97 : decode cX8_transform 97 = .ok (.invokevirtual 153, 3) := by decide +kernel
theorem dX8_transform_100 : decode cX8_transform 100 = .ok (.iinc 2 1, 3) := by decide +kernel
theorem dX8_transform_103 : decode cX8_transform 103 = .ok (.goto (-16), 3) := by decide +kernel
theorem dX8_transform_106 : decode cX8_transform 106 = .ok (.iconst 0, 1) := by decide +kernel
theorem dX8_transform_107 : decode cX8_transform 107 = .ok (.istore_n 2, 1) := by decide +kernel
theorem dX8_transform_108 : decode cX8_transform 108 = .ok (.iload_n 2, 1) := by decide +kernel
theorem dX8_transform_109 : decode cX8_transform 109 = .ok (.bipush 16, 2) := by decide +kernel
theorem dX8_transform_111 : decode cX8_transform 111 = .ok (.if_icmp .ge 27, 3) := by decide +kernel
theorem dX8_transform_114 : decode cX8_transform 114 = .ok (.aload_n 0, 1) := by decide +kernel
theorem dX8_transform_115 : decode cX8_transform 115 = .ok (.getfield 28, 3) := by decide +kernel
theorem dX8_transform_118 : decode cX8_transform 118 = .ok (.iload_n 2, 1) := by decide +kernel
theorem dX8_transform_119 : decode cX8_transform 119 = .ok (.aload_n 0, 1) := by decide +kernel
theorem dX8_transform_120 : decode cX8_transform 120 = .ok (.getfield 28, 3) := by decide +kernel
theorem dX8_transform_123 : decode cX8_transform 123 = .ok (.iload_n 2, 1) := by decide +kernel
theorem dX8_transform_124 : decode cX8_transform 124 = .ok (.laload, 1) := by decide +kernel
theorem dX8_transform_125 : decode cX8_transform 125 = .ok (.ldc2_w 156, 3) := by decide +kernel
theorem dX8_transform_128 : decode cX8_transform 128 = .ok (.ladd, 1) := by decide +kernel
theorem dX8_transform_129 : decode cX8_transform 129 = .ok (.iconst 3, 1) := by decide +kernel
theorem dX8_transform_130 : decode cX8_transform 130 = .ok (.lshr, 1) := by decide +kernel
theorem dX8_transform_131 : decode cX8_transform 131 = .ok (.lastore, 1) := by decide +kernel
theorem dX8_transform_132 : decode cX8_transform 132 = .ok (.iinc 2 1, 3) := by decide +kernel
theorem dX8_transform_135 : decode cX8_transform 135 = .ok (.goto (-27), 3) := by decide +kernel
theorem dX8_transform_138 : decode cX8_transform 138 = .ok (.return_, 1) := by decide +kernel
theorem dX8_at_0 : decode cX8_at 0 = .ok (.iload_n 2, 1) := by decide +kernel
theorem dX8_at_1 : decode cX8_at 1 = .ok (.ifCond .ge 8, 3) := by decide +kernel
theorem dX8_at_4 : decode cX8_at 4 = .ok (.bipush 127, 2) := by decide +kernel
theorem dX8_at_6 : decode cX8_at 6 = .ok (.goto 24, 3) := by decide +kernel
theorem dX8_at_9 : decode cX8_at 9 = .ok (.iload_n 1, 1) := by decide +kernel
theorem dX8_at_10 : decode cX8_at 10 = .ok (.ifCond .ge 9, 3) := by decide +kernel
theorem dX8_at_13 : decode cX8_at 13 = .ok (.sipush 129, 3) := by decide +kernel
theorem dX8_at_16 : decode cX8_at 16 = .ok (.goto 14, 3) := by decide +kernel
theorem dX8_at_19 : decode cX8_at 19 = .ok (.aload_n 0, 1) := by decide +kernel
theorem dX8_at_20 : decode cX8_at 20 = .ok (.getfield 25, 3) := by decide +kernel
theorem dX8_at_23 : decode cX8_at 23 = .ok (.bipush 16, 2) := by decide +kernel
theorem dX8_at_25 : decode cX8_at 25 = .ok (.iload_n 2, 1) := by decide +kernel
theorem dX8_at_26 : decode cX8_at 26 = .ok (.imul, 1) := by decide +kernel
theorem dX8_at_27 : decode cX8_at 27 = .ok (.iload_n 1, 1) := by decide +kernel
theorem dX8_at_28 : decode cX8_at 28 = .ok (.iadd, 1) := by decide +kernel
theorem dX8_at_29 : decode cX8_at 29 = .ok (.iaload, 1) := by decide +kernel
theorem dX8_at_30 : decode cX8_at 30 = .ok (.ireturn, 1) := by decide +kernel
theorem dX8_byteOf_0 : decode cX8_byteOf 0 = .ok (.lload_n 0, 1) := by decide +kernel
theorem dX8_byteOf_1 : decode cX8_byteOf 1 = .ok (.lconst 0, 1) := by decide +kernel
theorem dX8_byteOf_2 : decode cX8_byteOf 2 = .ok (.lcmp, 1) := by decide +kernel
theorem dX8_byteOf_3 : decode cX8_byteOf 3 = .ok (.ifCond .ge 7, 3) := by decide +kernel
theorem dX8_byteOf_6 : decode cX8_byteOf 6 = .ok (.iconst 0, 1) := by decide +kernel
theorem dX8_byteOf_7 : decode cX8_byteOf 7 = .ok (.goto 19, 3) := by decide +kernel
theorem dX8_byteOf_10 : decode cX8_byteOf 10 = .ok (.lload_n 0, 1) := by decide +kernel
theorem dX8_byteOf_11 : decode cX8_byteOf 11 = .ok (.ldc2_w 60, 3) := by decide +kernel
theorem dX8_byteOf_14 : decode cX8_byteOf 14 = .ok (.lcmp, 1) := by decide +kernel
theorem dX8_byteOf_15 : decode cX8_byteOf 15 = .ok (.ifCond .le 9, 3) := by decide +kernel
theorem dX8_byteOf_18 : decode cX8_byteOf 18 = .ok (.sipush 255, 3) := by decide +kernel
theorem dX8_byteOf_21 : decode cX8_byteOf 21 = .ok (.goto 5, 3) := by decide +kernel
theorem dX8_byteOf_24 : decode cX8_byteOf 24 = .ok (.lload_n 0, 1) := by decide +kernel
theorem dX8_byteOf_25 : decode cX8_byteOf 25 = .ok (.l2i, 1) := by decide +kernel
theorem dX8_byteOf_26 : decode cX8_byteOf 26 = .ok (.ireturn, 1) := by decide +kernel
theorem dX8_guess_0 : decode cX8_guess 0 = .ok (.aload_n 0, 1) := by decide +kernel
theorem dX8_guess_1 : decode cX8_guess 1 = .ok (.iload_n 2, 1) := by decide +kernel
theorem dX8_guess_2 : decode cX8_guess 2 = .ok (.iload 4, 2) := by decide +kernel
theorem dX8_guess_4 : decode cX8_guess 4 = .ok (.iadd, 1) := by decide +kernel
theorem dX8_guess_5 : decode cX8_guess 5 = .ok (.iload_n 3, 1) := by decide +kernel
theorem dX8_guess_6 : decode cX8_guess 6 = .ok (.iconst 1, 1) := by decide +kernel
theorem dX8_guess_7 : decode cX8_guess 7 = .ok (.isub, 1) := by decide +kernel
theorem dX8_guess_8 : decode cX8_guess 8 = .ok (.invokevirtual 158, 3) := by decide +kernel
theorem dX8_guess_11 : decode cX8_guess 11 = .ok (.istore 6, 2) := by decide +kernel
theorem dX8_guess_13 : decode cX8_guess 13 = .ok (.aload_n 0, 1) := by decide +kernel
theorem dX8_guess_14 : decode cX8_guess 14 = .ok (.iload_n 2, 1) := by decide +kernel
theorem dX8_guess_15 : decode cX8_guess 15 = .ok (.iconst 1, 1) := by decide +kernel
theorem dX8_guess_16 : decode cX8_guess 16 = .ok (.isub, 1) := by decide +kernel
theorem dX8_guess_17 : decode cX8_guess 17 = .ok (.iload_n 3, 1) := by decide +kernel
theorem dX8_guess_18 : decode cX8_guess 18 = .ok (.iload 5, 2) := by decide +kernel
theorem dX8_guess_20 : decode cX8_guess 20 = .ok (.iadd, 1) := by decide +kernel
theorem dX8_guess_21 : decode cX8_guess 21 = .ok (.invokevirtual 158, 3) := by decide +kernel
theorem dX8_guess_24 : decode cX8_guess 24 = .ok (.istore 7, 2) := by decide +kernel
theorem dX8_guess_26 : decode cX8_guess 26 = .ok (.iload_n 1, 1) := by decide +kernel
theorem dX8_guess_27 : decode cX8_guess 27 = .ok (.tableswitch 83 0 2 #[25, 77, 80], 25) := by decide +kernel
theorem dX8_guess_52 : decode cX8_guess 52 = .ok (.iconst 4, 1) := by decide +kernel
theorem dX8_guess_53 : decode cX8_guess 53 = .ok (.istore 8, 2) := by decide +kernel
theorem dX8_guess_55 : decode cX8_guess 55 = .ok (.iconst 0, 1) := by decide +kernel
theorem dX8_guess_56 : decode cX8_guess 56 = .ok (.istore 9, 2) := by decide +kernel
theorem dX8_guess_58 : decode cX8_guess 58 = .ok (.iload 9, 2) := by decide +kernel
theorem dX8_guess_60 : decode cX8_guess 60 = .ok (.iconst 4, 1) := by decide +kernel
theorem dX8_guess_61 : decode cX8_guess 61 = .ok (.if_icmp .ge 37, 3) := by decide +kernel
theorem dX8_guess_64 : decode cX8_guess 64 = .ok (.iload 8, 2) := by decide +kernel
theorem dX8_guess_66 : decode cX8_guess 66 = .ok (.aload_n 0, 1) := by decide +kernel
theorem dX8_guess_67 : decode cX8_guess 67 = .ok (.iload_n 2, 1) := by decide +kernel
theorem dX8_guess_68 : decode cX8_guess 68 = .ok (.iload 9, 2) := by decide +kernel
theorem dX8_guess_70 : decode cX8_guess 70 = .ok (.iadd, 1) := by decide +kernel
theorem dX8_guess_71 : decode cX8_guess 71 = .ok (.iload_n 3, 1) := by decide +kernel
theorem dX8_guess_72 : decode cX8_guess 72 = .ok (.iconst 1, 1) := by decide +kernel
theorem dX8_guess_73 : decode cX8_guess 73 = .ok (.isub, 1) := by decide +kernel
theorem dX8_guess_74 : decode cX8_guess 74 = .ok (.invokevirtual 158, 3) := by decide +kernel
theorem dX8_guess_77 : decode cX8_guess 77 = .ok (.iadd, 1) := by decide +kernel
theorem dX8_guess_78 : decode cX8_guess 78 = .ok (.aload_n 0, 1) := by decide +kernel
theorem dX8_guess_79 : decode cX8_guess 79 = .ok (.iload_n 2, 1) := by decide +kernel
theorem dX8_guess_80 : decode cX8_guess 80 = .ok (.iconst 1, 1) := by decide +kernel
theorem dX8_guess_81 : decode cX8_guess 81 = .ok (.isub, 1) := by decide +kernel
theorem dX8_guess_82 : decode cX8_guess 82 = .ok (.iload_n 3, 1) := by decide +kernel
theorem dX8_guess_83 : decode cX8_guess 83 = .ok (.iload 9, 2) := by decide +kernel
theorem dX8_guess_85 : decode cX8_guess 85 = .ok (.iadd, 1) := by decide +kernel
theorem dX8_guess_86 : decode cX8_guess 86 = .ok (.invokevirtual 158, 3) := by decide +kernel
theorem dX8_guess_89 : decode cX8_guess 89 = .ok (.iadd, 1) := by decide +kernel
theorem dX8_guess_90 : decode cX8_guess 90 = .ok (.istore 8, 2) := by decide +kernel
theorem dX8_guess_92 : decode cX8_guess 92 = .ok (.iinc 9 1, 3) := by decide +kernel
theorem dX8_guess_95 : decode cX8_guess 95 = .ok (.goto (-37), 3) := by decide +kernel
theorem dX8_guess_98 : decode cX8_guess 98 = .ok (.iload 8, 2) := by decide +kernel
theorem dX8_guess_100 : decode cX8_guess 100 = .ok (.bipush 8, 2) := by decide +kernel
theorem dX8_guess_102 : decode cX8_guess 102 = .ok (.idiv, 1) := by decide +kernel
theorem dX8_guess_103 : decode cX8_guess 103 = .ok (.ireturn, 1) := by decide +kernel
theorem dX8_guess_104 : decode cX8_guess 104 = .ok (.iload 6, 2) := by decide +kernel
theorem dX8_guess_106 : decode cX8_guess 106 = .ok (.ireturn, 1) := by decide +kernel
theorem dX8_guess_107 : decode cX8_guess 107 = .ok (.iload 7, 2) := by decide +kernel
theorem dX8_guess_109 : decode cX8_guess 109 = .ok (.ireturn, 1) := by decide +kernel
theorem dX8_guess_110 : decode cX8_guess 110 = .ok (.iload 7, 2) := by decide +kernel
theorem dX8_guess_112 : decode cX8_guess 112 = .ok (.iload 6, 2) := by decide +kernel
theorem dX8_guess_114 : decode cX8_guess 114 = .ok (.iadd, 1) := by decide +kernel
theorem dX8_guess_115 : decode cX8_guess 115 = .ok (.aload_n 0, 1) := by decide +kernel
theorem dX8_guess_116 : decode cX8_guess 116 = .ok (.iload_n 2, 1) := by decide +kernel
theorem dX8_guess_117 : decode cX8_guess 117 = .ok (.iconst 1, 1) := by decide +kernel
theorem dX8_guess_118 : decode cX8_guess 118 = .ok (.isub, 1) := by decide +kernel
theorem dX8_guess_119 : decode cX8_guess 119 = .ok (.iload_n 3, 1) := by decide +kernel
theorem dX8_guess_120 : decode cX8_guess 120 = .ok (.iconst 1, 1) := by decide +kernel
theorem dX8_guess_121 : decode cX8_guess 121 = .ok (.isub, 1) := by decide +kernel
theorem dX8_guess_122 : decode cX8_guess 122 = .ok (.invokevirtual 158, 3) := by decide +kernel
theorem dX8_guess_125 : decode cX8_guess 125 = .ok (.isub, 1) := by decide +kernel
theorem dX8_guess_126 : decode cX8_guess 126 = .ok (.i2l, 1) := by decide +kernel
theorem dX8_guess_127 : decode cX8_guess 127 = .ok (.invokestatic 161, 3) := by decide +kernel
theorem dX8_guess_130 : decode cX8_guess 130 = .ok (.ireturn, 1) := by decide +kernel
theorem dX8_build_0 : decode cX8_build 0 = .ok (.iconst 4, 1) := by decide +kernel
theorem dX8_build_1 : decode cX8_build 1 = .ok (.iload_n 1, 1) := by decide +kernel
theorem dX8_build_2 : decode cX8_build 2 = .ok (.aload_n 0, 1) := by decide +kernel
theorem dX8_build_3 : decode cX8_build 3 = .ok (.getfield 124, 3) := by decide +kernel
theorem dX8_build_6 : decode cX8_build 6 = .ok (.irem, 1) := by decide +kernel
theorem dX8_build_7 : decode cX8_build 7 = .ok (.imul, 1) := by decide +kernel
theorem dX8_build_8 : decode cX8_build 8 = .ok (.istore_n 2, 1) := by decide +kernel
theorem dX8_build_9 : decode cX8_build 9 = .ok (.iconst 4, 1) := by decide +kernel
theorem dX8_build_10 : decode cX8_build 10 = .ok (.iload_n 1, 1) := by decide +kernel
theorem dX8_build_11 : decode cX8_build 11 = .ok (.aload_n 0, 1) := by decide +kernel
theorem dX8_build_12 : decode cX8_build 12 = .ok (.getfield 124, 3) := by decide +kernel
theorem dX8_build_15 : decode cX8_build 15 = .ok (.idiv, 1) := by decide +kernel
theorem dX8_build_16 : decode cX8_build 16 = .ok (.imul, 1) := by decide +kernel
theorem dX8_build_17 : decode cX8_build 17 = .ok (.istore_n 3, 1) := by decide +kernel
theorem dX8_build_18 : decode cX8_build 18 = .ok (.aload_n 0, 1) := by decide +kernel
theorem dX8_build_19 : decode cX8_build 19 = .ok (.iload_n 1, 1) := by decide +kernel
theorem dX8_build_20 : decode cX8_build 20 = .ok (.invokevirtual 165, 3) := by decide +kernel
theorem dX8_build_23 : decode cX8_build 23 = .ok (.iconst 0, 1) := by decide +kernel
theorem dX8_build_24 : decode cX8_build 24 = .ok (.istore 4, 2) := by decide +kernel
theorem dX8_build_26 : decode cX8_build 26 = .ok (.iload 4, 2) := by decide +kernel
theorem dX8_build_28 : decode cX8_build 28 = .ok (.iconst 4, 1) := by decide +kernel
theorem dX8_build_29 : decode cX8_build 29 = .ok (.if_icmp .ge 74, 3) := by decide +kernel
theorem dX8_build_32 : decode cX8_build 32 = .ok (.iconst 0, 1) := by decide +kernel
theorem dX8_build_33 : decode cX8_build 33 = .ok (.istore 5, 2) := by decide +kernel
theorem dX8_build_35 : decode cX8_build 35 = .ok (.iload 5, 2) := by decide +kernel
theorem dX8_build_37 : decode cX8_build 37 = .ok (.iconst 4, 1) := by decide +kernel
theorem dX8_build_38 : decode cX8_build 38 = .ok (.if_icmp .ge 59, 3) := by decide +kernel
theorem dX8_build_41 : decode cX8_build 41 = .ok (.aload_n 0, 1) := by decide +kernel
theorem dX8_build_42 : decode cX8_build 42 = .ok (.getfield 25, 3) := by decide +kernel
theorem dX8_build_45 : decode cX8_build 45 = .ok (.bipush 16, 2) := by decide +kernel
theorem dX8_build_47 : decode cX8_build 47 = .ok (.iload_n 3, 1) := by decide +kernel
theorem dX8_build_48 : decode cX8_build 48 = .ok (.iload 4, 2) := by decide +kernel
theorem dX8_build_50 : decode cX8_build 50 = .ok (.iadd, 1) := by decide +kernel
theorem dX8_build_51 : decode cX8_build 51 = .ok (.imul, 1) := by decide +kernel
theorem dX8_build_52 : decode cX8_build 52 = .ok (.iload_n 2, 1) := by decide +kernel
theorem dX8_build_53 : decode cX8_build 53 = .ok (.iadd, 1) := by decide +kernel
theorem dX8_build_54 : decode cX8_build 54 = .ok (.iload 5, 2) := by decide +kernel
theorem dX8_build_56 : decode cX8_build 56 = .ok (.iadd, 1) := by decide +kernel
theorem dX8_build_57 : decode cX8_build 57 = .ok (.aload_n 0, 1) := by decide +kernel
theorem dX8_build_58 : decode cX8_build 58 = .ok (.aload_n 0, 1) := by decide +kernel
theorem dX8_build_59 : decode cX8_build 59 = .ok (.getfield 16, 3) := by decide +kernel
theorem dX8_build_62 : decode cX8_build 62 = .ok (.iload_n 1, 1) := by decide +kernel
theorem dX8_build_63 : decode cX8_build 63 = .ok (.iaload, 1) := by decide +kernel
theorem dX8_build_64 : decode cX8_build 64 = .ok (.iload_n 2, 1) := by decide +kernel
theorem dX8_build_65 : decode cX8_build 65 = .ok (.iload_n 3, 1) := by decide +kernel
theorem dX8_build_66 : decode cX8_build 66 = .ok (.iload 5, 2) := by decide +kernel
theorem dX8_build_68 : decode cX8_build 68 = .ok (.iload 4, 2) := by decide +kernel
theorem dX8_build_70 : decode cX8_build 70 = .ok (.invokevirtual 169, 3) := by decide +kernel
theorem dX8_build_73 : decode cX8_build 73 = .ok (.i2l, 1) := by decide +kernel
theorem dX8_build_74 : decode cX8_build 74 = .ok (.aload_n 0, 1) := by decide +kernel
theorem dX8_build_75 : decode cX8_build 75 = .ok (.getfield 28, 3) := by decide +kernel
theorem dX8_build_78 : decode cX8_build 78 = .ok (.iconst 4, 1) := by decide +kernel
theorem dX8_build_79 : decode cX8_build 79 = .ok (.iload 4, 2) := by decide +kernel
theorem dX8_build_81 : decode cX8_build 81 = .ok (.imul, 1) := by decide +kernel
theorem dX8_build_82 : decode cX8_build 82 = .ok (.iload 5, 2) := by decide +kernel
theorem dX8_build_84 : decode cX8_build 84 = .ok (.iadd, 1) := by decide +kernel
theorem dX8_build_85 : decode cX8_build 85 = .ok (.laload, 1) := by decide +kernel
theorem dX8_build_86 : decode cX8_build 86 = .ok (.ladd, 1) := by decide +kernel
theorem dX8_build_87 : decode cX8_build 87 = .ok (.invokestatic 161, 3) := by decide +kernel
theorem dX8_build_90 : decode cX8_build 90 = .ok (.iastore, 1) := by decide +kernel
theorem dX8_build_91 : decode cX8_build 91 = .ok (.iinc 5 1, 3) := by decide +kernel
theorem dX8_build_94 : decode cX8_build 94 = .ok (.goto (-59), 3) := by decide +kernel
theorem dX8_build_97 : decode cX8_build 97 = .ok (.iinc 4 1, 3) := by decide +kernel
theorem dX8_build_100 : decode cX8_build 100 = .ok (.goto (-74), 3) := by decide +kernel
theorem dX8_build_103 : decode cX8_build 103 = .ok (.return_, 1) := by decide +kernel
theorem dX8_limit_0 : decode cX8_limit 0 = .ok (.iload_n 0, 1) := by decide +kernel
theorem dX8_limit_1 : decode cX8_limit 1 = .ok (.bipush (-128), 2) := by decide +kernel
theorem dX8_limit_3 : decode cX8_limit 3 = .ok (.if_icmp .ge 8, 3) := by decide +kernel
theorem dX8_limit_6 : decode cX8_limit 6 = .ok (.bipush (-128), 2) := by decide +kernel
theorem dX8_limit_8 : decode cX8_limit 8 = .ok (.goto 15, 3) := by decide +kernel
theorem dX8_limit_11 : decode cX8_limit 11 = .ok (.iload_n 0, 1) := by decide +kernel
theorem dX8_limit_12 : decode cX8_limit 12 = .ok (.bipush 127, 2) := by decide +kernel
theorem dX8_limit_14 : decode cX8_limit 14 = .ok (.if_icmp .le 8, 3) := by decide +kernel
theorem dX8_limit_17 : decode cX8_limit 17 = .ok (.bipush 127, 2) := by decide +kernel
theorem dX8_limit_19 : decode cX8_limit 19 = .ok (.goto 4, 3) := by decide +kernel
theorem dX8_limit_22 : decode cX8_limit 22 = .ok (.iload_n 0, 1) := by decide +kernel
theorem dX8_limit_23 : decode cX8_limit 23 = .ok (.ireturn, 1) := by decide +kernel
theorem dX8_apart_0 : decode cX8_apart 0 = .ok (.iload_n 0, 1) := by decide +kernel
theorem dX8_apart_1 : decode cX8_apart 1 = .ok (.iload_n 1, 1) := by decide +kernel
theorem dX8_apart_2 : decode cX8_apart 2 = .ok (.if_icmp .ge 9, 3) := by decide +kernel
theorem dX8_apart_5 : decode cX8_apart 5 = .ok (.iload_n 1, 1) := by decide +kernel
theorem dX8_apart_6 : decode cX8_apart 6 = .ok (.iload_n 0, 1) := by decide +kernel
theorem dX8_apart_7 : decode cX8_apart 7 = .ok (.isub, 1) := by decide +kernel
theorem dX8_apart_8 : decode cX8_apart 8 = .ok (.goto 6, 3) := by decide +kernel
theorem dX8_apart_11 : decode cX8_apart 11 = .ok (.iload_n 0, 1) := by decide +kernel
theorem dX8_apart_12 : decode cX8_apart 12 = .ok (.iload_n 1, 1) := by decide +kernel
theorem dX8_apart_13 : decode cX8_apart 13 = .ok (.isub, 1) := by decide +kernel
theorem dX8_apart_14 : decode cX8_apart 14 = .ok (.ireturn, 1) := by decide +kernel
theorem dX8_smooth_0 : decode cX8_smooth 0 = .ok (.aload_n 0, 1) := by decide +kernel
theorem dX8_smooth_1 : decode cX8_smooth 1 = .ok (.getfield 25, 3) := by decide +kernel
theorem dX8_smooth_4 : decode cX8_smooth 4 = .ok (.iload_n 1, 1) := by decide +kernel
theorem dX8_smooth_5 : decode cX8_smooth 5 = .ok (.iconst 2, 1) := by decide +kernel
theorem dX8_smooth_6 : decode cX8_smooth 6 = .ok (.iload_n 2, 1) := by decide +kernel
theorem dX8_smooth_7 : decode cX8_smooth 7 = .ok (.imul, 1) := by decide +kernel
theorem dX8_smooth_8 : decode cX8_smooth 8 = .ok (.isub, 1) := by decide +kernel
theorem dX8_smooth_9 : decode cX8_smooth 9 = .ok (.iaload, 1) := by decide +kernel
theorem dX8_smooth_10 : decode cX8_smooth 10 = .ok (.istore_n 3, 1) := by decide +kernel
theorem dX8_smooth_11 : decode cX8_smooth 11 = .ok (.aload_n 0, 1) := by decide +kernel
theorem dX8_smooth_12 : decode cX8_smooth 12 = .ok (.getfield 25, 3) := by decide +kernel
theorem dX8_smooth_15 : decode cX8_smooth 15 = .ok (.iload_n 1, 1) := by decide +kernel
theorem dX8_smooth_16 : decode cX8_smooth 16 = .ok (.iload_n 2, 1) := by decide +kernel
theorem dX8_smooth_17 : decode cX8_smooth 17 = .ok (.isub, 1) := by decide +kernel
theorem dX8_smooth_18 : decode cX8_smooth 18 = .ok (.iaload, 1) := by decide +kernel
theorem dX8_smooth_19 : decode cX8_smooth 19 = .ok (.istore 4, 2) := by decide +kernel
theorem dX8_smooth_21 : decode cX8_smooth 21 = .ok (.aload_n 0, 1) := by decide +kernel
theorem dX8_smooth_22 : decode cX8_smooth 22 = .ok (.getfield 25, 3) := by decide +kernel
theorem dX8_smooth_25 : decode cX8_smooth 25 = .ok (.iload_n 1, 1) := by decide +kernel
theorem dX8_smooth_26 : decode cX8_smooth 26 = .ok (.iaload, 1) := by decide +kernel
theorem dX8_smooth_27 : decode cX8_smooth 27 = .ok (.istore 5, 2) := by decide +kernel
theorem dX8_smooth_29 : decode cX8_smooth 29 = .ok (.aload_n 0, 1) := by decide +kernel
theorem dX8_smooth_30 : decode cX8_smooth 30 = .ok (.getfield 25, 3) := by decide +kernel
theorem dX8_smooth_33 : decode cX8_smooth 33 = .ok (.iload_n 1, 1) := by decide +kernel
theorem dX8_smooth_34 : decode cX8_smooth 34 = .ok (.iload_n 2, 1) := by decide +kernel
theorem dX8_smooth_35 : decode cX8_smooth 35 = .ok (.iadd, 1) := by decide +kernel
theorem dX8_smooth_36 : decode cX8_smooth 36 = .ok (.iaload, 1) := by decide +kernel
theorem dX8_smooth_37 : decode cX8_smooth 37 = .ok (.istore 6, 2) := by decide +kernel
theorem dX8_smooth_39 : decode cX8_smooth 39 = .ok (.iconst 2, 1) := by decide +kernel
theorem dX8_smooth_40 : decode cX8_smooth 40 = .ok (.iload 4, 2) := by decide +kernel
theorem dX8_smooth_42 : decode cX8_smooth 42 = .ok (.iload 5, 2) := by decide +kernel
theorem dX8_smooth_44 : decode cX8_smooth 44 = .ok (.invokestatic 173, 3) := by decide +kernel
theorem dX8_smooth_47 : decode cX8_smooth 47 = .ok (.imul, 1) := by decide +kernel
theorem dX8_smooth_48 : decode cX8_smooth 48 = .ok (.iload_n 3, 1) := by decide +kernel
theorem dX8_smooth_49 : decode cX8_smooth 49 = .ok (.iload 6, 2) := by decide +kernel
theorem dX8_smooth_51 : decode cX8_smooth 51 = .ok (.invokestatic 173, 3) := by decide +kernel
theorem dX8_smooth_54 : decode cX8_smooth 54 = .ok (.iconst 2, 1) := by decide +kernel
theorem dX8_smooth_55 : decode cX8_smooth 55 = .ok (.idiv, 1) := by decide +kernel
theorem dX8_smooth_56 : decode cX8_smooth 56 = .ok (.iadd, 1) := by decide +kernel
theorem dX8_smooth_57 : decode cX8_smooth 57 = .ok (.iconst 2, 1) := by decide +kernel
theorem dX8_smooth_58 : decode cX8_smooth 58 = .ok (.aload_n 0, 1) := by decide +kernel
theorem dX8_smooth_59 : decode cX8_smooth 59 = .ok (.getfield 176, 3) := by decide +kernel
theorem dX8_smooth_62 : decode cX8_smooth 62 = .ok (.imul, 1) := by decide +kernel
theorem dX8_smooth_63 : decode cX8_smooth 63 = .ok (.iconst 4, 1) := by decide +kernel
theorem dX8_smooth_64 : decode cX8_smooth 64 = .ok (.iadd, 1) := by decide +kernel
theorem dX8_smooth_65 : decode cX8_smooth 65 = .ok (.if_icmp .le 4, 3) := by decide +kernel
theorem dX8_smooth_68 : decode cX8_smooth 68 = .ok (.return_, 1) := by decide +kernel
theorem dX8_smooth_69 : decode cX8_smooth 69 = .ok (.iload_n 3, 1) := by decide +kernel
theorem dX8_smooth_70 : decode cX8_smooth 70 = .ok (.iload 6, 2) := by decide +kernel
theorem dX8_smooth_72 : decode cX8_smooth 72 = .ok (.isub, 1) := by decide +kernel
theorem dX8_smooth_73 : decode cX8_smooth 73 = .ok (.invokestatic 179, 3) := by decide +kernel
theorem dX8_smooth_76 : decode cX8_smooth 76 = .ok (.iconst 3, 1) := by decide +kernel
theorem dX8_smooth_77 : decode cX8_smooth 77 = .ok (.iload 5, 2) := by decide +kernel
theorem dX8_smooth_79 : decode cX8_smooth 79 = .ok (.iload 4, 2) := by decide +kernel
theorem dX8_smooth_81 : decode cX8_smooth 81 = .ok (.isub, 1) := by decide +kernel
theorem dX8_smooth_82 : decode cX8_smooth 82 = .ok (.imul, 1) := by decide +kernel
theorem dX8_smooth_83 : decode cX8_smooth 83 = .ok (.iadd, 1) := by decide +kernel
theorem dX8_smooth_84 : decode cX8_smooth 84 = .ok (.invokestatic 179, 3) := by decide +kernel
theorem dX8_smooth_87 : decode cX8_smooth 87 = .ok (.istore 7, 2) := by decide +kernel
theorem dX8_smooth_89 : decode cX8_smooth 89 = .ok (.iload 7, 2) := by decide +kernel
theorem dX8_smooth_91 : decode cX8_smooth 91 = .ok (.iconst 4, 1) := by decide +kernel
theorem dX8_smooth_92 : decode cX8_smooth 92 = .ok (.iadd, 1) := by decide +kernel
theorem dX8_smooth_93 : decode cX8_smooth 93 = .ok (.invokestatic 179, 3) := by decide +kernel
theorem dX8_smooth_96 : decode cX8_smooth 96 = .ok (.iconst 3, 1) := by decide +kernel
theorem dX8_smooth_97 : decode cX8_smooth 97 = .ok (.ishr, 1) := by decide +kernel
theorem dX8_smooth_98 : decode cX8_smooth 98 = .ok (.istore 8, 2) := by decide +kernel
theorem dX8_smooth_100 : decode cX8_smooth 100 = .ok (.iload 7, 2) := by decide +kernel
theorem dX8_smooth_102 : decode cX8_smooth 102 = .ok (.iconst 3, 1) := by decide +kernel
theorem dX8_smooth_103 : decode cX8_smooth 103 = .ok (.iadd, 1) := by decide +kernel
theorem dX8_smooth_104 : decode cX8_smooth 104 = .ok (.invokestatic 179, 3) := by decide +kernel
theorem dX8_smooth_107 : decode cX8_smooth 107 = .ok (.iconst 3, 1) := by decide +kernel
theorem dX8_smooth_108 : decode cX8_smooth 108 = .ok (.ishr, 1) := by decide +kernel
theorem dX8_smooth_109 : decode cX8_smooth 109 = .ok (.istore 9, 2) := by decide +kernel
theorem dX8_smooth_111 : decode cX8_smooth 111 = .ok (.aload_n 0, 1) := by decide +kernel
theorem dX8_smooth_112 : decode cX8_smooth 112 = .ok (.getfield 25, 3) := by decide +kernel
theorem dX8_smooth_115 : decode cX8_smooth 115 = .ok (.iload_n 1, 1) := by decide +kernel
theorem dX8_smooth_116 : decode cX8_smooth 116 = .ok (.iload 5, 2) := by decide +kernel
theorem dX8_smooth_118 : decode cX8_smooth 118 = .ok (.sipush 128, 3) := by decide +kernel
theorem dX8_smooth_121 : decode cX8_smooth 121 = .ok (.isub, 1) := by decide +kernel
theorem dX8_smooth_122 : decode cX8_smooth 122 = .ok (.iload 8, 2) := by decide +kernel
theorem dX8_smooth_124 : decode cX8_smooth 124 = .ok (.isub, 1) := by decide +kernel
theorem dX8_smooth_125 : decode cX8_smooth 125 = .ok (.invokestatic 179, 3) := by decide +kernel
theorem dX8_smooth_128 : decode cX8_smooth 128 = .ok (.sipush 128, 3) := by decide +kernel
theorem dX8_smooth_131 : decode cX8_smooth 131 = .ok (.iadd, 1) := by decide +kernel
theorem dX8_smooth_132 : decode cX8_smooth 132 = .ok (.iastore, 1) := by decide +kernel
theorem dX8_smooth_133 : decode cX8_smooth 133 = .ok (.aload_n 0, 1) := by decide +kernel
theorem dX8_smooth_134 : decode cX8_smooth 134 = .ok (.getfield 25, 3) := by decide +kernel
theorem dX8_smooth_137 : decode cX8_smooth 137 = .ok (.iload_n 1, 1) := by decide +kernel
theorem dX8_smooth_138 : decode cX8_smooth 138 = .ok (.iload_n 2, 1) := by decide +kernel
theorem dX8_smooth_139 : decode cX8_smooth 139 = .ok (.isub, 1) := by decide +kernel
theorem dX8_smooth_140 : decode cX8_smooth 140 = .ok (.iload 4, 2) := by decide +kernel
theorem dX8_smooth_142 : decode cX8_smooth 142 = .ok (.sipush 128, 3) := by decide +kernel
theorem dX8_smooth_145 : decode cX8_smooth 145 = .ok (.isub, 1) := by decide +kernel
theorem dX8_smooth_146 : decode cX8_smooth 146 = .ok (.iload 9, 2) := by decide +kernel
theorem dX8_smooth_148 : decode cX8_smooth 148 = .ok (.iadd, 1) := by decide +kernel
theorem dX8_smooth_149 : decode cX8_smooth 149 = .ok (.invokestatic 179, 3) := by decide +kernel
theorem dX8_smooth_152 : decode cX8_smooth 152 = .ok (.sipush 128, 3) := by decide +kernel
theorem dX8_smooth_155 : decode cX8_smooth 155 = .ok (.iadd, 1) := by decide +kernel
theorem dX8_smooth_156 : decode cX8_smooth 156 = .ok (.iastore, 1) := by decide +kernel
theorem dX8_smooth_157 : decode cX8_smooth 157 = .ok (.aload_n 0, 1) := by decide +kernel
theorem dX8_smooth_158 : decode cX8_smooth 158 = .ok (.getfield 25, 3) := by decide +kernel
theorem dX8_smooth_161 : decode cX8_smooth 161 = .ok (.iload_n 1, 1) := by decide +kernel
theorem dX8_smooth_162 : decode cX8_smooth 162 = .ok (.iaload, 1) := by decide +kernel
theorem dX8_smooth_163 : decode cX8_smooth 163 = .ok (.iload 5, 2) := by decide +kernel
theorem dX8_smooth_165 : decode cX8_smooth 165 = .ok (.if_icmp .ne 16, 3) := by decide +kernel
theorem dX8_smooth_168 : decode cX8_smooth 168 = .ok (.aload_n 0, 1) := by decide +kernel
theorem dX8_smooth_169 : decode cX8_smooth 169 = .ok (.getfield 25, 3) := by decide +kernel
theorem dX8_smooth_172 : decode cX8_smooth 172 = .ok (.iload_n 1, 1) := by decide +kernel
theorem dX8_smooth_173 : decode cX8_smooth 173 = .ok (.iload_n 2, 1) := by decide +kernel
theorem dX8_smooth_174 : decode cX8_smooth 174 = .ok (.isub, 1) := by decide +kernel
theorem dX8_smooth_175 : decode cX8_smooth 175 = .ok (.iaload, 1) := by decide +kernel
theorem dX8_smooth_176 : decode cX8_smooth 176 = .ok (.iload 4, 2) := by decide +kernel
theorem dX8_smooth_178 : decode cX8_smooth 178 = .ok (.if_icmp .eq 13, 3) := by decide +kernel
theorem dX8_smooth_181 : decode cX8_smooth 181 = .ok (.aload_n 0, 1) := by decide +kernel
theorem dX8_smooth_182 : decode cX8_smooth 182 = .ok (.dup, 1) := by decide +kernel
theorem dX8_smooth_183 : decode cX8_smooth 183 = .ok (.getfield 182, 3) := by decide +kernel
theorem dX8_smooth_186 : decode cX8_smooth 186 = .ok (.iconst 1, 1) := by decide +kernel
theorem dX8_smooth_187 : decode cX8_smooth 187 = .ok (.iadd, 1) := by decide +kernel
theorem dX8_smooth_188 : decode cX8_smooth 188 = .ok (.putfield 182, 3) := by decide +kernel
theorem dX8_smooth_191 : decode cX8_smooth 191 = .ok (.return_, 1) := by decide +kernel
theorem dX8_filter_0 : decode cX8_filter 0 = .ok (.iconst 0, 1) := by decide +kernel
theorem dX8_filter_1 : decode cX8_filter 1 = .ok (.istore_n 1, 1) := by decide +kernel
theorem dX8_filter_2 : decode cX8_filter 2 = .ok (.iload_n 1, 1) := by decide +kernel
theorem dX8_filter_3 : decode cX8_filter 3 = .ok (.aload_n 0, 1) := by decide +kernel
theorem dX8_filter_4 : decode cX8_filter 4 = .ok (.getfield 124, 3) := by decide +kernel
theorem dX8_filter_7 : decode cX8_filter 7 = .ok (.aload_n 0, 1) := by decide +kernel
theorem dX8_filter_8 : decode cX8_filter 8 = .ok (.getfield 185, 3) := by decide +kernel
theorem dX8_filter_11 : decode cX8_filter 11 = .ok (.imul, 1) := by decide +kernel
theorem dX8_filter_12 : decode cX8_filter 12 = .ok (.if_icmp .ge 94, 3) := by decide +kernel
theorem dX8_filter_15 : decode cX8_filter 15 = .ok (.iconst 4, 1) := by decide +kernel
theorem dX8_filter_16 : decode cX8_filter 16 = .ok (.iload_n 1, 1) := by decide +kernel
theorem dX8_filter_17 : decode cX8_filter 17 = .ok (.aload_n 0, 1) := by decide +kernel
theorem dX8_filter_18 : decode cX8_filter 18 = .ok (.getfield 124, 3) := by decide +kernel
theorem dX8_filter_21 : decode cX8_filter 21 = .ok (.irem, 1) := by decide +kernel
theorem dX8_filter_22 : decode cX8_filter 22 = .ok (.imul, 1) := by decide +kernel
theorem dX8_filter_23 : decode cX8_filter 23 = .ok (.istore_n 2, 1) := by decide +kernel
theorem dX8_filter_24 : decode cX8_filter 24 = .ok (.iconst 4, 1) := by decide +kernel
theorem dX8_filter_25 : decode cX8_filter 25 = .ok (.iload_n 1, 1) := by decide +kernel
theorem dX8_filter_26 : decode cX8_filter 26 = .ok (.aload_n 0, 1) := by decide +kernel
theorem dX8_filter_27 : decode cX8_filter 27 = .ok (.getfield 124, 3) := by decide +kernel
theorem dX8_filter_30 : decode cX8_filter 30 = .ok (.idiv, 1) := by decide +kernel
theorem dX8_filter_31 : decode cX8_filter 31 = .ok (.imul, 1) := by decide +kernel
theorem dX8_filter_32 : decode cX8_filter 32 = .ok (.istore_n 3, 1) := by decide +kernel
theorem dX8_filter_33 : decode cX8_filter 33 = .ok (.iconst 0, 1) := by decide +kernel
theorem dX8_filter_34 : decode cX8_filter 34 = .ok (.istore 4, 2) := by decide +kernel
theorem dX8_filter_36 : decode cX8_filter 36 = .ok (.iload 4, 2) := by decide +kernel
theorem dX8_filter_38 : decode cX8_filter 38 = .ok (.iconst 4, 1) := by decide +kernel
theorem dX8_filter_39 : decode cX8_filter 39 = .ok (.if_icmp .ge 27, 3) := by decide +kernel
theorem dX8_filter_42 : decode cX8_filter 42 = .ok (.iload_n 2, 1) := by decide +kernel
theorem dX8_filter_43 : decode cX8_filter 43 = .ok (.ifCond .le 23, 3) := by decide +kernel
theorem dX8_filter_46 : decode cX8_filter 46 = .ok (.aload_n 0, 1) := by decide +kernel
theorem dX8_filter_47 : decode cX8_filter 47 = .ok (.bipush 16, 2) := by decide +kernel
theorem dX8_filter_49 : decode cX8_filter 49 = .ok (.iload_n 3, 1) := by decide +kernel
theorem dX8_filter_50 : decode cX8_filter 50 = .ok (.iload 4, 2) := by decide +kernel
theorem dX8_filter_52 : decode cX8_filter 52 = .ok (.iadd, 1) := by decide +kernel
theorem dX8_filter_53 : decode cX8_filter 53 = .ok (.imul, 1) := by decide +kernel
theorem dX8_filter_54 : decode cX8_filter 54 = .ok (.iload_n 2, 1) := by decide +kernel
theorem dX8_filter_55 : decode cX8_filter 55 = .ok (.iadd, 1) := by decide +kernel
theorem dX8_filter_56 : decode cX8_filter 56 = .ok (.iconst 1, 1) := by decide +kernel
theorem dX8_filter_57 : decode cX8_filter 57 = .ok (.invokevirtual 188, 3) := by decide +kernel
theorem dX8_filter_60 : decode cX8_filter 60 = .ok (.iinc 4 1, 3) := by decide +kernel
theorem dX8_filter_63 : decode cX8_filter 63 = .ok (.goto (-27), 3) := by decide +kernel
theorem dX8_filter_66 : decode cX8_filter 66 = .ok (.iconst 0, 1) := by decide +kernel
theorem dX8_filter_67 : decode cX8_filter 67 = .ok (.istore 4, 2) := by decide +kernel
theorem dX8_filter_69 : decode cX8_filter 69 = .ok (.iload 4, 2) := by decide +kernel
theorem dX8_filter_71 : decode cX8_filter 71 = .ok (.iconst 4, 1) := by decide +kernel
theorem dX8_filter_72 : decode cX8_filter 72 = .ok (.if_icmp .ge 28, 3) := by decide +kernel
theorem dX8_filter_75 : decode cX8_filter 75 = .ok (.iload_n 3, 1) := by decide +kernel
theorem dX8_filter_76 : decode cX8_filter 76 = .ok (.ifCond .le 24, 3) := by decide +kernel
theorem dX8_filter_79 : decode cX8_filter 79 = .ok (.aload_n 0, 1) := by decide +kernel
theorem dX8_filter_80 : decode cX8_filter 80 = .ok (.bipush 16, 2) := by decide +kernel
theorem dX8_filter_82 : decode cX8_filter 82 = .ok (.iload_n 3, 1) := by decide +kernel
theorem dX8_filter_83 : decode cX8_filter 83 = .ok (.imul, 1) := by decide +kernel
theorem dX8_filter_84 : decode cX8_filter 84 = .ok (.iload_n 2, 1) := by decide +kernel
theorem dX8_filter_85 : decode cX8_filter 85 = .ok (.iadd, 1) := by decide +kernel
theorem dX8_filter_86 : decode cX8_filter 86 = .ok (.iload 4, 2) := by decide +kernel
theorem dX8_filter_88 : decode cX8_filter 88 = .ok (.iadd, 1) := by decide +kernel
theorem dX8_filter_89 : decode cX8_filter 89 = .ok (.bipush 16, 2) := by decide +kernel
theorem dX8_filter_91 : decode cX8_filter 91 = .ok (.invokevirtual 188, 3) := by decide +kernel
theorem dX8_filter_94 : decode cX8_filter 94 = .ok (.iinc 4 1, 3) := by decide +kernel
theorem dX8_filter_97 : decode cX8_filter 97 = .ok (.goto (-28), 3) := by decide +kernel
theorem dX8_filter_100 : decode cX8_filter 100 = .ok (.iinc 1 1, 3) := by decide +kernel
theorem dX8_filter_103 : decode cX8_filter 103 = .ok (.goto (-101), 3) := by decide +kernel
theorem dX8_filter_106 : decode cX8_filter 106 = .ok (.return_, 1) := by decide +kernel
theorem dX8_readWay_0 : decode cX8_readWay 0 = .ok (.aload_n 0, 1) := by decide +kernel
theorem dX8_readWay_1 : decode cX8_readWay 1 = .ok (.bipush 112, 2) := by decide +kernel
theorem dX8_readWay_3 : decode cX8_readWay 3 = .ok (.invokevirtual 94, 3) := by decide +kernel
theorem dX8_readWay_6 : decode cX8_readWay 6 = .ok (.ifCond .ne 5, 3) := by decide +kernel
theorem dX8_readWay_9 : decode cX8_readWay 9 = .ok (.iconst 0, 1) := by decide +kernel
theorem dX8_readWay_10 : decode cX8_readWay 10 = .ok (.ireturn, 1) := by decide +kernel
theorem dX8_readWay_11 : decode cX8_readWay 11 = .ok (.aload_n 0, 1) := by decide +kernel
theorem dX8_readWay_12 : decode cX8_readWay 12 = .ok (.bipush 86, 2) := by decide +kernel
theorem dX8_readWay_14 : decode cX8_readWay 14 = .ok (.invokevirtual 94, 3) := by decide +kernel
theorem dX8_readWay_17 : decode cX8_readWay 17 = .ok (.ifCond .ne 5, 3) := by decide +kernel
theorem dX8_readWay_20 : decode cX8_readWay 20 = .ok (.iconst 1, 1) := by decide +kernel
theorem dX8_readWay_21 : decode cX8_readWay 21 = .ok (.ireturn, 1) := by decide +kernel
theorem dX8_readWay_22 : decode cX8_readWay 22 = .ok (.iconst 2, 1) := by decide +kernel
theorem dX8_readWay_23 : decode cX8_readWay 23 = .ok (.aload_n 0, 1) := by decide +kernel
theorem dX8_readWay_24 : decode cX8_readWay 24 = .ok (.sipush 140, 3) := by decide +kernel
theorem dX8_readWay_27 : decode cX8_readWay 27 = .ok (.invokevirtual 94, 3) := by decide +kernel
theorem dX8_readWay_30 : decode cX8_readWay 30 = .ok (.iadd, 1) := by decide +kernel
theorem dX8_readWay_31 : decode cX8_readWay 31 = .ok (.ireturn, 1) := by decide +kernel
theorem dX8_decode_0 : decode cX8_decode 0 = .ok (.aload_n 0, 1) := by decide +kernel
theorem dX8_decode_1 : decode cX8_decode 1 = .ok (.iconst 0, 1) := by decide +kernel
theorem dX8_decode_2 : decode cX8_decode 2 = .ok (.putfield 32, 3) := by decide +kernel
theorem dX8_decode_5 : decode cX8_decode 5 = .ok (.aload_n 0, 1) := by decide +kernel
theorem dX8_decode_6 : decode cX8_decode 6 = .ok (.iconst 0, 1) := by decide +kernel
theorem dX8_decode_7 : decode cX8_decode 7 = .ok (.putfield 47, 3) := by decide +kernel
theorem dX8_decode_10 : decode cX8_decode 10 = .ok (.aload_n 0, 1) := by decide +kernel
theorem dX8_decode_11 : decode cX8_decode 11 = .ok (.invokevirtual 91, 3) := by decide +kernel
theorem dX8_decode_14 : decode cX8_decode 14 = .ok (.aload_n 0, 1) := by decide +kernel
theorem dX8_decode_15 : decode cX8_decode 15 = .ok (.iconst 1, 1) := by decide +kernel
theorem dX8_decode_16 : decode cX8_decode 16 = .ok (.aload_n 0, 1) := by decide +kernel
theorem dX8_decode_17 : decode cX8_decode 17 = .ok (.sipush 128, 3) := by decide +kernel
theorem dX8_decode_20 : decode cX8_decode 20 = .ok (.iconst 2, 1) := by decide +kernel
theorem dX8_decode_21 : decode cX8_decode 21 = .ok (.invokevirtual 97, 3) := by decide +kernel
theorem dX8_decode_24 : decode cX8_decode 24 = .ok (.iadd, 1) := by decide +kernel
theorem dX8_decode_25 : decode cX8_decode 25 = .ok (.putfield 124, 3) := by decide +kernel
theorem dX8_decode_28 : decode cX8_decode 28 = .ok (.aload_n 0, 1) := by decide +kernel
theorem dX8_decode_29 : decode cX8_decode 29 = .ok (.iconst 1, 1) := by decide +kernel
theorem dX8_decode_30 : decode cX8_decode 30 = .ok (.aload_n 0, 1) := by decide +kernel
theorem dX8_decode_31 : decode cX8_decode 31 = .ok (.sipush 128, 3) := by decide +kernel
theorem dX8_decode_34 : decode cX8_decode 34 = .ok (.iconst 2, 1) := by decide +kernel
theorem dX8_decode_35 : decode cX8_decode 35 = .ok (.invokevirtual 97, 3) := by decide +kernel
theorem dX8_decode_38 : decode cX8_decode 38 = .ok (.iadd, 1) := by decide +kernel
theorem dX8_decode_39 : decode cX8_decode 39 = .ok (.putfield 185, 3) := by decide +kernel
theorem dX8_decode_42 : decode cX8_decode 42 = .ok (.aload_n 0, 1) := by decide +kernel
theorem dX8_decode_43 : decode cX8_decode 43 = .ok (.aload_n 0, 1) := by decide +kernel
theorem dX8_decode_44 : decode cX8_decode 44 = .ok (.sipush 128, 3) := by decide +kernel
theorem dX8_decode_47 : decode cX8_decode 47 = .ok (.bipush 7, 2) := by decide +kernel
theorem dX8_decode_49 : decode cX8_decode 49 = .ok (.invokevirtual 97, 3) := by decide +kernel
theorem dX8_decode_52 : decode cX8_decode 52 = .ok (.putfield 147, 3) := by decide +kernel
theorem dX8_decode_55 : decode cX8_decode 55 = .ok (.aload_n 0, 1) := by decide +kernel
theorem dX8_decode_56 : decode cX8_decode 56 = .ok (.aload_n 0, 1) := by decide +kernel
theorem dX8_decode_57 : decode cX8_decode 57 = .ok (.sipush 128, 3) := by decide +kernel
theorem dX8_decode_60 : decode cX8_decode 60 = .ok (.bipush 6, 2) := by decide +kernel
theorem dX8_decode_62 : decode cX8_decode 62 = .ok (.invokevirtual 97, 3) := by decide +kernel
theorem dX8_decode_65 : decode cX8_decode 65 = .ok (.putfield 176, 3) := by decide +kernel
theorem dX8_decode_68 : decode cX8_decode 68 = .ok (.aload_n 0, 1) := by decide +kernel
theorem dX8_decode_69 : decode cX8_decode 69 = .ok (.iconst 0, 1) := by decide +kernel
theorem dX8_decode_70 : decode cX8_decode 70 = .ok (.putfield 191, 3) := by decide +kernel
theorem dX8_decode_73 : decode cX8_decode 73 = .ok (.aload_n 0, 1) := by decide +kernel
theorem dX8_decode_74 : decode cX8_decode 74 = .ok (.iconst 0, 1) := by decide +kernel
theorem dX8_decode_75 : decode cX8_decode 75 = .ok (.putfield 182, 3) := by decide +kernel
theorem dX8_decode_78 : decode cX8_decode 78 = .ok (.iconst 0, 1) := by decide +kernel
theorem dX8_decode_79 : decode cX8_decode 79 = .ok (.istore_n 1, 1) := by decide +kernel
theorem dX8_decode_80 : decode cX8_decode 80 = .ok (.iload_n 1, 1) := by decide +kernel
theorem dX8_decode_81 : decode cX8_decode 81 = .ok (.sipush 264, 3) := by decide +kernel
theorem dX8_decode_84 : decode cX8_decode 84 = .ok (.if_icmp .ge 64, 3) := by decide +kernel
theorem dX8_decode_87 : decode cX8_decode 87 = .ok (.aload_n 0, 1) := by decide +kernel
theorem dX8_decode_88 : decode cX8_decode 88 = .ok (.getfield 13, 3) := by decide +kernel
theorem dX8_decode_91 : decode cX8_decode 91 = .ok (.iload_n 1, 1) := by decide +kernel
theorem dX8_decode_92 : decode cX8_decode 92 = .ok (.sipush 128, 3) := by decide +kernel
theorem dX8_decode_95 : decode cX8_decode 95 = .ok (.iastore, 1) := by decide +kernel
theorem dX8_decode_96 : decode cX8_decode 96 = .ok (.aload_n 0, 1) := by decide +kernel
theorem dX8_decode_97 : decode cX8_decode 97 = .ok (.sipush 250, 3) := by decide +kernel
theorem dX8_decode_100 : decode cX8_decode 100 = .ok (.invokevirtual 94, 3) := by decide +kernel
theorem dX8_decode_103 : decode cX8_decode 103 = .ok (.iconst 1, 1) := by decide +kernel
theorem dX8_decode_104 : decode cX8_decode 104 = .ok (.if_icmp .ne 38, 3) := by decide +kernel
theorem dX8_decode_107 : decode cX8_decode 107 = .ok (.aload_n 0, 1) := by decide +kernel
theorem dX8_decode_108 : decode cX8_decode 108 = .ok (.sipush 128, 3) := by decide +kernel
theorem dX8_decode_111 : decode cX8_decode 111 = .ok (.bipush 8, 2) := by decide +kernel
theorem dX8_decode_113 : decode cX8_decode 113 = .ok (.invokevirtual 97, 3) := by decide +kernel
theorem dX8_decode_116 : decode cX8_decode 116 = .ok (.istore_n 2, 1) := by decide +kernel
theorem dX8_decode_117 : decode cX8_decode 117 = .ok (.aload_n 0, 1) := by decide +kernel
theorem dX8_decode_118 : decode cX8_decode 118 = .ok (.getfield 13, 3) := by decide +kernel
theorem dX8_decode_121 : decode cX8_decode 121 = .ok (.iload_n 1, 1) := by decide +kernel
theorem dX8_decode_122 : decode cX8_decode 122 = .ok (.iload_n 2, 1) := by decide +kernel
theorem dX8_decode_123 : decode cX8_decode 123 = .ok (.ifCond .ne 7, 3) := by decide +kernel
theorem dX8_decode_126 : decode cX8_decode 126 = .ok (.iconst 1, 1) := by decide +kernel
theorem dX8_decode_127 : decode cX8_decode 127 = .ok (.goto 4, 3) := by decide +kernel
theorem dX8_decode_130 : decode cX8_decode 130 = .ok (.iload_n 2, 1) := by decide +kernel
theorem dX8_decode_131 : decode cX8_decode 131 = .ok (.iastore, 1) := by decide +kernel
theorem dX8_decode_132 : decode cX8_decode 132 = .ok (.aload_n 0, 1) := by decide +kernel
theorem dX8_decode_133 : decode cX8_decode 133 = .ok (.dup, 1) := by decide +kernel
theorem dX8_decode_134 : decode cX8_decode 134 = .ok (.getfield 191, 3) := by decide +kernel
theorem dX8_decode_137 : decode cX8_decode 137 = .ok (.iconst 1, 1) := by decide +kernel
theorem dX8_decode_138 : decode cX8_decode 138 = .ok (.iadd, 1) := by decide +kernel
theorem dX8_decode_139 : decode cX8_decode 139 = .ok (.putfield 191, 3) := by decide +kernel
theorem dX8_decode_142 : decode cX8_decode 142 = .ok (.iinc 1 1, 3) := by decide +kernel
theorem dX8_decode_145 : decode cX8_decode 145 = .ok (.goto (-65), 3) := by decide +kernel
theorem dX8_decode_148 : decode cX8_decode 148 = .ok (.iconst 0, 1) := by decide +kernel
theorem dX8_decode_149 : decode cX8_decode 149 = .ok (.istore_n 1, 1) := by decide +kernel
theorem dX8_decode_150 : decode cX8_decode 150 = .ok (.iload_n 1, 1) := by decide +kernel
theorem dX8_decode_151 : decode cX8_decode 151 = .ok (.aload_n 0, 1) := by decide +kernel
theorem dX8_decode_152 : decode cX8_decode 152 = .ok (.getfield 124, 3) := by decide +kernel
theorem dX8_decode_155 : decode cX8_decode 155 = .ok (.aload_n 0, 1) := by decide +kernel
theorem dX8_decode_156 : decode cX8_decode 156 = .ok (.getfield 185, 3) := by decide +kernel
theorem dX8_decode_159 : decode cX8_decode 159 = .ok (.imul, 1) := by decide +kernel
theorem dX8_decode_160 : decode cX8_decode 160 = .ok (.if_icmp .ge 29, 3) := by decide +kernel
theorem dX8_decode_163 : decode cX8_decode 163 = .ok (.aload_n 0, 1) := by decide +kernel
theorem dX8_decode_164 : decode cX8_decode 164 = .ok (.getfield 16, 3) := by decide +kernel
theorem dX8_decode_167 : decode cX8_decode 167 = .ok (.iload_n 1, 1) := by decide +kernel
theorem dX8_decode_168 : decode cX8_decode 168 = .ok (.aload_n 0, 1) := by decide +kernel
theorem dX8_decode_169 : decode cX8_decode 169 = .ok (.invokevirtual 194, 3) := by decide +kernel
theorem dX8_decode_172 : decode cX8_decode 172 = .ok (.iastore, 1) := by decide +kernel
theorem dX8_decode_173 : decode cX8_decode 173 = .ok (.aload_n 0, 1) := by decide +kernel
theorem dX8_decode_174 : decode cX8_decode 174 = .ok (.iload_n 1, 1) := by decide +kernel
theorem dX8_decode_175 : decode cX8_decode 175 = .ok (.invokevirtual 198, 3) := by decide +kernel
theorem dX8_decode_178 : decode cX8_decode 178 = .ok (.aload_n 0, 1) := by decide +kernel
theorem dX8_decode_179 : decode cX8_decode 179 = .ok (.iload_n 1, 1) := by decide +kernel
theorem dX8_decode_180 : decode cX8_decode 180 = .ok (.invokevirtual 201, 3) := by decide +kernel
theorem dX8_decode_183 : decode cX8_decode 183 = .ok (.iinc 1 1, 3) := by decide +kernel
theorem dX8_decode_186 : decode cX8_decode 186 = .ok (.goto (-36), 3) := by decide +kernel
theorem dX8_decode_189 : decode cX8_decode 189 = .ok (.aload_n 0, 1) := by decide +kernel
theorem dX8_decode_190 : decode cX8_decode 190 = .ok (.getfield 176, 3) := by decide +kernel
theorem dX8_decode_193 : decode cX8_decode 193 = .ok (.ifCond .le 7, 3) := by decide +kernel
theorem dX8_decode_196 : decode cX8_decode 196 = .ok (.aload_n 0, 1) := by decide +kernel
theorem dX8_decode_197 : decode cX8_decode 197 = .ok (.invokevirtual 204, 3) := by decide +kernel
theorem dX8_decode_200 : decode cX8_decode 200 = .ok (.aload_n 0, 1) := by decide +kernel
theorem dX8_decode_201 : decode cX8_decode 201 = .ok (.aload_n 0, 1) := by decide +kernel
theorem dX8_decode_202 : decode cX8_decode 202 = .ok (.getfield 88, 3) := by decide +kernel
theorem dX8_decode_205 : decode cX8_decode 205 = .ok (.aload_n 0, 1) := by decide +kernel
theorem dX8_decode_206 : decode cX8_decode 206 = .ok (.getfield 40, 3) := by decide +kernel
theorem dX8_decode_209 : decode cX8_decode 209 = .ok (.if_icmp .le 15, 3) := by decide +kernel
theorem dX8_decode_212 : decode cX8_decode 212 = .ok (.aload_n 0, 1) := by decide +kernel
theorem dX8_decode_213 : decode cX8_decode 213 = .ok (.getfield 88, 3) := by decide +kernel
theorem dX8_decode_216 : decode cX8_decode 216 = .ok (.aload_n 0, 1) := by decide +kernel
theorem dX8_decode_217 : decode cX8_decode 217 = .ok (.getfield 40, 3) := by decide +kernel
theorem dX8_decode_220 : decode cX8_decode 220 = .ok (.isub, 1) := by decide +kernel
theorem dX8_decode_221 : decode cX8_decode 221 = .ok (.goto 4, 3) := by decide +kernel
theorem dX8_decode_224 : decode cX8_decode 224 = .ok (.iconst 0, 1) := by decide +kernel
theorem dX8_decode_225 : decode cX8_decode 225 = .ok (.putfield 207, 3) := by decide +kernel
theorem dX8_decode_228 : decode cX8_decode 228 = .ok (.aload_n 0, 1) := by decide +kernel
theorem dX8_decode_229 : decode cX8_decode 229 = .ok (.getfield 124, 3) := by decide +kernel
theorem dX8_decode_232 : decode cX8_decode 232 = .ok (.aload_n 0, 1) := by decide +kernel
theorem dX8_decode_233 : decode cX8_decode 233 = .ok (.getfield 185, 3) := by decide +kernel
theorem dX8_decode_236 : decode cX8_decode 236 = .ok (.imul, 1) := by decide +kernel
theorem dX8_decode_237 : decode cX8_decode 237 = .ok (.ireturn, 1) := by decide +kernel
theorem dX8_sample_0 : decode cX8_sample 0 = .ok (.aload_n 0, 1) := by decide +kernel
theorem dX8_sample_1 : decode cX8_sample 1 = .ok (.iconst 0, 1) := by decide +kernel
theorem dX8_sample_2 : decode cX8_sample 2 = .ok (.putfield 32, 3) := by decide +kernel
