theorem dL_part_0 : decode cL_part 0 = .ok (.iload_n 0, 1) := by decide +kernel
theorem dL_part_1 : decode cL_part 1 = .ok (.ldc 7, 2) := by decide +kernel
theorem dL_part_3 : decode cL_part 3 = .ok (.iand, 1) := by decide +kernel
theorem dL_part_4 : decode cL_part 4 = .ok (.iload_n 1, 1) := by decide +kernel
theorem dL_part_5 : decode cL_part 5 = .ok (.irem, 1) := by decide +kernel
theorem dL_part_6 : decode cL_part 6 = .ok (.ireturn, 1) := by decide +kernel
theorem dL_drawn_0 : decode cL_drawn 0 = .ok (.aload_n 0, 1) := by decide +kernel
theorem dL_drawn_1 : decode cL_drawn 1 = .ok (.arraylength, 1) := by decide +kernel
theorem dL_drawn_2 : decode cL_drawn 2 = .ok (.ifCond .ne 13, 3) := by decide +kernel
theorem dL_drawn_5 : decode cL_drawn 5 = .ok (.sipush 7919, 3) := by decide +kernel
theorem dL_drawn_8 : decode cL_drawn 8 = .ok (.iload_n 1, 1) := by decide +kernel
theorem dL_drawn_9 : decode cL_drawn 9 = .ok (.imul, 1) := by decide +kernel
theorem dL_drawn_10 : decode cL_drawn 10 = .ok (.iconst 3, 1) := by decide +kernel
theorem dL_drawn_11 : decode cL_drawn 11 = .ok (.iadd, 1) := by decide +kernel
theorem dL_drawn_12 : decode cL_drawn 12 = .ok (.goto 27, 3) := by decide +kernel
theorem dL_drawn_15 : decode cL_drawn 15 = .ok (.aload_n 0, 1) := by decide +kernel
theorem dL_drawn_16 : decode cL_drawn 16 = .ok (.iload_n 1, 1) := by decide +kernel
theorem dL_drawn_17 : decode cL_drawn 17 = .ok (.aload_n 0, 1) := by decide +kernel
theorem dL_drawn_18 : decode cL_drawn 18 = .ok (.arraylength, 1) := by decide +kernel
theorem dL_drawn_19 : decode cL_drawn 19 = .ok (.irem, 1) := by decide +kernel
theorem dL_drawn_20 : decode cL_drawn 20 = .ok (.iaload, 1) := by decide +kernel
theorem dL_drawn_21 : decode cL_drawn 21 = .ok (.iload_n 1, 1) := by decide +kernel
theorem dL_drawn_22 : decode cL_drawn 22 = .ok (.bipush 7, 2) := by decide +kernel
theorem dL_drawn_24 : decode cL_drawn 24 = .ok (.irem, 1) := by decide +kernel
theorem dL_drawn_25 : decode cL_drawn 25 = .ok (.ishr, 1) := by decide +kernel
theorem dL_drawn_26 : decode cL_drawn 26 = .ok (.iload_n 1, 1) := by decide +kernel
theorem dL_drawn_27 : decode cL_drawn 27 = .ok (.aload_n 0, 1) := by decide +kernel
theorem dL_drawn_28 : decode cL_drawn 28 = .ok (.arraylength, 1) := by decide +kernel
theorem dL_drawn_29 : decode cL_drawn 29 = .ok (.idiv, 1) := by decide +kernel
theorem dL_drawn_30 : decode cL_drawn 30 = .ok (.bipush 31, 2) := by decide +kernel
theorem dL_drawn_32 : decode cL_drawn 32 = .ok (.imul, 1) := by decide +kernel
theorem dL_drawn_33 : decode cL_drawn 33 = .ok (.ixor, 1) := by decide +kernel
theorem dL_drawn_34 : decode cL_drawn 34 = .ok (.iload_n 1, 1) := by decide +kernel
theorem dL_drawn_35 : decode cL_drawn 35 = .ok (.ldc 8, 2) := by decide +kernel
theorem dL_drawn_37 : decode cL_drawn 37 = .ok (.imul, 1) := by decide +kernel
theorem dL_drawn_38 : decode cL_drawn 38 = .ok (.ixor, 1) := by decide +kernel
theorem dL_drawn_39 : decode cL_drawn 39 = .ok (.ireturn, 1) := by decide +kernel
theorem dL_call_0 : decode cL_call 0 = .ok (.iload_n 1, 1) := by decide +kernel
theorem dL_call_1 : decode cL_call 1 = .ok (.ifCond .ne 16, 3) := by decide +kernel
theorem dL_call_4 : decode cL_call 4 = .ok (.aload_n 0, 1) := by decide +kernel
theorem dL_call_5 : decode cL_call 5 = .ok (.iload_n 2, 1) := by decide +kernel
theorem dL_call_6 : decode cL_call 6 = .ok (.iload_n 3, 1) := by decide +kernel
theorem dL_call_7 : decode cL_call 7 = .ok (.iload 4, 2) := by decide +kernel
theorem dL_call_9 : decode cL_call 9 = .ok (.iload 5, 2) := by decide +kernel
theorem dL_call_11 : decode cL_call 11 = .ok (.invokevirtual 9, 3) := by decide +kernel
theorem dL_call_14 : decode cL_call 14 = .ok (.goto 213, 3) := by decide +kernel
theorem dL_call_17 : decode cL_call 17 = .ok (.iload_n 1, 1) := by decide +kernel
theorem dL_call_18 : decode cL_call 18 = .ok (.iconst 1, 1) := by decide +kernel
theorem dL_call_19 : decode cL_call 19 = .ok (.if_icmp .ne 16, 3) := by decide +kernel
theorem dL_call_22 : decode cL_call 22 = .ok (.aload_n 0, 1) := by decide +kernel
theorem dL_call_23 : decode cL_call 23 = .ok (.iload_n 2, 1) := by decide +kernel
theorem dL_call_24 : decode cL_call 24 = .ok (.iload_n 3, 1) := by decide +kernel
theorem dL_call_25 : decode cL_call 25 = .ok (.iload 4, 2) := by decide +kernel
theorem dL_call_27 : decode cL_call 27 = .ok (.iload 5, 2) := by decide +kernel
theorem dL_call_29 : decode cL_call 29 = .ok (.invokevirtual 15, 3) := by decide +kernel
theorem dL_call_32 : decode cL_call 32 = .ok (.goto 195, 3) := by decide +kernel
theorem dL_call_35 : decode cL_call 35 = .ok (.iload_n 1, 1) := by decide +kernel
theorem dL_call_36 : decode cL_call 36 = .ok (.iconst 2, 1) := by decide +kernel
theorem dL_call_37 : decode cL_call 37 = .ok (.if_icmp .ne 11, 3) := by decide +kernel
theorem dL_call_40 : decode cL_call 40 = .ok (.aload_n 0, 1) := by decide +kernel
theorem dL_call_41 : decode cL_call 41 = .ok (.iload_n 2, 1) := by decide +kernel
theorem dL_call_42 : decode cL_call 42 = .ok (.invokevirtual 18, 3) := by decide +kernel
theorem dL_call_45 : decode cL_call 45 = .ok (.goto 182, 3) := by decide +kernel
theorem dL_call_48 : decode cL_call 48 = .ok (.iload_n 1, 1) := by decide +kernel
theorem dL_call_49 : decode cL_call 49 = .ok (.iconst 3, 1) := by decide +kernel
theorem dL_call_50 : decode cL_call 50 = .ok (.if_icmp .ne 14, 3) := by decide +kernel
theorem dL_call_53 : decode cL_call 53 = .ok (.aload_n 0, 1) := by decide +kernel
theorem dL_call_54 : decode cL_call 54 = .ok (.iload_n 2, 1) := by decide +kernel
theorem dL_call_55 : decode cL_call 55 = .ok (.iload_n 3, 1) := by decide +kernel
theorem dL_call_56 : decode cL_call 56 = .ok (.iload 4, 2) := by decide +kernel
theorem dL_call_58 : decode cL_call 58 = .ok (.invokevirtual 22, 3) := by decide +kernel
theorem dL_call_61 : decode cL_call 61 = .ok (.goto 166, 3) := by decide +kernel
theorem dL_call_64 : decode cL_call 64 = .ok (.iload_n 1, 1) := by decide +kernel
theorem dL_call_65 : decode cL_call 65 = .ok (.iconst 4, 1) := by decide +kernel
theorem dL_call_66 : decode cL_call 66 = .ok (.if_icmp .ne 16, 3) := by decide +kernel
theorem dL_call_69 : decode cL_call 69 = .ok (.aload_n 0, 1) := by decide +kernel
theorem dL_call_70 : decode cL_call 70 = .ok (.iload_n 2, 1) := by decide +kernel
theorem dL_call_71 : decode cL_call 71 = .ok (.iload_n 3, 1) := by decide +kernel
theorem dL_call_72 : decode cL_call 72 = .ok (.iload 4, 2) := by decide +kernel
theorem dL_call_74 : decode cL_call 74 = .ok (.iload 5, 2) := by decide +kernel
theorem dL_call_76 : decode cL_call 76 = .ok (.invokevirtual 26, 3) := by decide +kernel
theorem dL_call_79 : decode cL_call 79 = .ok (.goto 148, 3) := by decide +kernel
theorem dL_call_82 : decode cL_call 82 = .ok (.iload_n 1, 1) := by decide +kernel
theorem dL_call_83 : decode cL_call 83 = .ok (.iconst 5, 1) := by decide +kernel
theorem dL_call_84 : decode cL_call 84 = .ok (.if_icmp .ne 11, 3) := by decide +kernel
theorem dL_call_87 : decode cL_call 87 = .ok (.aload_n 0, 1) := by decide +kernel
theorem dL_call_88 : decode cL_call 88 = .ok (.iload_n 2, 1) := by decide +kernel
theorem dL_call_89 : decode cL_call 89 = .ok (.invokevirtual 29, 3) := by decide +kernel
theorem dL_call_92 : decode cL_call 92 = .ok (.goto 135, 3) := by decide +kernel
theorem dL_call_95 : decode cL_call 95 = .ok (.iload_n 1, 1) := by decide +kernel
theorem dL_call_96 : decode cL_call 96 = .ok (.bipush 6, 2) := by decide +kernel
theorem dL_call_98 : decode cL_call 98 = .ok (.if_icmp .ne 11, 3) := by decide +kernel
theorem dL_call_101 : decode cL_call 101 = .ok (.aload_n 0, 1) := by decide +kernel
theorem dL_call_102 : decode cL_call 102 = .ok (.iload_n 2, 1) := by decide +kernel
theorem dL_call_103 : decode cL_call 103 = .ok (.invokevirtual 32, 3) := by decide +kernel
theorem dL_call_106 : decode cL_call 106 = .ok (.goto 121, 3) := by decide +kernel
theorem dL_call_109 : decode cL_call 109 = .ok (.iload_n 1, 1) := by decide +kernel
theorem dL_call_110 : decode cL_call 110 = .ok (.bipush 7, 2) := by decide +kernel
theorem dL_call_112 : decode cL_call 112 = .ok (.if_icmp .ne 11, 3) := by decide +kernel
theorem dL_call_115 : decode cL_call 115 = .ok (.aload_n 0, 1) := by decide +kernel
theorem dL_call_116 : decode cL_call 116 = .ok (.iload_n 2, 1) := by decide +kernel
theorem dL_call_117 : decode cL_call 117 = .ok (.invokevirtual 35, 3) := by decide +kernel
theorem dL_call_120 : decode cL_call 120 = .ok (.goto 107, 3) := by decide +kernel
theorem dL_call_123 : decode cL_call 123 = .ok (.iload_n 1, 1) := by decide +kernel
theorem dL_call_124 : decode cL_call 124 = .ok (.bipush 8, 2) := by decide +kernel
theorem dL_call_126 : decode cL_call 126 = .ok (.if_icmp .ne 10, 3) := by decide +kernel
theorem dL_call_129 : decode cL_call 129 = .ok (.aload_n 0, 1) := by decide +kernel
theorem dL_call_130 : decode cL_call 130 = .ok (.invokevirtual 38, 3) := by decide +kernel
theorem dL_call_133 : decode cL_call 133 = .ok (.goto 94, 3) := by decide +kernel
theorem dL_call_136 : decode cL_call 136 = .ok (.iload_n 1, 1) := by decide +kernel
theorem dL_call_137 : decode cL_call 137 = .ok (.bipush 9, 2) := by decide +kernel
theorem dL_call_139 : decode cL_call 139 = .ok (.if_icmp .ne 10, 3) := by decide +kernel
theorem dL_call_142 : decode cL_call 142 = .ok (.aload_n 0, 1) := by decide +kernel
theorem dL_call_143 : decode cL_call 143 = .ok (.invokevirtual 42, 3) := by decide +kernel
theorem dL_call_146 : decode cL_call 146 = .ok (.goto 81, 3) := by decide +kernel
theorem dL_call_149 : decode cL_call 149 = .ok (.iload_n 1, 1) := by decide +kernel
theorem dL_call_150 : decode cL_call 150 = .ok (.bipush 10, 2) := by decide +kernel
theorem dL_call_152 : decode cL_call 152 = .ok (.if_icmp .ne 11, 3) := by decide +kernel
theorem dL_call_155 : decode cL_call 155 = .ok (.aload_n 0, 1) := by decide +kernel
theorem dL_call_156 : decode cL_call 156 = .ok (.iload_n 2, 1) := by decide +kernel
theorem dL_call_157 : decode cL_call 157 = .ok (.invokevirtual 45, 3) := by decide +kernel
theorem dL_call_160 : decode cL_call 160 = .ok (.goto 67, 3) := by decide +kernel
theorem dL_call_163 : decode cL_call 163 = .ok (.iload_n 1, 1) := by decide +kernel
theorem dL_call_164 : decode cL_call 164 = .ok (.bipush 11, 2) := by decide +kernel
theorem dL_call_166 : decode cL_call 166 = .ok (.if_icmp .ne 11, 3) := by decide +kernel
theorem dL_call_169 : decode cL_call 169 = .ok (.aload_n 0, 1) := by decide +kernel
theorem dL_call_170 : decode cL_call 170 = .ok (.iload_n 2, 1) := by decide +kernel
theorem dL_call_171 : decode cL_call 171 = .ok (.invokevirtual 48, 3) := by decide +kernel
theorem dL_call_174 : decode cL_call 174 = .ok (.goto 53, 3) := by decide +kernel
theorem dL_call_177 : decode cL_call 177 = .ok (.iload_n 1, 1) := by decide +kernel
theorem dL_call_178 : decode cL_call 178 = .ok (.bipush 17, 2) := by decide +kernel
theorem dL_call_180 : decode cL_call 180 = .ok (.if_icmp .ge 13, 3) := by decide +kernel
theorem dL_call_183 : decode cL_call 183 = .ok (.aload_n 0, 1) := by decide +kernel
theorem dL_call_184 : decode cL_call 184 = .ok (.iload_n 1, 1) := by decide +kernel
theorem dL_call_185 : decode cL_call 185 = .ok (.iload_n 2, 1) := by decide +kernel
theorem dL_call_186 : decode cL_call 186 = .ok (.iload_n 3, 1) := by decide +kernel
theorem dL_call_187 : decode cL_call 187 = .ok (.invokestatic 51, 3) := by decide +kernel
theorem dL_call_190 : decode cL_call 190 = .ok (.goto 37, 3) := by decide +kernel
theorem dL_call_193 : decode cL_call 193 = .ok (.iload_n 1, 1) := by decide +kernel
theorem dL_call_194 : decode cL_call 194 = .ok (.bipush 29, 2) := by decide +kernel
theorem dL_call_196 : decode cL_call 196 = .ok (.if_icmp .ge 13, 3) := by decide +kernel
theorem dL_call_199 : decode cL_call 199 = .ok (.aload_n 0, 1) := by decide +kernel
theorem dL_call_200 : decode cL_call 200 = .ok (.iload_n 1, 1) := by decide +kernel
theorem dL_call_201 : decode cL_call 201 = .ok (.iload_n 2, 1) := by decide +kernel
theorem dL_call_202 : decode cL_call 202 = .ok (.iload_n 3, 1) := by decide +kernel
theorem dL_call_203 : decode cL_call 203 = .ok (.invokestatic 57, 3) := by decide +kernel
theorem dL_call_206 : decode cL_call 206 = .ok (.goto 21, 3) := by decide +kernel
theorem dL_call_209 : decode cL_call 209 = .ok (.iload_n 1, 1) := by decide +kernel
theorem dL_call_210 : decode cL_call 210 = .ok (.bipush 29, 2) := by decide +kernel
theorem dL_call_212 : decode cL_call 212 = .ok (.if_icmp .ne 11, 3) := by decide +kernel
theorem dL_call_215 : decode cL_call 215 = .ok (.aload_n 0, 1) := by decide +kernel
theorem dL_call_216 : decode cL_call 216 = .ok (.iload_n 2, 1) := by decide +kernel
theorem dL_call_217 : decode cL_call 217 = .ok (.invokevirtual 60, 3) := by decide +kernel
theorem dL_call_220 : decode cL_call 220 = .ok (.goto 7, 3) := by decide +kernel
theorem dL_call_223 : decode cL_call 223 = .ok (.aload_n 0, 1) := by decide +kernel
theorem dL_call_224 : decode cL_call 224 = .ok (.invokevirtual 63, 3) := by decide +kernel
theorem dL_call_227 : decode cL_call 227 = .ok (.ireturn, 1) := by decide +kernel
theorem dL_call_228 : decode cL_call 228 = .ok (.astore 6, 2) := by decide +kernel
theorem dL_call_230 : decode cL_call 230 = .ok (.sipush (-2011), 3) := by decide +kernel
theorem dL_call_233 : decode cL_call 233 = .ok (.ireturn, 1) := by decide +kernel
theorem dL_call_234 : decode cL_call 234 = .ok (.astore 6, 2) := by decide +kernel
theorem dL_call_236 : decode cL_call 236 = .ok (.sipush (-2012), 3) := by decide +kernel
theorem dL_call_239 : decode cL_call 239 = .ok (.ireturn, 1) := by decide +kernel
theorem dL_call_240 : decode cL_call 240 = .ok (.astore 6, 2) := by decide +kernel
theorem dL_call_242 : decode cL_call 242 = .ok (.sipush (-2013), 3) := by decide +kernel
theorem dL_call_245 : decode cL_call 245 = .ok (.ireturn, 1) := by decide +kernel
theorem dL_cell_0 : decode cL_cell 0 = .ok (.iload_n 1, 1) := by decide +kernel
theorem dL_cell_1 : decode cL_cell 1 = .ok (.bipush 12, 2) := by decide +kernel
theorem dL_cell_3 : decode cL_cell 3 = .ok (.if_icmp .ne 12, 3) := by decide +kernel
theorem dL_cell_6 : decode cL_cell 6 = .ok (.aload_n 0, 1) := by decide +kernel
theorem dL_cell_7 : decode cL_cell 7 = .ok (.iload_n 2, 1) := by decide +kernel
theorem dL_cell_8 : decode cL_cell 8 = .ok (.iload_n 3, 1) := by decide +kernel
theorem dL_cell_9 : decode cL_cell 9 = .ok (.invokevirtual 72, 3) := by decide +kernel
theorem dL_cell_12 : decode cL_cell 12 = .ok (.goto 54, 3) := by decide +kernel
theorem dL_cell_15 : decode cL_cell 15 = .ok (.iload_n 1, 1) := by decide +kernel
theorem dL_cell_16 : decode cL_cell 16 = .ok (.bipush 13, 2) := by decide +kernel
theorem dL_cell_18 : decode cL_cell 18 = .ok (.if_icmp .ne 12, 3) := by decide +kernel
theorem dL_cell_21 : decode cL_cell 21 = .ok (.aload_n 0, 1) := by decide +kernel
theorem dL_cell_22 : decode cL_cell 22 = .ok (.iload_n 2, 1) := by decide +kernel
theorem dL_cell_23 : decode cL_cell 23 = .ok (.iload_n 3, 1) := by decide +kernel
theorem dL_cell_24 : decode cL_cell 24 = .ok (.invokevirtual 76, 3) := by decide +kernel
theorem dL_cell_27 : decode cL_cell 27 = .ok (.goto 39, 3) := by decide +kernel
theorem dL_cell_30 : decode cL_cell 30 = .ok (.iload_n 1, 1) := by decide +kernel
theorem dL_cell_31 : decode cL_cell 31 = .ok (.bipush 14, 2) := by decide +kernel
theorem dL_cell_33 : decode cL_cell 33 = .ok (.if_icmp .ne 12, 3) := by decide +kernel
theorem dL_cell_36 : decode cL_cell 36 = .ok (.aload_n 0, 1) := by decide +kernel
theorem dL_cell_37 : decode cL_cell 37 = .ok (.iload_n 2, 1) := by decide +kernel
theorem dL_cell_38 : decode cL_cell 38 = .ok (.iload_n 3, 1) := by decide +kernel
theorem dL_cell_39 : decode cL_cell 39 = .ok (.invokevirtual 79, 3) := by decide +kernel
theorem dL_cell_42 : decode cL_cell 42 = .ok (.goto 24, 3) := by decide +kernel
theorem dL_cell_45 : decode cL_cell 45 = .ok (.iload_n 1, 1) := by decide +kernel
theorem dL_cell_46 : decode cL_cell 46 = .ok (.bipush 15, 2) := by decide +kernel
theorem dL_cell_48 : decode cL_cell 48 = .ok (.if_icmp .ne 12, 3) := by decide +kernel
theorem dL_cell_51 : decode cL_cell 51 = .ok (.aload_n 0, 1) := by decide +kernel
theorem dL_cell_52 : decode cL_cell 52 = .ok (.iload_n 2, 1) := by decide +kernel
theorem dL_cell_53 : decode cL_cell 53 = .ok (.iload_n 3, 1) := by decide +kernel
theorem dL_cell_54 : decode cL_cell 54 = .ok (.invokevirtual 82, 3) := by decide +kernel
theorem dL_cell_57 : decode cL_cell 57 = .ok (.goto 9, 3) := by decide +kernel
theorem dL_cell_60 : decode cL_cell 60 = .ok (.aload_n 0, 1) := by decide +kernel
theorem dL_cell_61 : decode cL_cell 61 = .ok (.iload_n 2, 1) := by decide +kernel
theorem dL_cell_62 : decode cL_cell 62 = .ok (.iload_n 3, 1) := by decide +kernel
theorem dL_cell_63 : decode cL_cell 63 = .ok (.invokevirtual 85, 3) := by decide +kernel
theorem dL_cell_66 : decode cL_cell 66 = .ok (.ireturn, 1) := by decide +kernel
theorem dL_owned_0 : decode cL_owned 0 = .ok (.iload_n 1, 1) := by decide +kernel
theorem dL_owned_1 : decode cL_owned 1 = .ok (.bipush 17, 2) := by decide +kernel
theorem dL_owned_3 : decode cL_owned 3 = .ok (.if_icmp .ne 11, 3) := by decide +kernel
theorem dL_owned_6 : decode cL_owned 6 = .ok (.aload_n 0, 1) := by decide +kernel
theorem dL_owned_7 : decode cL_owned 7 = .ok (.iload_n 2, 1) := by decide +kernel
theorem dL_owned_8 : decode cL_owned 8 = .ok (.invokevirtual 88, 3) := by decide +kernel
theorem dL_owned_11 : decode cL_owned 11 = .ok (.goto 150, 3) := by decide +kernel
theorem dL_owned_14 : decode cL_owned 14 = .ok (.iload_n 1, 1) := by decide +kernel
theorem dL_owned_15 : decode cL_owned 15 = .ok (.bipush 18, 2) := by decide +kernel
theorem dL_owned_17 : decode cL_owned 17 = .ok (.if_icmp .ne 11, 3) := by decide +kernel
theorem dL_owned_20 : decode cL_owned 20 = .ok (.aload_n 0, 1) := by decide +kernel
theorem dL_owned_21 : decode cL_owned 21 = .ok (.iload_n 2, 1) := by decide +kernel
theorem dL_owned_22 : decode cL_owned 22 = .ok (.invokevirtual 91, 3) := by decide +kernel
theorem dL_owned_25 : decode cL_owned 25 = .ok (.goto 136, 3) := by decide +kernel
theorem dL_owned_28 : decode cL_owned 28 = .ok (.iload_n 1, 1) := by decide +kernel
theorem dL_owned_29 : decode cL_owned 29 = .ok (.bipush 19, 2) := by decide +kernel
theorem dL_owned_31 : decode cL_owned 31 = .ok (.if_icmp .ne 11, 3) := by decide +kernel
theorem dL_owned_34 : decode cL_owned 34 = .ok (.aload_n 0, 1) := by decide +kernel
theorem dL_owned_35 : decode cL_owned 35 = .ok (.iload_n 2, 1) := by decide +kernel
theorem dL_owned_36 : decode cL_owned 36 = .ok (.invokevirtual 94, 3) := by decide +kernel
theorem dL_owned_39 : decode cL_owned 39 = .ok (.goto 122, 3) := by decide +kernel
theorem dL_owned_42 : decode cL_owned 42 = .ok (.iload_n 1, 1) := by decide +kernel
theorem dL_owned_43 : decode cL_owned 43 = .ok (.bipush 20, 2) := by decide +kernel
theorem dL_owned_45 : decode cL_owned 45 = .ok (.if_icmp .ne 11, 3) := by decide +kernel
theorem dL_owned_48 : decode cL_owned 48 = .ok (.aload_n 0, 1) := by decide +kernel
theorem dL_owned_49 : decode cL_owned 49 = .ok (.iload_n 2, 1) := by decide +kernel
theorem dL_owned_50 : decode cL_owned 50 = .ok (.invokevirtual 97, 3) := by decide +kernel
theorem dL_owned_53 : decode cL_owned 53 = .ok (.goto 108, 3) := by decide +kernel
theorem dL_owned_56 : decode cL_owned 56 = .ok (.iload_n 1, 1) := by decide +kernel
theorem dL_owned_57 : decode cL_owned 57 = .ok (.bipush 21, 2) := by decide +kernel
theorem dL_owned_59 : decode cL_owned 59 = .ok (.if_icmp .ne 11, 3) := by decide +kernel
theorem dL_owned_62 : decode cL_owned 62 = .ok (.aload_n 0, 1) := by decide +kernel
theorem dL_owned_63 : decode cL_owned 63 = .ok (.iload_n 2, 1) := by decide +kernel
theorem dL_owned_64 : decode cL_owned 64 = .ok (.invokevirtual 100, 3) := by decide +kernel
theorem dL_owned_67 : decode cL_owned 67 = .ok (.goto 94, 3) := by decide +kernel
theorem dL_owned_70 : decode cL_owned 70 = .ok (.iload_n 1, 1) := by decide +kernel
theorem dL_owned_71 : decode cL_owned 71 = .ok (.bipush 22, 2) := by decide +kernel
theorem dL_owned_73 : decode cL_owned 73 = .ok (.if_icmp .ne 12, 3) := by decide +kernel
theorem dL_owned_76 : decode cL_owned 76 = .ok (.aload_n 0, 1) := by decide +kernel
theorem dL_owned_77 : decode cL_owned 77 = .ok (.iload_n 2, 1) := by decide +kernel
theorem dL_owned_78 : decode cL_owned 78 = .ok (.iload_n 3, 1) := by decide +kernel
theorem dL_owned_79 : decode cL_owned 79 = .ok (.invokevirtual 103, 3) := by decide +kernel
theorem dL_owned_82 : decode cL_owned 82 = .ok (.goto 79, 3) := by decide +kernel
theorem dL_owned_85 : decode cL_owned 85 = .ok (.iload_n 1, 1) := by decide +kernel
theorem dL_owned_86 : decode cL_owned 86 = .ok (.bipush 23, 2) := by decide +kernel
theorem dL_owned_88 : decode cL_owned 88 = .ok (.if_icmp .ne 11, 3) := by decide +kernel
theorem dL_owned_91 : decode cL_owned 91 = .ok (.aload_n 0, 1) := by decide +kernel
theorem dL_owned_92 : decode cL_owned 92 = .ok (.iload_n 2, 1) := by decide +kernel
theorem dL_owned_93 : decode cL_owned 93 = .ok (.invokevirtual 106, 3) := by decide +kernel
theorem dL_owned_96 : decode cL_owned 96 = .ok (.goto 65, 3) := by decide +kernel
theorem dL_owned_99 : decode cL_owned 99 = .ok (.iload_n 1, 1) := by decide +kernel
theorem dL_owned_100 : decode cL_owned 100 = .ok (.bipush 24, 2) := by decide +kernel
theorem dL_owned_102 : decode cL_owned 102 = .ok (.if_icmp .ne 11, 3) := by decide +kernel
theorem dL_owned_105 : decode cL_owned 105 = .ok (.aload_n 0, 1) := by decide +kernel
theorem dL_owned_106 : decode cL_owned 106 = .ok (.iload_n 2, 1) := by decide +kernel
theorem dL_owned_107 : decode cL_owned 107 = .ok (.invokevirtual 109, 3) := by decide +kernel
theorem dL_owned_110 : decode cL_owned 110 = .ok (.goto 51, 3) := by decide +kernel
theorem dL_owned_113 : decode cL_owned 113 = .ok (.iload_n 1, 1) := by decide +kernel
theorem dL_owned_114 : decode cL_owned 114 = .ok (.bipush 25, 2) := by decide +kernel
theorem dL_owned_116 : decode cL_owned 116 = .ok (.if_icmp .ne 11, 3) := by decide +kernel
theorem dL_owned_119 : decode cL_owned 119 = .ok (.aload_n 0, 1) := by decide +kernel
theorem dL_owned_120 : decode cL_owned 120 = .ok (.iload_n 2, 1) := by decide +kernel
theorem dL_owned_121 : decode cL_owned 121 = .ok (.invokevirtual 112, 3) := by decide +kernel
theorem dL_owned_124 : decode cL_owned 124 = .ok (.goto 37, 3) := by decide +kernel
theorem dL_owned_127 : decode cL_owned 127 = .ok (.iload_n 1, 1) := by decide +kernel
theorem dL_owned_128 : decode cL_owned 128 = .ok (.bipush 26, 2) := by decide +kernel
theorem dL_owned_130 : decode cL_owned 130 = .ok (.if_icmp .ne 12, 3) := by decide +kernel
theorem dL_owned_133 : decode cL_owned 133 = .ok (.aload_n 0, 1) := by decide +kernel
theorem dL_owned_134 : decode cL_owned 134 = .ok (.iload_n 2, 1) := by decide +kernel
theorem dL_owned_135 : decode cL_owned 135 = .ok (.iload_n 3, 1) := by decide +kernel
theorem dL_owned_136 : decode cL_owned 136 = .ok (.invokevirtual 115, 3) := by decide +kernel
theorem dL_owned_139 : decode cL_owned 139 = .ok (.goto 22, 3) := by decide +kernel
theorem dL_owned_142 : decode cL_owned 142 = .ok (.iload_n 1, 1) := by decide +kernel
theorem dL_owned_143 : decode cL_owned 143 = .ok (.bipush 27, 2) := by decide +kernel
theorem dL_owned_145 : decode cL_owned 145 = .ok (.if_icmp .ne 11, 3) := by decide +kernel
theorem dL_owned_148 : decode cL_owned 148 = .ok (.aload_n 0, 1) := by decide +kernel
theorem dL_owned_149 : decode cL_owned 149 = .ok (.iload_n 2, 1) := by decide +kernel
theorem dL_owned_150 : decode cL_owned 150 = .ok (.invokevirtual 118, 3) := by decide +kernel
theorem dL_owned_153 : decode cL_owned 153 = .ok (.goto 8, 3) := by decide +kernel
theorem dL_owned_156 : decode cL_owned 156 = .ok (.aload_n 0, 1) := by decide +kernel
theorem dL_owned_157 : decode cL_owned 157 = .ok (.iload_n 2, 1) := by decide +kernel
theorem dL_owned_158 : decode cL_owned 158 = .ok (.invokevirtual 121, 3) := by decide +kernel
theorem dL_owned_161 : decode cL_owned 161 = .ok (.ireturn, 1) := by decide +kernel
theorem dL_seen_0 : decode cL_seen 0 = .ok (.ldc2_w 124, 3) := by decide +kernel
theorem dL_seen_3 : decode cL_seen 3 = .ok (.lstore_n 1, 1) := by decide +kernel
theorem dL_seen_4 : decode cL_seen 4 = .ok (.ldc2_w 126, 3) := by decide +kernel
theorem dL_seen_7 : decode cL_seen 7 = .ok (.ldc2_w 126, 3) := by decide +kernel
theorem dL_seen_10 : decode cL_seen 10 = .ok (.ldc2_w 126, 3) := by decide +kernel
theorem dL_seen_13 : decode cL_seen 13 = .ok (.ldc2_w 126, 3) := by decide +kernel
theorem dL_seen_16 : decode cL_seen 16 = .ok (.ldc2_w 126, 3) := by decide +kernel
theorem dL_seen_19 : decode cL_seen 19 = .ok (.lload_n 1, 1) := by decide +kernel
theorem dL_seen_20 : decode cL_seen 20 = .ok (.lmul, 1) := by decide +kernel
theorem dL_seen_21 : decode cL_seen 21 = .ok (.aload_n 0, 1) := by decide +kernel
theorem dL_seen_22 : decode cL_seen 22 = .ok (.invokevirtual 128, 3) := by decide +kernel
theorem dL_seen_25 : decode cL_seen 25 = .ok (.i2l, 1) := by decide +kernel
theorem dL_seen_26 : decode cL_seen 26 = .ok (.ladd, 1) := by decide +kernel
theorem dL_seen_27 : decode cL_seen 27 = .ok (.lmul, 1) := by decide +kernel
theorem dL_seen_28 : decode cL_seen 28 = .ok (.aload_n 0, 1) := by decide +kernel
theorem dL_seen_29 : decode cL_seen 29 = .ok (.invokevirtual 131, 3) := by decide +kernel
theorem dL_seen_32 : decode cL_seen 32 = .ok (.i2l, 1) := by decide +kernel
theorem dL_seen_33 : decode cL_seen 33 = .ok (.ladd, 1) := by decide +kernel
theorem dL_seen_34 : decode cL_seen 34 = .ok (.lmul, 1) := by decide +kernel
theorem dL_seen_35 : decode cL_seen 35 = .ok (.aload_n 0, 1) := by decide +kernel
theorem dL_seen_36 : decode cL_seen 36 = .ok (.invokevirtual 134, 3) := by decide +kernel
theorem dL_seen_39 : decode cL_seen 39 = .ok (.i2l, 1) := by decide +kernel
theorem dL_seen_40 : decode cL_seen 40 = .ok (.ladd, 1) := by decide +kernel
theorem dL_seen_41 : decode cL_seen 41 = .ok (.lmul, 1) := by decide +kernel
theorem dL_seen_42 : decode cL_seen 42 = .ok (.aload_n 0, 1) := by decide +kernel
theorem dL_seen_43 : decode cL_seen 43 = .ok (.invokevirtual 137, 3) := by decide +kernel
theorem dL_seen_46 : decode cL_seen 46 = .ok (.i2l, 1) := by decide +kernel
theorem dL_seen_47 : decode cL_seen 47 = .ok (.ladd, 1) := by decide +kernel
theorem dL_seen_48 : decode cL_seen 48 = .ok (.lmul, 1) := by decide +kernel
theorem dL_seen_49 : decode cL_seen 49 = .ok (.aload_n 0, 1) := by decide +kernel
theorem dL_seen_50 : decode cL_seen 50 = .ok (.invokevirtual 140, 3) := by decide +kernel
theorem dL_seen_53 : decode cL_seen 53 = .ok (.i2l, 1) := by decide +kernel
theorem dL_seen_54 : decode cL_seen 54 = .ok (.ladd, 1) := by decide +kernel
theorem dL_seen_55 : decode cL_seen 55 = .ok (.lstore_n 1, 1) := by decide +kernel
theorem dL_seen_56 : decode cL_seen 56 = .ok (.iconst 0, 1) := by decide +kernel
theorem dL_seen_57 : decode cL_seen 57 = .ok (.istore_n 3, 1) := by decide +kernel
theorem dL_seen_58 : decode cL_seen 58 = .ok (.iload_n 3, 1) := by decide +kernel
theorem dL_seen_59 : decode cL_seen 59 = .ok (.sipush 256, 3) := by decide +kernel
theorem dL_seen_62 : decode cL_seen 62 = .ok (.if_icmp .ge 47, 3) := by decide +kernel
theorem dL_seen_65 : decode cL_seen 65 = .ok (.ldc2_w 126, 3) := by decide +kernel
theorem dL_seen_68 : decode cL_seen 68 = .ok (.ldc2_w 126, 3) := by decide +kernel
theorem dL_seen_71 : decode cL_seen 71 = .ok (.lload_n 1, 1) := by decide +kernel
theorem dL_seen_72 : decode cL_seen 72 = .ok (.lmul, 1) := by decide +kernel
theorem dL_seen_73 : decode cL_seen 73 = .ok (.aload_n 0, 1) := by decide +kernel
theorem dL_seen_74 : decode cL_seen 74 = .ok (.iload_n 3, 1) := by decide +kernel
theorem dL_seen_75 : decode cL_seen 75 = .ok (.bipush 16, 2) := by decide +kernel
theorem dL_seen_77 : decode cL_seen 77 = .ok (.irem, 1) := by decide +kernel
theorem dL_seen_78 : decode cL_seen 78 = .ok (.iload_n 3, 1) := by decide +kernel
theorem dL_seen_79 : decode cL_seen 79 = .ok (.bipush 16, 2) := by decide +kernel
theorem dL_seen_81 : decode cL_seen 81 = .ok (.idiv, 1) := by decide +kernel
theorem dL_seen_82 : decode cL_seen 82 = .ok (.invokevirtual 72, 3) := by decide +kernel
theorem dL_seen_85 : decode cL_seen 85 = .ok (.i2l, 1) := by decide +kernel
theorem dL_seen_86 : decode cL_seen 86 = .ok (.ladd, 1) := by decide +kernel
theorem dL_seen_87 : decode cL_seen 87 = .ok (.lmul, 1) := by decide +kernel
theorem dL_seen_88 : decode cL_seen 88 = .ok (.aload_n 0, 1) := by decide +kernel
theorem dL_seen_89 : decode cL_seen 89 = .ok (.iload_n 3, 1) := by decide +kernel
theorem dL_seen_90 : decode cL_seen 90 = .ok (.bipush 16, 2) := by decide +kernel
theorem dL_seen_92 : decode cL_seen 92 = .ok (.irem, 1) := by decide +kernel
theorem dL_seen_93 : decode cL_seen 93 = .ok (.iload_n 3, 1) := by decide +kernel
theorem dL_seen_94 : decode cL_seen 94 = .ok (.bipush 16, 2) := by decide +kernel
theorem dL_seen_96 : decode cL_seen 96 = .ok (.idiv, 1) := by decide +kernel
theorem dL_seen_97 : decode cL_seen 97 = .ok (.invokevirtual 76, 3) := by decide +kernel
theorem dL_seen_100 : decode cL_seen 100 = .ok (.i2l, 1) := by decide +kernel
theorem dL_seen_101 : decode cL_seen 101 = .ok (.ladd, 1) := by decide +kernel
theorem dL_seen_102 : decode cL_seen 102 = .ok (.lstore_n 1, 1) := by decide +kernel
theorem dL_seen_103 : decode cL_seen 103 = .ok (.iinc 3 1, 3) := by decide +kernel
theorem dL_seen_106 : decode cL_seen 106 = .ok (.goto (-48), 3) := by decide +kernel
theorem dL_seen_109 : decode cL_seen 109 = .ok (.iconst 0, 1) := by decide +kernel
theorem dL_seen_110 : decode cL_seen 110 = .ok (.istore_n 3, 1) := by decide +kernel
theorem dL_seen_111 : decode cL_seen 111 = .ok (.iload_n 3, 1) := by decide +kernel
theorem dL_seen_112 : decode cL_seen 112 = .ok (.bipush 8, 2) := by decide +kernel
theorem dL_seen_114 : decode cL_seen 114 = .ok (.if_icmp .ge 33, 3) := by decide +kernel
theorem dL_seen_117 : decode cL_seen 117 = .ok (.ldc2_w 126, 3) := by decide +kernel
theorem dL_seen_120 : decode cL_seen 120 = .ok (.ldc2_w 126, 3) := by decide +kernel
theorem dL_seen_123 : decode cL_seen 123 = .ok (.lload_n 1, 1) := by decide +kernel
theorem dL_seen_124 : decode cL_seen 124 = .ok (.lmul, 1) := by decide +kernel
theorem dL_seen_125 : decode cL_seen 125 = .ok (.aload_n 0, 1) := by decide +kernel
theorem dL_seen_126 : decode cL_seen 126 = .ok (.iload_n 3, 1) := by decide +kernel
theorem dL_seen_127 : decode cL_seen 127 = .ok (.invokevirtual 112, 3) := by decide +kernel
theorem dL_seen_130 : decode cL_seen 130 = .ok (.i2l, 1) := by decide +kernel
theorem dL_seen_131 : decode cL_seen 131 = .ok (.ladd, 1) := by decide +kernel
theorem dL_seen_132 : decode cL_seen 132 = .ok (.lmul, 1) := by decide +kernel
theorem dL_seen_133 : decode cL_seen 133 = .ok (.aload_n 0, 1) := by decide +kernel
theorem dL_seen_134 : decode cL_seen 134 = .ok (.iload_n 3, 1) := by decide +kernel
theorem dL_seen_135 : decode cL_seen 135 = .ok (.invokevirtual 88, 3) := by decide +kernel
theorem dL_seen_138 : decode cL_seen 138 = .ok (.i2l, 1) := by decide +kernel
theorem dL_seen_139 : decode cL_seen 139 = .ok (.ladd, 1) := by decide +kernel
theorem dL_seen_140 : decode cL_seen 140 = .ok (.lstore_n 1, 1) := by decide +kernel
theorem dL_seen_141 : decode cL_seen 141 = .ok (.iinc 3 1, 3) := by decide +kernel
theorem dL_seen_144 : decode cL_seen 144 = .ok (.goto (-33), 3) := by decide +kernel
theorem dL_seen_147 : decode cL_seen 147 = .ok (.ldc2_w 126, 3) := by decide +kernel
theorem dL_seen_150 : decode cL_seen 150 = .ok (.lload_n 1, 1) := by decide +kernel
theorem dL_seen_151 : decode cL_seen 151 = .ok (.lmul, 1) := by decide +kernel
theorem dL_seen_152 : decode cL_seen 152 = .ok (.aload_n 0, 1) := by decide +kernel
theorem dL_seen_153 : decode cL_seen 153 = .ok (.invokevirtual 143, 3) := by decide +kernel
theorem dL_seen_156 : decode cL_seen 156 = .ok (.i2l, 1) := by decide +kernel
theorem dL_seen_157 : decode cL_seen 157 = .ok (.ladd, 1) := by decide +kernel
theorem dL_seen_158 : decode cL_seen 158 = .ok (.lreturn, 1) := by decide +kernel
theorem dL_far_0 : decode cL_far 0 = .ok (.iload_n 0, 1) := by decide +kernel
theorem dL_far_1 : decode cL_far 1 = .ok (.ifCond .ne 9, 3) := by decide +kernel
theorem dL_far_4 : decode cL_far 4 = .ok (.iload_n 1, 1) := by decide +kernel
theorem dL_far_5 : decode cL_far 5 = .ok (.iconst 1, 1) := by decide +kernel
theorem dL_far_6 : decode cL_far 6 = .ok (.isub, 1) := by decide +kernel
theorem dL_far_7 : decode cL_far 7 = .ok (.goto 26, 3) := by decide +kernel
theorem dL_far_10 : decode cL_far 10 = .ok (.iload_n 0, 1) := by decide +kernel
theorem dL_far_11 : decode cL_far 11 = .ok (.iconst 1, 1) := by decide +kernel
theorem dL_far_12 : decode cL_far 12 = .ok (.if_icmp .ne 9, 3) := by decide +kernel
theorem dL_far_15 : decode cL_far 15 = .ok (.iload_n 2, 1) := by decide +kernel
theorem dL_far_16 : decode cL_far 16 = .ok (.iconst 1, 1) := by decide +kernel
theorem dL_far_17 : decode cL_far 17 = .ok (.iadd, 1) := by decide +kernel
theorem dL_far_18 : decode cL_far 18 = .ok (.goto 15, 3) := by decide +kernel
theorem dL_far_21 : decode cL_far 21 = .ok (.iload_n 0, 1) := by decide +kernel
theorem dL_far_22 : decode cL_far 22 = .ok (.iconst 2, 1) := by decide +kernel
theorem dL_far_23 : decode cL_far 23 = .ok (.if_icmp .ne 8, 3) := by decide +kernel
theorem dL_far_26 : decode cL_far 26 = .ok (.ldc 146, 2) := by decide +kernel
theorem dL_far_28 : decode cL_far 28 = .ok (.goto 5, 3) := by decide +kernel
theorem dL_far_31 : decode cL_far 31 = .ok (.ldc 7, 2) := by decide +kernel
theorem dL_far_33 : decode cL_far 33 = .ok (.ireturn, 1) := by decide +kernel
theorem dL_plot_0 : decode cL_plot 0 = .ok (.aload_n 0, 1) := by decide +kernel
theorem dL_plot_1 : decode cL_plot 1 = .ok (.iload_n 1, 1) := by decide +kernel
theorem dL_plot_2 : decode cL_plot 2 = .ok (.invokevirtual 158, 3) := by decide +kernel
theorem dL_plot_5 : decode cL_plot 5 = .ok (.aload_n 0, 1) := by decide +kernel
theorem dL_plot_6 : decode cL_plot 6 = .ok (.iload_n 1, 1) := by decide +kernel
theorem dL_plot_7 : decode cL_plot 7 = .ok (.invokevirtual 161, 3) := by decide +kernel
theorem dL_plot_10 : decode cL_plot 10 = .ok (.iadd, 1) := by decide +kernel
theorem dL_plot_11 : decode cL_plot 11 = .ok (.aload_n 0, 1) := by decide +kernel
theorem dL_plot_12 : decode cL_plot 12 = .ok (.iload_n 1, 1) := by decide +kernel
theorem dL_plot_13 : decode cL_plot 13 = .ok (.invokevirtual 164, 3) := by decide +kernel
theorem dL_plot_16 : decode cL_plot 16 = .ok (.iadd, 1) := by decide +kernel
theorem dL_plot_17 : decode cL_plot 17 = .ok (.aload_n 0, 1) := by decide +kernel
theorem dL_plot_18 : decode cL_plot 18 = .ok (.iload_n 1, 1) := by decide +kernel
theorem dL_plot_19 : decode cL_plot 19 = .ok (.invokevirtual 167, 3) := by decide +kernel
theorem dL_plot_22 : decode cL_plot 22 = .ok (.iadd, 1) := by decide +kernel
theorem dL_plot_23 : decode cL_plot 23 = .ok (.ireturn, 1) := by decide +kernel
theorem dL_plot_24 : decode cL_plot 24 = .ok (.astore_n 2, 1) := by decide +kernel
theorem dL_plot_25 : decode cL_plot 25 = .ok (.sipush (-2011), 3) := by decide +kernel
theorem dL_plot_28 : decode cL_plot 28 = .ok (.ireturn, 1) := by decide +kernel
theorem dL_refused_0 : decode cL_refused 0 = .ok (.aload_n 0, 1) := by decide +kernel
theorem dL_refused_1 : decode cL_refused 1 = .ok (.invokestatic 170, 3) := by decide +kernel
theorem dL_refused_4 : decode cL_refused 4 = .ok (.lstore_n 1, 1) := by decide +kernel
theorem dL_refused_5 : decode cL_refused 5 = .ok (.aload_n 0, 1) := by decide +kernel
theorem dL_refused_6 : decode cL_refused 6 = .ok (.invokevirtual 174, 3) := by decide +kernel
theorem dL_refused_9 : decode cL_refused 9 = .ok (.istore_n 3, 1) := by decide +kernel
theorem dL_refused_10 : decode cL_refused 10 = .ok (.iconst 0, 1) := by decide +kernel
theorem dL_refused_11 : decode cL_refused 11 = .ok (.istore 4, 2) := by decide +kernel
theorem dL_refused_13 : decode cL_refused 13 = .ok (.iload 4, 2) := by decide +kernel
theorem dL_refused_15 : decode cL_refused 15 = .ok (.iconst 4, 1) := by decide +kernel
theorem dL_refused_16 : decode cL_refused 16 = .ok (.if_icmp .ge 20, 3) := by decide +kernel
theorem dL_refused_19 : decode cL_refused 19 = .ok (.aload_n 0, 1) := by decide +kernel
theorem dL_refused_20 : decode cL_refused 20 = .ok (.iload 4, 2) := by decide +kernel
theorem dL_refused_22 : decode cL_refused 22 = .ok (.invokestatic 177, 3) := by decide +kernel
theorem dL_refused_25 : decode cL_refused 25 = .ok (.ifCond .ne 5, 3) := by decide +kernel
theorem dL_refused_28 : decode cL_refused 28 = .ok (.iconst 0, 1) := by decide +kernel
theorem dL_refused_29 : decode cL_refused 29 = .ok (.ireturn, 1) := by decide +kernel
theorem dL_refused_30 : decode cL_refused 30 = .ok (.iinc 4 1, 3) := by decide +kernel
theorem dL_refused_33 : decode cL_refused 33 = .ok (.goto (-20), 3) := by decide +kernel
theorem dL_refused_36 : decode cL_refused 36 = .ok (.aload_n 0, 1) := by decide +kernel
theorem dL_refused_37 : decode cL_refused 37 = .ok (.invokestatic 170, 3) := by decide +kernel
theorem dL_refused_40 : decode cL_refused 40 = .ok (.lload_n 1, 1) := by decide +kernel
theorem dL_refused_41 : decode cL_refused 41 = .ok (.lcmp, 1) := by decide +kernel
theorem dL_refused_42 : decode cL_refused 42 = .ok (.ifCond .ne 15, 3) := by decide +kernel
theorem dL_refused_45 : decode cL_refused 45 = .ok (.aload_n 0, 1) := by decide +kernel
theorem dL_refused_46 : decode cL_refused 46 = .ok (.invokevirtual 174, 3) := by decide +kernel
theorem dL_refused_49 : decode cL_refused 49 = .ok (.iload_n 3, 1) := by decide +kernel
theorem dL_refused_50 : decode cL_refused 50 = .ok (.if_icmp .ne 7, 3) := by decide +kernel
theorem dL_refused_53 : decode cL_refused 53 = .ok (.iconst 1, 1) := by decide +kernel
theorem dL_refused_54 : decode cL_refused 54 = .ok (.goto 4, 3) := by decide +kernel
theorem dL_refused_57 : decode cL_refused 57 = .ok (.iconst 0, 1) := by decide +kernel
theorem dL_refused_58 : decode cL_refused 58 = .ok (.ireturn, 1) := by decide +kernel
theorem dL_is_0 : decode cL_is 0 = .ok (.aload_n 0, 1) := by decide +kernel
theorem dL_is_1 : decode cL_is 1 = .ok (.iload_n 1, 1) := by decide +kernel
theorem dL_is_2 : decode cL_is 2 = .ok (.invokevirtual 161, 3) := by decide +kernel
theorem dL_is_5 : decode cL_is 5 = .ok (.iload_n 2, 1) := by decide +kernel
theorem dL_is_6 : decode cL_is 6 = .ok (.if_icmp .ne 51, 3) := by decide +kernel
theorem dL_is_9 : decode cL_is 9 = .ok (.aload_n 0, 1) := by decide +kernel
theorem dL_is_10 : decode cL_is 10 = .ok (.iload_n 1, 1) := by decide +kernel
theorem dL_is_11 : decode cL_is 11 = .ok (.invokevirtual 164, 3) := by decide +kernel
theorem dL_is_14 : decode cL_is 14 = .ok (.iload_n 3, 1) := by decide +kernel
theorem dL_is_15 : decode cL_is 15 = .ok (.if_icmp .ne 42, 3) := by decide +kernel
theorem dL_is_18 : decode cL_is 18 = .ok (.aload_n 0, 1) := by decide +kernel
theorem dL_is_19 : decode cL_is 19 = .ok (.iload_n 1, 1) := by decide +kernel
theorem dL_is_20 : decode cL_is 20 = .ok (.invokevirtual 167, 3) := by decide +kernel
theorem dL_is_23 : decode cL_is 23 = .ok (.iload 4, 2) := by decide +kernel
theorem dL_is_25 : decode cL_is 25 = .ok (.if_icmp .ne 32, 3) := by decide +kernel
theorem dL_is_28 : decode cL_is 28 = .ok (.aload_n 0, 1) := by decide +kernel
theorem dL_is_29 : decode cL_is 29 = .ok (.iload_n 1, 1) := by decide +kernel
theorem dL_is_30 : decode cL_is 30 = .ok (.invokevirtual 158, 3) := by decide +kernel
theorem dL_is_33 : decode cL_is 33 = .ok (.iload 5, 2) := by decide +kernel
theorem dL_is_35 : decode cL_is 35 = .ok (.if_icmp .ne 22, 3) := by decide +kernel
theorem dL_is_38 : decode cL_is 38 = .ok (.aload_n 0, 1) := by decide +kernel
theorem dL_is_39 : decode cL_is 39 = .ok (.iload_n 2, 1) := by decide +kernel
theorem dL_is_40 : decode cL_is 40 = .ok (.iload 4, 2) := by decide +kernel
theorem dL_is_42 : decode cL_is 42 = .ok (.iadd, 1) := by decide +kernel
theorem dL_is_43 : decode cL_is 43 = .ok (.iconst 1, 1) := by decide +kernel
theorem dL_is_44 : decode cL_is 44 = .ok (.isub, 1) := by decide +kernel
theorem dL_is_45 : decode cL_is 45 = .ok (.iload_n 3, 1) := by decide +kernel
theorem dL_is_46 : decode cL_is 46 = .ok (.invokevirtual 82, 3) := by decide +kernel
theorem dL_is_49 : decode cL_is 49 = .ok (.iload_n 1, 1) := by decide +kernel
theorem dL_is_50 : decode cL_is 50 = .ok (.if_icmp .ne 7, 3) := by decide +kernel
theorem dL_is_53 : decode cL_is 53 = .ok (.iconst 1, 1) := by decide +kernel
theorem dL_is_54 : decode cL_is 54 = .ok (.goto 4, 3) := by decide +kernel
theorem dL_is_57 : decode cL_is 57 = .ok (.iconst 0, 1) := by decide +kernel
theorem dL_is_58 : decode cL_is 58 = .ok (.ireturn, 1) := by decide +kernel
theorem dL_fences_0 : decode cL_fences 0 = .ok (.aload_n 0, 1) := by decide +kernel
theorem dL_fences_1 : decode cL_fences 1 = .ok (.iload_n 1, 1) := by decide +kernel
theorem dL_fences_2 : decode cL_fences 2 = .ok (.invokevirtual 97, 3) := by decide +kernel
theorem dL_fences_5 : decode cL_fences 5 = .ok (.iload_n 2, 1) := by decide +kernel
theorem dL_fences_6 : decode cL_fences 6 = .ok (.if_icmp .ne 25, 3) := by decide +kernel
theorem dL_fences_9 : decode cL_fences 9 = .ok (.aload_n 0, 1) := by decide +kernel
theorem dL_fences_10 : decode cL_fences 10 = .ok (.iload_n 1, 1) := by decide +kernel
theorem dL_fences_11 : decode cL_fences 11 = .ok (.invokevirtual 100, 3) := by decide +kernel
theorem dL_fences_14 : decode cL_fences 14 = .ok (.iload_n 2, 1) := by decide +kernel
theorem dL_fences_15 : decode cL_fences 15 = .ok (.if_icmp .ne 16, 3) := by decide +kernel
theorem dL_fences_18 : decode cL_fences 18 = .ok (.aload_n 0, 1) := by decide +kernel
theorem dL_fences_19 : decode cL_fences 19 = .ok (.iload_n 1, 1) := by decide +kernel
theorem dL_fences_20 : decode cL_fences 20 = .ok (.invokevirtual 121, 3) := by decide +kernel
theorem dL_fences_23 : decode cL_fences 23 = .ok (.iload_n 3, 1) := by decide +kernel
theorem dL_fences_24 : decode cL_fences 24 = .ok (.if_icmp .ne 7, 3) := by decide +kernel
theorem dL_fences_27 : decode cL_fences 27 = .ok (.iconst 1, 1) := by decide +kernel
theorem dL_fences_28 : decode cL_fences 28 = .ok (.goto 4, 3) := by decide +kernel
theorem dL_fences_31 : decode cL_fences 31 = .ok (.iconst 0, 1) := by decide +kernel
theorem dL_fences_32 : decode cL_fences 32 = .ok (.ireturn, 1) := by decide +kernel
theorem dL_types_0 : decode cL_types 0 = .ok (.iconst 1, 1) := by decide +kernel
theorem dL_types_1 : decode cL_types 1 = .ok (.istore_n 3, 1) := by decide +kernel
theorem dL_types_2 : decode cL_types 2 = .ok (.bipush 56, 2) := by decide +kernel
theorem dL_types_4 : decode cL_types 4 = .ok (.istore 4, 2) := by decide +kernel
theorem dL_types_6 : decode cL_types 6 = .ok (.iload 4, 2) := by decide +kernel
theorem dL_types_8 : decode cL_types 8 = .ok (.ifCond .lt 44, 3) := by decide +kernel
theorem dL_types_11 : decode cL_types 11 = .ok (.lload_n 1, 1) := by decide +kernel
theorem dL_types_12 : decode cL_types 12 = .ok (.iload 4, 2) := by decide +kernel
theorem dL_types_14 : decode cL_types 14 = .ok (.lshr, 1) := by decide +kernel
theorem dL_types_15 : decode cL_types 15 = .ok (.ldc2_w 202, 3) := by decide +kernel
theorem dL_types_18 : decode cL_types 18 = .ok (.land, 1) := by decide +kernel
theorem dL_types_19 : decode cL_types 19 = .ok (.l2i, 1) := by decide +kernel
theorem dL_types_20 : decode cL_types 20 = .ok (.istore 5, 2) := by decide +kernel
theorem dL_types_22 : decode cL_types 22 = .ok (.iload_n 3, 1) := by decide +kernel
theorem dL_types_23 : decode cL_types 23 = .ok (.ifCond .eq 21, 3) := by decide +kernel
theorem dL_types_26 : decode cL_types 26 = .ok (.iload 5, 2) := by decide +kernel
theorem dL_types_28 : decode cL_types 28 = .ok (.ifCond .eq 12, 3) := by decide +kernel
theorem dL_types_31 : decode cL_types 31 = .ok (.aload_n 0, 1) := by decide +kernel
theorem dL_types_32 : decode cL_types 32 = .ok (.iload 5, 2) := by decide +kernel
theorem dL_types_34 : decode cL_types 34 = .ok (.invokevirtual 35, 3) := by decide +kernel
theorem dL_types_37 : decode cL_types 37 = .ok (.ifCond .le 7, 3) := by decide +kernel
theorem dL_types_40 : decode cL_types 40 = .ok (.iconst 1, 1) := by decide +kernel
theorem dL_types_41 : decode cL_types 41 = .ok (.goto 4, 3) := by decide +kernel
theorem dL_types_44 : decode cL_types 44 = .ok (.iconst 0, 1) := by decide +kernel
theorem dL_types_45 : decode cL_types 45 = .ok (.istore_n 3, 1) := by decide +kernel
theorem dL_types_46 : decode cL_types 46 = .ok (.iinc 4 (-8), 3) := by decide +kernel
theorem dL_types_49 : decode cL_types 49 = .ok (.goto (-43), 3) := by decide +kernel
theorem dL_types_52 : decode cL_types 52 = .ok (.iload_n 3, 1) := by decide +kernel
theorem dL_types_53 : decode cL_types 53 = .ok (.ireturn, 1) := by decide +kernel
theorem dL_isError_0 : decode cL_isError 0 = .ok (.aload_n 0, 1) := by decide +kernel
theorem dL_isError_1 : decode cL_isError 1 = .ok (.invokevirtual 204, 3) := by decide +kernel
theorem dL_isError_4 : decode cL_isError 4 = .ok (.ifCond .lt 32, 3) := by decide +kernel
theorem dL_isError_7 : decode cL_isError 7 = .ok (.aload_n 0, 1) := by decide +kernel
theorem dL_isError_8 : decode cL_isError 8 = .ok (.lload_n 1, 1) := by decide +kernel
theorem dL_isError_9 : decode cL_isError 9 = .ok (.invokestatic 207, 3) := by decide +kernel
theorem dL_isError_12 : decode cL_isError 12 = .ok (.ifCond .eq 24, 3) := by decide +kernel
theorem dL_isError_15 : decode cL_isError 15 = .ok (.aload_n 0, 1) := by decide +kernel
theorem dL_isError_16 : decode cL_isError 16 = .ok (.lload_n 3, 1) := by decide +kernel
theorem dL_isError_17 : decode cL_isError 17 = .ok (.invokestatic 207, 3) := by decide +kernel
theorem dL_isError_20 : decode cL_isError 20 = .ok (.ifCond .eq 16, 3) := by decide +kernel
theorem dL_isError_23 : decode cL_isError 23 = .ok (.aload_n 0, 1) := by decide +kernel
theorem dL_isError_24 : decode cL_isError 24 = .ok (.invokevirtual 211, 3) := by decide +kernel
theorem dL_isError_27 : decode cL_isError 27 = .ok (.iload 5, 2) := by decide +kernel
theorem dL_isError_29 : decode cL_isError 29 = .ok (.if_icmp .ne 7, 3) := by decide +kernel
theorem dL_isError_32 : decode cL_isError 32 = .ok (.iconst 1, 1) := by decide +kernel
theorem dL_isError_33 : decode cL_isError 33 = .ok (.goto 4, 3) := by decide +kernel
theorem dL_isError_36 : decode cL_isError 36 = .ok (.iconst 0, 1) := by decide +kernel
theorem dL_isError_37 : decode cL_isError 37 = .ok (.ireturn, 1) := by decide +kernel
