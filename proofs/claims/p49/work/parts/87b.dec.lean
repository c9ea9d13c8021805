theorem dL_texts_0 : decode cL_texts 0 = .ok (.new 10, 3) := by decide +kernel
theorem dL_texts_3 : decode cL_texts 3 = .ok (.dup, 1) := by decide +kernel
theorem dL_texts_4 : decode cL_texts 4 = .ok (.invokespecial 181, 3) := by decide +kernel
theorem dL_texts_7 : decode cL_texts 7 = .ok (.astore_n 0, 1) := by decide +kernel
theorem dL_texts_8 : decode cL_texts 8 = .ok (.aload_n 0, 1) := by decide +kernel
theorem dL_texts_9 : decode cL_texts 9 = .ok (.ldc2_w 214, 3) := by decide +kernel
theorem dL_texts_12 : decode cL_texts 12 = .ok (.lconst 0, 1) := by decide +kernel
theorem dL_texts_13 : decode cL_texts 13 = .ok (.iconst 3, 1) := by decide +kernel
theorem dL_texts_14 : decode cL_texts 14 = .ok (.invokestatic 216, 3) := by decide +kernel
theorem dL_texts_17 : decode cL_texts 17 = .ok (.ifCond .eq 112, 3) := by decide +kernel
theorem dL_texts_20 : decode cL_texts 20 = .ok (.aload_n 0, 1) := by decide +kernel
theorem dL_texts_21 : decode cL_texts 21 = .ok (.ldc2_w 220, 3) := by decide +kernel
theorem dL_texts_24 : decode cL_texts 24 = .ok (.lconst 0, 1) := by decide +kernel
theorem dL_texts_25 : decode cL_texts 25 = .ok (.bipush 6, 2) := by decide +kernel
theorem dL_texts_27 : decode cL_texts 27 = .ok (.invokestatic 216, 3) := by decide +kernel
theorem dL_texts_30 : decode cL_texts 30 = .ok (.ifCond .eq 99, 3) := by decide +kernel
theorem dL_texts_33 : decode cL_texts 33 = .ok (.aload_n 0, 1) := by decide +kernel
theorem dL_texts_34 : decode cL_texts 34 = .ok (.ldc2_w 222, 3) := by decide +kernel
theorem dL_texts_37 : decode cL_texts 37 = .ok (.lconst 0, 1) := by decide +kernel
theorem dL_texts_38 : decode cL_texts 38 = .ok (.iconst 5, 1) := by decide +kernel
theorem dL_texts_39 : decode cL_texts 39 = .ok (.invokestatic 216, 3) := by decide +kernel
theorem dL_texts_42 : decode cL_texts 42 = .ok (.ifCond .eq 87, 3) := by decide +kernel
theorem dL_texts_45 : decode cL_texts 45 = .ok (.aload_n 0, 1) := by decide +kernel
theorem dL_texts_46 : decode cL_texts 46 = .ok (.ldc2_w 224, 3) := by decide +kernel
theorem dL_texts_49 : decode cL_texts 49 = .ok (.lconst 0, 1) := by decide +kernel
theorem dL_texts_50 : decode cL_texts 50 = .ok (.iconst 4, 1) := by decide +kernel
theorem dL_texts_51 : decode cL_texts 51 = .ok (.invokestatic 216, 3) := by decide +kernel
theorem dL_texts_54 : decode cL_texts 54 = .ok (.ifCond .eq 75, 3) := by decide +kernel
theorem dL_texts_57 : decode cL_texts 57 = .ok (.aload_n 0, 1) := by decide +kernel
theorem dL_texts_58 : decode cL_texts 58 = .ok (.ldc2_w 226, 3) := by decide +kernel
theorem dL_texts_61 : decode cL_texts 61 = .ok (.lconst 0, 1) := by decide +kernel
theorem dL_texts_62 : decode cL_texts 62 = .ok (.iconst 1, 1) := by decide +kernel
theorem dL_texts_63 : decode cL_texts 63 = .ok (.invokestatic 216, 3) := by decide +kernel
theorem dL_texts_66 : decode cL_texts 66 = .ok (.ifCond .eq 63, 3) := by decide +kernel
theorem dL_texts_69 : decode cL_texts 69 = .ok (.aload_n 0, 1) := by decide +kernel
theorem dL_texts_70 : decode cL_texts 70 = .ok (.ldc2_w 228, 3) := by decide +kernel
theorem dL_texts_73 : decode cL_texts 73 = .ok (.lconst 0, 1) := by decide +kernel
theorem dL_texts_74 : decode cL_texts 74 = .ok (.iconst 4, 1) := by decide +kernel
theorem dL_texts_75 : decode cL_texts 75 = .ok (.invokestatic 216, 3) := by decide +kernel
theorem dL_texts_78 : decode cL_texts 78 = .ok (.ifCond .eq 51, 3) := by decide +kernel
theorem dL_texts_81 : decode cL_texts 81 = .ok (.aload_n 0, 1) := by decide +kernel
theorem dL_texts_82 : decode cL_texts 82 = .ok (.ldc2_w 230, 3) := by decide +kernel
theorem dL_texts_85 : decode cL_texts 85 = .ok (.lconst 0, 1) := by decide +kernel
theorem dL_texts_86 : decode cL_texts 86 = .ok (.iconst 5, 1) := by decide +kernel
theorem dL_texts_87 : decode cL_texts 87 = .ok (.invokestatic 216, 3) := by decide +kernel
theorem dL_texts_90 : decode cL_texts 90 = .ok (.ifCond .eq 39, 3) := by decide +kernel
theorem dL_texts_93 : decode cL_texts 93 = .ok (.aload_n 0, 1) := by decide +kernel
theorem dL_texts_94 : decode cL_texts 94 = .ok (.ldc2_w 232, 3) := by decide +kernel
theorem dL_texts_97 : decode cL_texts 97 = .ok (.lconst 0, 1) := by decide +kernel
theorem dL_texts_98 : decode cL_texts 98 = .ok (.iconst 1, 1) := by decide +kernel
theorem dL_texts_99 : decode cL_texts 99 = .ok (.invokestatic 216, 3) := by decide +kernel
theorem dL_texts_102 : decode cL_texts 102 = .ok (.ifCond .eq 27, 3) := by decide +kernel
theorem dL_texts_105 : decode cL_texts 105 = .ok (.aload_n 0, 1) := by decide +kernel
theorem dL_texts_106 : decode cL_texts 106 = .ok (.ldc2_w 234, 3) := by decide +kernel
theorem dL_texts_109 : decode cL_texts 109 = .ok (.lconst 0, 1) := by decide +kernel
theorem dL_texts_110 : decode cL_texts 110 = .ok (.iconst 1, 1) := by decide +kernel
theorem dL_texts_111 : decode cL_texts 111 = .ok (.invokestatic 216, 3) := by decide +kernel
theorem dL_texts_114 : decode cL_texts 114 = .ok (.ifCond .eq 15, 3) := by decide +kernel
theorem dL_texts_117 : decode cL_texts 117 = .ok (.aload_n 0, 1) := by decide +kernel
theorem dL_texts_118 : decode cL_texts 118 = .ok (.ldc2_w 236, 3) := by decide +kernel
theorem dL_texts_121 : decode cL_texts 121 = .ok (.lconst 0, 1) := by decide +kernel
theorem dL_texts_122 : decode cL_texts 122 = .ok (.iconst 3, 1) := by decide +kernel
theorem dL_texts_123 : decode cL_texts 123 = .ok (.invokestatic 216, 3) := by decide +kernel
theorem dL_texts_126 : decode cL_texts 126 = .ok (.ifCond .ne 5, 3) := by decide +kernel
theorem dL_texts_129 : decode cL_texts 129 = .ok (.iconst 0, 1) := by decide +kernel
theorem dL_texts_130 : decode cL_texts 130 = .ok (.ireturn, 1) := by decide +kernel
theorem dL_texts_131 : decode cL_texts 131 = .ok (.aload_n 0, 1) := by decide +kernel
theorem dL_texts_132 : decode cL_texts 132 = .ok (.ldc2_w 238, 3) := by decide +kernel
theorem dL_texts_135 : decode cL_texts 135 = .ok (.lconst 0, 1) := by decide +kernel
theorem dL_texts_136 : decode cL_texts 136 = .ok (.iconst 1, 1) := by decide +kernel
theorem dL_texts_137 : decode cL_texts 137 = .ok (.invokestatic 216, 3) := by decide +kernel
theorem dL_texts_140 : decode cL_texts 140 = .ok (.ifCond .eq 103, 3) := by decide +kernel
theorem dL_texts_143 : decode cL_texts 143 = .ok (.aload_n 0, 1) := by decide +kernel
theorem dL_texts_144 : decode cL_texts 144 = .ok (.ldc2_w 240, 3) := by decide +kernel
theorem dL_texts_147 : decode cL_texts 147 = .ok (.lconst 0, 1) := by decide +kernel
theorem dL_texts_148 : decode cL_texts 148 = .ok (.iconst 1, 1) := by decide +kernel
theorem dL_texts_149 : decode cL_texts 149 = .ok (.invokestatic 216, 3) := by decide +kernel
theorem dL_texts_152 : decode cL_texts 152 = .ok (.ifCond .eq 91, 3) := by decide +kernel
theorem dL_texts_155 : decode cL_texts 155 = .ok (.aload_n 0, 1) := by decide +kernel
theorem dL_texts_156 : decode cL_texts 156 = .ok (.ldc2_w 242, 3) := by decide +kernel
theorem dL_texts_159 : decode cL_texts 159 = .ok (.lconst 0, 1) := by decide +kernel
theorem dL_texts_160 : decode cL_texts 160 = .ok (.iconst 2, 1) := by decide +kernel
theorem dL_texts_161 : decode cL_texts 161 = .ok (.invokestatic 216, 3) := by decide +kernel
theorem dL_texts_164 : decode cL_texts 164 = .ok (.ifCond .eq 79, 3) := by decide +kernel
theorem dL_texts_167 : decode cL_texts 167 = .ok (.aload_n 0, 1) := by decide +kernel
theorem dL_texts_168 : decode cL_texts 168 = .ok (.ldc2_w 244, 3) := by decide +kernel
theorem dL_texts_171 : decode cL_texts 171 = .ok (.ldc2_w 246, 3) := by decide +kernel
theorem dL_texts_174 : decode cL_texts 174 = .ok (.bipush 12, 2) := by decide +kernel
theorem dL_texts_176 : decode cL_texts 176 = .ok (.invokestatic 216, 3) := by decide +kernel
theorem dL_texts_179 : decode cL_texts 179 = .ok (.ifCond .eq 64, 3) := by decide +kernel
theorem dL_texts_182 : decode cL_texts 182 = .ok (.aload_n 0, 1) := by decide +kernel
theorem dL_texts_183 : decode cL_texts 183 = .ok (.ldc2_w 248, 3) := by decide +kernel
theorem dL_texts_186 : decode cL_texts 186 = .ok (.ldc2_w 250, 3) := by decide +kernel
theorem dL_texts_189 : decode cL_texts 189 = .ok (.bipush 11, 2) := by decide +kernel
theorem dL_texts_191 : decode cL_texts 191 = .ok (.invokestatic 216, 3) := by decide +kernel
theorem dL_texts_194 : decode cL_texts 194 = .ok (.ifCond .eq 49, 3) := by decide +kernel
theorem dL_texts_197 : decode cL_texts 197 = .ok (.aload_n 0, 1) := by decide +kernel
theorem dL_texts_198 : decode cL_texts 198 = .ok (.ldc2_w 252, 3) := by decide +kernel
theorem dL_texts_201 : decode cL_texts 201 = .ok (.lconst 0, 1) := by decide +kernel
theorem dL_texts_202 : decode cL_texts 202 = .ok (.iconst 0, 1) := by decide +kernel
theorem dL_texts_203 : decode cL_texts 203 = .ok (.invokestatic 216, 3) := by decide +kernel
theorem dL_texts_206 : decode cL_texts 206 = .ok (.ifCond .eq 37, 3) := by decide +kernel
theorem dL_texts_209 : decode cL_texts 209 = .ok (.aload_n 0, 1) := by decide +kernel
theorem dL_texts_210 : decode cL_texts 210 = .ok (.lconst 0, 1) := by decide +kernel
theorem dL_texts_211 : decode cL_texts 211 = .ok (.lconst 0, 1) := by decide +kernel
theorem dL_texts_212 : decode cL_texts 212 = .ok (.iconst 0, 1) := by decide +kernel
theorem dL_texts_213 : decode cL_texts 213 = .ok (.invokestatic 216, 3) := by decide +kernel
theorem dL_texts_216 : decode cL_texts 216 = .ok (.ifCond .eq 27, 3) := by decide +kernel
theorem dL_texts_219 : decode cL_texts 219 = .ok (.aload_n 0, 1) := by decide +kernel
theorem dL_texts_220 : decode cL_texts 220 = .ok (.ldc2_w 254, 3) := by decide +kernel
theorem dL_texts_223 : decode cL_texts 223 = .ok (.lconst 0, 1) := by decide +kernel
theorem dL_texts_224 : decode cL_texts 224 = .ok (.iconst 2, 1) := by decide +kernel
theorem dL_texts_225 : decode cL_texts 225 = .ok (.invokestatic 216, 3) := by decide +kernel
theorem dL_texts_228 : decode cL_texts 228 = .ok (.ifCond .eq 15, 3) := by decide +kernel
theorem dL_texts_231 : decode cL_texts 231 = .ok (.aload_n 0, 1) := by decide +kernel
theorem dL_texts_232 : decode cL_texts 232 = .ok (.ldc2_w 256, 3) := by decide +kernel
theorem dL_texts_235 : decode cL_texts 235 = .ok (.lconst 0, 1) := by decide +kernel
theorem dL_texts_236 : decode cL_texts 236 = .ok (.iconst 3, 1) := by decide +kernel
theorem dL_texts_237 : decode cL_texts 237 = .ok (.invokestatic 216, 3) := by decide +kernel
theorem dL_texts_240 : decode cL_texts 240 = .ok (.ifCond .ne 5, 3) := by decide +kernel
theorem dL_texts_243 : decode cL_texts 243 = .ok (.iconst 0, 1) := by decide +kernel
theorem dL_texts_244 : decode cL_texts 244 = .ok (.ireturn, 1) := by decide +kernel
theorem dL_texts_245 : decode cL_texts 245 = .ok (.aload_n 0, 1) := by decide +kernel
theorem dL_texts_246 : decode cL_texts 246 = .ok (.invokevirtual 204, 3) := by decide +kernel
theorem dL_texts_249 : decode cL_texts 249 = .ok (.iconst 4, 1) := by decide +kernel
