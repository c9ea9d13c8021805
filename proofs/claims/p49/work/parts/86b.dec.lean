theorem dL_lands_0 : decode cL_lands 0 = .ok (.new 10, 3) := by decide +kernel
theorem dL_lands_3 : decode cL_lands 3 = .ok (.dup, 1) := by decide +kernel
theorem dL_lands_4 : decode cL_lands 4 = .ok (.invokespecial 181, 3) := by decide +kernel
theorem dL_lands_7 : decode cL_lands 7 = .ok (.astore_n 0, 1) := by decide +kernel
theorem dL_lands_8 : decode cL_lands 8 = .ok (.aload_n 0, 1) := by decide +kernel
theorem dL_lands_9 : decode cL_lands 9 = .ok (.bipush 9, 2) := by decide +kernel
theorem dL_lands_11 : decode cL_lands 11 = .ok (.iconst 0, 1) := by decide +kernel
theorem dL_lands_12 : decode cL_lands 12 = .ok (.iconst 0, 1) := by decide +kernel
theorem dL_lands_13 : decode cL_lands 13 = .ok (.iconst 0, 1) := by decide +kernel
theorem dL_lands_14 : decode cL_lands 14 = .ok (.iconst 0, 1) := by decide +kernel
theorem dL_lands_15 : decode cL_lands 15 = .ok (.invokestatic 150, 3) := by decide +kernel
theorem dL_lands_18 : decode cL_lands 18 = .ok (.sipush (-2013), 3) := by decide +kernel
theorem dL_lands_21 : decode cL_lands 21 = .ok (.if_icmp .ne 230, 3) := by decide +kernel
theorem dL_lands_24 : decode cL_lands 24 = .ok (.aload_n 0, 1) := by decide +kernel
theorem dL_lands_25 : decode cL_lands 25 = .ok (.bipush 11, 2) := by decide +kernel
theorem dL_lands_27 : decode cL_lands 27 = .ok (.iconst 1, 1) := by decide +kernel
theorem dL_lands_28 : decode cL_lands 28 = .ok (.iconst 0, 1) := by decide +kernel
theorem dL_lands_29 : decode cL_lands 29 = .ok (.iconst 0, 1) := by decide +kernel
theorem dL_lands_30 : decode cL_lands 30 = .ok (.iconst 0, 1) := by decide +kernel
theorem dL_lands_31 : decode cL_lands 31 = .ok (.invokestatic 150, 3) := by decide +kernel
theorem dL_lands_34 : decode cL_lands 34 = .ok (.sipush (-2013), 3) := by decide +kernel
theorem dL_lands_37 : decode cL_lands 37 = .ok (.if_icmp .ne 214, 3) := by decide +kernel
theorem dL_lands_40 : decode cL_lands 40 = .ok (.aload_n 0, 1) := by decide +kernel
theorem dL_lands_41 : decode cL_lands 41 = .ok (.invokevirtual 128, 3) := by decide +kernel
theorem dL_lands_44 : decode cL_lands 44 = .ok (.iconst 1, 1) := by decide +kernel
theorem dL_lands_45 : decode cL_lands 45 = .ok (.if_icmp .ne 206, 3) := by decide +kernel
theorem dL_lands_48 : decode cL_lands 48 = .ok (.aload_n 0, 1) := by decide +kernel
theorem dL_lands_49 : decode cL_lands 49 = .ok (.iconst 0, 1) := by decide +kernel
theorem dL_lands_50 : decode cL_lands 50 = .ok (.iconst 0, 1) := by decide +kernel
theorem dL_lands_51 : decode cL_lands 51 = .ok (.iconst 0, 1) := by decide +kernel
theorem dL_lands_52 : decode cL_lands 52 = .ok (.bipush 16, 2) := by decide +kernel
theorem dL_lands_54 : decode cL_lands 54 = .ok (.iconst 0, 1) := by decide +kernel
theorem dL_lands_55 : decode cL_lands 55 = .ok (.invokestatic 182, 3) := by decide +kernel
theorem dL_lands_58 : decode cL_lands 58 = .ok (.ifCond .eq 193, 3) := by decide +kernel
theorem dL_lands_61 : decode cL_lands 61 = .ok (.aload_n 0, 1) := by decide +kernel
theorem dL_lands_62 : decode cL_lands 62 = .ok (.iconst 0, 1) := by decide +kernel
theorem dL_lands_63 : decode cL_lands 63 = .ok (.invokevirtual 112, 3) := by decide +kernel
theorem dL_lands_66 : decode cL_lands 66 = .ok (.ifCond .ne 185, 3) := by decide +kernel
theorem dL_lands_69 : decode cL_lands 69 = .ok (.aload_n 0, 1) := by decide +kernel
theorem dL_lands_70 : decode cL_lands 70 = .ok (.bipush 7, 2) := by decide +kernel
theorem dL_lands_72 : decode cL_lands 72 = .ok (.invokevirtual 112, 3) := by decide +kernel
theorem dL_lands_75 : decode cL_lands 75 = .ok (.bipush 100, 2) := by decide +kernel
theorem dL_lands_77 : decode cL_lands 77 = .ok (.if_icmp .ne 174, 3) := by decide +kernel
theorem dL_lands_80 : decode cL_lands 80 = .ok (.aload_n 0, 1) := by decide +kernel
theorem dL_lands_81 : decode cL_lands 81 = .ok (.iconst 0, 1) := by decide +kernel
theorem dL_lands_82 : decode cL_lands 82 = .ok (.iconst 0, 1) := by decide +kernel
theorem dL_lands_83 : decode cL_lands 83 = .ok (.iconst (-1), 1) := by decide +kernel
theorem dL_lands_84 : decode cL_lands 84 = .ok (.invokestatic 186, 3) := by decide +kernel
theorem dL_lands_87 : decode cL_lands 87 = .ok (.ifCond .eq 164, 3) := by decide +kernel
theorem dL_lands_90 : decode cL_lands 90 = .ok (.aload_n 0, 1) := by decide +kernel
theorem dL_lands_91 : decode cL_lands 91 = .ok (.invokevirtual 190, 3) := by decide +kernel
theorem dL_lands_94 : decode cL_lands 94 = .ok (.ldc2_w 194, 3) := by decide +kernel
theorem dL_lands_97 : decode cL_lands 97 = .ok (.dcmp .l, 1) := by decide +kernel
theorem dL_lands_98 : decode cL_lands 98 = .ok (.ifCond .ne 153, 3) := by decide +kernel
theorem dL_lands_101 : decode cL_lands 101 = .ok (.aload_n 0, 1) := by decide +kernel
theorem dL_lands_102 : decode cL_lands 102 = .ok (.iconst 1, 1) := by decide +kernel
theorem dL_lands_103 : decode cL_lands 103 = .ok (.invokevirtual 106, 3) := by decide +kernel
theorem dL_lands_106 : decode cL_lands 106 = .ok (.iconst (-1), 1) := by decide +kernel
theorem dL_lands_107 : decode cL_lands 107 = .ok (.if_icmp .ne 144, 3) := by decide +kernel
theorem dL_lands_110 : decode cL_lands 110 = .ok (.aload_n 0, 1) := by decide +kernel
theorem dL_lands_111 : decode cL_lands 111 = .ok (.invokevirtual 63, 3) := by decide +kernel
theorem dL_lands_114 : decode cL_lands 114 = .ok (.ifCond .ne 137, 3) := by decide +kernel
theorem dL_lands_117 : decode cL_lands 117 = .ok (.aload_n 0, 1) := by decide +kernel
theorem dL_lands_118 : decode cL_lands 118 = .ok (.invokestatic 196, 3) := by decide +kernel
theorem dL_lands_121 : decode cL_lands 121 = .ok (.ifCond .eq 130, 3) := by decide +kernel
theorem dL_lands_124 : decode cL_lands 124 = .ok (.aload_n 0, 1) := by decide +kernel
theorem dL_lands_125 : decode cL_lands 125 = .ok (.iconst 0, 1) := by decide +kernel
theorem dL_lands_126 : decode cL_lands 126 = .ok (.iconst 0, 1) := by decide +kernel
theorem dL_lands_127 : decode cL_lands 127 = .ok (.bipush 8, 2) := by decide +kernel
theorem dL_lands_129 : decode cL_lands 129 = .ok (.iconst 1, 1) := by decide +kernel
theorem dL_lands_130 : decode cL_lands 130 = .ok (.invokevirtual 9, 3) := by decide +kernel
theorem dL_lands_133 : decode cL_lands 133 = .ok (.bipush 64, 2) := by decide +kernel
theorem dL_lands_135 : decode cL_lands 135 = .ok (.if_icmp .ne 116, 3) := by decide +kernel
theorem dL_lands_138 : decode cL_lands 138 = .ok (.aload_n 0, 1) := by decide +kernel
theorem dL_lands_139 : decode cL_lands 139 = .ok (.invokevirtual 128, 3) := by decide +kernel
theorem dL_lands_142 : decode cL_lands 142 = .ok (.iconst 4, 1) := by decide +kernel
theorem dL_lands_143 : decode cL_lands 143 = .ok (.if_icmp .ne 108, 3) := by decide +kernel
theorem dL_lands_146 : decode cL_lands 146 = .ok (.aload_n 0, 1) := by decide +kernel
theorem dL_lands_147 : decode cL_lands 147 = .ok (.bipush 8, 2) := by decide +kernel
theorem dL_lands_149 : decode cL_lands 149 = .ok (.iconst 0, 1) := by decide +kernel
theorem dL_lands_150 : decode cL_lands 150 = .ok (.iconst 4, 1) := by decide +kernel
theorem dL_lands_151 : decode cL_lands 151 = .ok (.iconst 2, 1) := by decide +kernel
theorem dL_lands_152 : decode cL_lands 152 = .ok (.invokevirtual 9, 3) := by decide +kernel
theorem dL_lands_155 : decode cL_lands 155 = .ok (.bipush 16, 2) := by decide +kernel
theorem dL_lands_157 : decode cL_lands 157 = .ok (.if_icmp .ne 94, 3) := by decide +kernel
theorem dL_lands_160 : decode cL_lands 160 = .ok (.aload_n 0, 1) := by decide +kernel
theorem dL_lands_161 : decode cL_lands 161 = .ok (.invokevirtual 128, 3) := by decide +kernel
theorem dL_lands_164 : decode cL_lands 164 = .ok (.bipush 7, 2) := by decide +kernel
theorem dL_lands_166 : decode cL_lands 166 = .ok (.if_icmp .ne 85, 3) := by decide +kernel
theorem dL_lands_169 : decode cL_lands 169 = .ok (.aload_n 0, 1) := by decide +kernel
theorem dL_lands_170 : decode cL_lands 170 = .ok (.iconst 1, 1) := by decide +kernel
theorem dL_lands_171 : decode cL_lands 171 = .ok (.bipush 8, 2) := by decide +kernel
theorem dL_lands_173 : decode cL_lands 173 = .ok (.iconst 0, 1) := by decide +kernel
theorem dL_lands_174 : decode cL_lands 174 = .ok (.iconst 4, 1) := by decide +kernel
theorem dL_lands_175 : decode cL_lands 175 = .ok (.iconst 2, 1) := by decide +kernel
theorem dL_lands_176 : decode cL_lands 176 = .ok (.invokestatic 182, 3) := by decide +kernel
theorem dL_lands_179 : decode cL_lands 179 = .ok (.ifCond .eq 72, 3) := by decide +kernel
theorem dL_lands_182 : decode cL_lands 182 = .ok (.aload_n 0, 1) := by decide +kernel
theorem dL_lands_183 : decode cL_lands 183 = .ok (.iconst 2, 1) := by decide +kernel
theorem dL_lands_184 : decode cL_lands 184 = .ok (.bipush 12, 2) := by decide +kernel
theorem dL_lands_186 : decode cL_lands 186 = .ok (.iconst 0, 1) := by decide +kernel
theorem dL_lands_187 : decode cL_lands 187 = .ok (.iconst 4, 1) := by decide +kernel
theorem dL_lands_188 : decode cL_lands 188 = .ok (.iconst 0, 1) := by decide +kernel
theorem dL_lands_189 : decode cL_lands 189 = .ok (.invokestatic 182, 3) := by decide +kernel
theorem dL_lands_192 : decode cL_lands 192 = .ok (.ifCond .eq 59, 3) := by decide +kernel
theorem dL_lands_195 : decode cL_lands 195 = .ok (.aload_n 0, 1) := by decide +kernel
theorem dL_lands_196 : decode cL_lands 196 = .ok (.iconst 3, 1) := by decide +kernel
theorem dL_lands_197 : decode cL_lands 197 = .ok (.bipush 8, 2) := by decide +kernel
theorem dL_lands_199 : decode cL_lands 199 = .ok (.iconst 4, 1) := by decide +kernel
theorem dL_lands_200 : decode cL_lands 200 = .ok (.iconst 4, 1) := by decide +kernel
theorem dL_lands_201 : decode cL_lands 201 = .ok (.iconst 0, 1) := by decide +kernel
theorem dL_lands_202 : decode cL_lands 202 = .ok (.invokestatic 182, 3) := by decide +kernel
theorem dL_lands_205 : decode cL_lands 205 = .ok (.ifCond .eq 46, 3) := by decide +kernel
theorem dL_lands_208 : decode cL_lands 208 = .ok (.aload_n 0, 1) := by decide +kernel
theorem dL_lands_209 : decode cL_lands 209 = .ok (.iconst 4, 1) := by decide +kernel
theorem dL_lands_210 : decode cL_lands 210 = .ok (.bipush 12, 2) := by decide +kernel
theorem dL_lands_212 : decode cL_lands 212 = .ok (.iconst 4, 1) := by decide +kernel
theorem dL_lands_213 : decode cL_lands 213 = .ok (.iconst 4, 1) := by decide +kernel
theorem dL_lands_214 : decode cL_lands 214 = .ok (.iconst 0, 1) := by decide +kernel
theorem dL_lands_215 : decode cL_lands 215 = .ok (.invokestatic 182, 3) := by decide +kernel
theorem dL_lands_218 : decode cL_lands 218 = .ok (.ifCond .eq 33, 3) := by decide +kernel
theorem dL_lands_221 : decode cL_lands 221 = .ok (.aload_n 0, 1) := by decide +kernel
theorem dL_lands_222 : decode cL_lands 222 = .ok (.iconst 5, 1) := by decide +kernel
theorem dL_lands_223 : decode cL_lands 223 = .ok (.iconst 0, 1) := by decide +kernel
theorem dL_lands_224 : decode cL_lands 224 = .ok (.bipush 8, 2) := by decide +kernel
theorem dL_lands_226 : decode cL_lands 226 = .ok (.bipush 8, 2) := by decide +kernel
theorem dL_lands_228 : decode cL_lands 228 = .ok (.iconst 0, 1) := by decide +kernel
theorem dL_lands_229 : decode cL_lands 229 = .ok (.invokestatic 182, 3) := by decide +kernel
theorem dL_lands_232 : decode cL_lands 232 = .ok (.ifCond .eq 19, 3) := by decide +kernel
theorem dL_lands_235 : decode cL_lands 235 = .ok (.aload_n 0, 1) := by decide +kernel
theorem dL_lands_236 : decode cL_lands 236 = .ok (.bipush 6, 2) := by decide +kernel
theorem dL_lands_238 : decode cL_lands 238 = .ok (.bipush 8, 2) := by decide +kernel
theorem dL_lands_240 : decode cL_lands 240 = .ok (.bipush 8, 2) := by decide +kernel
theorem dL_lands_242 : decode cL_lands 242 = .ok (.bipush 8, 2) := by decide +kernel
theorem dL_lands_244 : decode cL_lands 244 = .ok (.iconst 0, 1) := by decide +kernel
theorem dL_lands_245 : decode cL_lands 245 = .ok (.invokestatic 182, 3) := by decide +kernel
theorem dL_lands_248 : decode cL_lands 248 = .ok (.ifCond .ne 5, 3) := by decide +kernel
theorem dL_lands_251 : decode cL_lands 251 = .ok (.iconst 0, 1) := by decide +kernel
theorem dL_lands_252 : decode cL_lands 252 = .ok (.ireturn, 1) := by decide +kernel
theorem dL_lands_253 : decode cL_lands 253 = .ok (.aload_n 0, 1) := by decide +kernel
theorem dL_lands_254 : decode cL_lands 254 = .ok (.iconst 0, 1) := by decide +kernel
theorem dL_lands_255 : decode cL_lands 255 = .ok (.invokevirtual 88, 3) := by decide +kernel
theorem dL_lands_258 : decode cL_lands 258 = .ok (.iconst 5, 1) := by decide +kernel
theorem dL_lands_259 : decode cL_lands 259 = .ok (.if_icmp .ne 353, 3) := by decide +kernel
theorem dL_lands_262 : decode cL_lands 262 = .ok (.aload_n 0, 1) := by decide +kernel
theorem dL_lands_263 : decode cL_lands 263 = .ok (.iconst 0, 1) := by decide +kernel
theorem dL_lands_264 : decode cL_lands 264 = .ok (.invokevirtual 91, 3) := by decide +kernel
theorem dL_lands_267 : decode cL_lands 267 = .ok (.sipush 176, 3) := by decide +kernel
theorem dL_lands_270 : decode cL_lands 270 = .ok (.if_icmp .ne 342, 3) := by decide +kernel
theorem dL_lands_273 : decode cL_lands 273 = .ok (.aload_n 0, 1) := by decide +kernel
theorem dL_lands_274 : decode cL_lands 274 = .ok (.iconst 0, 1) := by decide +kernel
theorem dL_lands_275 : decode cL_lands 275 = .ok (.invokevirtual 94, 3) := by decide +kernel
theorem dL_lands_278 : decode cL_lands 278 = .ok (.sipush 176, 3) := by decide +kernel
theorem dL_lands_281 : decode cL_lands 281 = .ok (.if_icmp .ne 331, 3) := by decide +kernel
theorem dL_lands_284 : decode cL_lands 284 = .ok (.aload_n 0, 1) := by decide +kernel
theorem dL_lands_285 : decode cL_lands 285 = .ok (.iconst 1, 1) := by decide +kernel
theorem dL_lands_286 : decode cL_lands 286 = .ok (.iconst 2, 1) := by decide +kernel
theorem dL_lands_287 : decode cL_lands 287 = .ok (.invokevirtual 103, 3) := by decide +kernel
theorem dL_lands_290 : decode cL_lands 290 = .ok (.iconst 4, 1) := by decide +kernel
theorem dL_lands_291 : decode cL_lands 291 = .ok (.if_icmp .ne 321, 3) := by decide +kernel
theorem dL_lands_294 : decode cL_lands 294 = .ok (.aload_n 0, 1) := by decide +kernel
theorem dL_lands_295 : decode cL_lands 295 = .ok (.iconst 0, 1) := by decide +kernel
theorem dL_lands_296 : decode cL_lands 296 = .ok (.iconst 1, 1) := by decide +kernel
theorem dL_lands_297 : decode cL_lands 297 = .ok (.invokevirtual 103, 3) := by decide +kernel
theorem dL_lands_300 : decode cL_lands 300 = .ok (.bipush 12, 2) := by decide +kernel
theorem dL_lands_302 : decode cL_lands 302 = .ok (.if_icmp .ne 310, 3) := by decide +kernel
theorem dL_lands_305 : decode cL_lands 305 = .ok (.aload_n 0, 1) := by decide +kernel
theorem dL_lands_306 : decode cL_lands 306 = .ok (.iconst 2, 1) := by decide +kernel
theorem dL_lands_307 : decode cL_lands 307 = .ok (.iconst 0, 1) := by decide +kernel
theorem dL_lands_308 : decode cL_lands 308 = .ok (.invokevirtual 103, 3) := by decide +kernel
theorem dL_lands_311 : decode cL_lands 311 = .ok (.bipush 8, 2) := by decide +kernel
theorem dL_lands_313 : decode cL_lands 313 = .ok (.if_icmp .ne 299, 3) := by decide +kernel
theorem dL_lands_316 : decode cL_lands 316 = .ok (.aload_n 0, 1) := by decide +kernel
theorem dL_lands_317 : decode cL_lands 317 = .ok (.iconst 1, 1) := by decide +kernel
theorem dL_lands_318 : decode cL_lands 318 = .ok (.iconst 1, 1) := by decide +kernel
theorem dL_lands_319 : decode cL_lands 319 = .ok (.invokevirtual 103, 3) := by decide +kernel
theorem dL_lands_322 : decode cL_lands 322 = .ok (.ifCond .ne 290, 3) := by decide +kernel
theorem dL_lands_325 : decode cL_lands 325 = .ok (.aload_n 0, 1) := by decide +kernel
theorem dL_lands_326 : decode cL_lands 326 = .ok (.iconst 0, 1) := by decide +kernel
theorem dL_lands_327 : decode cL_lands 327 = .ok (.bipush 20, 2) := by decide +kernel
theorem dL_lands_329 : decode cL_lands 329 = .ok (.iconst 1, 1) := by decide +kernel
theorem dL_lands_330 : decode cL_lands 330 = .ok (.invokestatic 186, 3) := by decide +kernel
theorem dL_lands_333 : decode cL_lands 333 = .ok (.ifCond .eq 279, 3) := by decide +kernel
theorem dL_lands_336 : decode cL_lands 336 = .ok (.aload_n 0, 1) := by decide +kernel
theorem dL_lands_337 : decode cL_lands 337 = .ok (.iconst 1, 1) := by decide +kernel
theorem dL_lands_338 : decode cL_lands 338 = .ok (.bipush 16, 2) := by decide +kernel
theorem dL_lands_340 : decode cL_lands 340 = .ok (.iconst 0, 1) := by decide +kernel
theorem dL_lands_341 : decode cL_lands 341 = .ok (.invokestatic 186, 3) := by decide +kernel
