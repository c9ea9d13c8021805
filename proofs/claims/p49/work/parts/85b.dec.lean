theorem dL_refusesOne_0 : decode cL_refusesOne 0 = .ok (.iload_n 1, 1) := by decide +kernel
theorem dL_refusesOne_1 : decode cL_refusesOne 1 = .ok (.iconst 0, 1) := by decide +kernel
theorem dL_refusesOne_2 : decode cL_refusesOne 2 = .ok (.bipush 15, 2) := by decide +kernel
theorem dL_refusesOne_4 : decode cL_refusesOne 4 = .ok (.invokestatic 147, 3) := by decide +kernel
theorem dL_refusesOne_7 : decode cL_refusesOne 7 = .ok (.istore_n 2, 1) := by decide +kernel
theorem dL_refusesOne_8 : decode cL_refusesOne 8 = .ok (.iload_n 1, 1) := by decide +kernel
theorem dL_refusesOne_9 : decode cL_refusesOne 9 = .ok (.iconst 0, 1) := by decide +kernel
theorem dL_refusesOne_10 : decode cL_refusesOne 10 = .ok (.bipush 7, 2) := by decide +kernel
theorem dL_refusesOne_12 : decode cL_refusesOne 12 = .ok (.invokestatic 147, 3) := by decide +kernel
theorem dL_refusesOne_15 : decode cL_refusesOne 15 = .ok (.istore_n 3, 1) := by decide +kernel
theorem dL_refusesOne_16 : decode cL_refusesOne 16 = .ok (.iload_n 1, 1) := by decide +kernel
theorem dL_refusesOne_17 : decode cL_refusesOne 17 = .ok (.iconst 1, 1) := by decide +kernel
theorem dL_refusesOne_18 : decode cL_refusesOne 18 = .ok (.bipush 7, 2) := by decide +kernel
theorem dL_refusesOne_20 : decode cL_refusesOne 20 = .ok (.invokestatic 147, 3) := by decide +kernel
theorem dL_refusesOne_23 : decode cL_refusesOne 23 = .ok (.istore 4, 2) := by decide +kernel
theorem dL_refusesOne_25 : decode cL_refusesOne 25 = .ok (.iload_n 1, 1) := by decide +kernel
theorem dL_refusesOne_26 : decode cL_refusesOne 26 = .ok (.ifCond .ne 7, 3) := by decide +kernel
theorem dL_refusesOne_29 : decode cL_refusesOne 29 = .ok (.iconst 0, 1) := by decide +kernel
theorem dL_refusesOne_30 : decode cL_refusesOne 30 = .ok (.goto 24, 3) := by decide +kernel
theorem dL_refusesOne_33 : decode cL_refusesOne 33 = .ok (.iload_n 1, 1) := by decide +kernel
theorem dL_refusesOne_34 : decode cL_refusesOne 34 = .ok (.iconst 1, 1) := by decide +kernel
theorem dL_refusesOne_35 : decode cL_refusesOne 35 = .ok (.if_icmp .ne 7, 3) := by decide +kernel
theorem dL_refusesOne_38 : decode cL_refusesOne 38 = .ok (.iconst 3, 1) := by decide +kernel
theorem dL_refusesOne_39 : decode cL_refusesOne 39 = .ok (.goto 15, 3) := by decide +kernel
theorem dL_refusesOne_42 : decode cL_refusesOne 42 = .ok (.iload_n 1, 1) := by decide +kernel
theorem dL_refusesOne_43 : decode cL_refusesOne 43 = .ok (.iconst 2, 1) := by decide +kernel
theorem dL_refusesOne_44 : decode cL_refusesOne 44 = .ok (.if_icmp .ne 8, 3) := by decide +kernel
theorem dL_refusesOne_47 : decode cL_refusesOne 47 = .ok (.ldc 146, 2) := by decide +kernel
theorem dL_refusesOne_49 : decode cL_refusesOne 49 = .ok (.goto 5, 3) := by decide +kernel
theorem dL_refusesOne_52 : decode cL_refusesOne 52 = .ok (.bipush 32, 2) := by decide +kernel
theorem dL_refusesOne_54 : decode cL_refusesOne 54 = .ok (.istore 5, 2) := by decide +kernel
theorem dL_refusesOne_56 : decode cL_refusesOne 56 = .ok (.aload_n 0, 1) := by decide +kernel
theorem dL_refusesOne_57 : decode cL_refusesOne 57 = .ok (.iconst 0, 1) := by decide +kernel
theorem dL_refusesOne_58 : decode cL_refusesOne 58 = .ok (.iload_n 2, 1) := by decide +kernel
theorem dL_refusesOne_59 : decode cL_refusesOne 59 = .ok (.iconst 0, 1) := by decide +kernel
theorem dL_refusesOne_60 : decode cL_refusesOne 60 = .ok (.iconst 3, 1) := by decide +kernel
theorem dL_refusesOne_61 : decode cL_refusesOne 61 = .ok (.iconst 0, 1) := by decide +kernel
theorem dL_refusesOne_62 : decode cL_refusesOne 62 = .ok (.invokestatic 150, 3) := by decide +kernel
theorem dL_refusesOne_65 : decode cL_refusesOne 65 = .ok (.sipush (-2011), 3) := by decide +kernel
theorem dL_refusesOne_68 : decode cL_refusesOne 68 = .ok (.if_icmp .ne 394, 3) := by decide +kernel
theorem dL_refusesOne_71 : decode cL_refusesOne 71 = .ok (.aload_n 0, 1) := by decide +kernel
theorem dL_refusesOne_72 : decode cL_refusesOne 72 = .ok (.iconst 0, 1) := by decide +kernel
theorem dL_refusesOne_73 : decode cL_refusesOne 73 = .ok (.iconst 0, 1) := by decide +kernel
theorem dL_refusesOne_74 : decode cL_refusesOne 74 = .ok (.iload_n 2, 1) := by decide +kernel
theorem dL_refusesOne_75 : decode cL_refusesOne 75 = .ok (.iconst 3, 1) := by decide +kernel
theorem dL_refusesOne_76 : decode cL_refusesOne 76 = .ok (.iconst 0, 1) := by decide +kernel
theorem dL_refusesOne_77 : decode cL_refusesOne 77 = .ok (.invokestatic 150, 3) := by decide +kernel
theorem dL_refusesOne_80 : decode cL_refusesOne 80 = .ok (.sipush (-2011), 3) := by decide +kernel
theorem dL_refusesOne_83 : decode cL_refusesOne 83 = .ok (.if_icmp .ne 379, 3) := by decide +kernel
theorem dL_refusesOne_86 : decode cL_refusesOne 86 = .ok (.aload_n 0, 1) := by decide +kernel
theorem dL_refusesOne_87 : decode cL_refusesOne 87 = .ok (.iconst 0, 1) := by decide +kernel
theorem dL_refusesOne_88 : decode cL_refusesOne 88 = .ok (.iconst 0, 1) := by decide +kernel
theorem dL_refusesOne_89 : decode cL_refusesOne 89 = .ok (.iconst 0, 1) := by decide +kernel
theorem dL_refusesOne_90 : decode cL_refusesOne 90 = .ok (.iconst 3, 1) := by decide +kernel
theorem dL_refusesOne_91 : decode cL_refusesOne 91 = .ok (.iload_n 3, 1) := by decide +kernel
theorem dL_refusesOne_92 : decode cL_refusesOne 92 = .ok (.invokestatic 150, 3) := by decide +kernel
theorem dL_refusesOne_95 : decode cL_refusesOne 95 = .ok (.sipush (-2011), 3) := by decide +kernel
theorem dL_refusesOne_98 : decode cL_refusesOne 98 = .ok (.if_icmp .ne 364, 3) := by decide +kernel
theorem dL_refusesOne_101 : decode cL_refusesOne 101 = .ok (.aload_n 0, 1) := by decide +kernel
theorem dL_refusesOne_102 : decode cL_refusesOne 102 = .ok (.iconst 0, 1) := by decide +kernel
theorem dL_refusesOne_103 : decode cL_refusesOne 103 = .ok (.iconst 0, 1) := by decide +kernel
theorem dL_refusesOne_104 : decode cL_refusesOne 104 = .ok (.iconst 0, 1) := by decide +kernel
theorem dL_refusesOne_105 : decode cL_refusesOne 105 = .ok (.iload 5, 2) := by decide +kernel
theorem dL_refusesOne_107 : decode cL_refusesOne 107 = .ok (.bipush 7, 2) := by decide +kernel
theorem dL_refusesOne_109 : decode cL_refusesOne 109 = .ok (.invokestatic 150, 3) := by decide +kernel
theorem dL_refusesOne_112 : decode cL_refusesOne 112 = .ok (.sipush (-2012), 3) := by decide +kernel
theorem dL_refusesOne_115 : decode cL_refusesOne 115 = .ok (.if_icmp .ne 347, 3) := by decide +kernel
theorem dL_refusesOne_118 : decode cL_refusesOne 118 = .ok (.aload_n 0, 1) := by decide +kernel
theorem dL_refusesOne_119 : decode cL_refusesOne 119 = .ok (.iconst 0, 1) := by decide +kernel
theorem dL_refusesOne_120 : decode cL_refusesOne 120 = .ok (.iconst 1, 1) := by decide +kernel
theorem dL_refusesOne_121 : decode cL_refusesOne 121 = .ok (.iload_n 1, 1) := by decide +kernel
theorem dL_refusesOne_122 : decode cL_refusesOne 122 = .ok (.iadd, 1) := by decide +kernel
theorem dL_refusesOne_123 : decode cL_refusesOne 123 = .ok (.iconst 0, 1) := by decide +kernel
theorem dL_refusesOne_124 : decode cL_refusesOne 124 = .ok (.bipush 8, 2) := by decide +kernel
theorem dL_refusesOne_126 : decode cL_refusesOne 126 = .ok (.iconst 0, 1) := by decide +kernel
theorem dL_refusesOne_127 : decode cL_refusesOne 127 = .ok (.invokestatic 150, 3) := by decide +kernel
theorem dL_refusesOne_130 : decode cL_refusesOne 130 = .ok (.sipush (-2012), 3) := by decide +kernel
theorem dL_refusesOne_133 : decode cL_refusesOne 133 = .ok (.if_icmp .ne 329, 3) := by decide +kernel
theorem dL_refusesOne_136 : decode cL_refusesOne 136 = .ok (.aload_n 0, 1) := by decide +kernel
theorem dL_refusesOne_137 : decode cL_refusesOne 137 = .ok (.iconst 1, 1) := by decide +kernel
theorem dL_refusesOne_138 : decode cL_refusesOne 138 = .ok (.iload_n 2, 1) := by decide +kernel
theorem dL_refusesOne_139 : decode cL_refusesOne 139 = .ok (.iconst 0, 1) := by decide +kernel
theorem dL_refusesOne_140 : decode cL_refusesOne 140 = .ok (.iconst 3, 1) := by decide +kernel
theorem dL_refusesOne_141 : decode cL_refusesOne 141 = .ok (.iconst 0, 1) := by decide +kernel
theorem dL_refusesOne_142 : decode cL_refusesOne 142 = .ok (.invokestatic 150, 3) := by decide +kernel
theorem dL_refusesOne_145 : decode cL_refusesOne 145 = .ok (.sipush (-2011), 3) := by decide +kernel
theorem dL_refusesOne_148 : decode cL_refusesOne 148 = .ok (.if_icmp .ne 314, 3) := by decide +kernel
theorem dL_refusesOne_151 : decode cL_refusesOne 151 = .ok (.aload_n 0, 1) := by decide +kernel
theorem dL_refusesOne_152 : decode cL_refusesOne 152 = .ok (.iconst 1, 1) := by decide +kernel
theorem dL_refusesOne_153 : decode cL_refusesOne 153 = .ok (.bipush 15, 2) := by decide +kernel
theorem dL_refusesOne_155 : decode cL_refusesOne 155 = .ok (.iload_n 2, 1) := by decide +kernel
theorem dL_refusesOne_156 : decode cL_refusesOne 156 = .ok (.iconst 1, 1) := by decide +kernel
theorem dL_refusesOne_157 : decode cL_refusesOne 157 = .ok (.bipush 99, 2) := by decide +kernel
theorem dL_refusesOne_159 : decode cL_refusesOne 159 = .ok (.invokestatic 150, 3) := by decide +kernel
theorem dL_refusesOne_162 : decode cL_refusesOne 162 = .ok (.sipush (-2011), 3) := by decide +kernel
theorem dL_refusesOne_165 : decode cL_refusesOne 165 = .ok (.if_icmp .ne 297, 3) := by decide +kernel
theorem dL_refusesOne_168 : decode cL_refusesOne 168 = .ok (.aload_n 0, 1) := by decide +kernel
theorem dL_refusesOne_169 : decode cL_refusesOne 169 = .ok (.iconst 1, 1) := by decide +kernel
theorem dL_refusesOne_170 : decode cL_refusesOne 170 = .ok (.iconst 0, 1) := by decide +kernel
theorem dL_refusesOne_171 : decode cL_refusesOne 171 = .ok (.iconst 0, 1) := by decide +kernel
theorem dL_refusesOne_172 : decode cL_refusesOne 172 = .ok (.iload 5, 2) := by decide +kernel
theorem dL_refusesOne_174 : decode cL_refusesOne 174 = .ok (.iconst 0, 1) := by decide +kernel
theorem dL_refusesOne_175 : decode cL_refusesOne 175 = .ok (.invokestatic 150, 3) := by decide +kernel
theorem dL_refusesOne_178 : decode cL_refusesOne 178 = .ok (.sipush (-2012), 3) := by decide +kernel
theorem dL_refusesOne_181 : decode cL_refusesOne 181 = .ok (.if_icmp .ne 281, 3) := by decide +kernel
theorem dL_refusesOne_184 : decode cL_refusesOne 184 = .ok (.aload_n 0, 1) := by decide +kernel
theorem dL_refusesOne_185 : decode cL_refusesOne 185 = .ok (.iconst 1, 1) := by decide +kernel
theorem dL_refusesOne_186 : decode cL_refusesOne 186 = .ok (.iconst 0, 1) := by decide +kernel
theorem dL_refusesOne_187 : decode cL_refusesOne 187 = .ok (.iconst 0, 1) := by decide +kernel
theorem dL_refusesOne_188 : decode cL_refusesOne 188 = .ok (.iconst 1, 1) := by decide +kernel
theorem dL_refusesOne_189 : decode cL_refusesOne 189 = .ok (.iload_n 1, 1) := by decide +kernel
theorem dL_refusesOne_190 : decode cL_refusesOne 190 = .ok (.bipush (-9), 2) := by decide +kernel
theorem dL_refusesOne_192 : decode cL_refusesOne 192 = .ok (.bipush 9, 2) := by decide +kernel
theorem dL_refusesOne_194 : decode cL_refusesOne 194 = .ok (.invokestatic 147, 3) := by decide +kernel
theorem dL_refusesOne_197 : decode cL_refusesOne 197 = .ok (.invokestatic 150, 3) := by decide +kernel
theorem dL_refusesOne_200 : decode cL_refusesOne 200 = .ok (.sipush (-2012), 3) := by decide +kernel
theorem dL_refusesOne_203 : decode cL_refusesOne 203 = .ok (.if_icmp .ne 259, 3) := by decide +kernel
theorem dL_refusesOne_206 : decode cL_refusesOne 206 = .ok (.aload_n 0, 1) := by decide +kernel
theorem dL_refusesOne_207 : decode cL_refusesOne 207 = .ok (.iconst 2, 1) := by decide +kernel
theorem dL_refusesOne_208 : decode cL_refusesOne 208 = .ok (.iload_n 1, 1) := by decide +kernel
theorem dL_refusesOne_209 : decode cL_refusesOne 209 = .ok (.iconst 1, 1) := by decide +kernel
theorem dL_refusesOne_210 : decode cL_refusesOne 210 = .ok (.bipush 10, 2) := by decide +kernel
theorem dL_refusesOne_212 : decode cL_refusesOne 212 = .ok (.invokestatic 147, 3) := by decide +kernel
theorem dL_refusesOne_215 : decode cL_refusesOne 215 = .ok (.iconst 0, 1) := by decide +kernel
theorem dL_refusesOne_216 : decode cL_refusesOne 216 = .ok (.iconst 0, 1) := by decide +kernel
theorem dL_refusesOne_217 : decode cL_refusesOne 217 = .ok (.iconst 0, 1) := by decide +kernel
theorem dL_refusesOne_218 : decode cL_refusesOne 218 = .ok (.invokestatic 150, 3) := by decide +kernel
theorem dL_refusesOne_221 : decode cL_refusesOne 221 = .ok (.sipush (-2012), 3) := by decide +kernel
theorem dL_refusesOne_224 : decode cL_refusesOne 224 = .ok (.if_icmp .ne 238, 3) := by decide +kernel
theorem dL_refusesOne_227 : decode cL_refusesOne 227 = .ok (.aload_n 0, 1) := by decide +kernel
theorem dL_refusesOne_228 : decode cL_refusesOne 228 = .ok (.iconst 3, 1) := by decide +kernel
theorem dL_refusesOne_229 : decode cL_refusesOne 229 = .ok (.iload 4, 2) := by decide +kernel
theorem dL_refusesOne_231 : decode cL_refusesOne 231 = .ok (.iconst 0, 1) := by decide +kernel
theorem dL_refusesOne_232 : decode cL_refusesOne 232 = .ok (.iconst 0, 1) := by decide +kernel
theorem dL_refusesOne_233 : decode cL_refusesOne 233 = .ok (.iconst 0, 1) := by decide +kernel
theorem dL_refusesOne_234 : decode cL_refusesOne 234 = .ok (.invokestatic 150, 3) := by decide +kernel
theorem dL_refusesOne_237 : decode cL_refusesOne 237 = .ok (.sipush (-2011), 3) := by decide +kernel
theorem dL_refusesOne_240 : decode cL_refusesOne 240 = .ok (.if_icmp .ne 222, 3) := by decide +kernel
theorem dL_refusesOne_243 : decode cL_refusesOne 243 = .ok (.aload_n 0, 1) := by decide +kernel
theorem dL_refusesOne_244 : decode cL_refusesOne 244 = .ok (.iconst 3, 1) := by decide +kernel
theorem dL_refusesOne_245 : decode cL_refusesOne 245 = .ok (.iconst 1, 1) := by decide +kernel
theorem dL_refusesOne_246 : decode cL_refusesOne 246 = .ok (.iload_n 2, 1) := by decide +kernel
theorem dL_refusesOne_247 : decode cL_refusesOne 247 = .ok (.iconst 0, 1) := by decide +kernel
theorem dL_refusesOne_248 : decode cL_refusesOne 248 = .ok (.iconst 0, 1) := by decide +kernel
theorem dL_refusesOne_249 : decode cL_refusesOne 249 = .ok (.invokestatic 150, 3) := by decide +kernel
theorem dL_refusesOne_252 : decode cL_refusesOne 252 = .ok (.sipush (-2011), 3) := by decide +kernel
theorem dL_refusesOne_255 : decode cL_refusesOne 255 = .ok (.if_icmp .ne 207, 3) := by decide +kernel
theorem dL_refusesOne_258 : decode cL_refusesOne 258 = .ok (.aload_n 0, 1) := by decide +kernel
theorem dL_refusesOne_259 : decode cL_refusesOne 259 = .ok (.iconst 3, 1) := by decide +kernel
theorem dL_refusesOne_260 : decode cL_refusesOne 260 = .ok (.iconst 1, 1) := by decide +kernel
theorem dL_refusesOne_261 : decode cL_refusesOne 261 = .ok (.iconst 0, 1) := by decide +kernel
theorem dL_refusesOne_262 : decode cL_refusesOne 262 = .ok (.iload_n 2, 1) := by decide +kernel
theorem dL_refusesOne_263 : decode cL_refusesOne 263 = .ok (.iconst 0, 1) := by decide +kernel
theorem dL_refusesOne_264 : decode cL_refusesOne 264 = .ok (.invokestatic 150, 3) := by decide +kernel
theorem dL_refusesOne_267 : decode cL_refusesOne 267 = .ok (.sipush (-2011), 3) := by decide +kernel
theorem dL_refusesOne_270 : decode cL_refusesOne 270 = .ok (.if_icmp .ne 192, 3) := by decide +kernel
theorem dL_refusesOne_273 : decode cL_refusesOne 273 = .ok (.aload_n 0, 1) := by decide +kernel
theorem dL_refusesOne_274 : decode cL_refusesOne 274 = .ok (.iconst 4, 1) := by decide +kernel
theorem dL_refusesOne_275 : decode cL_refusesOne 275 = .ok (.iload 4, 2) := by decide +kernel
theorem dL_refusesOne_277 : decode cL_refusesOne 277 = .ok (.iconst 0, 1) := by decide +kernel
theorem dL_refusesOne_278 : decode cL_refusesOne 278 = .ok (.iconst 0, 1) := by decide +kernel
theorem dL_refusesOne_279 : decode cL_refusesOne 279 = .ok (.iconst 3, 1) := by decide +kernel
theorem dL_refusesOne_280 : decode cL_refusesOne 280 = .ok (.invokestatic 150, 3) := by decide +kernel
theorem dL_refusesOne_283 : decode cL_refusesOne 283 = .ok (.sipush (-2011), 3) := by decide +kernel
theorem dL_refusesOne_286 : decode cL_refusesOne 286 = .ok (.if_icmp .ne 176, 3) := by decide +kernel
theorem dL_refusesOne_289 : decode cL_refusesOne 289 = .ok (.aload_n 0, 1) := by decide +kernel
theorem dL_refusesOne_290 : decode cL_refusesOne 290 = .ok (.iconst 4, 1) := by decide +kernel
theorem dL_refusesOne_291 : decode cL_refusesOne 291 = .ok (.bipush 7, 2) := by decide +kernel
theorem dL_refusesOne_293 : decode cL_refusesOne 293 = .ok (.iload_n 2, 1) := by decide +kernel
theorem dL_refusesOne_294 : decode cL_refusesOne 294 = .ok (.iconst 0, 1) := by decide +kernel
theorem dL_refusesOne_295 : decode cL_refusesOne 295 = .ok (.iconst 3, 1) := by decide +kernel
theorem dL_refusesOne_296 : decode cL_refusesOne 296 = .ok (.invokestatic 150, 3) := by decide +kernel
theorem dL_refusesOne_299 : decode cL_refusesOne 299 = .ok (.sipush (-2011), 3) := by decide +kernel
theorem dL_refusesOne_302 : decode cL_refusesOne 302 = .ok (.if_icmp .ne 160, 3) := by decide +kernel
theorem dL_refusesOne_305 : decode cL_refusesOne 305 = .ok (.aload_n 0, 1) := by decide +kernel
theorem dL_refusesOne_306 : decode cL_refusesOne 306 = .ok (.iconst 4, 1) := by decide +kernel
theorem dL_refusesOne_307 : decode cL_refusesOne 307 = .ok (.bipush 7, 2) := by decide +kernel
theorem dL_refusesOne_309 : decode cL_refusesOne 309 = .ok (.iconst 0, 1) := by decide +kernel
theorem dL_refusesOne_310 : decode cL_refusesOne 310 = .ok (.iload_n 2, 1) := by decide +kernel
theorem dL_refusesOne_311 : decode cL_refusesOne 311 = .ok (.iconst 3, 1) := by decide +kernel
theorem dL_refusesOne_312 : decode cL_refusesOne 312 = .ok (.invokestatic 150, 3) := by decide +kernel
theorem dL_refusesOne_315 : decode cL_refusesOne 315 = .ok (.sipush (-2011), 3) := by decide +kernel
theorem dL_refusesOne_318 : decode cL_refusesOne 318 = .ok (.if_icmp .ne 144, 3) := by decide +kernel
theorem dL_refusesOne_321 : decode cL_refusesOne 321 = .ok (.aload_n 0, 1) := by decide +kernel
theorem dL_refusesOne_322 : decode cL_refusesOne 322 = .ok (.iconst 4, 1) := by decide +kernel
theorem dL_refusesOne_323 : decode cL_refusesOne 323 = .ok (.bipush 7, 2) := by decide +kernel
theorem dL_refusesOne_325 : decode cL_refusesOne 325 = .ok (.iconst 0, 1) := by decide +kernel
theorem dL_refusesOne_326 : decode cL_refusesOne 326 = .ok (.iconst 0, 1) := by decide +kernel
theorem dL_refusesOne_327 : decode cL_refusesOne 327 = .ok (.iload 5, 2) := by decide +kernel
theorem dL_refusesOne_329 : decode cL_refusesOne 329 = .ok (.invokestatic 150, 3) := by decide +kernel
theorem dL_refusesOne_332 : decode cL_refusesOne 332 = .ok (.sipush (-2012), 3) := by decide +kernel
