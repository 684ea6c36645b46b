theorem d_Model_mix_0 : decode b_Model_mix 0 = .ok (.iconst 0, 1) := by decide +kernel
theorem d_Model_mix_1 : decode b_Model_mix 1 = .ok (.istore_n 2, 1) := by decide +kernel
theorem d_Model_mix_2 : decode b_Model_mix 2 = .ok (.iload_n 2, 1) := by decide +kernel
theorem d_Model_mix_3 : decode b_Model_mix 3 = .ok (.bipush 64, 2) := by decide +kernel
theorem d_Model_mix_5 : decode b_Model_mix 5 = .ok (.if_icmp .ge 156, 3) := by decide +kernel
theorem d_Model_mix_8 : decode b_Model_mix 8 = .ok (.iload_n 2, 1) := by decide +kernel
theorem d_Model_mix_9 : decode b_Model_mix 9 = .ok (.bipush 16, 2) := by decide +kernel
theorem d_Model_mix_11 : decode b_Model_mix 11 = .ok (.if_icmp .ge 59, 3) := by decide +kernel
theorem d_Model_mix_14 : decode b_Model_mix 14 = .ok (.aload_n 0, 1) := by decide +kernel
theorem d_Model_mix_15 : decode b_Model_mix 15 = .ok (.getfield 41, 3) := by decide +kernel
theorem d_Model_mix_18 : decode b_Model_mix 18 = .ok (.iload_n 2, 1) := by decide +kernel
theorem d_Model_mix_19 : decode b_Model_mix 19 = .ok (.iconst 0, 1) := by decide +kernel
theorem d_Model_mix_20 : decode b_Model_mix 20 = .ok (.iastore, 1) := by decide +kernel
theorem d_Model_mix_21 : decode b_Model_mix 21 = .ok (.iconst 0, 1) := by decide +kernel
theorem d_Model_mix_22 : decode b_Model_mix 22 = .ok (.istore_n 3, 1) := by decide +kernel
theorem d_Model_mix_23 : decode b_Model_mix 23 = .ok (.iload_n 3, 1) := by decide +kernel
theorem d_Model_mix_24 : decode b_Model_mix 24 = .ok (.iconst 4, 1) := by decide +kernel
theorem d_Model_mix_25 : decode b_Model_mix 25 = .ok (.if_icmp .ge 42, 3) := by decide +kernel
theorem d_Model_mix_28 : decode b_Model_mix 28 = .ok (.aload_n 0, 1) := by decide +kernel
theorem d_Model_mix_29 : decode b_Model_mix 29 = .ok (.getfield 41, 3) := by decide +kernel
theorem d_Model_mix_32 : decode b_Model_mix 32 = .ok (.iload_n 2, 1) := by decide +kernel
theorem d_Model_mix_33 : decode b_Model_mix 33 = .ok (.aload_n 0, 1) := by decide +kernel
theorem d_Model_mix_34 : decode b_Model_mix 34 = .ok (.getfield 41, 3) := by decide +kernel
theorem d_Model_mix_37 : decode b_Model_mix 37 = .ok (.iload_n 2, 1) := by decide +kernel
theorem d_Model_mix_38 : decode b_Model_mix 38 = .ok (.iaload, 1) := by decide +kernel
theorem d_Model_mix_39 : decode b_Model_mix 39 = .ok (.sipush 256, 3) := by decide +kernel
theorem d_Model_mix_42 : decode b_Model_mix 42 = .ok (.imul, 1) := by decide +kernel
theorem d_Model_mix_43 : decode b_Model_mix 43 = .ok (.aload_n 0, 1) := by decide +kernel
theorem d_Model_mix_44 : decode b_Model_mix 44 = .ok (.getfield 29, 3) := by decide +kernel
theorem d_Model_mix_47 : decode b_Model_mix 47 = .ok (.iload_n 1, 1) := by decide +kernel
theorem d_Model_mix_48 : decode b_Model_mix 48 = .ok (.iconst 4, 1) := by decide +kernel
theorem d_Model_mix_49 : decode b_Model_mix 49 = .ok (.iload_n 2, 1) := by decide +kernel
theorem d_Model_mix_50 : decode b_Model_mix 50 = .ok (.imul, 1) := by decide +kernel
theorem d_Model_mix_51 : decode b_Model_mix 51 = .ok (.iadd, 1) := by decide +kernel
theorem d_Model_mix_52 : decode b_Model_mix 52 = .ok (.iload_n 3, 1) := by decide +kernel
theorem d_Model_mix_53 : decode b_Model_mix 53 = .ok (.iadd, 1) := by decide +kernel
theorem d_Model_mix_54 : decode b_Model_mix 54 = .ok (.baload, 1) := by decide +kernel
theorem d_Model_mix_55 : decode b_Model_mix 55 = .ok (.sipush 255, 3) := by decide +kernel
theorem d_Model_mix_58 : decode b_Model_mix 58 = .ok (.iand, 1) := by decide +kernel
theorem d_Model_mix_59 : decode b_Model_mix 59 = .ok (.iadd, 1) := by decide +kernel
theorem d_Model_mix_60 : decode b_Model_mix 60 = .ok (.iastore, 1) := by decide +kernel
theorem d_Model_mix_61 : decode b_Model_mix 61 = .ok (.iinc 3 1, 3) := by decide +kernel
theorem d_Model_mix_64 : decode b_Model_mix 64 = .ok (.goto (-41), 3) := by decide +kernel
theorem d_Model_mix_67 : decode b_Model_mix 67 = .ok (.goto 88, 3) := by decide +kernel
theorem d_Model_mix_70 : decode b_Model_mix 70 = .ok (.aload_n 0, 1) := by decide +kernel
theorem d_Model_mix_71 : decode b_Model_mix 71 = .ok (.getfield 41, 3) := by decide +kernel
theorem d_Model_mix_74 : decode b_Model_mix 74 = .ok (.iload_n 2, 1) := by decide +kernel
theorem d_Model_mix_75 : decode b_Model_mix 75 = .ok (.bipush 15, 2) := by decide +kernel
theorem d_Model_mix_77 : decode b_Model_mix 77 = .ok (.isub, 1) := by decide +kernel
theorem d_Model_mix_78 : decode b_Model_mix 78 = .ok (.iaload, 1) := by decide +kernel
theorem d_Model_mix_79 : decode b_Model_mix 79 = .ok (.istore_n 3, 1) := by decide +kernel
theorem d_Model_mix_80 : decode b_Model_mix 80 = .ok (.aload_n 0, 1) := by decide +kernel
theorem d_Model_mix_81 : decode b_Model_mix 81 = .ok (.getfield 41, 3) := by decide +kernel
theorem d_Model_mix_84 : decode b_Model_mix 84 = .ok (.iload_n 2, 1) := by decide +kernel
theorem d_Model_mix_85 : decode b_Model_mix 85 = .ok (.iconst 2, 1) := by decide +kernel
theorem d_Model_mix_86 : decode b_Model_mix 86 = .ok (.isub, 1) := by decide +kernel
theorem d_Model_mix_87 : decode b_Model_mix 87 = .ok (.iaload, 1) := by decide +kernel
theorem d_Model_mix_88 : decode b_Model_mix 88 = .ok (.istore 4, 2) := by decide +kernel
theorem d_Model_mix_90 : decode b_Model_mix 90 = .ok (.aload_n 0, 1) := by decide +kernel
theorem d_Model_mix_91 : decode b_Model_mix 91 = .ok (.getfield 41, 3) := by decide +kernel
theorem d_Model_mix_94 : decode b_Model_mix 94 = .ok (.iload_n 2, 1) := by decide +kernel
theorem d_Model_mix_95 : decode b_Model_mix 95 = .ok (.iload 4, 2) := by decide +kernel
theorem d_Model_mix_97 : decode b_Model_mix 97 = .ok (.bipush 17, 2) := by decide +kernel
theorem d_Model_mix_99 : decode b_Model_mix 99 = .ok (.invokestatic 72, 3) := by decide +kernel
theorem d_Model_mix_102 : decode b_Model_mix 102 = .ok (.iload 4, 2) := by decide +kernel
theorem d_Model_mix_104 : decode b_Model_mix 104 = .ok (.bipush 19, 2) := by decide +kernel
theorem d_Model_mix_106 : decode b_Model_mix 106 = .ok (.invokestatic 72, 3) := by decide +kernel
theorem d_Model_mix_109 : decode b_Model_mix 109 = .ok (.ixor, 1) := by decide +kernel
theorem d_Model_mix_110 : decode b_Model_mix 110 = .ok (.iload 4, 2) := by decide +kernel
theorem d_Model_mix_112 : decode b_Model_mix 112 = .ok (.bipush 10, 2) := by decide +kernel
theorem d_Model_mix_114 : decode b_Model_mix 114 = .ok (.iushr, 1) := by decide +kernel
theorem d_Model_mix_115 : decode b_Model_mix 115 = .ok (.ixor, 1) := by decide +kernel
theorem d_Model_mix_116 : decode b_Model_mix 116 = .ok (.aload_n 0, 1) := by decide +kernel
theorem d_Model_mix_117 : decode b_Model_mix 117 = .ok (.getfield 41, 3) := by decide +kernel
theorem d_Model_mix_120 : decode b_Model_mix 120 = .ok (.iload_n 2, 1) := by decide +kernel
theorem d_Model_mix_121 : decode b_Model_mix 121 = .ok (.bipush 7, 2) := by decide +kernel
theorem d_Model_mix_123 : decode b_Model_mix 123 = .ok (.isub, 1) := by decide +kernel
theorem d_Model_mix_124 : decode b_Model_mix 124 = .ok (.iaload, 1) := by decide +kernel
theorem d_Model_mix_125 : decode b_Model_mix 125 = .ok (.iadd, 1) := by decide +kernel
theorem d_Model_mix_126 : decode b_Model_mix 126 = .ok (.iload_n 3, 1) := by decide +kernel
theorem d_Model_mix_127 : decode b_Model_mix 127 = .ok (.bipush 7, 2) := by decide +kernel
theorem d_Model_mix_129 : decode b_Model_mix 129 = .ok (.invokestatic 72, 3) := by decide +kernel
theorem d_Model_mix_132 : decode b_Model_mix 132 = .ok (.iload_n 3, 1) := by decide +kernel
theorem d_Model_mix_133 : decode b_Model_mix 133 = .ok (.bipush 18, 2) := by decide +kernel
theorem d_Model_mix_135 : decode b_Model_mix 135 = .ok (.invokestatic 72, 3) := by decide +kernel
theorem d_Model_mix_138 : decode b_Model_mix 138 = .ok (.ixor, 1) := by decide +kernel
theorem d_Model_mix_139 : decode b_Model_mix 139 = .ok (.iload_n 3, 1) := by decide +kernel
theorem d_Model_mix_140 : decode b_Model_mix 140 = .ok (.iconst 3, 1) := by decide +kernel
theorem d_Model_mix_141 : decode b_Model_mix 141 = .ok (.iushr, 1) := by decide +kernel
theorem d_Model_mix_142 : decode b_Model_mix 142 = .ok (.ixor, 1) := by decide +kernel
theorem d_Model_mix_143 : decode b_Model_mix 143 = .ok (.iadd, 1) := by decide +kernel
theorem d_Model_mix_144 : decode b_Model_mix 144 = .ok (.aload_n 0, 1) := by decide +kernel
theorem d_Model_mix_145 : decode b_Model_mix 145 = .ok (.getfield 41, 3) := by decide +kernel
theorem d_Model_mix_148 : decode b_Model_mix 148 = .ok (.iload_n 2, 1) := by decide +kernel
theorem d_Model_mix_149 : decode b_Model_mix 149 = .ok (.bipush 16, 2) := by decide +kernel
theorem d_Model_mix_151 : decode b_Model_mix 151 = .ok (.isub, 1) := by decide +kernel
theorem d_Model_mix_152 : decode b_Model_mix 152 = .ok (.iaload, 1) := by decide +kernel
theorem d_Model_mix_153 : decode b_Model_mix 153 = .ok (.iadd, 1) := by decide +kernel
theorem d_Model_mix_154 : decode b_Model_mix 154 = .ok (.iastore, 1) := by decide +kernel
theorem d_Model_mix_155 : decode b_Model_mix 155 = .ok (.iinc 2 1, 3) := by decide +kernel
theorem d_Model_mix_158 : decode b_Model_mix 158 = .ok (.goto (-156), 3) := by decide +kernel
theorem d_Model_mix_161 : decode b_Model_mix 161 = .ok (.iconst 0, 1) := by decide +kernel
theorem d_Model_mix_162 : decode b_Model_mix 162 = .ok (.istore_n 2, 1) := by decide +kernel
theorem d_Model_mix_163 : decode b_Model_mix 163 = .ok (.iload_n 2, 1) := by decide +kernel
theorem d_Model_mix_164 : decode b_Model_mix 164 = .ok (.bipush 8, 2) := by decide +kernel
theorem d_Model_mix_166 : decode b_Model_mix 166 = .ok (.if_icmp .ge 21, 3) := by decide +kernel
theorem d_Model_mix_169 : decode b_Model_mix 169 = .ok (.aload_n 0, 1) := by decide +kernel
theorem d_Model_mix_170 : decode b_Model_mix 170 = .ok (.getfield 38, 3) := by decide +kernel
theorem d_Model_mix_173 : decode b_Model_mix 173 = .ok (.iload_n 2, 1) := by decide +kernel
theorem d_Model_mix_174 : decode b_Model_mix 174 = .ok (.aload_n 0, 1) := by decide +kernel
theorem d_Model_mix_175 : decode b_Model_mix 175 = .ok (.getfield 35, 3) := by decide +kernel
theorem d_Model_mix_178 : decode b_Model_mix 178 = .ok (.iload_n 2, 1) := by decide +kernel
theorem d_Model_mix_179 : decode b_Model_mix 179 = .ok (.iaload, 1) := by decide +kernel
theorem d_Model_mix_180 : decode b_Model_mix 180 = .ok (.iastore, 1) := by decide +kernel
theorem d_Model_mix_181 : decode b_Model_mix 181 = .ok (.iinc 2 1, 3) := by decide +kernel
theorem d_Model_mix_184 : decode b_Model_mix 184 = .ok (.goto (-21), 3) := by decide +kernel
theorem d_Model_mix_187 : decode b_Model_mix 187 = .ok (.iconst 0, 1) := by decide +kernel
theorem d_Model_mix_188 : decode b_Model_mix 188 = .ok (.istore_n 2, 1) := by decide +kernel
theorem d_Model_mix_189 : decode b_Model_mix 189 = .ok (.iload_n 2, 1) := by decide +kernel
theorem d_Model_mix_190 : decode b_Model_mix 190 = .ok (.bipush 64, 2) := by decide +kernel
theorem d_Model_mix_192 : decode b_Model_mix 192 = .ok (.if_icmp .ge 204, 3) := by decide +kernel
theorem d_Model_mix_195 : decode b_Model_mix 195 = .ok (.aload_n 0, 1) := by decide +kernel
theorem d_Model_mix_196 : decode b_Model_mix 196 = .ok (.getfield 38, 3) := by decide +kernel
theorem d_Model_mix_199 : decode b_Model_mix 199 = .ok (.iconst 4, 1) := by decide +kernel
theorem d_Model_mix_200 : decode b_Model_mix 200 = .ok (.iaload, 1) := by decide +kernel
theorem d_Model_mix_201 : decode b_Model_mix 201 = .ok (.istore_n 3, 1) := by decide +kernel
theorem d_Model_mix_202 : decode b_Model_mix 202 = .ok (.aload_n 0, 1) := by decide +kernel
theorem d_Model_mix_203 : decode b_Model_mix 203 = .ok (.getfield 38, 3) := by decide +kernel
theorem d_Model_mix_206 : decode b_Model_mix 206 = .ok (.iconst 0, 1) := by decide +kernel
theorem d_Model_mix_207 : decode b_Model_mix 207 = .ok (.iaload, 1) := by decide +kernel
theorem d_Model_mix_208 : decode b_Model_mix 208 = .ok (.istore 4, 2) := by decide +kernel
theorem d_Model_mix_210 : decode b_Model_mix 210 = .ok (.aload_n 0, 1) := by decide +kernel
theorem d_Model_mix_211 : decode b_Model_mix 211 = .ok (.getfield 38, 3) := by decide +kernel
theorem d_Model_mix_214 : decode b_Model_mix 214 = .ok (.bipush 7, 2) := by decide +kernel
theorem d_Model_mix_216 : decode b_Model_mix 216 = .ok (.iaload, 1) := by decide +kernel
theorem d_Model_mix_217 : decode b_Model_mix 217 = .ok (.iload_n 3, 1) := by decide +kernel
theorem d_Model_mix_218 : decode b_Model_mix 218 = .ok (.bipush 6, 2) := by decide +kernel
theorem d_Model_mix_220 : decode b_Model_mix 220 = .ok (.invokestatic 72, 3) := by decide +kernel
theorem d_Model_mix_223 : decode b_Model_mix 223 = .ok (.iload_n 3, 1) := by decide +kernel
theorem d_Model_mix_224 : decode b_Model_mix 224 = .ok (.bipush 11, 2) := by decide +kernel
theorem d_Model_mix_226 : decode b_Model_mix 226 = .ok (.invokestatic 72, 3) := by decide +kernel
theorem d_Model_mix_229 : decode b_Model_mix 229 = .ok (.ixor, 1) := by decide +kernel
theorem d_Model_mix_230 : decode b_Model_mix 230 = .ok (.iload_n 3, 1) := by decide +kernel
theorem d_Model_mix_231 : decode b_Model_mix 231 = .ok (.bipush 25, 2) := by decide +kernel
theorem d_Model_mix_233 : decode b_Model_mix 233 = .ok (.invokestatic 72, 3) := by decide +kernel
theorem d_Model_mix_236 : decode b_Model_mix 236 = .ok (.ixor, 1) := by decide +kernel
theorem d_Model_mix_237 : decode b_Model_mix 237 = .ok (.iadd, 1) := by decide +kernel
theorem d_Model_mix_238 : decode b_Model_mix 238 = .ok (.iload_n 3, 1) := by decide +kernel
theorem d_Model_mix_239 : decode b_Model_mix 239 = .ok (.aload_n 0, 1) := by decide +kernel
theorem d_Model_mix_240 : decode b_Model_mix 240 = .ok (.getfield 38, 3) := by decide +kernel
theorem d_Model_mix_243 : decode b_Model_mix 243 = .ok (.iconst 5, 1) := by decide +kernel
theorem d_Model_mix_244 : decode b_Model_mix 244 = .ok (.iaload, 1) := by decide +kernel
theorem d_Model_mix_245 : decode b_Model_mix 245 = .ok (.iand, 1) := by decide +kernel
theorem d_Model_mix_246 : decode b_Model_mix 246 = .ok (.iload_n 3, 1) := by decide +kernel
theorem d_Model_mix_247 : decode b_Model_mix 247 = .ok (.iconst (-1), 1) := by decide +kernel
theorem d_Model_mix_248 : decode b_Model_mix 248 = .ok (.ixor, 1) := by decide +kernel
theorem d_Model_mix_249 : decode b_Model_mix 249 = .ok (.aload_n 0, 1) := by decide +kernel
theorem d_Model_mix_250 : decode b_Model_mix 250 = .ok (.getfield 38, 3) := by decide +kernel
theorem d_Model_mix_253 : decode b_Model_mix 253 = .ok (.bipush 6, 2) := by decide +kernel
theorem d_Model_mix_255 : decode b_Model_mix 255 = .ok (.iaload, 1) := by decide +kernel
theorem d_Model_mix_256 : decode b_Model_mix 256 = .ok (.iand, 1) := by decide +kernel
theorem d_Model_mix_257 : decode b_Model_mix 257 = .ok (.ixor, 1) := by decide +kernel
theorem d_Model_mix_258 : decode b_Model_mix 258 = .ok (.iadd, 1) := by decide +kernel
theorem d_Model_mix_259 : decode b_Model_mix 259 = .ok (.aload_n 0, 1) := by decide +kernel
theorem d_Model_mix_260 : decode b_Model_mix 260 = .ok (.getfield 7, 3) := by decide +kernel
theorem d_Model_mix_263 : decode b_Model_mix 263 = .ok (.iload_n 2, 1) := by decide +kernel
theorem d_Model_mix_264 : decode b_Model_mix 264 = .ok (.iaload, 1) := by decide +kernel
theorem d_Model_mix_265 : decode b_Model_mix 265 = .ok (.iadd, 1) := by decide +kernel
theorem d_Model_mix_266 : decode b_Model_mix 266 = .ok (.aload_n 0, 1) := by decide +kernel
theorem d_Model_mix_267 : decode b_Model_mix 267 = .ok (.getfield 41, 3) := by decide +kernel
theorem d_Model_mix_270 : decode b_Model_mix 270 = .ok (.iload_n 2, 1) := by decide +kernel
theorem d_Model_mix_271 : decode b_Model_mix 271 = .ok (.iaload, 1) := by decide +kernel
theorem d_Model_mix_272 : decode b_Model_mix 272 = .ok (.iadd, 1) := by decide +kernel
theorem d_Model_mix_273 : decode b_Model_mix 273 = .ok (.istore 5, 2) := by decide +kernel
theorem d_Model_mix_275 : decode b_Model_mix 275 = .ok (.iload 4, 2) := by decide +kernel
theorem d_Model_mix_277 : decode b_Model_mix 277 = .ok (.iconst 2, 1) := by decide +kernel
theorem d_Model_mix_278 : decode b_Model_mix 278 = .ok (.invokestatic 72, 3) := by decide +kernel
theorem d_Model_mix_281 : decode b_Model_mix 281 = .ok (.iload 4, 2) := by decide +kernel
theorem d_Model_mix_283 : decode b_Model_mix 283 = .ok (.bipush 13, 2) := by decide +kernel
theorem d_Model_mix_285 : decode b_Model_mix 285 = .ok (.invokestatic 72, 3) := by decide +kernel
theorem d_Model_mix_288 : decode b_Model_mix 288 = .ok (.ixor, 1) := by decide +kernel
theorem d_Model_mix_289 : decode b_Model_mix 289 = .ok (.iload 4, 2) := by decide +kernel
theorem d_Model_mix_291 : decode b_Model_mix 291 = .ok (.bipush 22, 2) := by decide +kernel
theorem d_Model_mix_293 : decode b_Model_mix 293 = .ok (.invokestatic 72, 3) := by decide +kernel
theorem d_Model_mix_296 : decode b_Model_mix 296 = .ok (.ixor, 1) := by decide +kernel
theorem d_Model_mix_297 : decode b_Model_mix 297 = .ok (.iload 4, 2) := by decide +kernel
theorem d_Model_mix_299 : decode b_Model_mix 299 = .ok (.aload_n 0, 1) := by decide +kernel
theorem d_Model_mix_300 : decode b_Model_mix 300 = .ok (.getfield 38, 3) := by decide +kernel
theorem d_Model_mix_303 : decode b_Model_mix 303 = .ok (.iconst 1, 1) := by decide +kernel
theorem d_Model_mix_304 : decode b_Model_mix 304 = .ok (.iaload, 1) := by decide +kernel
theorem d_Model_mix_305 : decode b_Model_mix 305 = .ok (.iand, 1) := by decide +kernel
theorem d_Model_mix_306 : decode b_Model_mix 306 = .ok (.iload 4, 2) := by decide +kernel
theorem d_Model_mix_308 : decode b_Model_mix 308 = .ok (.aload_n 0, 1) := by decide +kernel
theorem d_Model_mix_309 : decode b_Model_mix 309 = .ok (.getfield 38, 3) := by decide +kernel
theorem d_Model_mix_312 : decode b_Model_mix 312 = .ok (.iconst 2, 1) := by decide +kernel
theorem d_Model_mix_313 : decode b_Model_mix 313 = .ok (.iaload, 1) := by decide +kernel
theorem d_Model_mix_314 : decode b_Model_mix 314 = .ok (.iand, 1) := by decide +kernel
theorem d_Model_mix_315 : decode b_Model_mix 315 = .ok (.ixor, 1) := by decide +kernel
theorem d_Model_mix_316 : decode b_Model_mix 316 = .ok (.aload_n 0, 1) := by decide +kernel
theorem d_Model_mix_317 : decode b_Model_mix 317 = .ok (.getfield 38, 3) := by decide +kernel
theorem d_Model_mix_320 : decode b_Model_mix 320 = .ok (.iconst 1, 1) := by decide +kernel
theorem d_Model_mix_321 : decode b_Model_mix 321 = .ok (.iaload, 1) := by decide +kernel
theorem d_Model_mix_322 : decode b_Model_mix 322 = .ok (.aload_n 0, 1) := by decide +kernel
theorem d_Model_mix_323 : decode b_Model_mix 323 = .ok (.getfield 38, 3) := by decide +kernel
theorem d_Model_mix_326 : decode b_Model_mix 326 = .ok (.iconst 2, 1) := by decide +kernel
theorem d_Model_mix_327 : decode b_Model_mix 327 = .ok (.iaload, 1) := by decide +kernel
theorem d_Model_mix_328 : decode b_Model_mix 328 = .ok (.iand, 1) := by decide +kernel
theorem d_Model_mix_329 : decode b_Model_mix 329 = .ok (.ixor, 1) := by decide +kernel
theorem d_Model_mix_330 : decode b_Model_mix 330 = .ok (.iadd, 1) := by decide +kernel
theorem d_Model_mix_331 : decode b_Model_mix 331 = .ok (.istore 6, 2) := by decide +kernel
theorem d_Model_mix_333 : decode b_Model_mix 333 = .ok (.bipush 7, 2) := by decide +kernel
theorem d_Model_mix_335 : decode b_Model_mix 335 = .ok (.istore 7, 2) := by decide +kernel
theorem d_Model_mix_337 : decode b_Model_mix 337 = .ok (.iload 7, 2) := by decide +kernel
theorem d_Model_mix_339 : decode b_Model_mix 339 = .ok (.ifCond .le 25, 3) := by decide +kernel
theorem d_Model_mix_342 : decode b_Model_mix 342 = .ok (.aload_n 0, 1) := by decide +kernel
theorem d_Model_mix_343 : decode b_Model_mix 343 = .ok (.getfield 38, 3) := by decide +kernel
theorem d_Model_mix_346 : decode b_Model_mix 346 = .ok (.iload 7, 2) := by decide +kernel
theorem d_Model_mix_348 : decode b_Model_mix 348 = .ok (.aload_n 0, 1) := by decide +kernel
theorem d_Model_mix_349 : decode b_Model_mix 349 = .ok (.getfield 38, 3) := by decide +kernel
theorem d_Model_mix_352 : decode b_Model_mix 352 = .ok (.iload 7, 2) := by decide +kernel
theorem d_Model_mix_354 : decode b_Model_mix 354 = .ok (.iconst 1, 1) := by decide +kernel
theorem d_Model_mix_355 : decode b_Model_mix 355 = .ok (.isub, 1) := by decide +kernel
theorem d_Model_mix_356 : decode b_Model_mix 356 = .ok (.iaload, 1) := by decide +kernel
theorem d_Model_mix_357 : decode b_Model_mix 357 = .ok (.iastore, 1) := by decide +kernel
theorem d_Model_mix_358 : decode b_Model_mix 358 = .ok (.iinc 7 (-1), 3) := by decide +kernel
theorem d_Model_mix_361 : decode b_Model_mix 361 = .ok (.goto (-24), 3) := by decide +kernel
theorem d_Model_mix_364 : decode b_Model_mix 364 = .ok (.aload_n 0, 1) := by decide +kernel
theorem d_Model_mix_365 : decode b_Model_mix 365 = .ok (.getfield 38, 3) := by decide +kernel
theorem d_Model_mix_368 : decode b_Model_mix 368 = .ok (.iconst 4, 1) := by decide +kernel
theorem d_Model_mix_369 : decode b_Model_mix 369 = .ok (.aload_n 0, 1) := by decide +kernel
theorem d_Model_mix_370 : decode b_Model_mix 370 = .ok (.getfield 38, 3) := by decide +kernel
theorem d_Model_mix_373 : decode b_Model_mix 373 = .ok (.iconst 4, 1) := by decide +kernel
theorem d_Model_mix_374 : decode b_Model_mix 374 = .ok (.iaload, 1) := by decide +kernel
theorem d_Model_mix_375 : decode b_Model_mix 375 = .ok (.iload 5, 2) := by decide +kernel
theorem d_Model_mix_377 : decode b_Model_mix 377 = .ok (.iadd, 1) := by decide +kernel
theorem d_Model_mix_378 : decode b_Model_mix 378 = .ok (.iastore, 1) := by decide +kernel
theorem d_Model_mix_379 : decode b_Model_mix 379 = .ok (.aload_n 0, 1) := by decide +kernel
theorem d_Model_mix_380 : decode b_Model_mix 380 = .ok (.getfield 38, 3) := by decide +kernel
theorem d_Model_mix_383 : decode b_Model_mix 383 = .ok (.iconst 0, 1) := by decide +kernel
theorem d_Model_mix_384 : decode b_Model_mix 384 = .ok (.iload 5, 2) := by decide +kernel
theorem d_Model_mix_386 : decode b_Model_mix 386 = .ok (.iload 6, 2) := by decide +kernel
theorem d_Model_mix_388 : decode b_Model_mix 388 = .ok (.iadd, 1) := by decide +kernel
theorem d_Model_mix_389 : decode b_Model_mix 389 = .ok (.iastore, 1) := by decide +kernel
theorem d_Model_mix_390 : decode b_Model_mix 390 = .ok (.iinc 2 1, 3) := by decide +kernel
theorem d_Model_mix_393 : decode b_Model_mix 393 = .ok (.goto (-204), 3) := by decide +kernel
theorem d_Model_mix_396 : decode b_Model_mix 396 = .ok (.iconst 0, 1) := by decide +kernel
theorem d_Model_mix_397 : decode b_Model_mix 397 = .ok (.istore_n 2, 1) := by decide +kernel
theorem d_Model_mix_398 : decode b_Model_mix 398 = .ok (.iload_n 2, 1) := by decide +kernel
theorem d_Model_mix_399 : decode b_Model_mix 399 = .ok (.bipush 8, 2) := by decide +kernel
theorem d_Model_mix_401 : decode b_Model_mix 401 = .ok (.if_icmp .ge 28, 3) := by decide +kernel
theorem d_Model_mix_404 : decode b_Model_mix 404 = .ok (.aload_n 0, 1) := by decide +kernel
theorem d_Model_mix_405 : decode b_Model_mix 405 = .ok (.getfield 35, 3) := by decide +kernel
theorem d_Model_mix_408 : decode b_Model_mix 408 = .ok (.iload_n 2, 1) := by decide +kernel
theorem d_Model_mix_409 : decode b_Model_mix 409 = .ok (.aload_n 0, 1) := by decide +kernel
theorem d_Model_mix_410 : decode b_Model_mix 410 = .ok (.getfield 35, 3) := by decide +kernel
theorem d_Model_mix_413 : decode b_Model_mix 413 = .ok (.iload_n 2, 1) := by decide +kernel
theorem d_Model_mix_414 : decode b_Model_mix 414 = .ok (.iaload, 1) := by decide +kernel
theorem d_Model_mix_415 : decode b_Model_mix 415 = .ok (.aload_n 0, 1) := by decide +kernel
theorem d_Model_mix_416 : decode b_Model_mix 416 = .ok (.getfield 38, 3) := by decide +kernel
theorem d_Model_mix_419 : decode b_Model_mix 419 = .ok (.iload_n 2, 1) := by decide +kernel
theorem d_Model_mix_420 : decode b_Model_mix 420 = .ok (.iaload, 1) := by decide +kernel
theorem d_Model_mix_421 : decode b_Model_mix 421 = .ok (.iadd, 1) := by decide +kernel
theorem d_Model_mix_422 : decode b_Model_mix 422 = .ok (.iastore, 1) := by decide +kernel
theorem d_Model_mix_423 : decode b_Model_mix 423 = .ok (.iinc 2 1, 3) := by decide +kernel
theorem d_Model_mix_426 : decode b_Model_mix 426 = .ok (.goto (-28), 3) := by decide +kernel
theorem d_Model_mix_429 : decode b_Model_mix 429 = .ok (.return_, 1) := by decide +kernel
theorem d_Model_markOf_0 : decode b_Model_markOf 0 = .ok (.aload_n 0, 1) := by decide +kernel
theorem d_Model_markOf_1 : decode b_Model_markOf 1 = .ok (.getfield 76, 3) := by decide +kernel
theorem d_Model_markOf_4 : decode b_Model_markOf 4 = .ok (.bipush 64, 2) := by decide +kernel
theorem d_Model_markOf_6 : decode b_Model_markOf 6 = .ok (.if_icmp .le 15, 3) := by decide +kernel
theorem d_Model_markOf_9 : decode b_Model_markOf 9 = .ok (.aload_n 0, 1) := by decide +kernel
theorem d_Model_markOf_10 : decode b_Model_markOf 10 = .ok (.aload_n 0, 1) := by decide +kernel
theorem d_Model_markOf_11 : decode b_Model_markOf 11 = .ok (.getfield 16, 3) := by decide +kernel
theorem d_Model_markOf_14 : decode b_Model_markOf 14 = .ok (.aload_n 0, 1) := by decide +kernel
theorem d_Model_markOf_15 : decode b_Model_markOf 15 = .ok (.getfield 76, 3) := by decide +kernel
theorem d_Model_markOf_18 : decode b_Model_markOf 18 = .ok (.invokevirtual 79, 3) := by decide +kernel
theorem d_Model_markOf_21 : decode b_Model_markOf 21 = .ok (.iconst 0, 1) := by decide +kernel
theorem d_Model_markOf_22 : decode b_Model_markOf 22 = .ok (.istore_n 3, 1) := by decide +kernel
theorem d_Model_markOf_23 : decode b_Model_markOf 23 = .ok (.iload_n 3, 1) := by decide +kernel
theorem d_Model_markOf_24 : decode b_Model_markOf 24 = .ok (.bipush 64, 2) := by decide +kernel
theorem d_Model_markOf_26 : decode b_Model_markOf 26 = .ok (.if_icmp .ge 61, 3) := by decide +kernel
theorem d_Model_markOf_29 : decode b_Model_markOf 29 = .ok (.aload_n 0, 1) := by decide +kernel
theorem d_Model_markOf_30 : decode b_Model_markOf 30 = .ok (.getfield 44, 3) := by decide +kernel
theorem d_Model_markOf_33 : decode b_Model_markOf 33 = .ok (.iload_n 3, 1) := by decide +kernel
theorem d_Model_markOf_34 : decode b_Model_markOf 34 = .ok (.aload_n 0, 1) := by decide +kernel
theorem d_Model_markOf_35 : decode b_Model_markOf 35 = .ok (.getfield 76, 3) := by decide +kernel
theorem d_Model_markOf_38 : decode b_Model_markOf 38 = .ok (.bipush 64, 2) := by decide +kernel
theorem d_Model_markOf_40 : decode b_Model_markOf 40 = .ok (.if_icmp .le 22, 3) := by decide +kernel
theorem d_Model_markOf_43 : decode b_Model_markOf 43 = .ok (.iload_n 3, 1) := by decide +kernel
theorem d_Model_markOf_44 : decode b_Model_markOf 44 = .ok (.bipush 32, 2) := by decide +kernel
theorem d_Model_markOf_46 : decode b_Model_markOf 46 = .ok (.if_icmp .ge 12, 3) := by decide +kernel
theorem d_Model_markOf_49 : decode b_Model_markOf 49 = .ok (.aload_n 0, 1) := by decide +kernel
theorem d_Model_markOf_50 : decode b_Model_markOf 50 = .ok (.getfield 32, 3) := by decide +kernel
theorem d_Model_markOf_53 : decode b_Model_markOf 53 = .ok (.iload_n 3, 1) := by decide +kernel
theorem d_Model_markOf_54 : decode b_Model_markOf 54 = .ok (.baload, 1) := by decide +kernel
theorem d_Model_markOf_55 : decode b_Model_markOf 55 = .ok (.goto 25, 3) := by decide +kernel
theorem d_Model_markOf_58 : decode b_Model_markOf 58 = .ok (.iconst 0, 1) := by decide +kernel
theorem d_Model_markOf_59 : decode b_Model_markOf 59 = .ok (.goto 21, 3) := by decide +kernel
theorem d_Model_markOf_62 : decode b_Model_markOf 62 = .ok (.iload_n 3, 1) := by decide +kernel
theorem d_Model_markOf_63 : decode b_Model_markOf 63 = .ok (.aload_n 0, 1) := by decide +kernel
theorem d_Model_markOf_64 : decode b_Model_markOf 64 = .ok (.getfield 76, 3) := by decide +kernel
theorem d_Model_markOf_67 : decode b_Model_markOf 67 = .ok (.if_icmp .ge 12, 3) := by decide +kernel
theorem d_Model_markOf_70 : decode b_Model_markOf 70 = .ok (.aload_n 0, 1) := by decide +kernel
theorem d_Model_markOf_71 : decode b_Model_markOf 71 = .ok (.getfield 16, 3) := by decide +kernel
theorem d_Model_markOf_74 : decode b_Model_markOf 74 = .ok (.iload_n 3, 1) := by decide +kernel
theorem d_Model_markOf_75 : decode b_Model_markOf 75 = .ok (.baload, 1) := by decide +kernel
theorem d_Model_markOf_76 : decode b_Model_markOf 76 = .ok (.goto 4, 3) := by decide +kernel
theorem d_Model_markOf_79 : decode b_Model_markOf 79 = .ok (.iconst 0, 1) := by decide +kernel
theorem d_Model_markOf_80 : decode b_Model_markOf 80 = .ok (.bastore, 1) := by decide +kernel
theorem d_Model_markOf_81 : decode b_Model_markOf 81 = .ok (.iinc 3 1, 3) := by decide +kernel
theorem d_Model_markOf_84 : decode b_Model_markOf 84 = .ok (.goto (-61), 3) := by decide +kernel
theorem d_Model_markOf_87 : decode b_Model_markOf 87 = .ok (.aload_n 0, 1) := by decide +kernel
theorem d_Model_markOf_88 : decode b_Model_markOf 88 = .ok (.iconst 0, 1) := by decide +kernel
theorem d_Model_markOf_89 : decode b_Model_markOf 89 = .ok (.putfield 61, 3) := by decide +kernel
theorem d_Model_markOf_92 : decode b_Model_markOf 92 = .ok (.iconst 0, 1) := by decide +kernel
theorem d_Model_markOf_93 : decode b_Model_markOf 93 = .ok (.istore_n 3, 1) := by decide +kernel
theorem d_Model_markOf_94 : decode b_Model_markOf 94 = .ok (.iload_n 3, 1) := by decide +kernel
theorem d_Model_markOf_95 : decode b_Model_markOf 95 = .ok (.bipush 64, 2) := by decide +kernel
theorem d_Model_markOf_97 : decode b_Model_markOf 97 = .ok (.if_icmp .ge 22, 3) := by decide +kernel
theorem d_Model_markOf_100 : decode b_Model_markOf 100 = .ok (.aload_n 0, 1) := by decide +kernel
theorem d_Model_markOf_101 : decode b_Model_markOf 101 = .ok (.aload_n 0, 1) := by decide +kernel
theorem d_Model_markOf_102 : decode b_Model_markOf 102 = .ok (.getfield 44, 3) := by decide +kernel
theorem d_Model_markOf_105 : decode b_Model_markOf 105 = .ok (.iload_n 3, 1) := by decide +kernel
theorem d_Model_markOf_106 : decode b_Model_markOf 106 = .ok (.baload, 1) := by decide +kernel
theorem d_Model_markOf_107 : decode b_Model_markOf 107 = .ok (.bipush 54, 2) := by decide +kernel
theorem d_Model_markOf_109 : decode b_Model_markOf 109 = .ok (.ixor, 1) := by decide +kernel
theorem d_Model_markOf_110 : decode b_Model_markOf 110 = .ok (.invokevirtual 65, 3) := by decide +kernel
theorem d_Model_markOf_113 : decode b_Model_markOf 113 = .ok (.iinc 3 1, 3) := by decide +kernel
theorem d_Model_markOf_116 : decode b_Model_markOf 116 = .ok (.goto (-22), 3) := by decide +kernel
theorem d_Model_markOf_119 : decode b_Model_markOf 119 = .ok (.iconst 0, 1) := by decide +kernel
theorem d_Model_markOf_120 : decode b_Model_markOf 120 = .ok (.istore_n 3, 1) := by decide +kernel
theorem d_Model_markOf_121 : decode b_Model_markOf 121 = .ok (.iload_n 3, 1) := by decide +kernel
theorem d_Model_markOf_122 : decode b_Model_markOf 122 = .ok (.iload_n 2, 1) := by decide +kernel
theorem d_Model_markOf_123 : decode b_Model_markOf 123 = .ok (.if_icmp .ge 16, 3) := by decide +kernel
theorem d_Model_markOf_126 : decode b_Model_markOf 126 = .ok (.aload_n 0, 1) := by decide +kernel
theorem d_Model_markOf_127 : decode b_Model_markOf 127 = .ok (.aload_n 1, 1) := by decide +kernel
theorem d_Model_markOf_128 : decode b_Model_markOf 128 = .ok (.iload_n 3, 1) := by decide +kernel
theorem d_Model_markOf_129 : decode b_Model_markOf 129 = .ok (.baload, 1) := by decide +kernel
theorem d_Model_markOf_130 : decode b_Model_markOf 130 = .ok (.invokevirtual 65, 3) := by decide +kernel
theorem d_Model_markOf_133 : decode b_Model_markOf 133 = .ok (.iinc 3 1, 3) := by decide +kernel
theorem d_Model_markOf_136 : decode b_Model_markOf 136 = .ok (.goto (-15), 3) := by decide +kernel
theorem d_Model_markOf_139 : decode b_Model_markOf 139 = .ok (.aload_n 0, 1) := by decide +kernel
theorem d_Model_markOf_140 : decode b_Model_markOf 140 = .ok (.invokevirtual 83, 3) := by decide +kernel
theorem d_Model_markOf_143 : decode b_Model_markOf 143 = .ok (.aload_n 0, 1) := by decide +kernel
theorem d_Model_markOf_144 : decode b_Model_markOf 144 = .ok (.iconst 0, 1) := by decide +kernel
theorem d_Model_markOf_145 : decode b_Model_markOf 145 = .ok (.putfield 61, 3) := by decide +kernel
theorem d_Model_markOf_148 : decode b_Model_markOf 148 = .ok (.iconst 0, 1) := by decide +kernel
theorem d_Model_markOf_149 : decode b_Model_markOf 149 = .ok (.istore_n 3, 1) := by decide +kernel
theorem d_Model_markOf_150 : decode b_Model_markOf 150 = .ok (.iload_n 3, 1) := by decide +kernel
theorem d_Model_markOf_151 : decode b_Model_markOf 151 = .ok (.bipush 64, 2) := by decide +kernel
theorem d_Model_markOf_153 : decode b_Model_markOf 153 = .ok (.if_icmp .ge 22, 3) := by decide +kernel
theorem d_Model_markOf_156 : decode b_Model_markOf 156 = .ok (.aload_n 0, 1) := by decide +kernel
theorem d_Model_markOf_157 : decode b_Model_markOf 157 = .ok (.aload_n 0, 1) := by decide +kernel
theorem d_Model_markOf_158 : decode b_Model_markOf 158 = .ok (.getfield 44, 3) := by decide +kernel
theorem d_Model_markOf_161 : decode b_Model_markOf 161 = .ok (.iload_n 3, 1) := by decide +kernel
theorem d_Model_markOf_162 : decode b_Model_markOf 162 = .ok (.baload, 1) := by decide +kernel
theorem d_Model_markOf_163 : decode b_Model_markOf 163 = .ok (.bipush 92, 2) := by decide +kernel
theorem d_Model_markOf_165 : decode b_Model_markOf 165 = .ok (.ixor, 1) := by decide +kernel
theorem d_Model_markOf_166 : decode b_Model_markOf 166 = .ok (.invokevirtual 65, 3) := by decide +kernel
theorem d_Model_markOf_169 : decode b_Model_markOf 169 = .ok (.iinc 3 1, 3) := by decide +kernel
theorem d_Model_markOf_172 : decode b_Model_markOf 172 = .ok (.goto (-22), 3) := by decide +kernel
theorem d_Model_markOf_175 : decode b_Model_markOf 175 = .ok (.iconst 0, 1) := by decide +kernel
theorem d_Model_markOf_176 : decode b_Model_markOf 176 = .ok (.istore_n 3, 1) := by decide +kernel
theorem d_Model_markOf_177 : decode b_Model_markOf 177 = .ok (.iload_n 3, 1) := by decide +kernel
theorem d_Model_markOf_178 : decode b_Model_markOf 178 = .ok (.bipush 32, 2) := by decide +kernel
theorem d_Model_markOf_180 : decode b_Model_markOf 180 = .ok (.if_icmp .ge 19, 3) := by decide +kernel
theorem d_Model_markOf_183 : decode b_Model_markOf 183 = .ok (.aload_n 0, 1) := by decide +kernel
theorem d_Model_markOf_184 : decode b_Model_markOf 184 = .ok (.aload_n 0, 1) := by decide +kernel
theorem d_Model_markOf_185 : decode b_Model_markOf 185 = .ok (.getfield 32, 3) := by decide +kernel
theorem d_Model_markOf_188 : decode b_Model_markOf 188 = .ok (.iload_n 3, 1) := by decide +kernel
theorem d_Model_markOf_189 : decode b_Model_markOf 189 = .ok (.baload, 1) := by decide +kernel
theorem d_Model_markOf_190 : decode b_Model_markOf 190 = .ok (.invokevirtual 65, 3) := by decide +kernel
theorem d_Model_markOf_193 : decode b_Model_markOf 193 = .ok (.iinc 3 1, 3) := by decide +kernel
theorem d_Model_markOf_196 : decode b_Model_markOf 196 = .ok (.goto (-19), 3) := by decide +kernel
theorem d_Model_markOf_199 : decode b_Model_markOf 199 = .ok (.aload_n 0, 1) := by decide +kernel
theorem d_Model_markOf_200 : decode b_Model_markOf 200 = .ok (.invokevirtual 83, 3) := by decide +kernel
theorem d_Model_markOf_203 : decode b_Model_markOf 203 = .ok (.return_, 1) := by decide +kernel
theorem d_Model_sumOf_0 : decode b_Model_sumOf 0 = .ok (.aload_n 0, 1) := by decide +kernel
theorem d_Model_sumOf_1 : decode b_Model_sumOf 1 = .ok (.iconst 0, 1) := by decide +kernel
theorem d_Model_sumOf_2 : decode b_Model_sumOf 2 = .ok (.putfield 61, 3) := by decide +kernel
theorem d_Model_sumOf_5 : decode b_Model_sumOf 5 = .ok (.iconst 0, 1) := by decide +kernel
theorem d_Model_sumOf_6 : decode b_Model_sumOf 6 = .ok (.istore_n 3, 1) := by decide +kernel
theorem d_Model_sumOf_7 : decode b_Model_sumOf 7 = .ok (.iload_n 3, 1) := by decide +kernel
theorem d_Model_sumOf_8 : decode b_Model_sumOf 8 = .ok (.iload_n 2, 1) := by decide +kernel
theorem d_Model_sumOf_9 : decode b_Model_sumOf 9 = .ok (.if_icmp .ge 16, 3) := by decide +kernel
theorem d_Model_sumOf_12 : decode b_Model_sumOf 12 = .ok (.aload_n 0, 1) := by decide +kernel
theorem d_Model_sumOf_13 : decode b_Model_sumOf 13 = .ok (.aload_n 1, 1) := by decide +kernel
theorem d_Model_sumOf_14 : decode b_Model_sumOf 14 = .ok (.iload_n 3, 1) := by decide +kernel
theorem d_Model_sumOf_15 : decode b_Model_sumOf 15 = .ok (.baload, 1) := by decide +kernel
theorem d_Model_sumOf_16 : decode b_Model_sumOf 16 = .ok (.invokevirtual 65, 3) := by decide +kernel
theorem d_Model_sumOf_19 : decode b_Model_sumOf 19 = .ok (.iinc 3 1, 3) := by decide +kernel
theorem d_Model_sumOf_22 : decode b_Model_sumOf 22 = .ok (.goto (-15), 3) := by decide +kernel
theorem d_Model_sumOf_25 : decode b_Model_sumOf 25 = .ok (.aload_n 0, 1) := by decide +kernel
theorem d_Model_sumOf_26 : decode b_Model_sumOf 26 = .ok (.invokevirtual 83, 3) := by decide +kernel
theorem d_Model_sumOf_29 : decode b_Model_sumOf 29 = .ok (.return_, 1) := by decide +kernel
