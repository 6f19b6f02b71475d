/-! decode rows of the law -/
theorem dd_L_law_0 : decode cc_L_law 0 = .ok (.new 8, 3) := by decide +kernel
theorem dd_L_law_3 : decode cc_L_law 3 = .ok (.dup, 1) := by decide +kernel
theorem dd_L_law_4 : decode cc_L_law 4 = .ok (.invokespecial 42, 3) := by decide +kernel
theorem dd_L_law_7 : decode cc_L_law 7 = .ok (.astore_n 1, 1) := by decide +kernel
theorem dd_L_law_8 : decode cc_L_law 8 = .ok (.new 43, 3) := by decide +kernel
theorem dd_L_law_11 : decode cc_L_law 11 = .ok (.dup, 1) := by decide +kernel
theorem dd_L_law_12 : decode cc_L_law 12 = .ok (.invokespecial 45, 3) := by decide +kernel
theorem dd_L_law_15 : decode cc_L_law 15 = .ok (.astore_n 2, 1) := by decide +kernel
theorem dd_L_law_16 : decode cc_L_law 16 = .ok (.iconst 1, 1) := by decide +kernel
theorem dd_L_law_17 : decode cc_L_law 17 = .ok (.newarray .long, 2) := by decide +kernel
theorem dd_L_law_19 : decode cc_L_law 19 = .ok (.astore_n 3, 1) := by decide +kernel
theorem dd_L_law_20 : decode cc_L_law 20 = .ok (.iconst 0, 1) := by decide +kernel
theorem dd_L_law_21 : decode cc_L_law 21 = .ok (.istore 4, 2) := by decide +kernel
theorem dd_L_law_23 : decode cc_L_law 23 = .ok (.iload 4, 2) := by decide +kernel
theorem dd_L_law_25 : decode cc_L_law 25 = .ok (.aload_n 0, 1) := by decide +kernel
theorem dd_L_law_26 : decode cc_L_law 26 = .ok (.arraylength, 1) := by decide +kernel
theorem dd_L_law_27 : decode cc_L_law 27 = .ok (.iconst 5, 1) := by decide +kernel
theorem dd_L_law_28 : decode cc_L_law 28 = .ok (.isub, 1) := by decide +kernel
theorem dd_L_law_29 : decode cc_L_law 29 = .ok (.if_icmp .gt 514, 3) := by decide +kernel
theorem dd_L_law_32 : decode cc_L_law 32 = .ok (.aload_n 0, 1) := by decide +kernel
theorem dd_L_law_33 : decode cc_L_law 33 = .ok (.iload 4, 2) := by decide +kernel
theorem dd_L_law_35 : decode cc_L_law 35 = .ok (.iaload, 1) := by decide +kernel
theorem dd_L_law_36 : decode cc_L_law 36 = .ok (.bipush 15, 2) := by decide +kernel
theorem dd_L_law_38 : decode cc_L_law 38 = .ok (.iand, 1) := by decide +kernel
theorem dd_L_law_39 : decode cc_L_law 39 = .ok (.tableswitch 498 0 8 #[49, 141, 197, 253, 309, 322, 366, 429, 442], 49) := by decide +kernel
theorem dd_L_law_88 : decode cc_L_law 88 = .ok (.aload_n 1, 1) := by decide +kernel
theorem dd_L_law_89 : decode cc_L_law 89 = .ok (.aload_n 0, 1) := by decide +kernel
theorem dd_L_law_90 : decode cc_L_law 90 = .ok (.iload 4, 2) := by decide +kernel
theorem dd_L_law_92 : decode cc_L_law 92 = .ok (.iconst 1, 1) := by decide +kernel
theorem dd_L_law_93 : decode cc_L_law 93 = .ok (.iadd, 1) := by decide +kernel
theorem dd_L_law_94 : decode cc_L_law 94 = .ok (.iaload, 1) := by decide +kernel
theorem dd_L_law_95 : decode cc_L_law 95 = .ok (.aload_n 0, 1) := by decide +kernel
theorem dd_L_law_96 : decode cc_L_law 96 = .ok (.iload 4, 2) := by decide +kernel
theorem dd_L_law_98 : decode cc_L_law 98 = .ok (.iconst 2, 1) := by decide +kernel
theorem dd_L_law_99 : decode cc_L_law 99 = .ok (.iadd, 1) := by decide +kernel
theorem dd_L_law_100 : decode cc_L_law 100 = .ok (.iaload, 1) := by decide +kernel
theorem dd_L_law_101 : decode cc_L_law 101 = .ok (.aload_n 0, 1) := by decide +kernel
theorem dd_L_law_102 : decode cc_L_law 102 = .ok (.iload 4, 2) := by decide +kernel
theorem dd_L_law_104 : decode cc_L_law 104 = .ok (.iconst 3, 1) := by decide +kernel
theorem dd_L_law_105 : decode cc_L_law 105 = .ok (.iadd, 1) := by decide +kernel
theorem dd_L_law_106 : decode cc_L_law 106 = .ok (.iaload, 1) := by decide +kernel
theorem dd_L_law_107 : decode cc_L_law 107 = .ok (.aload_n 0, 1) := by decide +kernel
theorem dd_L_law_108 : decode cc_L_law 108 = .ok (.iload 4, 2) := by decide +kernel
theorem dd_L_law_110 : decode cc_L_law 110 = .ok (.iconst 4, 1) := by decide +kernel
theorem dd_L_law_111 : decode cc_L_law 111 = .ok (.iadd, 1) := by decide +kernel
theorem dd_L_law_112 : decode cc_L_law 112 = .ok (.iaload, 1) := by decide +kernel
theorem dd_L_law_113 : decode cc_L_law 113 = .ok (.aload_n 3, 1) := by decide +kernel
theorem dd_L_law_114 : decode cc_L_law 114 = .ok (.invokestatic 46, 3) := by decide +kernel
theorem dd_L_law_117 : decode cc_L_law 117 = .ok (.istore 5, 2) := by decide +kernel
theorem dd_L_law_119 : decode cc_L_law 119 = .ok (.aload_n 2, 1) := by decide +kernel
theorem dd_L_law_120 : decode cc_L_law 120 = .ok (.aload_n 0, 1) := by decide +kernel
theorem dd_L_law_121 : decode cc_L_law 121 = .ok (.iload 4, 2) := by decide +kernel
theorem dd_L_law_123 : decode cc_L_law 123 = .ok (.iconst 1, 1) := by decide +kernel
theorem dd_L_law_124 : decode cc_L_law 124 = .ok (.iadd, 1) := by decide +kernel
theorem dd_L_law_125 : decode cc_L_law 125 = .ok (.iaload, 1) := by decide +kernel
theorem dd_L_law_126 : decode cc_L_law 126 = .ok (.aload_n 0, 1) := by decide +kernel
theorem dd_L_law_127 : decode cc_L_law 127 = .ok (.iload 4, 2) := by decide +kernel
theorem dd_L_law_129 : decode cc_L_law 129 = .ok (.iconst 2, 1) := by decide +kernel
theorem dd_L_law_130 : decode cc_L_law 130 = .ok (.iadd, 1) := by decide +kernel
theorem dd_L_law_131 : decode cc_L_law 131 = .ok (.iaload, 1) := by decide +kernel
theorem dd_L_law_132 : decode cc_L_law 132 = .ok (.aload_n 0, 1) := by decide +kernel
theorem dd_L_law_133 : decode cc_L_law 133 = .ok (.iload 4, 2) := by decide +kernel
theorem dd_L_law_135 : decode cc_L_law 135 = .ok (.iconst 3, 1) := by decide +kernel
theorem dd_L_law_136 : decode cc_L_law 136 = .ok (.iadd, 1) := by decide +kernel
theorem dd_L_law_137 : decode cc_L_law 137 = .ok (.iaload, 1) := by decide +kernel
theorem dd_L_law_138 : decode cc_L_law 138 = .ok (.aload_n 0, 1) := by decide +kernel
theorem dd_L_law_139 : decode cc_L_law 139 = .ok (.iload 4, 2) := by decide +kernel
theorem dd_L_law_141 : decode cc_L_law 141 = .ok (.iconst 4, 1) := by decide +kernel
theorem dd_L_law_142 : decode cc_L_law 142 = .ok (.iadd, 1) := by decide +kernel
theorem dd_L_law_143 : decode cc_L_law 143 = .ok (.iaload, 1) := by decide +kernel
theorem dd_L_law_144 : decode cc_L_law 144 = .ok (.invokevirtual 51, 3) := by decide +kernel
theorem dd_L_law_147 : decode cc_L_law 147 = .ok (.istore 6, 2) := by decide +kernel
theorem dd_L_law_149 : decode cc_L_law 149 = .ok (.aload_n 2, 1) := by decide +kernel
theorem dd_L_law_150 : decode cc_L_law 150 = .ok (.invokevirtual 52, 3) := by decide +kernel
theorem dd_L_law_153 : decode cc_L_law 153 = .ok (.iload 5, 2) := by decide +kernel
theorem dd_L_law_155 : decode cc_L_law 155 = .ok (.if_icmp .eq 5, 3) := by decide +kernel
theorem dd_L_law_158 : decode cc_L_law 158 = .ok (.iconst 0, 1) := by decide +kernel
theorem dd_L_law_159 : decode cc_L_law 159 = .ok (.ireturn, 1) := by decide +kernel
theorem dd_L_law_160 : decode cc_L_law 160 = .ok (.iload 5, 2) := by decide +kernel
theorem dd_L_law_162 : decode cc_L_law 162 = .ok (.ifCond .ne 15, 3) := by decide +kernel
theorem dd_L_law_165 : decode cc_L_law 165 = .ok (.aload_n 3, 1) := by decide +kernel
theorem dd_L_law_166 : decode cc_L_law 166 = .ok (.iconst 0, 1) := by decide +kernel
theorem dd_L_law_167 : decode cc_L_law 167 = .ok (.laload, 1) := by decide +kernel
theorem dd_L_law_168 : decode cc_L_law 168 = .ok (.iload 6, 2) := by decide +kernel
theorem dd_L_law_170 : decode cc_L_law 170 = .ok (.i2l, 1) := by decide +kernel
theorem dd_L_law_171 : decode cc_L_law 171 = .ok (.lcmp, 1) := by decide +kernel
theorem dd_L_law_172 : decode cc_L_law 172 = .ok (.ifCond .eq 5, 3) := by decide +kernel
theorem dd_L_law_175 : decode cc_L_law 175 = .ok (.iconst 0, 1) := by decide +kernel
theorem dd_L_law_176 : decode cc_L_law 176 = .ok (.ireturn, 1) := by decide +kernel
theorem dd_L_law_177 : decode cc_L_law 177 = .ok (.goto 360, 3) := by decide +kernel
theorem dd_L_law_180 : decode cc_L_law 180 = .ok (.aload_n 1, 1) := by decide +kernel
theorem dd_L_law_181 : decode cc_L_law 181 = .ok (.aload_n 0, 1) := by decide +kernel
theorem dd_L_law_182 : decode cc_L_law 182 = .ok (.iload 4, 2) := by decide +kernel
theorem dd_L_law_184 : decode cc_L_law 184 = .ok (.iconst 1, 1) := by decide +kernel
theorem dd_L_law_185 : decode cc_L_law 185 = .ok (.iadd, 1) := by decide +kernel
theorem dd_L_law_186 : decode cc_L_law 186 = .ok (.iaload, 1) := by decide +kernel
theorem dd_L_law_187 : decode cc_L_law 187 = .ok (.aload_n 3, 1) := by decide +kernel
theorem dd_L_law_188 : decode cc_L_law 188 = .ok (.invokestatic 55, 3) := by decide +kernel
theorem dd_L_law_191 : decode cc_L_law 191 = .ok (.istore 5, 2) := by decide +kernel
theorem dd_L_law_193 : decode cc_L_law 193 = .ok (.aload_n 2, 1) := by decide +kernel
theorem dd_L_law_194 : decode cc_L_law 194 = .ok (.aload_n 0, 1) := by decide +kernel
theorem dd_L_law_195 : decode cc_L_law 195 = .ok (.iload 4, 2) := by decide +kernel
theorem dd_L_law_197 : decode cc_L_law 197 = .ok (.iconst 1, 1) := by decide +kernel
theorem dd_L_law_198 : decode cc_L_law 198 = .ok (.iadd, 1) := by decide +kernel
theorem dd_L_law_199 : decode cc_L_law 199 = .ok (.iaload, 1) := by decide +kernel
theorem dd_L_law_200 : decode cc_L_law 200 = .ok (.invokevirtual 58, 3) := by decide +kernel
theorem dd_L_law_203 : decode cc_L_law 203 = .ok (.istore 6, 2) := by decide +kernel
theorem dd_L_law_205 : decode cc_L_law 205 = .ok (.aload_n 2, 1) := by decide +kernel
theorem dd_L_law_206 : decode cc_L_law 206 = .ok (.invokevirtual 52, 3) := by decide +kernel
theorem dd_L_law_209 : decode cc_L_law 209 = .ok (.iload 5, 2) := by decide +kernel
theorem dd_L_law_211 : decode cc_L_law 211 = .ok (.if_icmp .eq 5, 3) := by decide +kernel
theorem dd_L_law_214 : decode cc_L_law 214 = .ok (.iconst 0, 1) := by decide +kernel
theorem dd_L_law_215 : decode cc_L_law 215 = .ok (.ireturn, 1) := by decide +kernel
theorem dd_L_law_216 : decode cc_L_law 216 = .ok (.iload 5, 2) := by decide +kernel
theorem dd_L_law_218 : decode cc_L_law 218 = .ok (.ifCond .ne 15, 3) := by decide +kernel
theorem dd_L_law_221 : decode cc_L_law 221 = .ok (.aload_n 3, 1) := by decide +kernel
theorem dd_L_law_222 : decode cc_L_law 222 = .ok (.iconst 0, 1) := by decide +kernel
theorem dd_L_law_223 : decode cc_L_law 223 = .ok (.laload, 1) := by decide +kernel
theorem dd_L_law_224 : decode cc_L_law 224 = .ok (.iload 6, 2) := by decide +kernel
theorem dd_L_law_226 : decode cc_L_law 226 = .ok (.i2l, 1) := by decide +kernel
theorem dd_L_law_227 : decode cc_L_law 227 = .ok (.lcmp, 1) := by decide +kernel
theorem dd_L_law_228 : decode cc_L_law 228 = .ok (.ifCond .eq 5, 3) := by decide +kernel
theorem dd_L_law_231 : decode cc_L_law 231 = .ok (.iconst 0, 1) := by decide +kernel
theorem dd_L_law_232 : decode cc_L_law 232 = .ok (.ireturn, 1) := by decide +kernel
theorem dd_L_law_233 : decode cc_L_law 233 = .ok (.goto 304, 3) := by decide +kernel
theorem dd_L_law_236 : decode cc_L_law 236 = .ok (.aload_n 1, 1) := by decide +kernel
theorem dd_L_law_237 : decode cc_L_law 237 = .ok (.aload_n 0, 1) := by decide +kernel
theorem dd_L_law_238 : decode cc_L_law 238 = .ok (.iload 4, 2) := by decide +kernel
theorem dd_L_law_240 : decode cc_L_law 240 = .ok (.iconst 1, 1) := by decide +kernel
theorem dd_L_law_241 : decode cc_L_law 241 = .ok (.iadd, 1) := by decide +kernel
theorem dd_L_law_242 : decode cc_L_law 242 = .ok (.iaload, 1) := by decide +kernel
theorem dd_L_law_243 : decode cc_L_law 243 = .ok (.aload_n 3, 1) := by decide +kernel
theorem dd_L_law_244 : decode cc_L_law 244 = .ok (.invokestatic 59, 3) := by decide +kernel
theorem dd_L_law_247 : decode cc_L_law 247 = .ok (.istore 5, 2) := by decide +kernel
theorem dd_L_law_249 : decode cc_L_law 249 = .ok (.aload_n 2, 1) := by decide +kernel
theorem dd_L_law_250 : decode cc_L_law 250 = .ok (.aload_n 0, 1) := by decide +kernel
theorem dd_L_law_251 : decode cc_L_law 251 = .ok (.iload 4, 2) := by decide +kernel
theorem dd_L_law_253 : decode cc_L_law 253 = .ok (.iconst 1, 1) := by decide +kernel
theorem dd_L_law_254 : decode cc_L_law 254 = .ok (.iadd, 1) := by decide +kernel
theorem dd_L_law_255 : decode cc_L_law 255 = .ok (.iaload, 1) := by decide +kernel
theorem dd_L_law_256 : decode cc_L_law 256 = .ok (.invokevirtual 61, 3) := by decide +kernel
theorem dd_L_law_259 : decode cc_L_law 259 = .ok (.istore 6, 2) := by decide +kernel
theorem dd_L_law_261 : decode cc_L_law 261 = .ok (.aload_n 2, 1) := by decide +kernel
theorem dd_L_law_262 : decode cc_L_law 262 = .ok (.invokevirtual 52, 3) := by decide +kernel
theorem dd_L_law_265 : decode cc_L_law 265 = .ok (.iload 5, 2) := by decide +kernel
theorem dd_L_law_267 : decode cc_L_law 267 = .ok (.if_icmp .eq 5, 3) := by decide +kernel
theorem dd_L_law_270 : decode cc_L_law 270 = .ok (.iconst 0, 1) := by decide +kernel
theorem dd_L_law_271 : decode cc_L_law 271 = .ok (.ireturn, 1) := by decide +kernel
theorem dd_L_law_272 : decode cc_L_law 272 = .ok (.iload 5, 2) := by decide +kernel
theorem dd_L_law_274 : decode cc_L_law 274 = .ok (.ifCond .ne 15, 3) := by decide +kernel
theorem dd_L_law_277 : decode cc_L_law 277 = .ok (.aload_n 3, 1) := by decide +kernel
theorem dd_L_law_278 : decode cc_L_law 278 = .ok (.iconst 0, 1) := by decide +kernel
theorem dd_L_law_279 : decode cc_L_law 279 = .ok (.laload, 1) := by decide +kernel
theorem dd_L_law_280 : decode cc_L_law 280 = .ok (.iload 6, 2) := by decide +kernel
theorem dd_L_law_282 : decode cc_L_law 282 = .ok (.i2l, 1) := by decide +kernel
theorem dd_L_law_283 : decode cc_L_law 283 = .ok (.lcmp, 1) := by decide +kernel
theorem dd_L_law_284 : decode cc_L_law 284 = .ok (.ifCond .eq 5, 3) := by decide +kernel
theorem dd_L_law_287 : decode cc_L_law 287 = .ok (.iconst 0, 1) := by decide +kernel
theorem dd_L_law_288 : decode cc_L_law 288 = .ok (.ireturn, 1) := by decide +kernel
theorem dd_L_law_289 : decode cc_L_law 289 = .ok (.goto 248, 3) := by decide +kernel
theorem dd_L_law_292 : decode cc_L_law 292 = .ok (.aload_n 1, 1) := by decide +kernel
theorem dd_L_law_293 : decode cc_L_law 293 = .ok (.aload_n 0, 1) := by decide +kernel
theorem dd_L_law_294 : decode cc_L_law 294 = .ok (.iload 4, 2) := by decide +kernel
theorem dd_L_law_296 : decode cc_L_law 296 = .ok (.iconst 1, 1) := by decide +kernel
theorem dd_L_law_297 : decode cc_L_law 297 = .ok (.iadd, 1) := by decide +kernel
theorem dd_L_law_298 : decode cc_L_law 298 = .ok (.iaload, 1) := by decide +kernel
theorem dd_L_law_299 : decode cc_L_law 299 = .ok (.aload_n 3, 1) := by decide +kernel
theorem dd_L_law_300 : decode cc_L_law 300 = .ok (.invokestatic 62, 3) := by decide +kernel
theorem dd_L_law_303 : decode cc_L_law 303 = .ok (.istore 5, 2) := by decide +kernel
theorem dd_L_law_305 : decode cc_L_law 305 = .ok (.aload_n 2, 1) := by decide +kernel
theorem dd_L_law_306 : decode cc_L_law 306 = .ok (.aload_n 0, 1) := by decide +kernel
theorem dd_L_law_307 : decode cc_L_law 307 = .ok (.iload 4, 2) := by decide +kernel
theorem dd_L_law_309 : decode cc_L_law 309 = .ok (.iconst 1, 1) := by decide +kernel
theorem dd_L_law_310 : decode cc_L_law 310 = .ok (.iadd, 1) := by decide +kernel
theorem dd_L_law_311 : decode cc_L_law 311 = .ok (.iaload, 1) := by decide +kernel
theorem dd_L_law_312 : decode cc_L_law 312 = .ok (.invokevirtual 64, 3) := by decide +kernel
theorem dd_L_law_315 : decode cc_L_law 315 = .ok (.istore 6, 2) := by decide +kernel
theorem dd_L_law_317 : decode cc_L_law 317 = .ok (.aload_n 2, 1) := by decide +kernel
theorem dd_L_law_318 : decode cc_L_law 318 = .ok (.invokevirtual 52, 3) := by decide +kernel
theorem dd_L_law_321 : decode cc_L_law 321 = .ok (.iload 5, 2) := by decide +kernel
theorem dd_L_law_323 : decode cc_L_law 323 = .ok (.if_icmp .eq 5, 3) := by decide +kernel
theorem dd_L_law_326 : decode cc_L_law 326 = .ok (.iconst 0, 1) := by decide +kernel
theorem dd_L_law_327 : decode cc_L_law 327 = .ok (.ireturn, 1) := by decide +kernel
theorem dd_L_law_328 : decode cc_L_law 328 = .ok (.iload 5, 2) := by decide +kernel
theorem dd_L_law_330 : decode cc_L_law 330 = .ok (.ifCond .ne 15, 3) := by decide +kernel
theorem dd_L_law_333 : decode cc_L_law 333 = .ok (.aload_n 3, 1) := by decide +kernel
theorem dd_L_law_334 : decode cc_L_law 334 = .ok (.iconst 0, 1) := by decide +kernel
theorem dd_L_law_335 : decode cc_L_law 335 = .ok (.laload, 1) := by decide +kernel
theorem dd_L_law_336 : decode cc_L_law 336 = .ok (.iload 6, 2) := by decide +kernel
theorem dd_L_law_338 : decode cc_L_law 338 = .ok (.i2l, 1) := by decide +kernel
theorem dd_L_law_339 : decode cc_L_law 339 = .ok (.lcmp, 1) := by decide +kernel
theorem dd_L_law_340 : decode cc_L_law 340 = .ok (.ifCond .eq 5, 3) := by decide +kernel
theorem dd_L_law_343 : decode cc_L_law 343 = .ok (.iconst 0, 1) := by decide +kernel
theorem dd_L_law_344 : decode cc_L_law 344 = .ok (.ireturn, 1) := by decide +kernel
theorem dd_L_law_345 : decode cc_L_law 345 = .ok (.goto 192, 3) := by decide +kernel
theorem dd_L_law_348 : decode cc_L_law 348 = .ok (.aload_n 1, 1) := by decide +kernel
theorem dd_L_law_349 : decode cc_L_law 349 = .ok (.invokevirtual 65, 3) := by decide +kernel
theorem dd_L_law_352 : decode cc_L_law 352 = .ok (.aload_n 2, 1) := by decide +kernel
theorem dd_L_law_353 : decode cc_L_law 353 = .ok (.invokevirtual 68, 3) := by decide +kernel
theorem dd_L_law_356 : decode cc_L_law 356 = .ok (.if_icmp .eq 181, 3) := by decide +kernel
theorem dd_L_law_359 : decode cc_L_law 359 = .ok (.iconst 0, 1) := by decide +kernel
theorem dd_L_law_360 : decode cc_L_law 360 = .ok (.ireturn, 1) := by decide +kernel
theorem dd_L_law_361 : decode cc_L_law 361 = .ok (.aload_n 1, 1) := by decide +kernel
theorem dd_L_law_362 : decode cc_L_law 362 = .ok (.aload_n 3, 1) := by decide +kernel
theorem dd_L_law_363 : decode cc_L_law 363 = .ok (.invokestatic 69, 3) := by decide +kernel
theorem dd_L_law_366 : decode cc_L_law 366 = .ok (.istore 5, 2) := by decide +kernel
theorem dd_L_law_368 : decode cc_L_law 368 = .ok (.aload_n 2, 1) := by decide +kernel
theorem dd_L_law_369 : decode cc_L_law 369 = .ok (.invokevirtual 72, 3) := by decide +kernel
theorem dd_L_law_372 : decode cc_L_law 372 = .ok (.istore 6, 2) := by decide +kernel
theorem dd_L_law_374 : decode cc_L_law 374 = .ok (.aload_n 2, 1) := by decide +kernel
theorem dd_L_law_375 : decode cc_L_law 375 = .ok (.invokevirtual 52, 3) := by decide +kernel
theorem dd_L_law_378 : decode cc_L_law 378 = .ok (.iload 5, 2) := by decide +kernel
theorem dd_L_law_380 : decode cc_L_law 380 = .ok (.if_icmp .eq 5, 3) := by decide +kernel
theorem dd_L_law_383 : decode cc_L_law 383 = .ok (.iconst 0, 1) := by decide +kernel
theorem dd_L_law_384 : decode cc_L_law 384 = .ok (.ireturn, 1) := by decide +kernel
theorem dd_L_law_385 : decode cc_L_law 385 = .ok (.iload 5, 2) := by decide +kernel
theorem dd_L_law_387 : decode cc_L_law 387 = .ok (.ifCond .ne 15, 3) := by decide +kernel
theorem dd_L_law_390 : decode cc_L_law 390 = .ok (.aload_n 3, 1) := by decide +kernel
theorem dd_L_law_391 : decode cc_L_law 391 = .ok (.iconst 0, 1) := by decide +kernel
theorem dd_L_law_392 : decode cc_L_law 392 = .ok (.laload, 1) := by decide +kernel
theorem dd_L_law_393 : decode cc_L_law 393 = .ok (.iload 6, 2) := by decide +kernel
theorem dd_L_law_395 : decode cc_L_law 395 = .ok (.i2l, 1) := by decide +kernel
theorem dd_L_law_396 : decode cc_L_law 396 = .ok (.lcmp, 1) := by decide +kernel
theorem dd_L_law_397 : decode cc_L_law 397 = .ok (.ifCond .eq 5, 3) := by decide +kernel
theorem dd_L_law_400 : decode cc_L_law 400 = .ok (.iconst 0, 1) := by decide +kernel
theorem dd_L_law_401 : decode cc_L_law 401 = .ok (.ireturn, 1) := by decide +kernel
theorem dd_L_law_402 : decode cc_L_law 402 = .ok (.goto 135, 3) := by decide +kernel
theorem dd_L_law_405 : decode cc_L_law 405 = .ok (.aload_n 1, 1) := by decide +kernel
theorem dd_L_law_406 : decode cc_L_law 406 = .ok (.aload_n 0, 1) := by decide +kernel
theorem dd_L_law_407 : decode cc_L_law 407 = .ok (.iload 4, 2) := by decide +kernel
theorem dd_L_law_409 : decode cc_L_law 409 = .ok (.iconst 1, 1) := by decide +kernel
theorem dd_L_law_410 : decode cc_L_law 410 = .ok (.iadd, 1) := by decide +kernel
theorem dd_L_law_411 : decode cc_L_law 411 = .ok (.iaload, 1) := by decide +kernel
theorem dd_L_law_412 : decode cc_L_law 412 = .ok (.aload_n 3, 1) := by decide +kernel
theorem dd_L_law_413 : decode cc_L_law 413 = .ok (.invokestatic 73, 3) := by decide +kernel
theorem dd_L_law_416 : decode cc_L_law 416 = .ok (.istore 5, 2) := by decide +kernel
theorem dd_L_law_418 : decode cc_L_law 418 = .ok (.aload_n 2, 1) := by decide +kernel
theorem dd_L_law_419 : decode cc_L_law 419 = .ok (.aload_n 0, 1) := by decide +kernel
theorem dd_L_law_420 : decode cc_L_law 420 = .ok (.iload 4, 2) := by decide +kernel
theorem dd_L_law_422 : decode cc_L_law 422 = .ok (.iconst 1, 1) := by decide +kernel
theorem dd_L_law_423 : decode cc_L_law 423 = .ok (.iadd, 1) := by decide +kernel
theorem dd_L_law_424 : decode cc_L_law 424 = .ok (.iaload, 1) := by decide +kernel
theorem dd_L_law_425 : decode cc_L_law 425 = .ok (.invokevirtual 75, 3) := by decide +kernel
theorem dd_L_law_428 : decode cc_L_law 428 = .ok (.istore 6, 2) := by decide +kernel
theorem dd_L_law_430 : decode cc_L_law 430 = .ok (.aload_n 2, 1) := by decide +kernel
theorem dd_L_law_431 : decode cc_L_law 431 = .ok (.invokevirtual 52, 3) := by decide +kernel
theorem dd_L_law_434 : decode cc_L_law 434 = .ok (.iload 5, 2) := by decide +kernel
theorem dd_L_law_436 : decode cc_L_law 436 = .ok (.if_icmp .eq 5, 3) := by decide +kernel
theorem dd_L_law_439 : decode cc_L_law 439 = .ok (.iconst 0, 1) := by decide +kernel
theorem dd_L_law_440 : decode cc_L_law 440 = .ok (.ireturn, 1) := by decide +kernel
theorem dd_L_law_441 : decode cc_L_law 441 = .ok (.iload 5, 2) := by decide +kernel
theorem dd_L_law_443 : decode cc_L_law 443 = .ok (.ifCond .ne 22, 3) := by decide +kernel
theorem dd_L_law_446 : decode cc_L_law 446 = .ok (.aload_n 3, 1) := by decide +kernel
theorem dd_L_law_447 : decode cc_L_law 447 = .ok (.iconst 0, 1) := by decide +kernel
theorem dd_L_law_448 : decode cc_L_law 448 = .ok (.laload, 1) := by decide +kernel
theorem dd_L_law_449 : decode cc_L_law 449 = .ok (.iload 6, 2) := by decide +kernel
theorem dd_L_law_451 : decode cc_L_law 451 = .ok (.ifCond .eq 7, 3) := by decide +kernel
theorem dd_L_law_454 : decode cc_L_law 454 = .ok (.lconst 1, 1) := by decide +kernel
theorem dd_L_law_455 : decode cc_L_law 455 = .ok (.goto 4, 3) := by decide +kernel
theorem dd_L_law_458 : decode cc_L_law 458 = .ok (.lconst 0, 1) := by decide +kernel
theorem dd_L_law_459 : decode cc_L_law 459 = .ok (.lcmp, 1) := by decide +kernel
theorem dd_L_law_460 : decode cc_L_law 460 = .ok (.ifCond .eq 5, 3) := by decide +kernel
theorem dd_L_law_463 : decode cc_L_law 463 = .ok (.iconst 0, 1) := by decide +kernel
theorem dd_L_law_464 : decode cc_L_law 464 = .ok (.ireturn, 1) := by decide +kernel
theorem dd_L_law_465 : decode cc_L_law 465 = .ok (.goto 72, 3) := by decide +kernel
theorem dd_L_law_468 : decode cc_L_law 468 = .ok (.aload_n 1, 1) := by decide +kernel
theorem dd_L_law_469 : decode cc_L_law 469 = .ok (.invokevirtual 76, 3) := by decide +kernel
theorem dd_L_law_472 : decode cc_L_law 472 = .ok (.aload_n 2, 1) := by decide +kernel
theorem dd_L_law_473 : decode cc_L_law 473 = .ok (.invokevirtual 80, 3) := by decide +kernel
theorem dd_L_law_476 : decode cc_L_law 476 = .ok (.if_icmp .eq 61, 3) := by decide +kernel
theorem dd_L_law_479 : decode cc_L_law 479 = .ok (.iconst 0, 1) := by decide +kernel
theorem dd_L_law_480 : decode cc_L_law 480 = .ok (.ireturn, 1) := by decide +kernel
theorem dd_L_law_481 : decode cc_L_law 481 = .ok (.aload_n 1, 1) := by decide +kernel
theorem dd_L_law_482 : decode cc_L_law 482 = .ok (.aload_n 0, 1) := by decide +kernel
theorem dd_L_law_483 : decode cc_L_law 483 = .ok (.iload 4, 2) := by decide +kernel
theorem dd_L_law_485 : decode cc_L_law 485 = .ok (.iconst 1, 1) := by decide +kernel
theorem dd_L_law_486 : decode cc_L_law 486 = .ok (.iadd, 1) := by decide +kernel
theorem dd_L_law_487 : decode cc_L_law 487 = .ok (.iaload, 1) := by decide +kernel
theorem dd_L_law_488 : decode cc_L_law 488 = .ok (.aload_n 3, 1) := by decide +kernel
theorem dd_L_law_489 : decode cc_L_law 489 = .ok (.invokestatic 81, 3) := by decide +kernel
theorem dd_L_law_492 : decode cc_L_law 492 = .ok (.istore 5, 2) := by decide +kernel
theorem dd_L_law_494 : decode cc_L_law 494 = .ok (.aload_n 2, 1) := by decide +kernel
theorem dd_L_law_495 : decode cc_L_law 495 = .ok (.aload_n 0, 1) := by decide +kernel
theorem dd_L_law_496 : decode cc_L_law 496 = .ok (.iload 4, 2) := by decide +kernel
theorem dd_L_law_498 : decode cc_L_law 498 = .ok (.iconst 1, 1) := by decide +kernel
theorem dd_L_law_499 : decode cc_L_law 499 = .ok (.iadd, 1) := by decide +kernel
theorem dd_L_law_500 : decode cc_L_law 500 = .ok (.iaload, 1) := by decide +kernel
theorem dd_L_law_501 : decode cc_L_law 501 = .ok (.invokevirtual 83, 3) := by decide +kernel
theorem dd_L_law_504 : decode cc_L_law 504 = .ok (.istore 6, 2) := by decide +kernel
theorem dd_L_law_506 : decode cc_L_law 506 = .ok (.aload_n 2, 1) := by decide +kernel
theorem dd_L_law_507 : decode cc_L_law 507 = .ok (.invokevirtual 52, 3) := by decide +kernel
theorem dd_L_law_510 : decode cc_L_law 510 = .ok (.iload 5, 2) := by decide +kernel
theorem dd_L_law_512 : decode cc_L_law 512 = .ok (.if_icmp .eq 5, 3) := by decide +kernel
theorem dd_L_law_515 : decode cc_L_law 515 = .ok (.iconst 0, 1) := by decide +kernel
theorem dd_L_law_516 : decode cc_L_law 516 = .ok (.ireturn, 1) := by decide +kernel
theorem dd_L_law_517 : decode cc_L_law 517 = .ok (.iload 5, 2) := by decide +kernel
theorem dd_L_law_519 : decode cc_L_law 519 = .ok (.ifCond .ne 15, 3) := by decide +kernel
theorem dd_L_law_522 : decode cc_L_law 522 = .ok (.aload_n 3, 1) := by decide +kernel
theorem dd_L_law_523 : decode cc_L_law 523 = .ok (.iconst 0, 1) := by decide +kernel
theorem dd_L_law_524 : decode cc_L_law 524 = .ok (.laload, 1) := by decide +kernel
theorem dd_L_law_525 : decode cc_L_law 525 = .ok (.iload 6, 2) := by decide +kernel
theorem dd_L_law_527 : decode cc_L_law 527 = .ok (.i2l, 1) := by decide +kernel
theorem dd_L_law_528 : decode cc_L_law 528 = .ok (.lcmp, 1) := by decide +kernel
theorem dd_L_law_529 : decode cc_L_law 529 = .ok (.ifCond .eq 5, 3) := by decide +kernel
theorem dd_L_law_532 : decode cc_L_law 532 = .ok (.iconst 0, 1) := by decide +kernel
theorem dd_L_law_533 : decode cc_L_law 533 = .ok (.ireturn, 1) := by decide +kernel
theorem dd_L_law_534 : decode cc_L_law 534 = .ok (.goto 3, 3) := by decide +kernel
theorem dd_L_law_537 : decode cc_L_law 537 = .ok (.iinc 4 5, 3) := by decide +kernel
theorem dd_L_law_540 : decode cc_L_law 540 = .ok (.goto (-517), 3) := by decide +kernel
theorem dd_L_law_543 : decode cc_L_law 543 = .ok (.iconst 1, 1) := by decide +kernel
theorem dd_L_law_544 : decode cc_L_law 544 = .ok (.ireturn, 1) := by decide +kernel
