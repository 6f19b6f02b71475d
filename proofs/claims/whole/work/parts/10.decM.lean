theorem dd_M_thrown_0 : decode cc_M_thrown 0 = .ok (.aload_n 0, 1) := by decide +kernel
theorem dd_M_thrown_1 : decode cc_M_thrown 1 = .ok (.getfield 65, 3) := by decide +kernel
theorem dd_M_thrown_4 : decode cc_M_thrown 4 = .ok (.ireturn, 1) := by decide +kernel
theorem dd_M_fail_0 : decode cc_M_fail 0 = .ok (.aload_n 0, 1) := by decide +kernel
theorem dd_M_fail_1 : decode cc_M_fail 1 = .ok (.iload_n 1, 1) := by decide +kernel
theorem dd_M_fail_2 : decode cc_M_fail 2 = .ok (.putfield 65, 3) := by decide +kernel
theorem dd_M_fail_5 : decode cc_M_fail 5 = .ok (.iconst 0, 1) := by decide +kernel
theorem dd_M_fail_6 : decode cc_M_fail 6 = .ok (.ireturn, 1) := by decide +kernel
theorem dd_M_within_0 : decode cc_M_within 0 = .ok (.iload_n 0, 1) := by decide +kernel
theorem dd_M_within_1 : decode cc_M_within 1 = .ok (.iload_n 1, 1) := by decide +kernel
theorem dd_M_within_2 : decode cc_M_within 2 = .ok (.if_icmp .lt 12, 3) := by decide +kernel
theorem dd_M_within_5 : decode cc_M_within 5 = .ok (.iload_n 0, 1) := by decide +kernel
theorem dd_M_within_6 : decode cc_M_within 6 = .ok (.iload_n 2, 1) := by decide +kernel
theorem dd_M_within_7 : decode cc_M_within 7 = .ok (.if_icmp .gt 7, 3) := by decide +kernel
theorem dd_M_within_10 : decode cc_M_within 10 = .ok (.iconst 1, 1) := by decide +kernel
theorem dd_M_within_11 : decode cc_M_within 11 = .ok (.goto 4, 3) := by decide +kernel
theorem dd_M_within_14 : decode cc_M_within 14 = .ok (.iconst 0, 1) := by decide +kernel
theorem dd_M_within_15 : decode cc_M_within 15 = .ok (.ireturn, 1) := by decide +kernel
theorem dd_M_hasSignal_0 : decode cc_M_hasSignal 0 = .ok (.iload_n 0, 1) := by decide +kernel
theorem dd_M_hasSignal_1 : decode cc_M_hasSignal 1 = .ok (.iconst 2, 1) := by decide +kernel
theorem dd_M_hasSignal_2 : decode cc_M_hasSignal 2 = .ok (.if_icmp .eq 14, 3) := by decide +kernel
theorem dd_M_hasSignal_5 : decode cc_M_hasSignal 5 = .ok (.iload_n 0, 1) := by decide +kernel
theorem dd_M_hasSignal_6 : decode cc_M_hasSignal 6 = .ok (.bipush 6, 2) := by decide +kernel
theorem dd_M_hasSignal_8 : decode cc_M_hasSignal 8 = .ok (.bipush 8, 2) := by decide +kernel
theorem dd_M_hasSignal_10 : decode cc_M_hasSignal 10 = .ok (.invokestatic 69, 3) := by decide +kernel
theorem dd_M_hasSignal_13 : decode cc_M_hasSignal 13 = .ok (.ifCond .eq 7, 3) := by decide +kernel
theorem dd_M_hasSignal_16 : decode cc_M_hasSignal 16 = .ok (.iconst 1, 1) := by decide +kernel
theorem dd_M_hasSignal_17 : decode cc_M_hasSignal 17 = .ok (.goto 4, 3) := by decide +kernel
theorem dd_M_hasSignal_20 : decode cc_M_hasSignal 20 = .ok (.iconst 0, 1) := by decide +kernel
theorem dd_M_hasSignal_21 : decode cc_M_hasSignal 21 = .ok (.ireturn, 1) := by decide +kernel
theorem dd_M_parts_0 : decode cc_M_parts 0 = .ok (.iload_n 0, 1) := by decide +kernel
theorem dd_M_parts_1 : decode cc_M_parts 1 = .ok (.iconst 3, 1) := by decide +kernel
theorem dd_M_parts_2 : decode cc_M_parts 2 = .ok (.if_icmp .eq 14, 3) := by decide +kernel
theorem dd_M_parts_5 : decode cc_M_parts 5 = .ok (.iload_n 0, 1) := by decide +kernel
theorem dd_M_parts_6 : decode cc_M_parts 6 = .ok (.iconst 4, 1) := by decide +kernel
theorem dd_M_parts_7 : decode cc_M_parts 7 = .ok (.if_icmp .eq 9, 3) := by decide +kernel
theorem dd_M_parts_10 : decode cc_M_parts 10 = .ok (.iload_n 0, 1) := by decide +kernel
theorem dd_M_parts_11 : decode cc_M_parts 11 = .ok (.bipush 6, 2) := by decide +kernel
theorem dd_M_parts_13 : decode cc_M_parts 13 = .ok (.if_icmp .ne 7, 3) := by decide +kernel
theorem dd_M_parts_16 : decode cc_M_parts 16 = .ok (.iconst 2, 1) := by decide +kernel
theorem dd_M_parts_17 : decode cc_M_parts 17 = .ok (.goto 24, 3) := by decide +kernel
theorem dd_M_parts_20 : decode cc_M_parts 20 = .ok (.iload_n 0, 1) := by decide +kernel
theorem dd_M_parts_21 : decode cc_M_parts 21 = .ok (.iconst 5, 1) := by decide +kernel
theorem dd_M_parts_22 : decode cc_M_parts 22 = .ok (.if_icmp .eq 14, 3) := by decide +kernel
theorem dd_M_parts_25 : decode cc_M_parts 25 = .ok (.iload_n 0, 1) := by decide +kernel
theorem dd_M_parts_26 : decode cc_M_parts 26 = .ok (.bipush 7, 2) := by decide +kernel
theorem dd_M_parts_28 : decode cc_M_parts 28 = .ok (.bipush 9, 2) := by decide +kernel
theorem dd_M_parts_30 : decode cc_M_parts 30 = .ok (.invokestatic 69, 3) := by decide +kernel
theorem dd_M_parts_33 : decode cc_M_parts 33 = .ok (.ifCond .eq 7, 3) := by decide +kernel
theorem dd_M_parts_36 : decode cc_M_parts 36 = .ok (.iconst 1, 1) := by decide +kernel
theorem dd_M_parts_37 : decode cc_M_parts 37 = .ok (.goto 4, 3) := by decide +kernel
theorem dd_M_parts_40 : decode cc_M_parts 40 = .ok (.iconst 0, 1) := by decide +kernel
theorem dd_M_parts_41 : decode cc_M_parts 41 = .ok (.ireturn, 1) := by decide +kernel
theorem dd_M_make_0 : decode cc_M_make 0 = .ok (.aload_n 0, 1) := by decide +kernel
theorem dd_M_make_1 : decode cc_M_make 1 = .ok (.iconst 0, 1) := by decide +kernel
theorem dd_M_make_2 : decode cc_M_make 2 = .ok (.putfield 65, 3) := by decide +kernel
theorem dd_M_make_5 : decode cc_M_make 5 = .ok (.iload_n 1, 1) := by decide +kernel
theorem dd_M_make_6 : decode cc_M_make 6 = .ok (.iconst 0, 1) := by decide +kernel
theorem dd_M_make_7 : decode cc_M_make 7 = .ok (.bipush 10, 2) := by decide +kernel
theorem dd_M_make_9 : decode cc_M_make 9 = .ok (.invokestatic 69, 3) := by decide +kernel
theorem dd_M_make_12 : decode cc_M_make 12 = .ok (.ifCond .eq 54, 3) := by decide +kernel
theorem dd_M_make_15 : decode cc_M_make 15 = .ok (.iload_n 1, 1) := by decide +kernel
theorem dd_M_make_16 : decode cc_M_make 16 = .ok (.invokestatic 73, 3) := by decide +kernel
theorem dd_M_make_19 : decode cc_M_make 19 = .ok (.ifCond .eq 28, 3) := by decide +kernel
theorem dd_M_make_22 : decode cc_M_make 22 = .ok (.iload_n 2, 1) := by decide +kernel
theorem dd_M_make_23 : decode cc_M_make 23 = .ok (.iload_n 1, 1) := by decide +kernel
theorem dd_M_make_24 : decode cc_M_make 24 = .ok (.iconst 2, 1) := by decide +kernel
theorem dd_M_make_25 : decode cc_M_make 25 = .ok (.if_icmp .eq 9, 3) := by decide +kernel
theorem dd_M_make_28 : decode cc_M_make 28 = .ok (.iload_n 1, 1) := by decide +kernel
theorem dd_M_make_29 : decode cc_M_make 29 = .ok (.bipush 8, 2) := by decide +kernel
theorem dd_M_make_31 : decode cc_M_make 31 = .ok (.if_icmp .ne 7, 3) := by decide +kernel
theorem dd_M_make_34 : decode cc_M_make 34 = .ok (.iconst 3, 1) := by decide +kernel
theorem dd_M_make_35 : decode cc_M_make 35 = .ok (.goto 4, 3) := by decide +kernel
theorem dd_M_make_38 : decode cc_M_make 38 = .ok (.iconst 0, 1) := by decide +kernel
theorem dd_M_make_39 : decode cc_M_make 39 = .ok (.bipush 7, 2) := by decide +kernel
theorem dd_M_make_41 : decode cc_M_make 41 = .ok (.invokestatic 69, 3) := by decide +kernel
theorem dd_M_make_44 : decode cc_M_make 44 = .ok (.ifCond .eq 22, 3) := by decide +kernel
theorem dd_M_make_47 : decode cc_M_make 47 = .ok (.iload_n 1, 1) := by decide +kernel
theorem dd_M_make_48 : decode cc_M_make 48 = .ok (.bipush 10, 2) := by decide +kernel
theorem dd_M_make_50 : decode cc_M_make 50 = .ok (.if_icmp .ne 12, 3) := by decide +kernel
theorem dd_M_make_53 : decode cc_M_make 53 = .ok (.iload_n 2, 1) := by decide +kernel
theorem dd_M_make_54 : decode cc_M_make 54 = .ok (.iconst 0, 1) := by decide +kernel
theorem dd_M_make_55 : decode cc_M_make 55 = .ok (.iconst 3, 1) := by decide +kernel
theorem dd_M_make_56 : decode cc_M_make 56 = .ok (.invokestatic 69, 3) := by decide +kernel
theorem dd_M_make_59 : decode cc_M_make 59 = .ok (.ifCond .eq 7, 3) := by decide +kernel
theorem dd_M_make_62 : decode cc_M_make 62 = .ok (.iconst 1, 1) := by decide +kernel
theorem dd_M_make_63 : decode cc_M_make 63 = .ok (.goto 4, 3) := by decide +kernel
theorem dd_M_make_66 : decode cc_M_make 66 = .ok (.iconst 0, 1) := by decide +kernel
theorem dd_M_make_67 : decode cc_M_make 67 = .ok (.istore 5, 2) := by decide +kernel
theorem dd_M_make_69 : decode cc_M_make 69 = .ok (.iload_n 1, 1) := by decide +kernel
theorem dd_M_make_70 : decode cc_M_make 70 = .ok (.invokestatic 73, 3) := by decide +kernel
theorem dd_M_make_73 : decode cc_M_make 73 = .ok (.ifCond .eq 7, 3) := by decide +kernel
theorem dd_M_make_76 : decode cc_M_make 76 = .ok (.iload_n 3, 1) := by decide +kernel
theorem dd_M_make_77 : decode cc_M_make 77 = .ok (.goto 4, 3) := by decide +kernel
theorem dd_M_make_80 : decode cc_M_make 80 = .ok (.iload_n 2, 1) := by decide +kernel
theorem dd_M_make_81 : decode cc_M_make 81 = .ok (.istore 6, 2) := by decide +kernel
theorem dd_M_make_83 : decode cc_M_make 83 = .ok (.iload_n 1, 1) := by decide +kernel
theorem dd_M_make_84 : decode cc_M_make 84 = .ok (.invokestatic 73, 3) := by decide +kernel
theorem dd_M_make_87 : decode cc_M_make 87 = .ok (.ifCond .eq 8, 3) := by decide +kernel
theorem dd_M_make_90 : decode cc_M_make 90 = .ok (.iload 4, 2) := by decide +kernel
theorem dd_M_make_92 : decode cc_M_make 92 = .ok (.goto 4, 3) := by decide +kernel
theorem dd_M_make_95 : decode cc_M_make 95 = .ok (.iload_n 3, 1) := by decide +kernel
theorem dd_M_make_96 : decode cc_M_make 96 = .ok (.istore 7, 2) := by decide +kernel
theorem dd_M_make_98 : decode cc_M_make 98 = .ok (.iload_n 1, 1) := by decide +kernel
theorem dd_M_make_99 : decode cc_M_make 99 = .ok (.invokestatic 77, 3) := by decide +kernel
theorem dd_M_make_102 : decode cc_M_make 102 = .ok (.istore 8, 2) := by decide +kernel
theorem dd_M_make_104 : decode cc_M_make 104 = .ok (.iload 5, 2) := by decide +kernel
theorem dd_M_make_106 : decode cc_M_make 106 = .ok (.ifCond .eq 49, 3) := by decide +kernel
theorem dd_M_make_109 : decode cc_M_make 109 = .ok (.iload 8, 2) := by decide +kernel
theorem dd_M_make_111 : decode cc_M_make 111 = .ok (.iconst 1, 1) := by decide +kernel
theorem dd_M_make_112 : decode cc_M_make 112 = .ok (.if_icmp .lt 18, 3) := by decide +kernel
theorem dd_M_make_115 : decode cc_M_make 115 = .ok (.iload 6, 2) := by decide +kernel
theorem dd_M_make_117 : decode cc_M_make 117 = .ok (.iconst 0, 1) := by decide +kernel
theorem dd_M_make_118 : decode cc_M_make 118 = .ok (.aload_n 0, 1) := by decide +kernel
theorem dd_M_make_119 : decode cc_M_make 119 = .ok (.getfield 81, 3) := by decide +kernel
theorem dd_M_make_122 : decode cc_M_make 122 = .ok (.iconst 1, 1) := by decide +kernel
theorem dd_M_make_123 : decode cc_M_make 123 = .ok (.isub, 1) := by decide +kernel
theorem dd_M_make_124 : decode cc_M_make 124 = .ok (.invokestatic 69, 3) := by decide +kernel
theorem dd_M_make_127 : decode cc_M_make 127 = .ok (.ifCond .eq 28, 3) := by decide +kernel
theorem dd_M_make_130 : decode cc_M_make 130 = .ok (.iload 8, 2) := by decide +kernel
theorem dd_M_make_132 : decode cc_M_make 132 = .ok (.iconst 2, 1) := by decide +kernel
theorem dd_M_make_133 : decode cc_M_make 133 = .ok (.if_icmp .lt 18, 3) := by decide +kernel
theorem dd_M_make_136 : decode cc_M_make 136 = .ok (.iload 7, 2) := by decide +kernel
theorem dd_M_make_138 : decode cc_M_make 138 = .ok (.iconst 0, 1) := by decide +kernel
theorem dd_M_make_139 : decode cc_M_make 139 = .ok (.aload_n 0, 1) := by decide +kernel
theorem dd_M_make_140 : decode cc_M_make 140 = .ok (.getfield 81, 3) := by decide +kernel
theorem dd_M_make_143 : decode cc_M_make 143 = .ok (.iconst 1, 1) := by decide +kernel
theorem dd_M_make_144 : decode cc_M_make 144 = .ok (.isub, 1) := by decide +kernel
theorem dd_M_make_145 : decode cc_M_make 145 = .ok (.invokestatic 69, 3) := by decide +kernel
theorem dd_M_make_148 : decode cc_M_make 148 = .ok (.ifCond .eq 7, 3) := by decide +kernel
theorem dd_M_make_151 : decode cc_M_make 151 = .ok (.iconst 1, 1) := by decide +kernel
theorem dd_M_make_152 : decode cc_M_make 152 = .ok (.goto 4, 3) := by decide +kernel
theorem dd_M_make_155 : decode cc_M_make 155 = .ok (.iconst 0, 1) := by decide +kernel
theorem dd_M_make_156 : decode cc_M_make 156 = .ok (.istore 5, 2) := by decide +kernel
theorem dd_M_make_158 : decode cc_M_make 158 = .ok (.iload 5, 2) := by decide +kernel
theorem dd_M_make_160 : decode cc_M_make 160 = .ok (.ifCond .ne 9, 3) := by decide +kernel
theorem dd_M_make_163 : decode cc_M_make 163 = .ok (.aload_n 0, 1) := by decide +kernel
theorem dd_M_make_164 : decode cc_M_make 164 = .ok (.iconst 1, 1) := by decide +kernel
theorem dd_M_make_165 : decode cc_M_make 165 = .ok (.invokevirtual 84, 3) := by decide +kernel
theorem dd_M_make_168 : decode cc_M_make 168 = .ok (.ireturn, 1) := by decide +kernel
theorem dd_M_make_169 : decode cc_M_make 169 = .ok (.iconst 1, 1) := by decide +kernel
theorem dd_M_make_170 : decode cc_M_make 170 = .ok (.istore 9, 2) := by decide +kernel
theorem dd_M_make_172 : decode cc_M_make 172 = .ok (.iload 8, 2) := by decide +kernel
theorem dd_M_make_174 : decode cc_M_make 174 = .ok (.ifCond .le 29, 3) := by decide +kernel
theorem dd_M_make_177 : decode cc_M_make 177 = .ok (.aload_n 0, 1) := by decide +kernel
theorem dd_M_make_178 : decode cc_M_make 178 = .ok (.getfield 22, 3) := by decide +kernel
theorem dd_M_make_181 : decode cc_M_make 181 = .ok (.iload 6, 2) := by decide +kernel
theorem dd_M_make_183 : decode cc_M_make 183 = .ok (.iaload, 1) := by decide +kernel
theorem dd_M_make_184 : decode cc_M_make 184 = .ok (.iconst 1, 1) := by decide +kernel
theorem dd_M_make_185 : decode cc_M_make 185 = .ok (.iadd, 1) := by decide +kernel
theorem dd_M_make_186 : decode cc_M_make 186 = .ok (.iload 9, 2) := by decide +kernel
theorem dd_M_make_188 : decode cc_M_make 188 = .ok (.if_icmp .le 15, 3) := by decide +kernel
theorem dd_M_make_191 : decode cc_M_make 191 = .ok (.aload_n 0, 1) := by decide +kernel
theorem dd_M_make_192 : decode cc_M_make 192 = .ok (.getfield 22, 3) := by decide +kernel
theorem dd_M_make_195 : decode cc_M_make 195 = .ok (.iload 6, 2) := by decide +kernel
theorem dd_M_make_197 : decode cc_M_make 197 = .ok (.iaload, 1) := by decide +kernel
theorem dd_M_make_198 : decode cc_M_make 198 = .ok (.iconst 1, 1) := by decide +kernel
theorem dd_M_make_199 : decode cc_M_make 199 = .ok (.iadd, 1) := by decide +kernel
theorem dd_M_make_200 : decode cc_M_make 200 = .ok (.goto 5, 3) := by decide +kernel
theorem dd_M_make_203 : decode cc_M_make 203 = .ok (.iload 9, 2) := by decide +kernel
theorem dd_M_make_205 : decode cc_M_make 205 = .ok (.istore 9, 2) := by decide +kernel
theorem dd_M_make_207 : decode cc_M_make 207 = .ok (.iload 8, 2) := by decide +kernel
theorem dd_M_make_209 : decode cc_M_make 209 = .ok (.iconst 1, 1) := by decide +kernel
theorem dd_M_make_210 : decode cc_M_make 210 = .ok (.if_icmp .le 29, 3) := by decide +kernel
theorem dd_M_make_213 : decode cc_M_make 213 = .ok (.aload_n 0, 1) := by decide +kernel
theorem dd_M_make_214 : decode cc_M_make 214 = .ok (.getfield 22, 3) := by decide +kernel
theorem dd_M_make_217 : decode cc_M_make 217 = .ok (.iload 7, 2) := by decide +kernel
theorem dd_M_make_219 : decode cc_M_make 219 = .ok (.iaload, 1) := by decide +kernel
theorem dd_M_make_220 : decode cc_M_make 220 = .ok (.iconst 1, 1) := by decide +kernel
theorem dd_M_make_221 : decode cc_M_make 221 = .ok (.iadd, 1) := by decide +kernel
theorem dd_M_make_222 : decode cc_M_make 222 = .ok (.iload 9, 2) := by decide +kernel
theorem dd_M_make_224 : decode cc_M_make 224 = .ok (.if_icmp .le 15, 3) := by decide +kernel
theorem dd_M_make_227 : decode cc_M_make 227 = .ok (.aload_n 0, 1) := by decide +kernel
theorem dd_M_make_228 : decode cc_M_make 228 = .ok (.getfield 22, 3) := by decide +kernel
theorem dd_M_make_231 : decode cc_M_make 231 = .ok (.iload 7, 2) := by decide +kernel
theorem dd_M_make_233 : decode cc_M_make 233 = .ok (.iaload, 1) := by decide +kernel
theorem dd_M_make_234 : decode cc_M_make 234 = .ok (.iconst 1, 1) := by decide +kernel
theorem dd_M_make_235 : decode cc_M_make 235 = .ok (.iadd, 1) := by decide +kernel
theorem dd_M_make_236 : decode cc_M_make 236 = .ok (.goto 5, 3) := by decide +kernel
theorem dd_M_make_239 : decode cc_M_make 239 = .ok (.iload 9, 2) := by decide +kernel
theorem dd_M_make_241 : decode cc_M_make 241 = .ok (.istore 9, 2) := by decide +kernel
theorem dd_M_make_243 : decode cc_M_make 243 = .ok (.aload_n 0, 1) := by decide +kernel
theorem dd_M_make_244 : decode cc_M_make 244 = .ok (.getfield 81, 3) := by decide +kernel
theorem dd_M_make_247 : decode cc_M_make 247 = .ok (.bipush 60, 2) := by decide +kernel
theorem dd_M_make_249 : decode cc_M_make 249 = .ok (.if_icmp .eq 10, 3) := by decide +kernel
theorem dd_M_make_252 : decode cc_M_make 252 = .ok (.iload 9, 2) := by decide +kernel
theorem dd_M_make_254 : decode cc_M_make 254 = .ok (.bipush 20, 2) := by decide +kernel
theorem dd_M_make_256 : decode cc_M_make 256 = .ok (.if_icmp .le 9, 3) := by decide +kernel
theorem dd_M_make_259 : decode cc_M_make 259 = .ok (.aload_n 0, 1) := by decide +kernel
theorem dd_M_make_260 : decode cc_M_make 260 = .ok (.iconst 2, 1) := by decide +kernel
theorem dd_M_make_261 : decode cc_M_make 261 = .ok (.invokevirtual 84, 3) := by decide +kernel
theorem dd_M_make_264 : decode cc_M_make 264 = .ok (.ireturn, 1) := by decide +kernel
theorem dd_M_make_265 : decode cc_M_make 265 = .ok (.aload_n 0, 1) := by decide +kernel
theorem dd_M_make_266 : decode cc_M_make 266 = .ok (.getfield 7, 3) := by decide +kernel
theorem dd_M_make_269 : decode cc_M_make 269 = .ok (.aload_n 0, 1) := by decide +kernel
theorem dd_M_make_270 : decode cc_M_make 270 = .ok (.getfield 81, 3) := by decide +kernel
theorem dd_M_make_273 : decode cc_M_make 273 = .ok (.iload_n 1, 1) := by decide +kernel
theorem dd_M_make_274 : decode cc_M_make 274 = .ok (.iastore, 1) := by decide +kernel
theorem dd_M_make_275 : decode cc_M_make 275 = .ok (.aload_n 0, 1) := by decide +kernel
theorem dd_M_make_276 : decode cc_M_make 276 = .ok (.getfield 13, 3) := by decide +kernel
theorem dd_M_make_279 : decode cc_M_make 279 = .ok (.aload_n 0, 1) := by decide +kernel
theorem dd_M_make_280 : decode cc_M_make 280 = .ok (.getfield 81, 3) := by decide +kernel
theorem dd_M_make_283 : decode cc_M_make 283 = .ok (.iload_n 1, 1) := by decide +kernel
theorem dd_M_make_284 : decode cc_M_make 284 = .ok (.invokestatic 73, 3) := by decide +kernel
theorem dd_M_make_287 : decode cc_M_make 287 = .ok (.ifCond .ne 9, 3) := by decide +kernel
theorem dd_M_make_290 : decode cc_M_make 290 = .ok (.iload_n 1, 1) := by decide +kernel
theorem dd_M_make_291 : decode cc_M_make 291 = .ok (.bipush 10, 2) := by decide +kernel
theorem dd_M_make_293 : decode cc_M_make 293 = .ok (.if_icmp .ne 7, 3) := by decide +kernel
theorem dd_M_make_296 : decode cc_M_make 296 = .ok (.iload_n 2, 1) := by decide +kernel
theorem dd_M_make_297 : decode cc_M_make 297 = .ok (.goto 4, 3) := by decide +kernel
theorem dd_M_make_300 : decode cc_M_make 300 = .ok (.iconst 0, 1) := by decide +kernel
theorem dd_M_make_301 : decode cc_M_make 301 = .ok (.iastore, 1) := by decide +kernel
theorem dd_M_make_302 : decode cc_M_make 302 = .ok (.aload_n 0, 1) := by decide +kernel
theorem dd_M_make_303 : decode cc_M_make 303 = .ok (.getfield 16, 3) := by decide +kernel
theorem dd_M_make_306 : decode cc_M_make 306 = .ok (.aload_n 0, 1) := by decide +kernel
theorem dd_M_make_307 : decode cc_M_make 307 = .ok (.getfield 81, 3) := by decide +kernel
theorem dd_M_make_310 : decode cc_M_make 310 = .ok (.iload 8, 2) := by decide +kernel
theorem dd_M_make_312 : decode cc_M_make 312 = .ok (.ifCond .le 8, 3) := by decide +kernel
theorem dd_M_make_315 : decode cc_M_make 315 = .ok (.iload 6, 2) := by decide +kernel
theorem dd_M_make_317 : decode cc_M_make 317 = .ok (.goto 4, 3) := by decide +kernel
theorem dd_M_make_320 : decode cc_M_make 320 = .ok (.iconst (-1), 1) := by decide +kernel
theorem dd_M_make_321 : decode cc_M_make 321 = .ok (.iastore, 1) := by decide +kernel
theorem dd_M_make_322 : decode cc_M_make 322 = .ok (.aload_n 0, 1) := by decide +kernel
theorem dd_M_make_323 : decode cc_M_make 323 = .ok (.getfield 19, 3) := by decide +kernel
theorem dd_M_make_326 : decode cc_M_make 326 = .ok (.aload_n 0, 1) := by decide +kernel
theorem dd_M_make_327 : decode cc_M_make 327 = .ok (.getfield 81, 3) := by decide +kernel
theorem dd_M_make_330 : decode cc_M_make 330 = .ok (.iload 8, 2) := by decide +kernel
theorem dd_M_make_332 : decode cc_M_make 332 = .ok (.iconst 1, 1) := by decide +kernel
theorem dd_M_make_333 : decode cc_M_make 333 = .ok (.if_icmp .le 8, 3) := by decide +kernel
theorem dd_M_make_336 : decode cc_M_make 336 = .ok (.iload 7, 2) := by decide +kernel
theorem dd_M_make_338 : decode cc_M_make 338 = .ok (.goto 4, 3) := by decide +kernel
theorem dd_M_make_341 : decode cc_M_make 341 = .ok (.iconst (-1), 1) := by decide +kernel
theorem dd_M_make_342 : decode cc_M_make 342 = .ok (.iastore, 1) := by decide +kernel
theorem dd_M_make_343 : decode cc_M_make 343 = .ok (.aload_n 0, 1) := by decide +kernel
theorem dd_M_make_344 : decode cc_M_make 344 = .ok (.getfield 22, 3) := by decide +kernel
theorem dd_M_make_347 : decode cc_M_make 347 = .ok (.aload_n 0, 1) := by decide +kernel
theorem dd_M_make_348 : decode cc_M_make 348 = .ok (.getfield 81, 3) := by decide +kernel
theorem dd_M_make_351 : decode cc_M_make 351 = .ok (.iload 9, 2) := by decide +kernel
theorem dd_M_make_353 : decode cc_M_make 353 = .ok (.iastore, 1) := by decide +kernel
theorem dd_M_make_354 : decode cc_M_make 354 = .ok (.aload_n 0, 1) := by decide +kernel
theorem dd_M_make_355 : decode cc_M_make 355 = .ok (.getfield 25, 3) := by decide +kernel
theorem dd_M_make_358 : decode cc_M_make 358 = .ok (.aload_n 0, 1) := by decide +kernel
theorem dd_M_make_359 : decode cc_M_make 359 = .ok (.getfield 81, 3) := by decide +kernel
theorem dd_M_make_362 : decode cc_M_make 362 = .ok (.iload_n 1, 1) := by decide +kernel
theorem dd_M_make_363 : decode cc_M_make 363 = .ok (.iload_n 2, 1) := by decide +kernel
theorem dd_M_make_364 : decode cc_M_make 364 = .ok (.iload 8, 2) := by decide +kernel
theorem dd_M_make_366 : decode cc_M_make 366 = .ok (.ifCond .le 13, 3) := by decide +kernel
theorem dd_M_make_369 : decode cc_M_make 369 = .ok (.aload_n 0, 1) := by decide +kernel
theorem dd_M_make_370 : decode cc_M_make 370 = .ok (.getfield 25, 3) := by decide +kernel
theorem dd_M_make_373 : decode cc_M_make 373 = .ok (.iload 6, 2) := by decide +kernel
theorem dd_M_make_375 : decode cc_M_make 375 = .ok (.iaload, 1) := by decide +kernel
theorem dd_M_make_376 : decode cc_M_make 376 = .ok (.goto 4, 3) := by decide +kernel
theorem dd_M_make_379 : decode cc_M_make 379 = .ok (.iconst 0, 1) := by decide +kernel
theorem dd_M_make_380 : decode cc_M_make 380 = .ok (.iload 8, 2) := by decide +kernel
theorem dd_M_make_382 : decode cc_M_make 382 = .ok (.iconst 1, 1) := by decide +kernel
theorem dd_M_make_383 : decode cc_M_make 383 = .ok (.if_icmp .le 13, 3) := by decide +kernel
theorem dd_M_make_386 : decode cc_M_make 386 = .ok (.aload_n 0, 1) := by decide +kernel
theorem dd_M_make_387 : decode cc_M_make 387 = .ok (.getfield 25, 3) := by decide +kernel
theorem dd_M_make_390 : decode cc_M_make 390 = .ok (.iload 7, 2) := by decide +kernel
theorem dd_M_make_392 : decode cc_M_make 392 = .ok (.iaload, 1) := by decide +kernel
theorem dd_M_make_393 : decode cc_M_make 393 = .ok (.goto 4, 3) := by decide +kernel
theorem dd_M_make_396 : decode cc_M_make 396 = .ok (.iconst 0, 1) := by decide +kernel
theorem dd_M_make_397 : decode cc_M_make 397 = .ok (.invokestatic 87, 3) := by decide +kernel
theorem dd_M_make_400 : decode cc_M_make 400 = .ok (.iastore, 1) := by decide +kernel
theorem dd_M_make_401 : decode cc_M_make 401 = .ok (.aload_n 0, 1) := by decide +kernel
theorem dd_M_make_402 : decode cc_M_make 402 = .ok (.dup, 1) := by decide +kernel
theorem dd_M_make_403 : decode cc_M_make 403 = .ok (.getfield 81, 3) := by decide +kernel
theorem dd_M_make_406 : decode cc_M_make 406 = .ok (.iconst 1, 1) := by decide +kernel
theorem dd_M_make_407 : decode cc_M_make 407 = .ok (.iadd, 1) := by decide +kernel
theorem dd_M_make_408 : decode cc_M_make 408 = .ok (.putfield 81, 3) := by decide +kernel
theorem dd_M_make_411 : decode cc_M_make 411 = .ok (.aload_n 0, 1) := by decide +kernel
theorem dd_M_make_412 : decode cc_M_make 412 = .ok (.getfield 81, 3) := by decide +kernel
theorem dd_M_make_415 : decode cc_M_make 415 = .ok (.iconst 1, 1) := by decide +kernel
theorem dd_M_make_416 : decode cc_M_make 416 = .ok (.isub, 1) := by decide +kernel
theorem dd_M_make_417 : decode cc_M_make 417 = .ok (.ireturn, 1) := by decide +kernel
theorem dd_M_greater_0 : decode cc_M_greater 0 = .ok (.iconst 0, 1) := by decide +kernel
theorem dd_M_greater_1 : decode cc_M_greater 1 = .ok (.istore_n 2, 1) := by decide +kernel
theorem dd_M_greater_2 : decode cc_M_greater 2 = .ok (.iconst 0, 1) := by decide +kernel
theorem dd_M_greater_3 : decode cc_M_greater 3 = .ok (.istore_n 3, 1) := by decide +kernel
theorem dd_M_greater_4 : decode cc_M_greater 4 = .ok (.iload_n 3, 1) := by decide +kernel
theorem dd_M_greater_5 : decode cc_M_greater 5 = .ok (.bipush 6, 2) := by decide +kernel
theorem dd_M_greater_7 : decode cc_M_greater 7 = .ok (.if_icmp .ge 60, 3) := by decide +kernel
theorem dd_M_greater_10 : decode cc_M_greater 10 = .ok (.iconst 0, 1) := by decide +kernel
theorem dd_M_greater_11 : decode cc_M_greater 11 = .ok (.istore 4, 2) := by decide +kernel
theorem dd_M_greater_13 : decode cc_M_greater 13 = .ok (.iload 4, 2) := by decide +kernel
theorem dd_M_greater_15 : decode cc_M_greater 15 = .ok (.bipush 6, 2) := by decide +kernel
theorem dd_M_greater_17 : decode cc_M_greater 17 = .ok (.if_icmp .ge 44, 3) := by decide +kernel
theorem dd_M_greater_20 : decode cc_M_greater 20 = .ok (.iload_n 2, 1) := by decide +kernel
theorem dd_M_greater_21 : decode cc_M_greater 21 = .ok (.iload_n 0, 1) := by decide +kernel
theorem dd_M_greater_22 : decode cc_M_greater 22 = .ok (.iload_n 3, 1) := by decide +kernel
theorem dd_M_greater_23 : decode cc_M_greater 23 = .ok (.ishr, 1) := by decide +kernel
theorem dd_M_greater_24 : decode cc_M_greater 24 = .ok (.iload_n 1, 1) := by decide +kernel
theorem dd_M_greater_25 : decode cc_M_greater 25 = .ok (.iload 4, 2) := by decide +kernel
theorem dd_M_greater_27 : decode cc_M_greater 27 = .ok (.ishr, 1) := by decide +kernel
theorem dd_M_greater_28 : decode cc_M_greater 28 = .ok (.iand, 1) := by decide +kernel
theorem dd_M_greater_29 : decode cc_M_greater 29 = .ok (.iconst 1, 1) := by decide +kernel
theorem dd_M_greater_30 : decode cc_M_greater 30 = .ok (.iand, 1) := by decide +kernel
theorem dd_M_greater_31 : decode cc_M_greater 31 = .ok (.iconst 1, 1) := by decide +kernel
theorem dd_M_greater_32 : decode cc_M_greater 32 = .ok (.if_icmp .ne 20, 3) := by decide +kernel
theorem dd_M_greater_35 : decode cc_M_greater 35 = .ok (.iconst 1, 1) := by decide +kernel
theorem dd_M_greater_36 : decode cc_M_greater 36 = .ok (.iload_n 3, 1) := by decide +kernel
theorem dd_M_greater_37 : decode cc_M_greater 37 = .ok (.iload 4, 2) := by decide +kernel
theorem dd_M_greater_39 : decode cc_M_greater 39 = .ok (.if_icmp .le 7, 3) := by decide +kernel
theorem dd_M_greater_42 : decode cc_M_greater 42 = .ok (.iload_n 3, 1) := by decide +kernel
theorem dd_M_greater_43 : decode cc_M_greater 43 = .ok (.goto 5, 3) := by decide +kernel
theorem dd_M_greater_46 : decode cc_M_greater 46 = .ok (.iload 4, 2) := by decide +kernel
theorem dd_M_greater_48 : decode cc_M_greater 48 = .ok (.ishl, 1) := by decide +kernel
theorem dd_M_greater_49 : decode cc_M_greater 49 = .ok (.goto 4, 3) := by decide +kernel
theorem dd_M_greater_52 : decode cc_M_greater 52 = .ok (.iconst 0, 1) := by decide +kernel
theorem dd_M_greater_53 : decode cc_M_greater 53 = .ok (.ior, 1) := by decide +kernel
theorem dd_M_greater_54 : decode cc_M_greater 54 = .ok (.istore_n 2, 1) := by decide +kernel
theorem dd_M_greater_55 : decode cc_M_greater 55 = .ok (.iinc 4 1, 3) := by decide +kernel
theorem dd_M_greater_58 : decode cc_M_greater 58 = .ok (.goto (-45), 3) := by decide +kernel
theorem dd_M_greater_61 : decode cc_M_greater 61 = .ok (.iinc 3 1, 3) := by decide +kernel
theorem dd_M_greater_64 : decode cc_M_greater 64 = .ok (.goto (-60), 3) := by decide +kernel
theorem dd_M_greater_67 : decode cc_M_greater 67 = .ok (.iload_n 2, 1) := by decide +kernel
theorem dd_M_greater_68 : decode cc_M_greater 68 = .ok (.ireturn, 1) := by decide +kernel
theorem dd_M_answers_0 : decode cc_M_answers 0 = .ok (.iload_n 0, 1) := by decide +kernel
theorem dd_M_answers_1 : decode cc_M_answers 1 = .ok (.iconst 1, 1) := by decide +kernel
theorem dd_M_answers_2 : decode cc_M_answers 2 = .ok (.if_icmp .ne 5, 3) := by decide +kernel
theorem dd_M_answers_5 : decode cc_M_answers 5 = .ok (.iconst 2, 1) := by decide +kernel
theorem dd_M_answers_6 : decode cc_M_answers 6 = .ok (.ireturn, 1) := by decide +kernel
theorem dd_M_answers_7 : decode cc_M_answers 7 = .ok (.iload_n 0, 1) := by decide +kernel
theorem dd_M_answers_8 : decode cc_M_answers 8 = .ok (.bipush 10, 2) := by decide +kernel
theorem dd_M_answers_10 : decode cc_M_answers 10 = .ok (.if_icmp .ne 7, 3) := by decide +kernel
theorem dd_M_answers_13 : decode cc_M_answers 13 = .ok (.iconst 4, 1) := by decide +kernel
theorem dd_M_answers_14 : decode cc_M_answers 14 = .ok (.iload_n 1, 1) := by decide +kernel
theorem dd_M_answers_15 : decode cc_M_answers 15 = .ok (.ishl, 1) := by decide +kernel
theorem dd_M_answers_16 : decode cc_M_answers 16 = .ok (.ireturn, 1) := by decide +kernel
theorem dd_M_answers_17 : decode cc_M_answers 17 = .ok (.iload_n 0, 1) := by decide +kernel
theorem dd_M_answers_18 : decode cc_M_answers 18 = .ok (.iconst 3, 1) := by decide +kernel
theorem dd_M_answers_19 : decode cc_M_answers 19 = .ok (.if_icmp .ne 21, 3) := by decide +kernel
theorem dd_M_answers_22 : decode cc_M_answers 22 = .ok (.iload_n 2, 1) := by decide +kernel
theorem dd_M_answers_23 : decode cc_M_answers 23 = .ok (.iconst 1, 1) := by decide +kernel
theorem dd_M_answers_24 : decode cc_M_answers 24 = .ok (.iand, 1) := by decide +kernel
theorem dd_M_answers_25 : decode cc_M_answers 25 = .ok (.iconst 1, 1) := by decide +kernel
theorem dd_M_answers_26 : decode cc_M_answers 26 = .ok (.if_icmp .ne 12, 3) := by decide +kernel
theorem dd_M_answers_29 : decode cc_M_answers 29 = .ok (.iload_n 2, 1) := by decide +kernel
theorem dd_M_answers_30 : decode cc_M_answers 30 = .ok (.bipush (-2), 2) := by decide +kernel
theorem dd_M_answers_32 : decode cc_M_answers 32 = .ok (.iand, 1) := by decide +kernel
theorem dd_M_answers_33 : decode cc_M_answers 33 = .ok (.iload_n 3, 1) := by decide +kernel
theorem dd_M_answers_34 : decode cc_M_answers 34 = .ok (.ior, 1) := by decide +kernel
theorem dd_M_answers_35 : decode cc_M_answers 35 = .ok (.goto 4, 3) := by decide +kernel
theorem dd_M_answers_38 : decode cc_M_answers 38 = .ok (.iload_n 2, 1) := by decide +kernel
theorem dd_M_answers_39 : decode cc_M_answers 39 = .ok (.ireturn, 1) := by decide +kernel
theorem dd_M_answers_40 : decode cc_M_answers 40 = .ok (.iload_n 0, 1) := by decide +kernel
theorem dd_M_answers_41 : decode cc_M_answers 41 = .ok (.iconst 4, 1) := by decide +kernel
theorem dd_M_answers_42 : decode cc_M_answers 42 = .ok (.if_icmp .ne 9, 3) := by decide +kernel
theorem dd_M_answers_45 : decode cc_M_answers 45 = .ok (.iload_n 2, 1) := by decide +kernel
theorem dd_M_answers_46 : decode cc_M_answers 46 = .ok (.iload_n 3, 1) := by decide +kernel
theorem dd_M_answers_47 : decode cc_M_answers 47 = .ok (.invokestatic 91, 3) := by decide +kernel
theorem dd_M_answers_50 : decode cc_M_answers 50 = .ok (.ireturn, 1) := by decide +kernel
theorem dd_M_answers_51 : decode cc_M_answers 51 = .ok (.iload_n 0, 1) := by decide +kernel
theorem dd_M_answers_52 : decode cc_M_answers 52 = .ok (.iconst 5, 1) := by decide +kernel
theorem dd_M_answers_53 : decode cc_M_answers 53 = .ok (.if_icmp .ne 8, 3) := by decide +kernel
theorem dd_M_answers_56 : decode cc_M_answers 56 = .ok (.iload_n 2, 1) := by decide +kernel
theorem dd_M_answers_57 : decode cc_M_answers 57 = .ok (.bipush (-2), 2) := by decide +kernel
theorem dd_M_answers_59 : decode cc_M_answers 59 = .ok (.iand, 1) := by decide +kernel
theorem dd_M_answers_60 : decode cc_M_answers 60 = .ok (.ireturn, 1) := by decide +kernel
theorem dd_M_answers_61 : decode cc_M_answers 61 = .ok (.iload_n 0, 1) := by decide +kernel
theorem dd_M_answers_62 : decode cc_M_answers 62 = .ok (.bipush 6, 2) := by decide +kernel
theorem dd_M_answers_64 : decode cc_M_answers 64 = .ok (.if_icmp .ne 7, 3) := by decide +kernel
theorem dd_M_answers_67 : decode cc_M_answers 67 = .ok (.iload_n 2, 1) := by decide +kernel
theorem dd_M_answers_68 : decode cc_M_answers 68 = .ok (.iload_n 3, 1) := by decide +kernel
theorem dd_M_answers_69 : decode cc_M_answers 69 = .ok (.ior, 1) := by decide +kernel
theorem dd_M_answers_70 : decode cc_M_answers 70 = .ok (.ireturn, 1) := by decide +kernel
theorem dd_M_answers_71 : decode cc_M_answers 71 = .ok (.iload_n 0, 1) := by decide +kernel
theorem dd_M_answers_72 : decode cc_M_answers 72 = .ok (.bipush 7, 2) := by decide +kernel
theorem dd_M_answers_74 : decode cc_M_answers 74 = .ok (.if_icmp .eq 9, 3) := by decide +kernel
theorem dd_M_answers_77 : decode cc_M_answers 77 = .ok (.iload_n 0, 1) := by decide +kernel
theorem dd_M_answers_78 : decode cc_M_answers 78 = .ok (.bipush 8, 2) := by decide +kernel
theorem dd_M_answers_80 : decode cc_M_answers 80 = .ok (.if_icmp .ne 5, 3) := by decide +kernel
theorem dd_M_answers_83 : decode cc_M_answers 83 = .ok (.iload_n 2, 1) := by decide +kernel
theorem dd_M_answers_84 : decode cc_M_answers 84 = .ok (.ireturn, 1) := by decide +kernel
theorem dd_M_answers_85 : decode cc_M_answers 85 = .ok (.iload_n 0, 1) := by decide +kernel
theorem dd_M_answers_86 : decode cc_M_answers 86 = .ok (.bipush 9, 2) := by decide +kernel
theorem dd_M_answers_88 : decode cc_M_answers 88 = .ok (.if_icmp .ne 20, 3) := by decide +kernel
theorem dd_M_answers_91 : decode cc_M_answers 91 = .ok (.iload_n 2, 1) := by decide +kernel
theorem dd_M_answers_92 : decode cc_M_answers 92 = .ok (.iconst 3, 1) := by decide +kernel
theorem dd_M_answers_93 : decode cc_M_answers 93 = .ok (.iand, 1) := by decide +kernel
theorem dd_M_answers_94 : decode cc_M_answers 94 = .ok (.iload_n 2, 1) := by decide +kernel
theorem dd_M_answers_95 : decode cc_M_answers 95 = .ok (.iconst 2, 1) := by decide +kernel
theorem dd_M_answers_96 : decode cc_M_answers 96 = .ok (.ishr, 1) := by decide +kernel
theorem dd_M_answers_97 : decode cc_M_answers 97 = .ok (.iconst 1, 1) := by decide +kernel
theorem dd_M_answers_98 : decode cc_M_answers 98 = .ok (.iand, 1) := by decide +kernel
theorem dd_M_answers_99 : decode cc_M_answers 99 = .ok (.ior, 1) := by decide +kernel
theorem dd_M_answers_100 : decode cc_M_answers 100 = .ok (.iload_n 2, 1) := by decide +kernel
theorem dd_M_answers_101 : decode cc_M_answers 101 = .ok (.iconst 1, 1) := by decide +kernel
theorem dd_M_answers_102 : decode cc_M_answers 102 = .ok (.ishr, 1) := by decide +kernel
theorem dd_M_answers_103 : decode cc_M_answers 103 = .ok (.bipush (-4), 2) := by decide +kernel
theorem dd_M_answers_105 : decode cc_M_answers 105 = .ok (.iand, 1) := by decide +kernel
theorem dd_M_answers_106 : decode cc_M_answers 106 = .ok (.ior, 1) := by decide +kernel
theorem dd_M_answers_107 : decode cc_M_answers 107 = .ok (.ireturn, 1) := by decide +kernel
theorem dd_M_answers_108 : decode cc_M_answers 108 = .ok (.iconst 1, 1) := by decide +kernel
theorem dd_M_answers_109 : decode cc_M_answers 109 = .ok (.ireturn, 1) := by decide +kernel
theorem dd_M_can_0 : decode cc_M_can 0 = .ok (.aload_n 0, 1) := by decide +kernel
theorem dd_M_can_1 : decode cc_M_can 1 = .ok (.iconst 0, 1) := by decide +kernel
theorem dd_M_can_2 : decode cc_M_can 2 = .ok (.putfield 65, 3) := by decide +kernel
theorem dd_M_can_5 : decode cc_M_can 5 = .ok (.iload_n 1, 1) := by decide +kernel
theorem dd_M_can_6 : decode cc_M_can 6 = .ok (.iconst 0, 1) := by decide +kernel
theorem dd_M_can_7 : decode cc_M_can 7 = .ok (.aload_n 0, 1) := by decide +kernel
theorem dd_M_can_8 : decode cc_M_can 8 = .ok (.getfield 81, 3) := by decide +kernel
theorem dd_M_can_11 : decode cc_M_can 11 = .ok (.iconst 1, 1) := by decide +kernel
theorem dd_M_can_12 : decode cc_M_can 12 = .ok (.isub, 1) := by decide +kernel
theorem dd_M_can_13 : decode cc_M_can 13 = .ok (.invokestatic 69, 3) := by decide +kernel
theorem dd_M_can_16 : decode cc_M_can 16 = .ok (.ifCond .eq 12, 3) := by decide +kernel
theorem dd_M_can_19 : decode cc_M_can 19 = .ok (.aload_n 0, 1) := by decide +kernel
theorem dd_M_can_20 : decode cc_M_can 20 = .ok (.getfield 25, 3) := by decide +kernel
theorem dd_M_can_23 : decode cc_M_can 23 = .ok (.iload_n 1, 1) := by decide +kernel
theorem dd_M_can_24 : decode cc_M_can 24 = .ok (.iaload, 1) := by decide +kernel
theorem dd_M_can_25 : decode cc_M_can 25 = .ok (.goto 8, 3) := by decide +kernel
theorem dd_M_can_28 : decode cc_M_can 28 = .ok (.aload_n 0, 1) := by decide +kernel
theorem dd_M_can_29 : decode cc_M_can 29 = .ok (.iconst 1, 1) := by decide +kernel
theorem dd_M_can_30 : decode cc_M_can 30 = .ok (.invokevirtual 84, 3) := by decide +kernel
theorem dd_M_can_33 : decode cc_M_can 33 = .ok (.ireturn, 1) := by decide +kernel
theorem dd_M_push_0 : decode cc_M_push 0 = .ok (.aload_n 0, 1) := by decide +kernel
theorem dd_M_push_1 : decode cc_M_push 1 = .ok (.getfield 28, 3) := by decide +kernel
theorem dd_M_push_4 : decode cc_M_push 4 = .ok (.iconst 4, 1) := by decide +kernel
theorem dd_M_push_5 : decode cc_M_push 5 = .ok (.aload_n 0, 1) := by decide +kernel
theorem dd_M_push_6 : decode cc_M_push 6 = .ok (.getfield 95, 3) := by decide +kernel
theorem dd_M_push_9 : decode cc_M_push 9 = .ok (.imul, 1) := by decide +kernel
theorem dd_M_push_10 : decode cc_M_push 10 = .ok (.iload_n 1, 1) := by decide +kernel
theorem dd_M_push_11 : decode cc_M_push 11 = .ok (.iastore, 1) := by decide +kernel
theorem dd_M_push_12 : decode cc_M_push 12 = .ok (.aload_n 0, 1) := by decide +kernel
theorem dd_M_push_13 : decode cc_M_push 13 = .ok (.getfield 28, 3) := by decide +kernel
theorem dd_M_push_16 : decode cc_M_push 16 = .ok (.iconst 4, 1) := by decide +kernel
theorem dd_M_push_17 : decode cc_M_push 17 = .ok (.aload_n 0, 1) := by decide +kernel
theorem dd_M_push_18 : decode cc_M_push 18 = .ok (.getfield 95, 3) := by decide +kernel
theorem dd_M_push_21 : decode cc_M_push 21 = .ok (.imul, 1) := by decide +kernel
theorem dd_M_push_22 : decode cc_M_push 22 = .ok (.iconst 1, 1) := by decide +kernel
theorem dd_M_push_23 : decode cc_M_push 23 = .ok (.iadd, 1) := by decide +kernel
theorem dd_M_push_24 : decode cc_M_push 24 = .ok (.iload_n 2, 1) := by decide +kernel
theorem dd_M_push_25 : decode cc_M_push 25 = .ok (.iastore, 1) := by decide +kernel
theorem dd_M_push_26 : decode cc_M_push 26 = .ok (.aload_n 0, 1) := by decide +kernel
theorem dd_M_push_27 : decode cc_M_push 27 = .ok (.getfield 28, 3) := by decide +kernel
theorem dd_M_push_30 : decode cc_M_push 30 = .ok (.iconst 4, 1) := by decide +kernel
theorem dd_M_push_31 : decode cc_M_push 31 = .ok (.aload_n 0, 1) := by decide +kernel
theorem dd_M_push_32 : decode cc_M_push 32 = .ok (.getfield 95, 3) := by decide +kernel
theorem dd_M_push_35 : decode cc_M_push 35 = .ok (.imul, 1) := by decide +kernel
theorem dd_M_push_36 : decode cc_M_push 36 = .ok (.iconst 2, 1) := by decide +kernel
theorem dd_M_push_37 : decode cc_M_push 37 = .ok (.iadd, 1) := by decide +kernel
theorem dd_M_push_38 : decode cc_M_push 38 = .ok (.iload_n 3, 1) := by decide +kernel
theorem dd_M_push_39 : decode cc_M_push 39 = .ok (.iastore, 1) := by decide +kernel
theorem dd_M_push_40 : decode cc_M_push 40 = .ok (.aload_n 0, 1) := by decide +kernel
theorem dd_M_push_41 : decode cc_M_push 41 = .ok (.getfield 28, 3) := by decide +kernel
theorem dd_M_push_44 : decode cc_M_push 44 = .ok (.iconst 4, 1) := by decide +kernel
theorem dd_M_push_45 : decode cc_M_push 45 = .ok (.aload_n 0, 1) := by decide +kernel
theorem dd_M_push_46 : decode cc_M_push 46 = .ok (.getfield 95, 3) := by decide +kernel
theorem dd_M_push_49 : decode cc_M_push 49 = .ok (.imul, 1) := by decide +kernel
theorem dd_M_push_50 : decode cc_M_push 50 = .ok (.iconst 3, 1) := by decide +kernel
theorem dd_M_push_51 : decode cc_M_push 51 = .ok (.iadd, 1) := by decide +kernel
theorem dd_M_push_52 : decode cc_M_push 52 = .ok (.iload 4, 2) := by decide +kernel
theorem dd_M_push_54 : decode cc_M_push 54 = .ok (.iastore, 1) := by decide +kernel
theorem dd_M_push_55 : decode cc_M_push 55 = .ok (.aload_n 0, 1) := by decide +kernel
theorem dd_M_push_56 : decode cc_M_push 56 = .ok (.dup, 1) := by decide +kernel
theorem dd_M_push_57 : decode cc_M_push 57 = .ok (.getfield 95, 3) := by decide +kernel
theorem dd_M_push_60 : decode cc_M_push 60 = .ok (.iconst 1, 1) := by decide +kernel
theorem dd_M_push_61 : decode cc_M_push 61 = .ok (.iadd, 1) := by decide +kernel
theorem dd_M_push_62 : decode cc_M_push 62 = .ok (.putfield 95, 3) := by decide +kernel
theorem dd_M_push_65 : decode cc_M_push 65 = .ok (.return_, 1) := by decide +kernel
theorem dd_M_goes_0 : decode cc_M_goes 0 = .ok (.aload_n 0, 1) := by decide +kernel
theorem dd_M_goes_1 : decode cc_M_goes 1 = .ok (.iconst 0, 1) := by decide +kernel
theorem dd_M_goes_2 : decode cc_M_goes 2 = .ok (.putfield 95, 3) := by decide +kernel
theorem dd_M_goes_5 : decode cc_M_goes 5 = .ok (.aload_n 0, 1) := by decide +kernel
theorem dd_M_goes_6 : decode cc_M_goes 6 = .ok (.iconst 0, 1) := by decide +kernel
theorem dd_M_goes_7 : decode cc_M_goes 7 = .ok (.putfield 98, 3) := by decide +kernel
theorem dd_M_goes_10 : decode cc_M_goes 10 = .ok (.aload_n 0, 1) := by decide +kernel
theorem dd_M_goes_11 : decode cc_M_goes 11 = .ok (.iconst 0, 1) := by decide +kernel
theorem dd_M_goes_12 : decode cc_M_goes 12 = .ok (.putfield 101, 3) := by decide +kernel
theorem dd_M_goes_15 : decode cc_M_goes 15 = .ok (.aload_n 0, 1) := by decide +kernel
theorem dd_M_goes_16 : decode cc_M_goes 16 = .ok (.iload_n 1, 1) := by decide +kernel
theorem dd_M_goes_17 : decode cc_M_goes 17 = .ok (.iconst (-1), 1) := by decide +kernel
theorem dd_M_goes_18 : decode cc_M_goes 18 = .ok (.iconst 0, 1) := by decide +kernel
theorem dd_M_goes_19 : decode cc_M_goes 19 = .ok (.iconst 0, 1) := by decide +kernel
theorem dd_M_goes_20 : decode cc_M_goes 20 = .ok (.invokevirtual 104, 3) := by decide +kernel
theorem dd_M_goes_23 : decode cc_M_goes 23 = .ok (.aload_n 0, 1) := by decide +kernel
theorem dd_M_goes_24 : decode cc_M_goes 24 = .ok (.getfield 95, 3) := by decide +kernel
theorem dd_M_goes_27 : decode cc_M_goes 27 = .ok (.ifCond .le 318, 3) := by decide +kernel
theorem dd_M_goes_30 : decode cc_M_goes 30 = .ok (.aload_n 0, 1) := by decide +kernel
theorem dd_M_goes_31 : decode cc_M_goes 31 = .ok (.dup, 1) := by decide +kernel
theorem dd_M_goes_32 : decode cc_M_goes 32 = .ok (.getfield 95, 3) := by decide +kernel
theorem dd_M_goes_35 : decode cc_M_goes 35 = .ok (.iconst 1, 1) := by decide +kernel
theorem dd_M_goes_36 : decode cc_M_goes 36 = .ok (.isub, 1) := by decide +kernel
theorem dd_M_goes_37 : decode cc_M_goes 37 = .ok (.putfield 95, 3) := by decide +kernel
theorem dd_M_goes_40 : decode cc_M_goes 40 = .ok (.aload_n 0, 1) := by decide +kernel
theorem dd_M_goes_41 : decode cc_M_goes 41 = .ok (.getfield 28, 3) := by decide +kernel
theorem dd_M_goes_44 : decode cc_M_goes 44 = .ok (.iconst 4, 1) := by decide +kernel
theorem dd_M_goes_45 : decode cc_M_goes 45 = .ok (.aload_n 0, 1) := by decide +kernel
theorem dd_M_goes_46 : decode cc_M_goes 46 = .ok (.getfield 95, 3) := by decide +kernel
theorem dd_M_goes_49 : decode cc_M_goes 49 = .ok (.imul, 1) := by decide +kernel
theorem dd_M_goes_50 : decode cc_M_goes 50 = .ok (.iaload, 1) := by decide +kernel
theorem dd_M_goes_51 : decode cc_M_goes 51 = .ok (.istore_n 3, 1) := by decide +kernel
theorem dd_M_goes_52 : decode cc_M_goes 52 = .ok (.aload_n 0, 1) := by decide +kernel
theorem dd_M_goes_53 : decode cc_M_goes 53 = .ok (.getfield 28, 3) := by decide +kernel
theorem dd_M_goes_56 : decode cc_M_goes 56 = .ok (.iconst 4, 1) := by decide +kernel
theorem dd_M_goes_57 : decode cc_M_goes 57 = .ok (.aload_n 0, 1) := by decide +kernel
theorem dd_M_goes_58 : decode cc_M_goes 58 = .ok (.getfield 95, 3) := by decide +kernel
theorem dd_M_goes_61 : decode cc_M_goes 61 = .ok (.imul, 1) := by decide +kernel
theorem dd_M_goes_62 : decode cc_M_goes 62 = .ok (.iconst 3, 1) := by decide +kernel
theorem dd_M_goes_63 : decode cc_M_goes 63 = .ok (.iadd, 1) := by decide +kernel
theorem dd_M_goes_64 : decode cc_M_goes 64 = .ok (.iaload, 1) := by decide +kernel
theorem dd_M_goes_65 : decode cc_M_goes 65 = .ok (.istore 4, 2) := by decide +kernel
theorem dd_M_goes_67 : decode cc_M_goes 67 = .ok (.aload_n 0, 1) := by decide +kernel
theorem dd_M_goes_68 : decode cc_M_goes 68 = .ok (.getfield 7, 3) := by decide +kernel
theorem dd_M_goes_71 : decode cc_M_goes 71 = .ok (.iload_n 3, 1) := by decide +kernel
theorem dd_M_goes_72 : decode cc_M_goes 72 = .ok (.iaload, 1) := by decide +kernel
theorem dd_M_goes_73 : decode cc_M_goes 73 = .ok (.iconst 5, 1) := by decide +kernel
theorem dd_M_goes_74 : decode cc_M_goes 74 = .ok (.if_icmp .ne 20, 3) := by decide +kernel
theorem dd_M_goes_77 : decode cc_M_goes 77 = .ok (.aload_n 0, 1) := by decide +kernel
theorem dd_M_goes_78 : decode cc_M_goes 78 = .ok (.getfield 25, 3) := by decide +kernel
theorem dd_M_goes_81 : decode cc_M_goes 81 = .ok (.aload_n 0, 1) := by decide +kernel
theorem dd_M_goes_82 : decode cc_M_goes 82 = .ok (.getfield 16, 3) := by decide +kernel
theorem dd_M_goes_85 : decode cc_M_goes 85 = .ok (.iload_n 3, 1) := by decide +kernel
theorem dd_M_goes_86 : decode cc_M_goes 86 = .ok (.iaload, 1) := by decide +kernel
theorem dd_M_goes_87 : decode cc_M_goes 87 = .ok (.iaload, 1) := by decide +kernel
theorem dd_M_goes_88 : decode cc_M_goes 88 = .ok (.iconst 1, 1) := by decide +kernel
theorem dd_M_goes_89 : decode cc_M_goes 89 = .ok (.iand, 1) := by decide +kernel
theorem dd_M_goes_90 : decode cc_M_goes 90 = .ok (.iconst 1, 1) := by decide +kernel
theorem dd_M_goes_91 : decode cc_M_goes 91 = .ok (.if_icmp .eq 27, 3) := by decide +kernel
theorem dd_M_goes_94 : decode cc_M_goes 94 = .ok (.aload_n 0, 1) := by decide +kernel
theorem dd_M_goes_95 : decode cc_M_goes 95 = .ok (.getfield 7, 3) := by decide +kernel
theorem dd_M_goes_98 : decode cc_M_goes 98 = .ok (.iload_n 3, 1) := by decide +kernel
theorem dd_M_goes_99 : decode cc_M_goes 99 = .ok (.iaload, 1) := by decide +kernel
theorem dd_M_goes_100 : decode cc_M_goes 100 = .ok (.bipush 10, 2) := by decide +kernel
theorem dd_M_goes_102 : decode cc_M_goes 102 = .ok (.if_icmp .ne 20, 3) := by decide +kernel
theorem dd_M_goes_105 : decode cc_M_goes 105 = .ok (.aload_n 0, 1) := by decide +kernel
theorem dd_M_goes_106 : decode cc_M_goes 106 = .ok (.getfield 13, 3) := by decide +kernel
theorem dd_M_goes_109 : decode cc_M_goes 109 = .ok (.iload_n 3, 1) := by decide +kernel
theorem dd_M_goes_110 : decode cc_M_goes 110 = .ok (.iaload, 1) := by decide +kernel
theorem dd_M_goes_111 : decode cc_M_goes 111 = .ok (.iconst 1, 1) := by decide +kernel
theorem dd_M_goes_112 : decode cc_M_goes 112 = .ok (.iadd, 1) := by decide +kernel
theorem dd_M_goes_113 : decode cc_M_goes 113 = .ok (.iload 4, 2) := by decide +kernel
theorem dd_M_goes_115 : decode cc_M_goes 115 = .ok (.if_icmp .le 7, 3) := by decide +kernel
theorem dd_M_goes_118 : decode cc_M_goes 118 = .ok (.iconst 1, 1) := by decide +kernel
theorem dd_M_goes_119 : decode cc_M_goes 119 = .ok (.goto 4, 3) := by decide +kernel
theorem dd_M_goes_122 : decode cc_M_goes 122 = .ok (.iconst 0, 1) := by decide +kernel
theorem dd_M_goes_123 : decode cc_M_goes 123 = .ok (.istore 5, 2) := by decide +kernel
theorem dd_M_goes_125 : decode cc_M_goes 125 = .ok (.iload 5, 2) := by decide +kernel
theorem dd_M_goes_127 : decode cc_M_goes 127 = .ok (.ifCond .ne 32, 3) := by decide +kernel
theorem dd_M_goes_130 : decode cc_M_goes 130 = .ok (.aload_n 0, 1) := by decide +kernel
theorem dd_M_goes_131 : decode cc_M_goes 131 = .ok (.getfield 98, 3) := by decide +kernel
theorem dd_M_goes_134 : decode cc_M_goes 134 = .ok (.sipush 300, 3) := by decide +kernel
theorem dd_M_goes_137 : decode cc_M_goes 137 = .ok (.if_icmp .eq 22, 3) := by decide +kernel
theorem dd_M_goes_140 : decode cc_M_goes 140 = .ok (.aload_n 0, 1) := by decide +kernel
theorem dd_M_goes_141 : decode cc_M_goes 141 = .ok (.getfield 7, 3) := by decide +kernel
theorem dd_M_goes_144 : decode cc_M_goes 144 = .ok (.iload_n 3, 1) := by decide +kernel
theorem dd_M_goes_145 : decode cc_M_goes 145 = .ok (.iaload, 1) := by decide +kernel
theorem dd_M_goes_146 : decode cc_M_goes 146 = .ok (.iconst 1, 1) := by decide +kernel
theorem dd_M_goes_147 : decode cc_M_goes 147 = .ok (.if_icmp .ne 14, 3) := by decide +kernel
theorem dd_M_goes_150 : decode cc_M_goes 150 = .ok (.aload_n 0, 1) := by decide +kernel
theorem dd_M_goes_151 : decode cc_M_goes 151 = .ok (.getfield 101, 3) := by decide +kernel
theorem dd_M_goes_154 : decode cc_M_goes 154 = .ok (.bipush 60, 2) := by decide +kernel
theorem dd_M_goes_156 : decode cc_M_goes 156 = .ok (.if_icmp .ne 5, 3) := by decide +kernel
theorem dd_M_goes_159 : decode cc_M_goes 159 = .ok (.iconst 0, 1) := by decide +kernel
theorem dd_M_goes_160 : decode cc_M_goes 160 = .ok (.ireturn, 1) := by decide +kernel
theorem dd_M_goes_161 : decode cc_M_goes 161 = .ok (.iload_n 2, 1) := by decide +kernel
theorem dd_M_goes_162 : decode cc_M_goes 162 = .ok (.ifCond .eq 38, 3) := by decide +kernel
theorem dd_M_goes_165 : decode cc_M_goes 165 = .ok (.aload_n 0, 1) := by decide +kernel
theorem dd_M_goes_166 : decode cc_M_goes 166 = .ok (.aload_n 0, 1) := by decide +kernel
theorem dd_M_goes_167 : decode cc_M_goes 167 = .ok (.getfield 98, 3) := by decide +kernel
theorem dd_M_goes_170 : decode cc_M_goes 170 = .ok (.iload_n 3, 1) := by decide +kernel
theorem dd_M_goes_171 : decode cc_M_goes 171 = .ok (.aload_n 0, 1) := by decide +kernel
theorem dd_M_goes_172 : decode cc_M_goes 172 = .ok (.getfield 28, 3) := by decide +kernel
theorem dd_M_goes_175 : decode cc_M_goes 175 = .ok (.iconst 4, 1) := by decide +kernel
theorem dd_M_goes_176 : decode cc_M_goes 176 = .ok (.aload_n 0, 1) := by decide +kernel
theorem dd_M_goes_177 : decode cc_M_goes 177 = .ok (.getfield 95, 3) := by decide +kernel
theorem dd_M_goes_180 : decode cc_M_goes 180 = .ok (.imul, 1) := by decide +kernel
theorem dd_M_goes_181 : decode cc_M_goes 181 = .ok (.iconst 1, 1) := by decide +kernel
theorem dd_M_goes_182 : decode cc_M_goes 182 = .ok (.iadd, 1) := by decide +kernel
theorem dd_M_goes_183 : decode cc_M_goes 183 = .ok (.iaload, 1) := by decide +kernel
theorem dd_M_goes_184 : decode cc_M_goes 184 = .ok (.aload_n 0, 1) := by decide +kernel
theorem dd_M_goes_185 : decode cc_M_goes 185 = .ok (.getfield 28, 3) := by decide +kernel
theorem dd_M_goes_188 : decode cc_M_goes 188 = .ok (.iconst 4, 1) := by decide +kernel
theorem dd_M_goes_189 : decode cc_M_goes 189 = .ok (.aload_n 0, 1) := by decide +kernel
theorem dd_M_goes_190 : decode cc_M_goes 190 = .ok (.getfield 95, 3) := by decide +kernel
theorem dd_M_goes_193 : decode cc_M_goes 193 = .ok (.imul, 1) := by decide +kernel
theorem dd_M_goes_194 : decode cc_M_goes 194 = .ok (.iconst 2, 1) := by decide +kernel
theorem dd_M_goes_195 : decode cc_M_goes 195 = .ok (.iadd, 1) := by decide +kernel
theorem dd_M_goes_196 : decode cc_M_goes 196 = .ok (.iaload, 1) := by decide +kernel
theorem dd_M_goes_197 : decode cc_M_goes 197 = .ok (.invokevirtual 108, 3) := by decide +kernel
theorem dd_M_goes_200 : decode cc_M_goes 200 = .ok (.aload_n 0, 1) := by decide +kernel
theorem dd_M_goes_201 : decode cc_M_goes 201 = .ok (.getfield 98, 3) := by decide +kernel
theorem dd_M_goes_204 : decode cc_M_goes 204 = .ok (.istore 6, 2) := by decide +kernel
theorem dd_M_goes_206 : decode cc_M_goes 206 = .ok (.aload_n 0, 1) := by decide +kernel
theorem dd_M_goes_207 : decode cc_M_goes 207 = .ok (.dup, 1) := by decide +kernel
theorem dd_M_goes_208 : decode cc_M_goes 208 = .ok (.getfield 98, 3) := by decide +kernel
theorem dd_M_goes_211 : decode cc_M_goes 211 = .ok (.iconst 1, 1) := by decide +kernel
theorem dd_M_goes_212 : decode cc_M_goes 212 = .ok (.iadd, 1) := by decide +kernel
theorem dd_M_goes_213 : decode cc_M_goes 213 = .ok (.putfield 98, 3) := by decide +kernel
theorem dd_M_goes_216 : decode cc_M_goes 216 = .ok (.aload_n 0, 1) := by decide +kernel
theorem dd_M_goes_217 : decode cc_M_goes 217 = .ok (.dup, 1) := by decide +kernel
theorem dd_M_goes_218 : decode cc_M_goes 218 = .ok (.getfield 101, 3) := by decide +kernel
theorem dd_M_goes_221 : decode cc_M_goes 221 = .ok (.aload_n 0, 1) := by decide +kernel
theorem dd_M_goes_222 : decode cc_M_goes 222 = .ok (.getfield 7, 3) := by decide +kernel
theorem dd_M_goes_225 : decode cc_M_goes 225 = .ok (.iload_n 3, 1) := by decide +kernel
theorem dd_M_goes_226 : decode cc_M_goes 226 = .ok (.iaload, 1) := by decide +kernel
theorem dd_M_goes_227 : decode cc_M_goes 227 = .ok (.iconst 1, 1) := by decide +kernel
theorem dd_M_goes_228 : decode cc_M_goes 228 = .ok (.if_icmp .ne 7, 3) := by decide +kernel
theorem dd_M_goes_231 : decode cc_M_goes 231 = .ok (.iconst 1, 1) := by decide +kernel
theorem dd_M_goes_232 : decode cc_M_goes 232 = .ok (.goto 4, 3) := by decide +kernel
theorem dd_M_goes_235 : decode cc_M_goes 235 = .ok (.iconst 0, 1) := by decide +kernel
theorem dd_M_goes_236 : decode cc_M_goes 236 = .ok (.iadd, 1) := by decide +kernel
theorem dd_M_goes_237 : decode cc_M_goes 237 = .ok (.putfield 101, 3) := by decide +kernel
theorem dd_M_goes_240 : decode cc_M_goes 240 = .ok (.aload_n 0, 1) := by decide +kernel
theorem dd_M_goes_241 : decode cc_M_goes 241 = .ok (.getfield 7, 3) := by decide +kernel
theorem dd_M_goes_244 : decode cc_M_goes 244 = .ok (.iload_n 3, 1) := by decide +kernel
theorem dd_M_goes_245 : decode cc_M_goes 245 = .ok (.iaload, 1) := by decide +kernel
theorem dd_M_goes_246 : decode cc_M_goes 246 = .ok (.bipush 9, 2) := by decide +kernel
theorem dd_M_goes_248 : decode cc_M_goes 248 = .ok (.if_icmp .ne 10, 3) := by decide +kernel
theorem dd_M_goes_251 : decode cc_M_goes 251 = .ok (.iload 4, 2) := by decide +kernel
theorem dd_M_goes_253 : decode cc_M_goes 253 = .ok (.iconst 1, 1) := by decide +kernel
theorem dd_M_goes_254 : decode cc_M_goes 254 = .ok (.iadd, 1) := by decide +kernel
theorem dd_M_goes_255 : decode cc_M_goes 255 = .ok (.goto 5, 3) := by decide +kernel
theorem dd_M_goes_258 : decode cc_M_goes 258 = .ok (.iload 4, 2) := by decide +kernel
theorem dd_M_goes_260 : decode cc_M_goes 260 = .ok (.istore 7, 2) := by decide +kernel
theorem dd_M_goes_262 : decode cc_M_goes 262 = .ok (.aload_n 0, 1) := by decide +kernel
theorem dd_M_goes_263 : decode cc_M_goes 263 = .ok (.getfield 7, 3) := by decide +kernel
theorem dd_M_goes_266 : decode cc_M_goes 266 = .ok (.iload_n 3, 1) := by decide +kernel
theorem dd_M_goes_267 : decode cc_M_goes 267 = .ok (.iaload, 1) := by decide +kernel
theorem dd_M_goes_268 : decode cc_M_goes 268 = .ok (.invokestatic 77, 3) := by decide +kernel
theorem dd_M_goes_271 : decode cc_M_goes 271 = .ok (.iconst 2, 1) := by decide +kernel
theorem dd_M_goes_272 : decode cc_M_goes 272 = .ok (.if_icmp .ne 18, 3) := by decide +kernel
theorem dd_M_goes_275 : decode cc_M_goes 275 = .ok (.aload_n 0, 1) := by decide +kernel
theorem dd_M_goes_276 : decode cc_M_goes 276 = .ok (.aload_n 0, 1) := by decide +kernel
theorem dd_M_goes_277 : decode cc_M_goes 277 = .ok (.getfield 19, 3) := by decide +kernel
theorem dd_M_goes_280 : decode cc_M_goes 280 = .ok (.iload_n 3, 1) := by decide +kernel
theorem dd_M_goes_281 : decode cc_M_goes 281 = .ok (.iaload, 1) := by decide +kernel
theorem dd_M_goes_282 : decode cc_M_goes 282 = .ok (.iload 6, 2) := by decide +kernel
theorem dd_M_goes_284 : decode cc_M_goes 284 = .ok (.iconst 1, 1) := by decide +kernel
theorem dd_M_goes_285 : decode cc_M_goes 285 = .ok (.iload 7, 2) := by decide +kernel
theorem dd_M_goes_287 : decode cc_M_goes 287 = .ok (.invokevirtual 104, 3) := by decide +kernel
theorem dd_M_goes_290 : decode cc_M_goes 290 = .ok (.aload_n 0, 1) := by decide +kernel
theorem dd_M_goes_291 : decode cc_M_goes 291 = .ok (.getfield 7, 3) := by decide +kernel
theorem dd_M_goes_294 : decode cc_M_goes 294 = .ok (.iload_n 3, 1) := by decide +kernel
theorem dd_M_goes_295 : decode cc_M_goes 295 = .ok (.iaload, 1) := by decide +kernel
theorem dd_M_goes_296 : decode cc_M_goes 296 = .ok (.iconst 5, 1) := by decide +kernel
theorem dd_M_goes_297 : decode cc_M_goes 297 = .ok (.if_icmp .ne 18, 3) := by decide +kernel
theorem dd_M_goes_300 : decode cc_M_goes 300 = .ok (.aload_n 0, 1) := by decide +kernel
theorem dd_M_goes_301 : decode cc_M_goes 301 = .ok (.aload_n 0, 1) := by decide +kernel
theorem dd_M_goes_302 : decode cc_M_goes 302 = .ok (.getfield 16, 3) := by decide +kernel
theorem dd_M_goes_305 : decode cc_M_goes 305 = .ok (.iload_n 3, 1) := by decide +kernel
theorem dd_M_goes_306 : decode cc_M_goes 306 = .ok (.iaload, 1) := by decide +kernel
theorem dd_M_goes_307 : decode cc_M_goes 307 = .ok (.iload 6, 2) := by decide +kernel
theorem dd_M_goes_309 : decode cc_M_goes 309 = .ok (.iconst 1, 1) := by decide +kernel
theorem dd_M_goes_310 : decode cc_M_goes 310 = .ok (.iload 7, 2) := by decide +kernel
theorem dd_M_goes_312 : decode cc_M_goes 312 = .ok (.invokevirtual 104, 3) := by decide +kernel
theorem dd_M_goes_315 : decode cc_M_goes 315 = .ok (.aload_n 0, 1) := by decide +kernel
theorem dd_M_goes_316 : decode cc_M_goes 316 = .ok (.getfield 7, 3) := by decide +kernel
theorem dd_M_goes_319 : decode cc_M_goes 319 = .ok (.iload_n 3, 1) := by decide +kernel
theorem dd_M_goes_320 : decode cc_M_goes 320 = .ok (.iaload, 1) := by decide +kernel
theorem dd_M_goes_321 : decode cc_M_goes 321 = .ok (.invokestatic 77, 3) := by decide +kernel
theorem dd_M_goes_324 : decode cc_M_goes 324 = .ok (.ifCond .le 18, 3) := by decide +kernel
theorem dd_M_goes_327 : decode cc_M_goes 327 = .ok (.aload_n 0, 1) := by decide +kernel
theorem dd_M_goes_328 : decode cc_M_goes 328 = .ok (.aload_n 0, 1) := by decide +kernel
theorem dd_M_goes_329 : decode cc_M_goes 329 = .ok (.getfield 16, 3) := by decide +kernel
theorem dd_M_goes_332 : decode cc_M_goes 332 = .ok (.iload_n 3, 1) := by decide +kernel
theorem dd_M_goes_333 : decode cc_M_goes 333 = .ok (.iaload, 1) := by decide +kernel
theorem dd_M_goes_334 : decode cc_M_goes 334 = .ok (.iload 6, 2) := by decide +kernel
theorem dd_M_goes_336 : decode cc_M_goes 336 = .ok (.iconst 0, 1) := by decide +kernel
theorem dd_M_goes_337 : decode cc_M_goes 337 = .ok (.iload 7, 2) := by decide +kernel
theorem dd_M_goes_339 : decode cc_M_goes 339 = .ok (.invokevirtual 104, 3) := by decide +kernel
theorem dd_M_goes_342 : decode cc_M_goes 342 = .ok (.goto (-319), 3) := by decide +kernel
theorem dd_M_goes_345 : decode cc_M_goes 345 = .ok (.iconst 1, 1) := by decide +kernel
theorem dd_M_goes_346 : decode cc_M_goes 346 = .ok (.ireturn, 1) := by decide +kernel
theorem dd_M_copy_0 : decode cc_M_copy 0 = .ok (.aload_n 0, 1) := by decide +kernel
theorem dd_M_copy_1 : decode cc_M_copy 1 = .ok (.getfield 31, 3) := by decide +kernel
theorem dd_M_copy_4 : decode cc_M_copy 4 = .ok (.iload_n 1, 1) := by decide +kernel
theorem dd_M_copy_5 : decode cc_M_copy 5 = .ok (.iload_n 2, 1) := by decide +kernel
theorem dd_M_copy_6 : decode cc_M_copy 6 = .ok (.iastore, 1) := by decide +kernel
theorem dd_M_copy_7 : decode cc_M_copy 7 = .ok (.aload_n 0, 1) := by decide +kernel
theorem dd_M_copy_8 : decode cc_M_copy 8 = .ok (.getfield 34, 3) := by decide +kernel
theorem dd_M_copy_11 : decode cc_M_copy 11 = .ok (.iload_n 1, 1) := by decide +kernel
theorem dd_M_copy_12 : decode cc_M_copy 12 = .ok (.iload_n 3, 1) := by decide +kernel
theorem dd_M_copy_13 : decode cc_M_copy 13 = .ok (.iastore, 1) := by decide +kernel
theorem dd_M_copy_14 : decode cc_M_copy 14 = .ok (.aload_n 0, 1) := by decide +kernel
theorem dd_M_copy_15 : decode cc_M_copy 15 = .ok (.getfield 37, 3) := by decide +kernel
theorem dd_M_copy_18 : decode cc_M_copy 18 = .ok (.iload_n 1, 1) := by decide +kernel
theorem dd_M_copy_19 : decode cc_M_copy 19 = .ok (.iload 4, 2) := by decide +kernel
theorem dd_M_copy_21 : decode cc_M_copy 21 = .ok (.iastore, 1) := by decide +kernel
theorem dd_M_copy_22 : decode cc_M_copy 22 = .ok (.iload_n 3, 1) := by decide +kernel
theorem dd_M_copy_23 : decode cc_M_copy 23 = .ok (.ifCond .lt 15, 3) := by decide +kernel
theorem dd_M_copy_26 : decode cc_M_copy 26 = .ok (.iload 4, 2) := by decide +kernel
theorem dd_M_copy_28 : decode cc_M_copy 28 = .ok (.ifCond .ne 10, 3) := by decide +kernel
theorem dd_M_copy_31 : decode cc_M_copy 31 = .ok (.aload_n 0, 1) := by decide +kernel
theorem dd_M_copy_32 : decode cc_M_copy 32 = .ok (.getfield 40, 3) := by decide +kernel
theorem dd_M_copy_35 : decode cc_M_copy 35 = .ok (.iload_n 3, 1) := by decide +kernel
theorem dd_M_copy_36 : decode cc_M_copy 36 = .ok (.iload_n 1, 1) := by decide +kernel
theorem dd_M_copy_37 : decode cc_M_copy 37 = .ok (.iastore, 1) := by decide +kernel
theorem dd_M_copy_38 : decode cc_M_copy 38 = .ok (.iload_n 3, 1) := by decide +kernel
theorem dd_M_copy_39 : decode cc_M_copy 39 = .ok (.ifCond .lt 16, 3) := by decide +kernel
theorem dd_M_copy_42 : decode cc_M_copy 42 = .ok (.iload 4, 2) := by decide +kernel
theorem dd_M_copy_44 : decode cc_M_copy 44 = .ok (.iconst 1, 1) := by decide +kernel
theorem dd_M_copy_45 : decode cc_M_copy 45 = .ok (.if_icmp .ne 10, 3) := by decide +kernel
theorem dd_M_copy_48 : decode cc_M_copy 48 = .ok (.aload_n 0, 1) := by decide +kernel
theorem dd_M_copy_49 : decode cc_M_copy 49 = .ok (.getfield 43, 3) := by decide +kernel
theorem dd_M_copy_52 : decode cc_M_copy 52 = .ok (.iload_n 3, 1) := by decide +kernel
theorem dd_M_copy_53 : decode cc_M_copy 53 = .ok (.iload_n 1, 1) := by decide +kernel
theorem dd_M_copy_54 : decode cc_M_copy 54 = .ok (.iastore, 1) := by decide +kernel
theorem dd_M_copy_55 : decode cc_M_copy 55 = .ok (.iconst 0, 1) := by decide +kernel
theorem dd_M_copy_56 : decode cc_M_copy 56 = .ok (.istore 5, 2) := by decide +kernel
theorem dd_M_copy_58 : decode cc_M_copy 58 = .ok (.iload 5, 2) := by decide +kernel
theorem dd_M_copy_60 : decode cc_M_copy 60 = .ok (.bipush 8, 2) := by decide +kernel
theorem dd_M_copy_62 : decode cc_M_copy 62 = .ok (.if_icmp .ge 42, 3) := by decide +kernel
theorem dd_M_copy_65 : decode cc_M_copy 65 = .ok (.aload_n 0, 1) := by decide +kernel
theorem dd_M_copy_66 : decode cc_M_copy 66 = .ok (.getfield 46, 3) := by decide +kernel
theorem dd_M_copy_69 : decode cc_M_copy 69 = .ok (.bipush 8, 2) := by decide +kernel
theorem dd_M_copy_71 : decode cc_M_copy 71 = .ok (.iload_n 1, 1) := by decide +kernel
theorem dd_M_copy_72 : decode cc_M_copy 72 = .ok (.imul, 1) := by decide +kernel
theorem dd_M_copy_73 : decode cc_M_copy 73 = .ok (.iload 5, 2) := by decide +kernel
theorem dd_M_copy_75 : decode cc_M_copy 75 = .ok (.iadd, 1) := by decide +kernel
theorem dd_M_copy_76 : decode cc_M_copy 76 = .ok (.iload_n 3, 1) := by decide +kernel
theorem dd_M_copy_77 : decode cc_M_copy 77 = .ok (.ifCond .ge 8, 3) := by decide +kernel
theorem dd_M_copy_80 : decode cc_M_copy 80 = .ok (.iload 5, 2) := by decide +kernel
theorem dd_M_copy_82 : decode cc_M_copy 82 = .ok (.goto 15, 3) := by decide +kernel
theorem dd_M_copy_85 : decode cc_M_copy 85 = .ok (.aload_n 0, 1) := by decide +kernel
theorem dd_M_copy_86 : decode cc_M_copy 86 = .ok (.getfield 46, 3) := by decide +kernel
theorem dd_M_copy_89 : decode cc_M_copy 89 = .ok (.bipush 8, 2) := by decide +kernel
theorem dd_M_copy_91 : decode cc_M_copy 91 = .ok (.iload_n 3, 1) := by decide +kernel
theorem dd_M_copy_92 : decode cc_M_copy 92 = .ok (.imul, 1) := by decide +kernel
theorem dd_M_copy_93 : decode cc_M_copy 93 = .ok (.iload 5, 2) := by decide +kernel
theorem dd_M_copy_95 : decode cc_M_copy 95 = .ok (.iadd, 1) := by decide +kernel
theorem dd_M_copy_96 : decode cc_M_copy 96 = .ok (.iaload, 1) := by decide +kernel
theorem dd_M_copy_97 : decode cc_M_copy 97 = .ok (.iastore, 1) := by decide +kernel
theorem dd_M_copy_98 : decode cc_M_copy 98 = .ok (.iinc 5 1, 3) := by decide +kernel
theorem dd_M_copy_101 : decode cc_M_copy 101 = .ok (.goto (-43), 3) := by decide +kernel
theorem dd_M_copy_104 : decode cc_M_copy 104 = .ok (.aload_n 0, 1) := by decide +kernel
theorem dd_M_copy_105 : decode cc_M_copy 105 = .ok (.getfield 7, 3) := by decide +kernel
theorem dd_M_copy_108 : decode cc_M_copy 108 = .ok (.iload_n 2, 1) := by decide +kernel
theorem dd_M_copy_109 : decode cc_M_copy 109 = .ok (.iaload, 1) := by decide +kernel
theorem dd_M_copy_110 : decode cc_M_copy 110 = .ok (.bipush 8, 2) := by decide +kernel
theorem dd_M_copy_112 : decode cc_M_copy 112 = .ok (.if_icmp .ne 33, 3) := by decide +kernel
theorem dd_M_copy_115 : decode cc_M_copy 115 = .ok (.aload_n 0, 1) := by decide +kernel
theorem dd_M_copy_116 : decode cc_M_copy 116 = .ok (.getfield 46, 3) := by decide +kernel
theorem dd_M_copy_119 : decode cc_M_copy 119 = .ok (.bipush 8, 2) := by decide +kernel
theorem dd_M_copy_121 : decode cc_M_copy 121 = .ok (.iload_n 1, 1) := by decide +kernel
theorem dd_M_copy_122 : decode cc_M_copy 122 = .ok (.imul, 1) := by decide +kernel
theorem dd_M_copy_123 : decode cc_M_copy 123 = .ok (.aload_n 0, 1) := by decide +kernel
theorem dd_M_copy_124 : decode cc_M_copy 124 = .ok (.getfield 13, 3) := by decide +kernel
theorem dd_M_copy_127 : decode cc_M_copy 127 = .ok (.iload_n 2, 1) := by decide +kernel
theorem dd_M_copy_128 : decode cc_M_copy 128 = .ok (.iaload, 1) := by decide +kernel
theorem dd_M_copy_129 : decode cc_M_copy 129 = .ok (.iadd, 1) := by decide +kernel
theorem dd_M_copy_130 : decode cc_M_copy 130 = .ok (.aload_n 0, 1) := by decide +kernel
theorem dd_M_copy_131 : decode cc_M_copy 131 = .ok (.getfield 111, 3) := by decide +kernel
theorem dd_M_copy_134 : decode cc_M_copy 134 = .ok (.iastore, 1) := by decide +kernel
theorem dd_M_copy_135 : decode cc_M_copy 135 = .ok (.aload_n 0, 1) := by decide +kernel
theorem dd_M_copy_136 : decode cc_M_copy 136 = .ok (.dup, 1) := by decide +kernel
theorem dd_M_copy_137 : decode cc_M_copy 137 = .ok (.getfield 111, 3) := by decide +kernel
theorem dd_M_copy_140 : decode cc_M_copy 140 = .ok (.iconst 1, 1) := by decide +kernel
theorem dd_M_copy_141 : decode cc_M_copy 141 = .ok (.iadd, 1) := by decide +kernel
theorem dd_M_copy_142 : decode cc_M_copy 142 = .ok (.putfield 111, 3) := by decide +kernel
theorem dd_M_copy_145 : decode cc_M_copy 145 = .ok (.aload_n 0, 1) := by decide +kernel
theorem dd_M_copy_146 : decode cc_M_copy 146 = .ok (.getfield 7, 3) := by decide +kernel
theorem dd_M_copy_149 : decode cc_M_copy 149 = .ok (.iload_n 2, 1) := by decide +kernel
theorem dd_M_copy_150 : decode cc_M_copy 150 = .ok (.iaload, 1) := by decide +kernel
theorem dd_M_copy_151 : decode cc_M_copy 151 = .ok (.iconst 1, 1) := by decide +kernel
theorem dd_M_copy_152 : decode cc_M_copy 152 = .ok (.if_icmp .ne 23, 3) := by decide +kernel
theorem dd_M_copy_155 : decode cc_M_copy 155 = .ok (.aload_n 0, 1) := by decide +kernel
theorem dd_M_copy_156 : decode cc_M_copy 156 = .ok (.getfield 49, 3) := by decide +kernel
theorem dd_M_copy_159 : decode cc_M_copy 159 = .ok (.iload_n 1, 1) := by decide +kernel
theorem dd_M_copy_160 : decode cc_M_copy 160 = .ok (.aload_n 0, 1) := by decide +kernel
theorem dd_M_copy_161 : decode cc_M_copy 161 = .ok (.getfield 114, 3) := by decide +kernel
theorem dd_M_copy_164 : decode cc_M_copy 164 = .ok (.iastore, 1) := by decide +kernel
theorem dd_M_copy_165 : decode cc_M_copy 165 = .ok (.aload_n 0, 1) := by decide +kernel
theorem dd_M_copy_166 : decode cc_M_copy 166 = .ok (.dup, 1) := by decide +kernel
theorem dd_M_copy_167 : decode cc_M_copy 167 = .ok (.getfield 114, 3) := by decide +kernel
theorem dd_M_copy_170 : decode cc_M_copy 170 = .ok (.iconst 1, 1) := by decide +kernel
theorem dd_M_copy_171 : decode cc_M_copy 171 = .ok (.iadd, 1) := by decide +kernel
theorem dd_M_copy_172 : decode cc_M_copy 172 = .ok (.putfield 114, 3) := by decide +kernel
theorem dd_M_copy_175 : decode cc_M_copy 175 = .ok (.return_, 1) := by decide +kernel
theorem dd_M_build_0 : decode cc_M_build 0 = .ok (.aload_n 0, 1) := by decide +kernel
theorem dd_M_build_1 : decode cc_M_build 1 = .ok (.iconst 0, 1) := by decide +kernel
theorem dd_M_build_2 : decode cc_M_build 2 = .ok (.putfield 65, 3) := by decide +kernel
theorem dd_M_build_5 : decode cc_M_build 5 = .ok (.iload_n 1, 1) := by decide +kernel
theorem dd_M_build_6 : decode cc_M_build 6 = .ok (.iconst 0, 1) := by decide +kernel
theorem dd_M_build_7 : decode cc_M_build 7 = .ok (.aload_n 0, 1) := by decide +kernel
theorem dd_M_build_8 : decode cc_M_build 8 = .ok (.getfield 81, 3) := by decide +kernel
theorem dd_M_build_11 : decode cc_M_build 11 = .ok (.iconst 1, 1) := by decide +kernel
theorem dd_M_build_12 : decode cc_M_build 12 = .ok (.isub, 1) := by decide +kernel
theorem dd_M_build_13 : decode cc_M_build 13 = .ok (.invokestatic 69, 3) := by decide +kernel
theorem dd_M_build_16 : decode cc_M_build 16 = .ok (.ifCond .ne 9, 3) := by decide +kernel
theorem dd_M_build_19 : decode cc_M_build 19 = .ok (.aload_n 0, 1) := by decide +kernel
theorem dd_M_build_20 : decode cc_M_build 20 = .ok (.iconst 1, 1) := by decide +kernel
theorem dd_M_build_21 : decode cc_M_build 21 = .ok (.invokevirtual 84, 3) := by decide +kernel
theorem dd_M_build_24 : decode cc_M_build 24 = .ok (.ireturn, 1) := by decide +kernel
theorem dd_M_build_25 : decode cc_M_build 25 = .ok (.aload_n 0, 1) := by decide +kernel
theorem dd_M_build_26 : decode cc_M_build 26 = .ok (.iload_n 1, 1) := by decide +kernel
theorem dd_M_build_27 : decode cc_M_build 27 = .ok (.iconst 0, 1) := by decide +kernel
theorem dd_M_build_28 : decode cc_M_build 28 = .ok (.invokevirtual 117, 3) := by decide +kernel
theorem dd_M_build_31 : decode cc_M_build 31 = .ok (.ifCond .ne 9, 3) := by decide +kernel
theorem dd_M_build_34 : decode cc_M_build 34 = .ok (.aload_n 0, 1) := by decide +kernel
theorem dd_M_build_35 : decode cc_M_build 35 = .ok (.iconst 2, 1) := by decide +kernel
theorem dd_M_build_36 : decode cc_M_build 36 = .ok (.invokevirtual 84, 3) := by decide +kernel
theorem dd_M_build_39 : decode cc_M_build 39 = .ok (.ireturn, 1) := by decide +kernel
theorem dd_M_build_40 : decode cc_M_build 40 = .ok (.aload_n 0, 1) := by decide +kernel
theorem dd_M_build_41 : decode cc_M_build 41 = .ok (.bipush 8, 2) := by decide +kernel
theorem dd_M_build_43 : decode cc_M_build 43 = .ok (.putfield 111, 3) := by decide +kernel
theorem dd_M_build_46 : decode cc_M_build 46 = .ok (.aload_n 0, 1) := by decide +kernel
theorem dd_M_build_47 : decode cc_M_build 47 = .ok (.iconst 0, 1) := by decide +kernel
theorem dd_M_build_48 : decode cc_M_build 48 = .ok (.putfield 114, 3) := by decide +kernel
theorem dd_M_build_51 : decode cc_M_build 51 = .ok (.aload_n 0, 1) := by decide +kernel
theorem dd_M_build_52 : decode cc_M_build 52 = .ok (.iload_n 1, 1) := by decide +kernel
theorem dd_M_build_53 : decode cc_M_build 53 = .ok (.iconst 1, 1) := by decide +kernel
theorem dd_M_build_54 : decode cc_M_build 54 = .ok (.invokevirtual 117, 3) := by decide +kernel
theorem dd_M_build_57 : decode cc_M_build 57 = .ok (.pop, 1) := by decide +kernel
theorem dd_M_build_58 : decode cc_M_build 58 = .ok (.aload_n 0, 1) := by decide +kernel
theorem dd_M_build_59 : decode cc_M_build 59 = .ok (.aload_n 0, 1) := by decide +kernel
theorem dd_M_build_60 : decode cc_M_build 60 = .ok (.getfield 98, 3) := by decide +kernel
theorem dd_M_build_63 : decode cc_M_build 63 = .ok (.putfield 121, 3) := by decide +kernel
theorem dd_M_build_66 : decode cc_M_build 66 = .ok (.aload_n 0, 1) := by decide +kernel
theorem dd_M_build_67 : decode cc_M_build 67 = .ok (.iconst 1, 1) := by decide +kernel
theorem dd_M_build_68 : decode cc_M_build 68 = .ok (.putfield 124, 3) := by decide +kernel
theorem dd_M_build_71 : decode cc_M_build 71 = .ok (.aload_n 0, 1) := by decide +kernel
theorem dd_M_build_72 : decode cc_M_build 72 = .ok (.iconst 0, 1) := by decide +kernel
theorem dd_M_build_73 : decode cc_M_build 73 = .ok (.putfield 128, 3) := by decide +kernel
theorem dd_M_build_76 : decode cc_M_build 76 = .ok (.aload_n 0, 1) := by decide +kernel
theorem dd_M_build_77 : decode cc_M_build 77 = .ok (.invokevirtual 131, 3) := by decide +kernel
theorem dd_M_build_80 : decode cc_M_build 80 = .ok (.aload_n 0, 1) := by decide +kernel
theorem dd_M_build_81 : decode cc_M_build 81 = .ok (.getfield 114, 3) := by decide +kernel
theorem dd_M_build_84 : decode cc_M_build 84 = .ok (.ireturn, 1) := by decide +kernel
theorem dd_M_begin_0 : decode cc_M_begin 0 = .ok (.aload_n 0, 1) := by decide +kernel
theorem dd_M_begin_1 : decode cc_M_begin 1 = .ok (.iconst 0, 1) := by decide +kernel
theorem dd_M_begin_2 : decode cc_M_begin 2 = .ok (.putfield 134, 3) := by decide +kernel
theorem dd_M_begin_5 : decode cc_M_begin 5 = .ok (.aload_n 0, 1) := by decide +kernel
theorem dd_M_begin_6 : decode cc_M_begin 6 = .ok (.iconst 0, 1) := by decide +kernel
theorem dd_M_begin_7 : decode cc_M_begin 7 = .ok (.putfield 137, 3) := by decide +kernel
theorem dd_M_begin_10 : decode cc_M_begin 10 = .ok (.iconst 0, 1) := by decide +kernel
theorem dd_M_begin_11 : decode cc_M_begin 11 = .ok (.istore_n 1, 1) := by decide +kernel
theorem dd_M_begin_12 : decode cc_M_begin 12 = .ok (.iload_n 1, 1) := by decide +kernel
theorem dd_M_begin_13 : decode cc_M_begin 13 = .ok (.bipush 60, 2) := by decide +kernel
theorem dd_M_begin_15 : decode cc_M_begin 15 = .ok (.if_icmp .ge 16, 3) := by decide +kernel
theorem dd_M_begin_18 : decode cc_M_begin 18 = .ok (.aload_n 0, 1) := by decide +kernel
theorem dd_M_begin_19 : decode cc_M_begin 19 = .ok (.getfield 52, 3) := by decide +kernel
theorem dd_M_begin_22 : decode cc_M_begin 22 = .ok (.iload_n 1, 1) := by decide +kernel
theorem dd_M_begin_23 : decode cc_M_begin 23 = .ok (.iconst 0, 1) := by decide +kernel
theorem dd_M_begin_24 : decode cc_M_begin 24 = .ok (.bastore, 1) := by decide +kernel
theorem dd_M_begin_25 : decode cc_M_begin 25 = .ok (.iinc 1 1, 3) := by decide +kernel
theorem dd_M_begin_28 : decode cc_M_begin 28 = .ok (.goto (-16), 3) := by decide +kernel
theorem dd_M_begin_31 : decode cc_M_begin 31 = .ok (.return_, 1) := by decide +kernel
theorem dd_M_and_0 : decode cc_M_and 0 = .ok (.iload_n 0, 1) := by decide +kernel
theorem dd_M_and_1 : decode cc_M_and 1 = .ok (.iconst 2, 1) := by decide +kernel
theorem dd_M_and_2 : decode cc_M_and 2 = .ok (.if_icmp .eq 8, 3) := by decide +kernel
theorem dd_M_and_5 : decode cc_M_and 5 = .ok (.iload_n 1, 1) := by decide +kernel
theorem dd_M_and_6 : decode cc_M_and 6 = .ok (.iconst 2, 1) := by decide +kernel
theorem dd_M_and_7 : decode cc_M_and 7 = .ok (.if_icmp .ne 7, 3) := by decide +kernel
theorem dd_M_and_10 : decode cc_M_and 10 = .ok (.iconst 2, 1) := by decide +kernel
theorem dd_M_and_11 : decode cc_M_and 11 = .ok (.goto 18, 3) := by decide +kernel
theorem dd_M_and_14 : decode cc_M_and 14 = .ok (.iload_n 0, 1) := by decide +kernel
theorem dd_M_and_15 : decode cc_M_and 15 = .ok (.iconst 1, 1) := by decide +kernel
theorem dd_M_and_16 : decode cc_M_and 16 = .ok (.if_icmp .ne 12, 3) := by decide +kernel
theorem dd_M_and_19 : decode cc_M_and 19 = .ok (.iload_n 1, 1) := by decide +kernel
theorem dd_M_and_20 : decode cc_M_and 20 = .ok (.iconst 1, 1) := by decide +kernel
theorem dd_M_and_21 : decode cc_M_and 21 = .ok (.if_icmp .ne 7, 3) := by decide +kernel
theorem dd_M_and_24 : decode cc_M_and 24 = .ok (.iconst 1, 1) := by decide +kernel
theorem dd_M_and_25 : decode cc_M_and 25 = .ok (.goto 4, 3) := by decide +kernel
theorem dd_M_and_28 : decode cc_M_and 28 = .ok (.iconst 0, 1) := by decide +kernel
theorem dd_M_and_29 : decode cc_M_and 29 = .ok (.ireturn, 1) := by decide +kernel
theorem dd_M_or_0 : decode cc_M_or 0 = .ok (.iload_n 0, 1) := by decide +kernel
theorem dd_M_or_1 : decode cc_M_or 1 = .ok (.iconst 1, 1) := by decide +kernel
theorem dd_M_or_2 : decode cc_M_or 2 = .ok (.if_icmp .eq 8, 3) := by decide +kernel
theorem dd_M_or_5 : decode cc_M_or 5 = .ok (.iload_n 1, 1) := by decide +kernel
theorem dd_M_or_6 : decode cc_M_or 6 = .ok (.iconst 1, 1) := by decide +kernel
theorem dd_M_or_7 : decode cc_M_or 7 = .ok (.if_icmp .ne 7, 3) := by decide +kernel
theorem dd_M_or_10 : decode cc_M_or 10 = .ok (.iconst 1, 1) := by decide +kernel
theorem dd_M_or_11 : decode cc_M_or 11 = .ok (.goto 18, 3) := by decide +kernel
theorem dd_M_or_14 : decode cc_M_or 14 = .ok (.iload_n 0, 1) := by decide +kernel
theorem dd_M_or_15 : decode cc_M_or 15 = .ok (.iconst 2, 1) := by decide +kernel
theorem dd_M_or_16 : decode cc_M_or 16 = .ok (.if_icmp .ne 12, 3) := by decide +kernel
theorem dd_M_or_19 : decode cc_M_or 19 = .ok (.iload_n 1, 1) := by decide +kernel
theorem dd_M_or_20 : decode cc_M_or 20 = .ok (.iconst 2, 1) := by decide +kernel
theorem dd_M_or_21 : decode cc_M_or 21 = .ok (.if_icmp .ne 7, 3) := by decide +kernel
theorem dd_M_or_24 : decode cc_M_or 24 = .ok (.iconst 2, 1) := by decide +kernel
theorem dd_M_or_25 : decode cc_M_or 25 = .ok (.goto 4, 3) := by decide +kernel
theorem dd_M_or_28 : decode cc_M_or 28 = .ok (.iconst 0, 1) := by decide +kernel
theorem dd_M_or_29 : decode cc_M_or 29 = .ok (.ireturn, 1) := by decide +kernel
theorem dd_M_not_0 : decode cc_M_not 0 = .ok (.iload_n 0, 1) := by decide +kernel
theorem dd_M_not_1 : decode cc_M_not 1 = .ok (.ifCond .ne 7, 3) := by decide +kernel
theorem dd_M_not_4 : decode cc_M_not 4 = .ok (.iconst 0, 1) := by decide +kernel
theorem dd_M_not_5 : decode cc_M_not 5 = .ok (.goto 6, 3) := by decide +kernel
theorem dd_M_not_8 : decode cc_M_not 8 = .ok (.iconst 3, 1) := by decide +kernel
theorem dd_M_not_9 : decode cc_M_not 9 = .ok (.iload_n 0, 1) := by decide +kernel
theorem dd_M_not_10 : decode cc_M_not 10 = .ok (.isub, 1) := by decide +kernel
theorem dd_M_not_11 : decode cc_M_not 11 = .ok (.ireturn, 1) := by decide +kernel
theorem dd_M_told_0 : decode cc_M_told 0 = .ok (.iload_n 0, 1) := by decide +kernel
theorem dd_M_told_1 : decode cc_M_told 1 = .ok (.ifCond .eq 7, 3) := by decide +kernel
theorem dd_M_told_4 : decode cc_M_told 4 = .ok (.iconst 1, 1) := by decide +kernel
theorem dd_M_told_5 : decode cc_M_told 5 = .ok (.goto 4, 3) := by decide +kernel
theorem dd_M_told_8 : decode cc_M_told 8 = .ok (.iconst 2, 1) := by decide +kernel
theorem dd_M_told_9 : decode cc_M_told 9 = .ok (.ireturn, 1) := by decide +kernel
theorem dd_M_get_0 : decode cc_M_get 0 = .ok (.aload_n 0, 1) := by decide +kernel
theorem dd_M_get_1 : decode cc_M_get 1 = .ok (.getfield 56, 3) := by decide +kernel
theorem dd_M_get_4 : decode cc_M_get 4 = .ok (.bipush 11, 2) := by decide +kernel
theorem dd_M_get_6 : decode cc_M_get 6 = .ok (.iload_n 1, 1) := by decide +kernel
theorem dd_M_get_7 : decode cc_M_get 7 = .ok (.imul, 1) := by decide +kernel
theorem dd_M_get_8 : decode cc_M_get 8 = .ok (.iload_n 2, 1) := by decide +kernel
theorem dd_M_get_9 : decode cc_M_get 9 = .ok (.iadd, 1) := by decide +kernel
theorem dd_M_get_10 : decode cc_M_get 10 = .ok (.iaload, 1) := by decide +kernel
theorem dd_M_get_11 : decode cc_M_get 11 = .ok (.ireturn, 1) := by decide +kernel
theorem dd_M_set_0 : decode cc_M_set 0 = .ok (.aload_n 0, 1) := by decide +kernel
theorem dd_M_set_1 : decode cc_M_set 1 = .ok (.aload_n 0, 1) := by decide +kernel
theorem dd_M_set_2 : decode cc_M_set 2 = .ok (.getfield 140, 3) := by decide +kernel
theorem dd_M_set_5 : decode cc_M_set 5 = .ok (.ifCond .ne 18, 3) := by decide +kernel
theorem dd_M_set_8 : decode cc_M_set 8 = .ok (.aload_n 0, 1) := by decide +kernel
theorem dd_M_set_9 : decode cc_M_set 9 = .ok (.getfield 56, 3) := by decide +kernel
theorem dd_M_set_12 : decode cc_M_set 12 = .ok (.bipush 11, 2) := by decide +kernel
theorem dd_M_set_14 : decode cc_M_set 14 = .ok (.iload_n 1, 1) := by decide +kernel
theorem dd_M_set_15 : decode cc_M_set 15 = .ok (.imul, 1) := by decide +kernel
theorem dd_M_set_16 : decode cc_M_set 16 = .ok (.iload_n 2, 1) := by decide +kernel
theorem dd_M_set_17 : decode cc_M_set 17 = .ok (.iadd, 1) := by decide +kernel
theorem dd_M_set_18 : decode cc_M_set 18 = .ok (.iaload, 1) := by decide +kernel
theorem dd_M_set_19 : decode cc_M_set 19 = .ok (.iload_n 3, 1) := by decide +kernel
theorem dd_M_set_20 : decode cc_M_set 20 = .ok (.if_icmp .eq 7, 3) := by decide +kernel
theorem dd_M_set_23 : decode cc_M_set 23 = .ok (.iconst 1, 1) := by decide +kernel
theorem dd_M_set_24 : decode cc_M_set 24 = .ok (.goto 4, 3) := by decide +kernel
theorem dd_M_set_27 : decode cc_M_set 27 = .ok (.iconst 0, 1) := by decide +kernel
theorem dd_M_set_28 : decode cc_M_set 28 = .ok (.putfield 140, 3) := by decide +kernel
theorem dd_M_set_31 : decode cc_M_set 31 = .ok (.aload_n 0, 1) := by decide +kernel
theorem dd_M_set_32 : decode cc_M_set 32 = .ok (.getfield 56, 3) := by decide +kernel
theorem dd_M_set_35 : decode cc_M_set 35 = .ok (.bipush 11, 2) := by decide +kernel
theorem dd_M_set_37 : decode cc_M_set 37 = .ok (.iload_n 1, 1) := by decide +kernel
theorem dd_M_set_38 : decode cc_M_set 38 = .ok (.imul, 1) := by decide +kernel
theorem dd_M_set_39 : decode cc_M_set 39 = .ok (.iload_n 2, 1) := by decide +kernel
theorem dd_M_set_40 : decode cc_M_set 40 = .ok (.iadd, 1) := by decide +kernel
theorem dd_M_set_41 : decode cc_M_set 41 = .ok (.iload_n 3, 1) := by decide +kernel
theorem dd_M_set_42 : decode cc_M_set 42 = .ok (.iastore, 1) := by decide +kernel
theorem dd_M_set_43 : decode cc_M_set 43 = .ok (.return_, 1) := by decide +kernel
theorem dd_M_kindOf_0 : decode cc_M_kindOf 0 = .ok (.aload_n 0, 1) := by decide +kernel
theorem dd_M_kindOf_1 : decode cc_M_kindOf 1 = .ok (.getfield 7, 3) := by decide +kernel
theorem dd_M_kindOf_4 : decode cc_M_kindOf 4 = .ok (.aload_n 0, 1) := by decide +kernel
theorem dd_M_kindOf_5 : decode cc_M_kindOf 5 = .ok (.getfield 31, 3) := by decide +kernel
theorem dd_M_kindOf_8 : decode cc_M_kindOf 8 = .ok (.iload_n 1, 1) := by decide +kernel
theorem dd_M_kindOf_9 : decode cc_M_kindOf 9 = .ok (.iaload, 1) := by decide +kernel
theorem dd_M_kindOf_10 : decode cc_M_kindOf 10 = .ok (.iaload, 1) := by decide +kernel
theorem dd_M_kindOf_11 : decode cc_M_kindOf 11 = .ok (.ireturn, 1) := by decide +kernel
theorem dd_M_asked_0 : decode cc_M_asked 0 = .ok (.aload_n 0, 1) := by decide +kernel
theorem dd_M_asked_1 : decode cc_M_asked 1 = .ok (.getfield 59, 3) := by decide +kernel
theorem dd_M_asked_4 : decode cc_M_asked 4 = .ok (.aload_n 0, 1) := by decide +kernel
theorem dd_M_asked_5 : decode cc_M_asked 5 = .ok (.getfield 46, 3) := by decide +kernel
theorem dd_M_asked_8 : decode cc_M_asked 8 = .ok (.bipush 8, 2) := by decide +kernel
theorem dd_M_asked_10 : decode cc_M_asked 10 = .ok (.iload_n 1, 1) := by decide +kernel
theorem dd_M_asked_11 : decode cc_M_asked 11 = .ok (.imul, 1) := by decide +kernel
theorem dd_M_asked_12 : decode cc_M_asked 12 = .ok (.aload_n 0, 1) := by decide +kernel
theorem dd_M_asked_13 : decode cc_M_asked 13 = .ok (.getfield 13, 3) := by decide +kernel
theorem dd_M_asked_16 : decode cc_M_asked 16 = .ok (.aload_n 0, 1) := by decide +kernel
theorem dd_M_asked_17 : decode cc_M_asked 17 = .ok (.getfield 31, 3) := by decide +kernel
theorem dd_M_asked_20 : decode cc_M_asked 20 = .ok (.iload_n 1, 1) := by decide +kernel
theorem dd_M_asked_21 : decode cc_M_asked 21 = .ok (.iaload, 1) := by decide +kernel
theorem dd_M_asked_22 : decode cc_M_asked 22 = .ok (.iaload, 1) := by decide +kernel
theorem dd_M_asked_23 : decode cc_M_asked 23 = .ok (.iadd, 1) := by decide +kernel
theorem dd_M_asked_24 : decode cc_M_asked 24 = .ok (.iaload, 1) := by decide +kernel
theorem dd_M_asked_25 : decode cc_M_asked 25 = .ok (.iaload, 1) := by decide +kernel
theorem dd_M_asked_26 : decode cc_M_asked 26 = .ok (.ireturn, 1) := by decide +kernel
theorem dd_M_held_0 : decode cc_M_held 0 = .ok (.aload_n 0, 1) := by decide +kernel
theorem dd_M_held_1 : decode cc_M_held 1 = .ok (.iload_n 1, 1) := by decide +kernel
theorem dd_M_held_2 : decode cc_M_held 2 = .ok (.iconst 1, 1) := by decide +kernel
theorem dd_M_held_3 : decode cc_M_held 3 = .ok (.invokevirtual 143, 3) := by decide +kernel
theorem dd_M_held_6 : decode cc_M_held 6 = .ok (.aload_n 0, 1) := by decide +kernel
theorem dd_M_held_7 : decode cc_M_held 7 = .ok (.aload_n 0, 1) := by decide +kernel
theorem dd_M_held_8 : decode cc_M_held 8 = .ok (.getfield 40, 3) := by decide +kernel
theorem dd_M_held_11 : decode cc_M_held 11 = .ok (.iload_n 1, 1) := by decide +kernel
theorem dd_M_held_12 : decode cc_M_held 12 = .ok (.iaload, 1) := by decide +kernel
theorem dd_M_held_13 : decode cc_M_held 13 = .ok (.iconst 4, 1) := by decide +kernel
theorem dd_M_held_14 : decode cc_M_held 14 = .ok (.invokevirtual 143, 3) := by decide +kernel
theorem dd_M_held_17 : decode cc_M_held 17 = .ok (.invokestatic 146, 3) := by decide +kernel
theorem dd_M_held_20 : decode cc_M_held 20 = .ok (.aload_n 0, 1) := by decide +kernel
theorem dd_M_held_21 : decode cc_M_held 21 = .ok (.iload_n 1, 1) := by decide +kernel
theorem dd_M_held_22 : decode cc_M_held 22 = .ok (.invokevirtual 149, 3) := by decide +kernel
theorem dd_M_held_25 : decode cc_M_held 25 = .ok (.invokestatic 146, 3) := by decide +kernel
theorem dd_M_held_28 : decode cc_M_held 28 = .ok (.ireturn, 1) := by decide +kernel
theorem dd_M_down_0 : decode cc_M_down 0 = .ok (.aload_n 0, 1) := by decide +kernel
theorem dd_M_down_1 : decode cc_M_down 1 = .ok (.getfield 34, 3) := by decide +kernel
theorem dd_M_down_4 : decode cc_M_down 4 = .ok (.iload_n 1, 1) := by decide +kernel
theorem dd_M_down_5 : decode cc_M_down 5 = .ok (.iaload, 1) := by decide +kernel
theorem dd_M_down_6 : decode cc_M_down 6 = .ok (.istore_n 2, 1) := by decide +kernel
theorem dd_M_down_7 : decode cc_M_down 7 = .ok (.aload_n 0, 1) := by decide +kernel
theorem dd_M_down_8 : decode cc_M_down 8 = .ok (.iload_n 2, 1) := by decide +kernel
theorem dd_M_down_9 : decode cc_M_down 9 = .ok (.invokevirtual 152, 3) := by decide +kernel
theorem dd_M_down_12 : decode cc_M_down 12 = .ok (.istore_n 3, 1) := by decide +kernel
theorem dd_M_down_13 : decode cc_M_down 13 = .ok (.aload_n 0, 1) := by decide +kernel
theorem dd_M_down_14 : decode cc_M_down 14 = .ok (.getfield 37, 3) := by decide +kernel
theorem dd_M_down_17 : decode cc_M_down 17 = .ok (.iload_n 1, 1) := by decide +kernel
theorem dd_M_down_18 : decode cc_M_down 18 = .ok (.iaload, 1) := by decide +kernel
theorem dd_M_down_19 : decode cc_M_down 19 = .ok (.iconst 1, 1) := by decide +kernel
theorem dd_M_down_20 : decode cc_M_down 20 = .ok (.if_icmp .ne 7, 3) := by decide +kernel
theorem dd_M_down_23 : decode cc_M_down 23 = .ok (.iconst 1, 1) := by decide +kernel
theorem dd_M_down_24 : decode cc_M_down 24 = .ok (.goto 4, 3) := by decide +kernel
theorem dd_M_down_27 : decode cc_M_down 27 = .ok (.iconst 0, 1) := by decide +kernel
theorem dd_M_down_28 : decode cc_M_down 28 = .ok (.istore 4, 2) := by decide +kernel
theorem dd_M_down_30 : decode cc_M_down 30 = .ok (.aload_n 0, 1) := by decide +kernel
theorem dd_M_down_31 : decode cc_M_down 31 = .ok (.iload_n 2, 1) := by decide +kernel
theorem dd_M_down_32 : decode cc_M_down 32 = .ok (.iconst 0, 1) := by decide +kernel
theorem dd_M_down_33 : decode cc_M_down 33 = .ok (.invokevirtual 143, 3) := by decide +kernel
theorem dd_M_down_36 : decode cc_M_down 36 = .ok (.istore 5, 2) := by decide +kernel
theorem dd_M_down_38 : decode cc_M_down 38 = .ok (.iload_n 3, 1) := by decide +kernel
theorem dd_M_down_39 : decode cc_M_down 39 = .ok (.iconst 3, 1) := by decide +kernel
theorem dd_M_down_40 : decode cc_M_down 40 = .ok (.if_icmp .ne 21, 3) := by decide +kernel
theorem dd_M_down_43 : decode cc_M_down 43 = .ok (.iload 4, 2) := by decide +kernel
theorem dd_M_down_45 : decode cc_M_down 45 = .ok (.ifCond .eq 16, 3) := by decide +kernel
theorem dd_M_down_48 : decode cc_M_down 48 = .ok (.aload_n 0, 1) := by decide +kernel
theorem dd_M_down_49 : decode cc_M_down 49 = .ok (.aload_n 0, 1) := by decide +kernel
theorem dd_M_down_50 : decode cc_M_down 50 = .ok (.getfield 40, 3) := by decide +kernel
theorem dd_M_down_53 : decode cc_M_down 53 = .ok (.iload_n 2, 1) := by decide +kernel
theorem dd_M_down_54 : decode cc_M_down 54 = .ok (.iaload, 1) := by decide +kernel
theorem dd_M_down_55 : decode cc_M_down 55 = .ok (.iconst 5, 1) := by decide +kernel
theorem dd_M_down_56 : decode cc_M_down 56 = .ok (.invokevirtual 143, 3) := by decide +kernel
theorem dd_M_down_59 : decode cc_M_down 59 = .ok (.istore 5, 2) := by decide +kernel
theorem dd_M_down_61 : decode cc_M_down 61 = .ok (.iload_n 3, 1) := by decide +kernel
theorem dd_M_down_62 : decode cc_M_down 62 = .ok (.iconst 5, 1) := by decide +kernel
theorem dd_M_down_63 : decode cc_M_down 63 = .ok (.if_icmp .ne 40, 3) := by decide +kernel
theorem dd_M_down_66 : decode cc_M_down 66 = .ok (.iload 4, 2) := by decide +kernel
theorem dd_M_down_68 : decode cc_M_down 68 = .ok (.ifCond .eq 17, 3) := by decide +kernel
theorem dd_M_down_71 : decode cc_M_down 71 = .ok (.aload_n 0, 1) := by decide +kernel
theorem dd_M_down_72 : decode cc_M_down 72 = .ok (.aload_n 0, 1) := by decide +kernel
theorem dd_M_down_73 : decode cc_M_down 73 = .ok (.getfield 40, 3) := by decide +kernel
theorem dd_M_down_76 : decode cc_M_down 76 = .ok (.iload_n 2, 1) := by decide +kernel
theorem dd_M_down_77 : decode cc_M_down 77 = .ok (.iaload, 1) := by decide +kernel
theorem dd_M_down_78 : decode cc_M_down 78 = .ok (.iconst 5, 1) := by decide +kernel
theorem dd_M_down_79 : decode cc_M_down 79 = .ok (.invokevirtual 143, 3) := by decide +kernel
theorem dd_M_down_82 : decode cc_M_down 82 = .ok (.goto 19, 3) := by decide +kernel
theorem dd_M_down_85 : decode cc_M_down 85 = .ok (.iload 5, 2) := by decide +kernel
theorem dd_M_down_87 : decode cc_M_down 87 = .ok (.aload_n 0, 1) := by decide +kernel
theorem dd_M_down_88 : decode cc_M_down 88 = .ok (.aload_n 0, 1) := by decide +kernel
theorem dd_M_down_89 : decode cc_M_down 89 = .ok (.getfield 43, 3) := by decide +kernel
theorem dd_M_down_92 : decode cc_M_down 92 = .ok (.iload_n 2, 1) := by decide +kernel
theorem dd_M_down_93 : decode cc_M_down 93 = .ok (.iaload, 1) := by decide +kernel
theorem dd_M_down_94 : decode cc_M_down 94 = .ok (.iconst 5, 1) := by decide +kernel
theorem dd_M_down_95 : decode cc_M_down 95 = .ok (.invokevirtual 143, 3) := by decide +kernel
theorem dd_M_down_98 : decode cc_M_down 98 = .ok (.invokestatic 155, 3) := by decide +kernel
theorem dd_M_down_101 : decode cc_M_down 101 = .ok (.istore 5, 2) := by decide +kernel
theorem dd_M_down_103 : decode cc_M_down 103 = .ok (.iload_n 3, 1) := by decide +kernel
theorem dd_M_down_104 : decode cc_M_down 104 = .ok (.bipush 6, 2) := by decide +kernel
theorem dd_M_down_106 : decode cc_M_down 106 = .ok (.if_icmp .ne 31, 3) := by decide +kernel
theorem dd_M_down_109 : decode cc_M_down 109 = .ok (.iload 5, 2) := by decide +kernel
theorem dd_M_down_111 : decode cc_M_down 111 = .ok (.iload 4, 2) := by decide +kernel
theorem dd_M_down_113 : decode cc_M_down 113 = .ok (.ifCond .eq 14, 3) := by decide +kernel
theorem dd_M_down_116 : decode cc_M_down 116 = .ok (.aload_n 0, 1) := by decide +kernel
theorem dd_M_down_117 : decode cc_M_down 117 = .ok (.iload_n 2, 1) := by decide +kernel
theorem dd_M_down_118 : decode cc_M_down 118 = .ok (.invokevirtual 149, 3) := by decide +kernel
theorem dd_M_down_121 : decode cc_M_down 121 = .ok (.invokestatic 158, 3) := by decide +kernel
theorem dd_M_down_124 : decode cc_M_down 124 = .ok (.goto 8, 3) := by decide +kernel
theorem dd_M_down_127 : decode cc_M_down 127 = .ok (.aload_n 0, 1) := by decide +kernel
theorem dd_M_down_128 : decode cc_M_down 128 = .ok (.iload_n 2, 1) := by decide +kernel
theorem dd_M_down_129 : decode cc_M_down 129 = .ok (.invokevirtual 149, 3) := by decide +kernel
theorem dd_M_down_132 : decode cc_M_down 132 = .ok (.invokestatic 146, 3) := by decide +kernel
theorem dd_M_down_135 : decode cc_M_down 135 = .ok (.istore 5, 2) := by decide +kernel
theorem dd_M_down_137 : decode cc_M_down 137 = .ok (.aload_n 0, 1) := by decide +kernel
theorem dd_M_down_138 : decode cc_M_down 138 = .ok (.iload_n 1, 1) := by decide +kernel
theorem dd_M_down_139 : decode cc_M_down 139 = .ok (.iconst 0, 1) := by decide +kernel
theorem dd_M_down_140 : decode cc_M_down 140 = .ok (.iload 5, 2) := by decide +kernel
theorem dd_M_down_142 : decode cc_M_down 142 = .ok (.invokevirtual 161, 3) := by decide +kernel
theorem dd_M_down_145 : decode cc_M_down 145 = .ok (.aload_n 0, 1) := by decide +kernel
theorem dd_M_down_146 : decode cc_M_down 146 = .ok (.iload_n 1, 1) := by decide +kernel
theorem dd_M_down_147 : decode cc_M_down 147 = .ok (.iconst 1, 1) := by decide +kernel
theorem dd_M_down_148 : decode cc_M_down 148 = .ok (.iload_n 3, 1) := by decide +kernel
theorem dd_M_down_149 : decode cc_M_down 149 = .ok (.bipush 7, 2) := by decide +kernel
theorem dd_M_down_151 : decode cc_M_down 151 = .ok (.if_icmp .ne 23, 3) := by decide +kernel
theorem dd_M_down_154 : decode cc_M_down 154 = .ok (.aload_n 0, 1) := by decide +kernel
theorem dd_M_down_155 : decode cc_M_down 155 = .ok (.iload_n 2, 1) := by decide +kernel
theorem dd_M_down_156 : decode cc_M_down 156 = .ok (.iconst 1, 1) := by decide +kernel
theorem dd_M_down_157 : decode cc_M_down 157 = .ok (.invokevirtual 143, 3) := by decide +kernel
theorem dd_M_down_160 : decode cc_M_down 160 = .ok (.aload_n 0, 1) := by decide +kernel
theorem dd_M_down_161 : decode cc_M_down 161 = .ok (.iload_n 2, 1) := by decide +kernel
theorem dd_M_down_162 : decode cc_M_down 162 = .ok (.invokevirtual 149, 3) := by decide +kernel
theorem dd_M_down_165 : decode cc_M_down 165 = .ok (.invokestatic 158, 3) := by decide +kernel
theorem dd_M_down_168 : decode cc_M_down 168 = .ok (.invokestatic 146, 3) := by decide +kernel
theorem dd_M_down_171 : decode cc_M_down 171 = .ok (.goto 9, 3) := by decide +kernel
theorem dd_M_down_174 : decode cc_M_down 174 = .ok (.aload_n 0, 1) := by decide +kernel
theorem dd_M_down_175 : decode cc_M_down 175 = .ok (.iload_n 2, 1) := by decide +kernel
theorem dd_M_down_176 : decode cc_M_down 176 = .ok (.iconst 1, 1) := by decide +kernel
theorem dd_M_down_177 : decode cc_M_down 177 = .ok (.invokevirtual 143, 3) := by decide +kernel
theorem dd_M_down_180 : decode cc_M_down 180 = .ok (.invokevirtual 161, 3) := by decide +kernel
theorem dd_M_down_183 : decode cc_M_down 183 = .ok (.aload_n 0, 1) := by decide +kernel
theorem dd_M_down_184 : decode cc_M_down 184 = .ok (.iload_n 1, 1) := by decide +kernel
theorem dd_M_down_185 : decode cc_M_down 185 = .ok (.iconst 2, 1) := by decide +kernel
theorem dd_M_down_186 : decode cc_M_down 186 = .ok (.iload_n 3, 1) := by decide +kernel
theorem dd_M_down_187 : decode cc_M_down 187 = .ok (.bipush 7, 2) := by decide +kernel
theorem dd_M_down_189 : decode cc_M_down 189 = .ok (.if_icmp .ne 20, 3) := by decide +kernel
theorem dd_M_down_192 : decode cc_M_down 192 = .ok (.aload_n 0, 1) := by decide +kernel
theorem dd_M_down_193 : decode cc_M_down 193 = .ok (.iload_n 2, 1) := by decide +kernel
theorem dd_M_down_194 : decode cc_M_down 194 = .ok (.iconst 2, 1) := by decide +kernel
theorem dd_M_down_195 : decode cc_M_down 195 = .ok (.invokevirtual 143, 3) := by decide +kernel
theorem dd_M_down_198 : decode cc_M_down 198 = .ok (.aload_n 0, 1) := by decide +kernel
theorem dd_M_down_199 : decode cc_M_down 199 = .ok (.iload_n 2, 1) := by decide +kernel
theorem dd_M_down_200 : decode cc_M_down 200 = .ok (.invokevirtual 165, 3) := by decide +kernel
theorem dd_M_down_203 : decode cc_M_down 203 = .ok (.invokestatic 155, 3) := by decide +kernel
theorem dd_M_down_206 : decode cc_M_down 206 = .ok (.goto 9, 3) := by decide +kernel
theorem dd_M_down_209 : decode cc_M_down 209 = .ok (.aload_n 0, 1) := by decide +kernel
theorem dd_M_down_210 : decode cc_M_down 210 = .ok (.iload_n 2, 1) := by decide +kernel
theorem dd_M_down_211 : decode cc_M_down 211 = .ok (.iconst 2, 1) := by decide +kernel
theorem dd_M_down_212 : decode cc_M_down 212 = .ok (.invokevirtual 143, 3) := by decide +kernel
theorem dd_M_down_215 : decode cc_M_down 215 = .ok (.invokevirtual 161, 3) := by decide +kernel
theorem dd_M_down_218 : decode cc_M_down 218 = .ok (.aload_n 0, 1) := by decide +kernel
theorem dd_M_down_219 : decode cc_M_down 219 = .ok (.iload_n 1, 1) := by decide +kernel
theorem dd_M_down_220 : decode cc_M_down 220 = .ok (.iconst 3, 1) := by decide +kernel
theorem dd_M_down_221 : decode cc_M_down 221 = .ok (.iload_n 3, 1) := by decide +kernel
theorem dd_M_down_222 : decode cc_M_down 222 = .ok (.bipush 9, 2) := by decide +kernel
theorem dd_M_down_224 : decode cc_M_down 224 = .ok (.if_icmp .ne 22, 3) := by decide +kernel
theorem dd_M_down_227 : decode cc_M_down 227 = .ok (.aload_n 0, 1) := by decide +kernel
theorem dd_M_down_228 : decode cc_M_down 228 = .ok (.iload_n 2, 1) := by decide +kernel
theorem dd_M_down_229 : decode cc_M_down 229 = .ok (.iconst 3, 1) := by decide +kernel
theorem dd_M_down_230 : decode cc_M_down 230 = .ok (.invokevirtual 143, 3) := by decide +kernel
theorem dd_M_down_233 : decode cc_M_down 233 = .ok (.aload_n 0, 1) := by decide +kernel
theorem dd_M_down_234 : decode cc_M_down 234 = .ok (.iload_n 1, 1) := by decide +kernel
theorem dd_M_down_235 : decode cc_M_down 235 = .ok (.bipush 7, 2) := by decide +kernel
theorem dd_M_down_237 : decode cc_M_down 237 = .ok (.invokevirtual 143, 3) := by decide +kernel
theorem dd_M_down_240 : decode cc_M_down 240 = .ok (.invokestatic 155, 3) := by decide +kernel
theorem dd_M_down_243 : decode cc_M_down 243 = .ok (.goto 9, 3) := by decide +kernel
theorem dd_M_down_246 : decode cc_M_down 246 = .ok (.aload_n 0, 1) := by decide +kernel
theorem dd_M_down_247 : decode cc_M_down 247 = .ok (.iload_n 2, 1) := by decide +kernel
theorem dd_M_down_248 : decode cc_M_down 248 = .ok (.iconst 3, 1) := by decide +kernel
theorem dd_M_down_249 : decode cc_M_down 249 = .ok (.invokevirtual 143, 3) := by decide +kernel
theorem dd_M_down_252 : decode cc_M_down 252 = .ok (.invokevirtual 161, 3) := by decide +kernel
theorem dd_M_down_255 : decode cc_M_down 255 = .ok (.return_, 1) := by decide +kernel
theorem dd_M_dead_0 : decode cc_M_dead 0 = .ok (.aload_n 0, 1) := by decide +kernel
theorem dd_M_dead_1 : decode cc_M_dead 1 = .ok (.iload_n 1, 1) := by decide +kernel
theorem dd_M_dead_2 : decode cc_M_dead 2 = .ok (.iconst 0, 1) := by decide +kernel
theorem dd_M_dead_3 : decode cc_M_dead 3 = .ok (.invokevirtual 143, 3) := by decide +kernel
theorem dd_M_dead_6 : decode cc_M_dead 6 = .ok (.aload_n 0, 1) := by decide +kernel
theorem dd_M_dead_7 : decode cc_M_dead 7 = .ok (.iload_n 2, 1) := by decide +kernel
theorem dd_M_dead_8 : decode cc_M_dead 8 = .ok (.iconst 4, 1) := by decide +kernel
theorem dd_M_dead_9 : decode cc_M_dead 9 = .ok (.invokevirtual 143, 3) := by decide +kernel
theorem dd_M_dead_12 : decode cc_M_dead 12 = .ok (.invokestatic 155, 3) := by decide +kernel
theorem dd_M_dead_15 : decode cc_M_dead 15 = .ok (.invokestatic 158, 3) := by decide +kernel
theorem dd_M_dead_18 : decode cc_M_dead 18 = .ok (.ireturn, 1) := by decide +kernel
theorem dd_M_upTo_0 : decode cc_M_upTo 0 = .ok (.aload_n 0, 1) := by decide +kernel
theorem dd_M_upTo_1 : decode cc_M_upTo 1 = .ok (.iload_n 1, 1) := by decide +kernel
theorem dd_M_upTo_2 : decode cc_M_upTo 2 = .ok (.iload_n 2, 1) := by decide +kernel
theorem dd_M_upTo_3 : decode cc_M_upTo 3 = .ok (.invokevirtual 168, 3) := by decide +kernel
theorem dd_M_upTo_6 : decode cc_M_upTo 6 = .ok (.istore 4, 2) := by decide +kernel
theorem dd_M_upTo_8 : decode cc_M_upTo 8 = .ok (.iconst 0, 1) := by decide +kernel
theorem dd_M_upTo_9 : decode cc_M_upTo 9 = .ok (.istore 5, 2) := by decide +kernel
theorem dd_M_upTo_11 : decode cc_M_upTo 11 = .ok (.iload 5, 2) := by decide +kernel
theorem dd_M_upTo_13 : decode cc_M_upTo 13 = .ok (.iload_n 3, 1) := by decide +kernel
theorem dd_M_upTo_14 : decode cc_M_upTo 14 = .ok (.if_icmp .gt 25, 3) := by decide +kernel
theorem dd_M_upTo_17 : decode cc_M_upTo 17 = .ok (.iload 4, 2) := by decide +kernel
theorem dd_M_upTo_19 : decode cc_M_upTo 19 = .ok (.aload_n 0, 1) := by decide +kernel
theorem dd_M_upTo_20 : decode cc_M_upTo 20 = .ok (.iload_n 2, 1) := by decide +kernel
theorem dd_M_upTo_21 : decode cc_M_upTo 21 = .ok (.iconst 5, 1) := by decide +kernel
theorem dd_M_upTo_22 : decode cc_M_upTo 22 = .ok (.iload 5, 2) := by decide +kernel
theorem dd_M_upTo_24 : decode cc_M_upTo 24 = .ok (.iadd, 1) := by decide +kernel
theorem dd_M_upTo_25 : decode cc_M_upTo 25 = .ok (.invokevirtual 143, 3) := by decide +kernel
theorem dd_M_upTo_28 : decode cc_M_upTo 28 = .ok (.invokestatic 155, 3) := by decide +kernel
theorem dd_M_upTo_31 : decode cc_M_upTo 31 = .ok (.istore 4, 2) := by decide +kernel
theorem dd_M_upTo_33 : decode cc_M_upTo 33 = .ok (.iinc 5 1, 3) := by decide +kernel
theorem dd_M_upTo_36 : decode cc_M_upTo 36 = .ok (.goto (-25), 3) := by decide +kernel
theorem dd_M_upTo_39 : decode cc_M_upTo 39 = .ok (.iload 4, 2) := by decide +kernel
theorem dd_M_upTo_41 : decode cc_M_upTo 41 = .ok (.ireturn, 1) := by decide +kernel
theorem dd_M_code_0 : decode cc_M_code 0 = .ok (.aload_n 0, 1) := by decide +kernel
theorem dd_M_code_1 : decode cc_M_code 1 = .ok (.iload_n 1, 1) := by decide +kernel
theorem dd_M_code_2 : decode cc_M_code 2 = .ok (.invokevirtual 152, 3) := by decide +kernel
theorem dd_M_code_5 : decode cc_M_code 5 = .ok (.istore_n 3, 1) := by decide +kernel
theorem dd_M_code_6 : decode cc_M_code 6 = .ok (.iload_n 3, 1) := by decide +kernel
theorem dd_M_code_7 : decode cc_M_code 7 = .ok (.ifCond .eq 8, 3) := by decide +kernel
theorem dd_M_code_10 : decode cc_M_code 10 = .ok (.iload_n 3, 1) := by decide +kernel
theorem dd_M_code_11 : decode cc_M_code 11 = .ok (.iconst 2, 1) := by decide +kernel
theorem dd_M_code_12 : decode cc_M_code 12 = .ok (.if_icmp .ne 18, 3) := by decide +kernel
theorem dd_M_code_15 : decode cc_M_code 15 = .ok (.iload_n 2, 1) := by decide +kernel
theorem dd_M_code_16 : decode cc_M_code 16 = .ok (.ifCond .ne 12, 3) := by decide +kernel
theorem dd_M_code_19 : decode cc_M_code 19 = .ok (.aload_n 0, 1) := by decide +kernel
theorem dd_M_code_20 : decode cc_M_code 20 = .ok (.iload_n 1, 1) := by decide +kernel
theorem dd_M_code_21 : decode cc_M_code 21 = .ok (.iconst 0, 1) := by decide +kernel
theorem dd_M_code_22 : decode cc_M_code 22 = .ok (.invokevirtual 143, 3) := by decide +kernel
theorem dd_M_code_25 : decode cc_M_code 25 = .ok (.goto 4, 3) := by decide +kernel
theorem dd_M_code_28 : decode cc_M_code 28 = .ok (.iconst 2, 1) := by decide +kernel
theorem dd_M_code_29 : decode cc_M_code 29 = .ok (.ireturn, 1) := by decide +kernel
theorem dd_M_code_30 : decode cc_M_code 30 = .ok (.iload_n 3, 1) := by decide +kernel
theorem dd_M_code_31 : decode cc_M_code 31 = .ok (.iconst 1, 1) := by decide +kernel
theorem dd_M_code_32 : decode cc_M_code 32 = .ok (.if_icmp .ne 49, 3) := by decide +kernel
theorem dd_M_code_35 : decode cc_M_code 35 = .ok (.iload_n 2, 1) := by decide +kernel
theorem dd_M_code_36 : decode cc_M_code 36 = .ok (.ifCond .ne 29, 3) := by decide +kernel
theorem dd_M_code_39 : decode cc_M_code 39 = .ok (.aload_n 0, 1) := by decide +kernel
theorem dd_M_code_40 : decode cc_M_code 40 = .ok (.getfield 52, 3) := by decide +kernel
theorem dd_M_code_43 : decode cc_M_code 43 = .ok (.aload_n 0, 1) := by decide +kernel
theorem dd_M_code_44 : decode cc_M_code 44 = .ok (.getfield 49, 3) := by decide +kernel
theorem dd_M_code_47 : decode cc_M_code 47 = .ok (.iload_n 1, 1) := by decide +kernel
theorem dd_M_code_48 : decode cc_M_code 48 = .ok (.iaload, 1) := by decide +kernel
theorem dd_M_code_49 : decode cc_M_code 49 = .ok (.baload, 1) := by decide +kernel
theorem dd_M_code_50 : decode cc_M_code 50 = .ok (.invokestatic 171, 3) := by decide +kernel
theorem dd_M_code_53 : decode cc_M_code 53 = .ok (.aload_n 0, 1) := by decide +kernel
theorem dd_M_code_54 : decode cc_M_code 54 = .ok (.iload_n 1, 1) := by decide +kernel
theorem dd_M_code_55 : decode cc_M_code 55 = .ok (.iconst 1, 1) := by decide +kernel
theorem dd_M_code_56 : decode cc_M_code 56 = .ok (.invokevirtual 143, 3) := by decide +kernel
theorem dd_M_code_59 : decode cc_M_code 59 = .ok (.invokestatic 146, 3) := by decide +kernel
theorem dd_M_code_62 : decode cc_M_code 62 = .ok (.goto 18, 3) := by decide +kernel
theorem dd_M_code_65 : decode cc_M_code 65 = .ok (.iload_n 2, 1) := by decide +kernel
theorem dd_M_code_66 : decode cc_M_code 66 = .ok (.iconst 1, 1) := by decide +kernel
theorem dd_M_code_67 : decode cc_M_code 67 = .ok (.if_icmp .ne 12, 3) := by decide +kernel
theorem dd_M_code_70 : decode cc_M_code 70 = .ok (.aload_n 0, 1) := by decide +kernel
theorem dd_M_code_71 : decode cc_M_code 71 = .ok (.iload_n 1, 1) := by decide +kernel
theorem dd_M_code_72 : decode cc_M_code 72 = .ok (.iconst 0, 1) := by decide +kernel
theorem dd_M_code_73 : decode cc_M_code 73 = .ok (.invokevirtual 143, 3) := by decide +kernel
theorem dd_M_code_76 : decode cc_M_code 76 = .ok (.goto 4, 3) := by decide +kernel
theorem dd_M_code_79 : decode cc_M_code 79 = .ok (.iconst 2, 1) := by decide +kernel
theorem dd_M_code_80 : decode cc_M_code 80 = .ok (.ireturn, 1) := by decide +kernel
theorem dd_M_code_81 : decode cc_M_code 81 = .ok (.iload_n 3, 1) := by decide +kernel
theorem dd_M_code_82 : decode cc_M_code 82 = .ok (.bipush 10, 2) := by decide +kernel
theorem dd_M_code_84 : decode cc_M_code 84 = .ok (.if_icmp .ne 31, 3) := by decide +kernel
theorem dd_M_code_87 : decode cc_M_code 87 = .ok (.iload_n 2, 1) := by decide +kernel
theorem dd_M_code_88 : decode cc_M_code 88 = .ok (.iconst 2, 1) := by decide +kernel
theorem dd_M_code_89 : decode cc_M_code 89 = .ok (.aload_n 0, 1) := by decide +kernel
theorem dd_M_code_90 : decode cc_M_code 90 = .ok (.getfield 13, 3) := by decide +kernel
theorem dd_M_code_93 : decode cc_M_code 93 = .ok (.aload_n 0, 1) := by decide +kernel
theorem dd_M_code_94 : decode cc_M_code 94 = .ok (.getfield 31, 3) := by decide +kernel
theorem dd_M_code_97 : decode cc_M_code 97 = .ok (.iload_n 1, 1) := by decide +kernel
theorem dd_M_code_98 : decode cc_M_code 98 = .ok (.iaload, 1) := by decide +kernel
theorem dd_M_code_99 : decode cc_M_code 99 = .ok (.iaload, 1) := by decide +kernel
theorem dd_M_code_100 : decode cc_M_code 100 = .ok (.iadd, 1) := by decide +kernel
theorem dd_M_code_101 : decode cc_M_code 101 = .ok (.if_icmp .ne 12, 3) := by decide +kernel
theorem dd_M_code_104 : decode cc_M_code 104 = .ok (.aload_n 0, 1) := by decide +kernel
theorem dd_M_code_105 : decode cc_M_code 105 = .ok (.iload_n 1, 1) := by decide +kernel
theorem dd_M_code_106 : decode cc_M_code 106 = .ok (.iconst 0, 1) := by decide +kernel
theorem dd_M_code_107 : decode cc_M_code 107 = .ok (.invokevirtual 143, 3) := by decide +kernel
theorem dd_M_code_110 : decode cc_M_code 110 = .ok (.goto 4, 3) := by decide +kernel
theorem dd_M_code_113 : decode cc_M_code 113 = .ok (.iconst 2, 1) := by decide +kernel
theorem dd_M_code_114 : decode cc_M_code 114 = .ok (.ireturn, 1) := by decide +kernel
theorem dd_M_code_115 : decode cc_M_code 115 = .ok (.aload_n 0, 1) := by decide +kernel
theorem dd_M_code_116 : decode cc_M_code 116 = .ok (.getfield 40, 3) := by decide +kernel
theorem dd_M_code_119 : decode cc_M_code 119 = .ok (.iload_n 1, 1) := by decide +kernel
theorem dd_M_code_120 : decode cc_M_code 120 = .ok (.iaload, 1) := by decide +kernel
theorem dd_M_code_121 : decode cc_M_code 121 = .ok (.istore 4, 2) := by decide +kernel
theorem dd_M_code_123 : decode cc_M_code 123 = .ok (.aload_n 0, 1) := by decide +kernel
theorem dd_M_code_124 : decode cc_M_code 124 = .ok (.iload 4, 2) := by decide +kernel
theorem dd_M_code_126 : decode cc_M_code 126 = .ok (.iconst 5, 1) := by decide +kernel
theorem dd_M_code_127 : decode cc_M_code 127 = .ok (.iload_n 2, 1) := by decide +kernel
theorem dd_M_code_128 : decode cc_M_code 128 = .ok (.iadd, 1) := by decide +kernel
theorem dd_M_code_129 : decode cc_M_code 129 = .ok (.invokevirtual 143, 3) := by decide +kernel
theorem dd_M_code_132 : decode cc_M_code 132 = .ok (.istore 5, 2) := by decide +kernel
theorem dd_M_code_134 : decode cc_M_code 134 = .ok (.iload_n 3, 1) := by decide +kernel
theorem dd_M_code_135 : decode cc_M_code 135 = .ok (.bipush 8, 2) := by decide +kernel
theorem dd_M_code_137 : decode cc_M_code 137 = .ok (.if_icmp .ne 6, 3) := by decide +kernel
theorem dd_M_code_140 : decode cc_M_code 140 = .ok (.iload 5, 2) := by decide +kernel
theorem dd_M_code_142 : decode cc_M_code 142 = .ok (.ireturn, 1) := by decide +kernel
theorem dd_M_code_143 : decode cc_M_code 143 = .ok (.iload_n 3, 1) := by decide +kernel
theorem dd_M_code_144 : decode cc_M_code 144 = .ok (.bipush 7, 2) := by decide +kernel
theorem dd_M_code_146 : decode cc_M_code 146 = .ok (.if_icmp .ne 24, 3) := by decide +kernel
theorem dd_M_code_149 : decode cc_M_code 149 = .ok (.iload_n 2, 1) := by decide +kernel
theorem dd_M_code_150 : decode cc_M_code 150 = .ok (.iconst 1, 1) := by decide +kernel
theorem dd_M_code_151 : decode cc_M_code 151 = .ok (.if_icmp .ne 16, 3) := by decide +kernel
theorem dd_M_code_154 : decode cc_M_code 154 = .ok (.iload 5, 2) := by decide +kernel
theorem dd_M_code_156 : decode cc_M_code 156 = .ok (.aload_n 0, 1) := by decide +kernel
theorem dd_M_code_157 : decode cc_M_code 157 = .ok (.iload_n 1, 1) := by decide +kernel
theorem dd_M_code_158 : decode cc_M_code 158 = .ok (.invokevirtual 165, 3) := by decide +kernel
theorem dd_M_code_161 : decode cc_M_code 161 = .ok (.invokestatic 155, 3) := by decide +kernel
theorem dd_M_code_164 : decode cc_M_code 164 = .ok (.goto 5, 3) := by decide +kernel
theorem dd_M_code_167 : decode cc_M_code 167 = .ok (.iload 5, 2) := by decide +kernel
theorem dd_M_code_169 : decode cc_M_code 169 = .ok (.ireturn, 1) := by decide +kernel
theorem dd_M_code_170 : decode cc_M_code 170 = .ok (.iload_n 3, 1) := by decide +kernel
theorem dd_M_code_171 : decode cc_M_code 171 = .ok (.bipush 9, 2) := by decide +kernel
theorem dd_M_code_173 : decode cc_M_code 173 = .ok (.if_icmp .ne 54, 3) := by decide +kernel
theorem dd_M_code_176 : decode cc_M_code 176 = .ok (.iload_n 2, 1) := by decide +kernel
theorem dd_M_code_177 : decode cc_M_code 177 = .ok (.ifCond .ne 19, 3) := by decide +kernel
theorem dd_M_code_180 : decode cc_M_code 180 = .ok (.iload 5, 2) := by decide +kernel
theorem dd_M_code_182 : decode cc_M_code 182 = .ok (.aload_n 0, 1) := by decide +kernel
theorem dd_M_code_183 : decode cc_M_code 183 = .ok (.iload 4, 2) := by decide +kernel
theorem dd_M_code_185 : decode cc_M_code 185 = .ok (.bipush 7, 2) := by decide +kernel
theorem dd_M_code_187 : decode cc_M_code 187 = .ok (.invokevirtual 143, 3) := by decide +kernel
theorem dd_M_code_190 : decode cc_M_code 190 = .ok (.invokestatic 155, 3) := by decide +kernel
theorem dd_M_code_193 : decode cc_M_code 193 = .ok (.goto 33, 3) := by decide +kernel
theorem dd_M_code_196 : decode cc_M_code 196 = .ok (.iload_n 2, 1) := by decide +kernel
theorem dd_M_code_197 : decode cc_M_code 197 = .ok (.iconst 1, 1) := by decide +kernel
theorem dd_M_code_198 : decode cc_M_code 198 = .ok (.if_icmp .ne 8, 3) := by decide +kernel
theorem dd_M_code_201 : decode cc_M_code 201 = .ok (.iload 5, 2) := by decide +kernel
theorem dd_M_code_203 : decode cc_M_code 203 = .ok (.goto 23, 3) := by decide +kernel
theorem dd_M_code_206 : decode cc_M_code 206 = .ok (.iload_n 2, 1) := by decide +kernel
theorem dd_M_code_207 : decode cc_M_code 207 = .ok (.iconst 5, 1) := by decide +kernel
theorem dd_M_code_208 : decode cc_M_code 208 = .ok (.if_icmp .ne 7, 3) := by decide +kernel
theorem dd_M_code_211 : decode cc_M_code 211 = .ok (.iconst 2, 1) := by decide +kernel
theorem dd_M_code_212 : decode cc_M_code 212 = .ok (.goto 14, 3) := by decide +kernel
theorem dd_M_code_215 : decode cc_M_code 215 = .ok (.aload_n 0, 1) := by decide +kernel
theorem dd_M_code_216 : decode cc_M_code 216 = .ok (.iload 4, 2) := by decide +kernel
theorem dd_M_code_218 : decode cc_M_code 218 = .ok (.iconst 5, 1) := by decide +kernel
theorem dd_M_code_219 : decode cc_M_code 219 = .ok (.iload_n 2, 1) := by decide +kernel
theorem dd_M_code_220 : decode cc_M_code 220 = .ok (.iadd, 1) := by decide +kernel
theorem dd_M_code_221 : decode cc_M_code 221 = .ok (.iconst 1, 1) := by decide +kernel
theorem dd_M_code_222 : decode cc_M_code 222 = .ok (.iadd, 1) := by decide +kernel
theorem dd_M_code_223 : decode cc_M_code 223 = .ok (.invokevirtual 143, 3) := by decide +kernel
theorem dd_M_code_226 : decode cc_M_code 226 = .ok (.ireturn, 1) := by decide +kernel
theorem dd_M_code_227 : decode cc_M_code 227 = .ok (.aload_n 0, 1) := by decide +kernel
theorem dd_M_code_228 : decode cc_M_code 228 = .ok (.getfield 43, 3) := by decide +kernel
theorem dd_M_code_231 : decode cc_M_code 231 = .ok (.iload_n 1, 1) := by decide +kernel
theorem dd_M_code_232 : decode cc_M_code 232 = .ok (.iaload, 1) := by decide +kernel
theorem dd_M_code_233 : decode cc_M_code 233 = .ok (.istore 6, 2) := by decide +kernel
theorem dd_M_code_235 : decode cc_M_code 235 = .ok (.aload_n 0, 1) := by decide +kernel
theorem dd_M_code_236 : decode cc_M_code 236 = .ok (.iload 6, 2) := by decide +kernel
theorem dd_M_code_238 : decode cc_M_code 238 = .ok (.iconst 5, 1) := by decide +kernel
theorem dd_M_code_239 : decode cc_M_code 239 = .ok (.iload_n 2, 1) := by decide +kernel
theorem dd_M_code_240 : decode cc_M_code 240 = .ok (.iadd, 1) := by decide +kernel
theorem dd_M_code_241 : decode cc_M_code 241 = .ok (.invokevirtual 143, 3) := by decide +kernel
theorem dd_M_code_244 : decode cc_M_code 244 = .ok (.istore 7, 2) := by decide +kernel
theorem dd_M_code_246 : decode cc_M_code 246 = .ok (.iload_n 3, 1) := by decide +kernel
theorem dd_M_code_247 : decode cc_M_code 247 = .ok (.iconst 3, 1) := by decide +kernel
theorem dd_M_code_248 : decode cc_M_code 248 = .ok (.if_icmp .ne 20, 3) := by decide +kernel
theorem dd_M_code_251 : decode cc_M_code 251 = .ok (.iload_n 2, 1) := by decide +kernel
theorem dd_M_code_252 : decode cc_M_code 252 = .ok (.ifCond .ne 8, 3) := by decide +kernel
theorem dd_M_code_255 : decode cc_M_code 255 = .ok (.iload 7, 2) := by decide +kernel
theorem dd_M_code_257 : decode cc_M_code 257 = .ok (.goto 10, 3) := by decide +kernel
theorem dd_M_code_260 : decode cc_M_code 260 = .ok (.iload 5, 2) := by decide +kernel
theorem dd_M_code_262 : decode cc_M_code 262 = .ok (.iload 7, 2) := by decide +kernel
theorem dd_M_code_264 : decode cc_M_code 264 = .ok (.invokestatic 155, 3) := by decide +kernel
theorem dd_M_code_267 : decode cc_M_code 267 = .ok (.ireturn, 1) := by decide +kernel
theorem dd_M_code_268 : decode cc_M_code 268 = .ok (.iload_n 3, 1) := by decide +kernel
theorem dd_M_code_269 : decode cc_M_code 269 = .ok (.iconst 5, 1) := by decide +kernel
theorem dd_M_code_270 : decode cc_M_code 270 = .ok (.if_icmp .ne 19, 3) := by decide +kernel
theorem dd_M_code_273 : decode cc_M_code 273 = .ok (.iload_n 2, 1) := by decide +kernel
theorem dd_M_code_274 : decode cc_M_code 274 = .ok (.ifCond .ne 7, 3) := by decide +kernel
theorem dd_M_code_277 : decode cc_M_code 277 = .ok (.iconst 2, 1) := by decide +kernel
theorem dd_M_code_278 : decode cc_M_code 278 = .ok (.goto 10, 3) := by decide +kernel
theorem dd_M_code_281 : decode cc_M_code 281 = .ok (.iload 5, 2) := by decide +kernel
theorem dd_M_code_283 : decode cc_M_code 283 = .ok (.iload 7, 2) := by decide +kernel
theorem dd_M_code_285 : decode cc_M_code 285 = .ok (.invokestatic 155, 3) := by decide +kernel
theorem dd_M_code_288 : decode cc_M_code 288 = .ok (.ireturn, 1) := by decide +kernel
theorem dd_M_code_289 : decode cc_M_code 289 = .ok (.iload_n 3, 1) := by decide +kernel
theorem dd_M_code_290 : decode cc_M_code 290 = .ok (.bipush 6, 2) := by decide +kernel
theorem dd_M_code_292 : decode cc_M_code 292 = .ok (.if_icmp .ne 11, 3) := by decide +kernel
theorem dd_M_code_295 : decode cc_M_code 295 = .ok (.iload 5, 2) := by decide +kernel
theorem dd_M_code_297 : decode cc_M_code 297 = .ok (.iload 7, 2) := by decide +kernel
theorem dd_M_code_299 : decode cc_M_code 299 = .ok (.invokestatic 155, 3) := by decide +kernel
theorem dd_M_code_302 : decode cc_M_code 302 = .ok (.ireturn, 1) := by decide +kernel
theorem dd_M_code_303 : decode cc_M_code 303 = .ok (.iload 5, 2) := by decide +kernel
theorem dd_M_code_305 : decode cc_M_code 305 = .ok (.aload_n 0, 1) := by decide +kernel
theorem dd_M_code_306 : decode cc_M_code 306 = .ok (.iload_n 1, 1) := by decide +kernel
theorem dd_M_code_307 : decode cc_M_code 307 = .ok (.iload 6, 2) := by decide +kernel
theorem dd_M_code_309 : decode cc_M_code 309 = .ok (.iload_n 2, 1) := by decide +kernel
theorem dd_M_code_310 : decode cc_M_code 310 = .ok (.invokevirtual 175, 3) := by decide +kernel
theorem dd_M_code_313 : decode cc_M_code 313 = .ok (.invokestatic 146, 3) := by decide +kernel
theorem dd_M_code_316 : decode cc_M_code 316 = .ok (.iload 7, 2) := by decide +kernel
theorem dd_M_code_318 : decode cc_M_code 318 = .ok (.aload_n 0, 1) := by decide +kernel
theorem dd_M_code_319 : decode cc_M_code 319 = .ok (.iload_n 1, 1) := by decide +kernel
theorem dd_M_code_320 : decode cc_M_code 320 = .ok (.iload 4, 2) := by decide +kernel
theorem dd_M_code_322 : decode cc_M_code 322 = .ok (.iload_n 2, 1) := by decide +kernel
theorem dd_M_code_323 : decode cc_M_code 323 = .ok (.invokevirtual 175, 3) := by decide +kernel
theorem dd_M_code_326 : decode cc_M_code 326 = .ok (.invokestatic 146, 3) := by decide +kernel
theorem dd_M_code_329 : decode cc_M_code 329 = .ok (.invokestatic 155, 3) := by decide +kernel
theorem dd_M_code_332 : decode cc_M_code 332 = .ok (.ireturn, 1) := by decide +kernel
theorem dd_M_up_0 : decode cc_M_up 0 = .ok (.aload_n 0, 1) := by decide +kernel
theorem dd_M_up_1 : decode cc_M_up 1 = .ok (.iload_n 1, 1) := by decide +kernel
theorem dd_M_up_2 : decode cc_M_up 2 = .ok (.invokevirtual 152, 3) := by decide +kernel
theorem dd_M_up_5 : decode cc_M_up 5 = .ok (.istore_n 2, 1) := by decide +kernel
theorem dd_M_up_6 : decode cc_M_up 6 = .ok (.iload_n 2, 1) := by decide +kernel
theorem dd_M_up_7 : decode cc_M_up 7 = .ok (.invokestatic 77, 3) := by decide +kernel
theorem dd_M_up_10 : decode cc_M_up 10 = .ok (.istore_n 3, 1) := by decide +kernel
theorem dd_M_up_11 : decode cc_M_up 11 = .ok (.iload_n 2, 1) := by decide +kernel
theorem dd_M_up_12 : decode cc_M_up 12 = .ok (.iconst 1, 1) := by decide +kernel
theorem dd_M_up_13 : decode cc_M_up 13 = .ok (.if_icmp .ne 20, 3) := by decide +kernel
theorem dd_M_up_16 : decode cc_M_up 16 = .ok (.aload_n 0, 1) := by decide +kernel
theorem dd_M_up_17 : decode cc_M_up 17 = .ok (.getfield 52, 3) := by decide +kernel
theorem dd_M_up_20 : decode cc_M_up 20 = .ok (.aload_n 0, 1) := by decide +kernel
theorem dd_M_up_21 : decode cc_M_up 21 = .ok (.getfield 49, 3) := by decide +kernel
theorem dd_M_up_24 : decode cc_M_up 24 = .ok (.iload_n 1, 1) := by decide +kernel
theorem dd_M_up_25 : decode cc_M_up 25 = .ok (.iaload, 1) := by decide +kernel
theorem dd_M_up_26 : decode cc_M_up 26 = .ok (.baload, 1) := by decide +kernel
theorem dd_M_up_27 : decode cc_M_up 27 = .ok (.invokestatic 171, 3) := by decide +kernel
theorem dd_M_up_30 : decode cc_M_up 30 = .ok (.goto 22, 3) := by decide +kernel
theorem dd_M_up_33 : decode cc_M_up 33 = .ok (.iload_n 3, 1) := by decide +kernel
theorem dd_M_up_34 : decode cc_M_up 34 = .ok (.ifCond .ne 7, 3) := by decide +kernel
theorem dd_M_up_37 : decode cc_M_up 37 = .ok (.iconst 2, 1) := by decide +kernel
theorem dd_M_up_38 : decode cc_M_up 38 = .ok (.goto 14, 3) := by decide +kernel
theorem dd_M_up_41 : decode cc_M_up 41 = .ok (.aload_n 0, 1) := by decide +kernel
theorem dd_M_up_42 : decode cc_M_up 42 = .ok (.aload_n 0, 1) := by decide +kernel
theorem dd_M_up_43 : decode cc_M_up 43 = .ok (.getfield 40, 3) := by decide +kernel
theorem dd_M_up_46 : decode cc_M_up 46 = .ok (.iload_n 1, 1) := by decide +kernel
theorem dd_M_up_47 : decode cc_M_up 47 = .ok (.iaload, 1) := by decide +kernel
theorem dd_M_up_48 : decode cc_M_up 48 = .ok (.iconst 4, 1) := by decide +kernel
theorem dd_M_up_49 : decode cc_M_up 49 = .ok (.invokevirtual 143, 3) := by decide +kernel
theorem dd_M_up_52 : decode cc_M_up 52 = .ok (.istore 4, 2) := by decide +kernel
theorem dd_M_up_54 : decode cc_M_up 54 = .ok (.iload_n 3, 1) := by decide +kernel
theorem dd_M_up_55 : decode cc_M_up 55 = .ok (.iconst 2, 1) := by decide +kernel
theorem dd_M_up_56 : decode cc_M_up 56 = .ok (.if_icmp .eq 8, 3) := by decide +kernel
theorem dd_M_up_59 : decode cc_M_up 59 = .ok (.iload_n 2, 1) := by decide +kernel
theorem dd_M_up_60 : decode cc_M_up 60 = .ok (.iconst 5, 1) := by decide +kernel
theorem dd_M_up_61 : decode cc_M_up 61 = .ok (.if_icmp .ne 21, 3) := by decide +kernel
theorem dd_M_up_64 : decode cc_M_up 64 = .ok (.iload 4, 2) := by decide +kernel
theorem dd_M_up_66 : decode cc_M_up 66 = .ok (.aload_n 0, 1) := by decide +kernel
theorem dd_M_up_67 : decode cc_M_up 67 = .ok (.aload_n 0, 1) := by decide +kernel
theorem dd_M_up_68 : decode cc_M_up 68 = .ok (.getfield 43, 3) := by decide +kernel
theorem dd_M_up_71 : decode cc_M_up 71 = .ok (.iload_n 1, 1) := by decide +kernel
theorem dd_M_up_72 : decode cc_M_up 72 = .ok (.iaload, 1) := by decide +kernel
theorem dd_M_up_73 : decode cc_M_up 73 = .ok (.iconst 4, 1) := by decide +kernel
theorem dd_M_up_74 : decode cc_M_up 74 = .ok (.invokevirtual 143, 3) := by decide +kernel
theorem dd_M_up_77 : decode cc_M_up 77 = .ok (.invokestatic 155, 3) := by decide +kernel
theorem dd_M_up_80 : decode cc_M_up 80 = .ok (.istore 4, 2) := by decide +kernel
theorem dd_M_up_82 : decode cc_M_up 82 = .ok (.aload_n 0, 1) := by decide +kernel
theorem dd_M_up_83 : decode cc_M_up 83 = .ok (.iload_n 1, 1) := by decide +kernel
theorem dd_M_up_84 : decode cc_M_up 84 = .ok (.iconst 4, 1) := by decide +kernel
theorem dd_M_up_85 : decode cc_M_up 85 = .ok (.iload 4, 2) := by decide +kernel
theorem dd_M_up_87 : decode cc_M_up 87 = .ok (.invokevirtual 161, 3) := by decide +kernel
theorem dd_M_up_90 : decode cc_M_up 90 = .ok (.iconst 0, 1) := by decide +kernel
theorem dd_M_up_91 : decode cc_M_up 91 = .ok (.istore 5, 2) := by decide +kernel
theorem dd_M_up_93 : decode cc_M_up 93 = .ok (.iload 5, 2) := by decide +kernel
theorem dd_M_up_95 : decode cc_M_up 95 = .ok (.bipush 6, 2) := by decide +kernel
theorem dd_M_up_97 : decode cc_M_up 97 = .ok (.if_icmp .ge 29, 3) := by decide +kernel
theorem dd_M_up_100 : decode cc_M_up 100 = .ok (.aload_n 0, 1) := by decide +kernel
theorem dd_M_up_101 : decode cc_M_up 101 = .ok (.iload_n 1, 1) := by decide +kernel
theorem dd_M_up_102 : decode cc_M_up 102 = .ok (.iload 5, 2) := by decide +kernel
theorem dd_M_up_104 : decode cc_M_up 104 = .ok (.invokevirtual 179, 3) := by decide +kernel
theorem dd_M_up_107 : decode cc_M_up 107 = .ok (.istore 6, 2) := by decide +kernel
theorem dd_M_up_109 : decode cc_M_up 109 = .ok (.aload_n 0, 1) := by decide +kernel
theorem dd_M_up_110 : decode cc_M_up 110 = .ok (.iload_n 1, 1) := by decide +kernel
theorem dd_M_up_111 : decode cc_M_up 111 = .ok (.iconst 5, 1) := by decide +kernel
theorem dd_M_up_112 : decode cc_M_up 112 = .ok (.iload 5, 2) := by decide +kernel
theorem dd_M_up_114 : decode cc_M_up 114 = .ok (.iadd, 1) := by decide +kernel
theorem dd_M_up_115 : decode cc_M_up 115 = .ok (.iload 6, 2) := by decide +kernel
theorem dd_M_up_117 : decode cc_M_up 117 = .ok (.invokevirtual 161, 3) := by decide +kernel
theorem dd_M_up_120 : decode cc_M_up 120 = .ok (.iinc 5 1, 3) := by decide +kernel
theorem dd_M_up_123 : decode cc_M_up 123 = .ok (.goto (-30), 3) := by decide +kernel
theorem dd_M_up_126 : decode cc_M_up 126 = .ok (.return_, 1) := by decide +kernel
theorem dd_M_sense_0 : decode cc_M_sense 0 = .ok (.iconst 0, 1) := by decide +kernel
theorem dd_M_sense_1 : decode cc_M_sense 1 = .ok (.istore_n 2, 1) := by decide +kernel
theorem dd_M_sense_2 : decode cc_M_sense 2 = .ok (.iload_n 2, 1) := by decide +kernel
theorem dd_M_sense_3 : decode cc_M_sense 3 = .ok (.aload_n 0, 1) := by decide +kernel
theorem dd_M_sense_4 : decode cc_M_sense 4 = .ok (.getfield 111, 3) := by decide +kernel
theorem dd_M_sense_7 : decode cc_M_sense 7 = .ok (.if_icmp .ge 41, 3) := by decide +kernel
theorem dd_M_sense_10 : decode cc_M_sense 10 = .ok (.aload_n 0, 1) := by decide +kernel
theorem dd_M_sense_11 : decode cc_M_sense 11 = .ok (.getfield 62, 3) := by decide +kernel
theorem dd_M_sense_14 : decode cc_M_sense 14 = .ok (.iload_n 2, 1) := by decide +kernel
theorem dd_M_sense_15 : decode cc_M_sense 15 = .ok (.iload_n 2, 1) := by decide +kernel
theorem dd_M_sense_16 : decode cc_M_sense 16 = .ok (.iconst 3, 1) := by decide +kernel
theorem dd_M_sense_17 : decode cc_M_sense 17 = .ok (.if_icmp .ge 23, 3) := by decide +kernel
theorem dd_M_sense_20 : decode cc_M_sense 20 = .ok (.iload_n 1, 1) := by decide +kernel
theorem dd_M_sense_21 : decode cc_M_sense 21 = .ok (.iload_n 2, 1) := by decide +kernel
theorem dd_M_sense_22 : decode cc_M_sense 22 = .ok (.ishr, 1) := by decide +kernel
theorem dd_M_sense_23 : decode cc_M_sense 23 = .ok (.iconst 1, 1) := by decide +kernel
theorem dd_M_sense_24 : decode cc_M_sense 24 = .ok (.iand, 1) := by decide +kernel
theorem dd_M_sense_25 : decode cc_M_sense 25 = .ok (.iconst 1, 1) := by decide +kernel
theorem dd_M_sense_26 : decode cc_M_sense 26 = .ok (.if_icmp .ne 7, 3) := by decide +kernel
theorem dd_M_sense_29 : decode cc_M_sense 29 = .ok (.iconst 1, 1) := by decide +kernel
theorem dd_M_sense_30 : decode cc_M_sense 30 = .ok (.goto 4, 3) := by decide +kernel
theorem dd_M_sense_33 : decode cc_M_sense 33 = .ok (.iconst 0, 1) := by decide +kernel
theorem dd_M_sense_34 : decode cc_M_sense 34 = .ok (.invokestatic 171, 3) := by decide +kernel
theorem dd_M_sense_37 : decode cc_M_sense 37 = .ok (.goto 4, 3) := by decide +kernel
theorem dd_M_sense_40 : decode cc_M_sense 40 = .ok (.iconst 2, 1) := by decide +kernel
theorem dd_M_sense_41 : decode cc_M_sense 41 = .ok (.iastore, 1) := by decide +kernel
theorem dd_M_sense_42 : decode cc_M_sense 42 = .ok (.iinc 2 1, 3) := by decide +kernel
theorem dd_M_sense_45 : decode cc_M_sense 45 = .ok (.goto (-43), 3) := by decide +kernel
theorem dd_M_sense_48 : decode cc_M_sense 48 = .ok (.iconst 0, 1) := by decide +kernel
theorem dd_M_sense_49 : decode cc_M_sense 49 = .ok (.istore_n 2, 1) := by decide +kernel
theorem dd_M_sense_50 : decode cc_M_sense 50 = .ok (.iload_n 2, 1) := by decide +kernel
theorem dd_M_sense_51 : decode cc_M_sense 51 = .ok (.aload_n 0, 1) := by decide +kernel
theorem dd_M_sense_52 : decode cc_M_sense 52 = .ok (.getfield 121, 3) := by decide +kernel
theorem dd_M_sense_55 : decode cc_M_sense 55 = .ok (.if_icmp .ge 69, 3) := by decide +kernel
theorem dd_M_sense_58 : decode cc_M_sense 58 = .ok (.aload_n 0, 1) := by decide +kernel
theorem dd_M_sense_59 : decode cc_M_sense 59 = .ok (.iload_n 2, 1) := by decide +kernel
theorem dd_M_sense_60 : decode cc_M_sense 60 = .ok (.invokevirtual 152, 3) := by decide +kernel
theorem dd_M_sense_63 : decode cc_M_sense 63 = .ok (.iconst 2, 1) := by decide +kernel
theorem dd_M_sense_64 : decode cc_M_sense 64 = .ok (.if_icmp .ne 27, 3) := by decide +kernel
theorem dd_M_sense_67 : decode cc_M_sense 67 = .ok (.aload_n 0, 1) := by decide +kernel
theorem dd_M_sense_68 : decode cc_M_sense 68 = .ok (.getfield 46, 3) := by decide +kernel
theorem dd_M_sense_71 : decode cc_M_sense 71 = .ok (.bipush 8, 2) := by decide +kernel
theorem dd_M_sense_73 : decode cc_M_sense 73 = .ok (.iload_n 2, 1) := by decide +kernel
theorem dd_M_sense_74 : decode cc_M_sense 74 = .ok (.imul, 1) := by decide +kernel
theorem dd_M_sense_75 : decode cc_M_sense 75 = .ok (.aload_n 0, 1) := by decide +kernel
theorem dd_M_sense_76 : decode cc_M_sense 76 = .ok (.getfield 13, 3) := by decide +kernel
theorem dd_M_sense_79 : decode cc_M_sense 79 = .ok (.aload_n 0, 1) := by decide +kernel
theorem dd_M_sense_80 : decode cc_M_sense 80 = .ok (.getfield 31, 3) := by decide +kernel
theorem dd_M_sense_83 : decode cc_M_sense 83 = .ok (.iload_n 2, 1) := by decide +kernel
theorem dd_M_sense_84 : decode cc_M_sense 84 = .ok (.iaload, 1) := by decide +kernel
theorem dd_M_sense_85 : decode cc_M_sense 85 = .ok (.iaload, 1) := by decide +kernel
theorem dd_M_sense_86 : decode cc_M_sense 86 = .ok (.iadd, 1) := by decide +kernel
theorem dd_M_sense_87 : decode cc_M_sense 87 = .ok (.iaload, 1) := by decide +kernel
theorem dd_M_sense_88 : decode cc_M_sense 88 = .ok (.goto 4, 3) := by decide +kernel
theorem dd_M_sense_91 : decode cc_M_sense 91 = .ok (.iconst (-1), 1) := by decide +kernel
theorem dd_M_sense_92 : decode cc_M_sense 92 = .ok (.istore_n 3, 1) := by decide +kernel
theorem dd_M_sense_93 : decode cc_M_sense 93 = .ok (.iload_n 3, 1) := by decide +kernel
theorem dd_M_sense_94 : decode cc_M_sense 94 = .ok (.ifCond .lt 24, 3) := by decide +kernel
theorem dd_M_sense_97 : decode cc_M_sense 97 = .ok (.aload_n 0, 1) := by decide +kernel
theorem dd_M_sense_98 : decode cc_M_sense 98 = .ok (.getfield 62, 3) := by decide +kernel
theorem dd_M_sense_101 : decode cc_M_sense 101 = .ok (.iload_n 3, 1) := by decide +kernel
theorem dd_M_sense_102 : decode cc_M_sense 102 = .ok (.aload_n 0, 1) := by decide +kernel
theorem dd_M_sense_103 : decode cc_M_sense 103 = .ok (.getfield 62, 3) := by decide +kernel
theorem dd_M_sense_106 : decode cc_M_sense 106 = .ok (.iload_n 3, 1) := by decide +kernel
theorem dd_M_sense_107 : decode cc_M_sense 107 = .ok (.iaload, 1) := by decide +kernel
theorem dd_M_sense_108 : decode cc_M_sense 108 = .ok (.aload_n 0, 1) := by decide +kernel
theorem dd_M_sense_109 : decode cc_M_sense 109 = .ok (.iload_n 2, 1) := by decide +kernel
theorem dd_M_sense_110 : decode cc_M_sense 110 = .ok (.iconst 0, 1) := by decide +kernel
theorem dd_M_sense_111 : decode cc_M_sense 111 = .ok (.invokevirtual 143, 3) := by decide +kernel
theorem dd_M_sense_114 : decode cc_M_sense 114 = .ok (.invokestatic 155, 3) := by decide +kernel
theorem dd_M_sense_117 : decode cc_M_sense 117 = .ok (.iastore, 1) := by decide +kernel
theorem dd_M_sense_118 : decode cc_M_sense 118 = .ok (.iinc 2 1, 3) := by decide +kernel
theorem dd_M_sense_121 : decode cc_M_sense 121 = .ok (.goto (-71), 3) := by decide +kernel
theorem dd_M_sense_124 : decode cc_M_sense 124 = .ok (.iconst 0, 1) := by decide +kernel
theorem dd_M_sense_125 : decode cc_M_sense 125 = .ok (.istore_n 2, 1) := by decide +kernel
theorem dd_M_sense_126 : decode cc_M_sense 126 = .ok (.iload_n 2, 1) := by decide +kernel
theorem dd_M_sense_127 : decode cc_M_sense 127 = .ok (.aload_n 0, 1) := by decide +kernel
theorem dd_M_sense_128 : decode cc_M_sense 128 = .ok (.getfield 111, 3) := by decide +kernel
theorem dd_M_sense_131 : decode cc_M_sense 131 = .ok (.if_icmp .ge 52, 3) := by decide +kernel
theorem dd_M_sense_134 : decode cc_M_sense 134 = .ok (.aload_n 0, 1) := by decide +kernel
theorem dd_M_sense_135 : decode cc_M_sense 135 = .ok (.aload_n 0, 1) := by decide +kernel
theorem dd_M_sense_136 : decode cc_M_sense 136 = .ok (.getfield 140, 3) := by decide +kernel
theorem dd_M_sense_139 : decode cc_M_sense 139 = .ok (.ifCond .ne 18, 3) := by decide +kernel
theorem dd_M_sense_142 : decode cc_M_sense 142 = .ok (.aload_n 0, 1) := by decide +kernel
theorem dd_M_sense_143 : decode cc_M_sense 143 = .ok (.getfield 59, 3) := by decide +kernel
theorem dd_M_sense_146 : decode cc_M_sense 146 = .ok (.iload_n 2, 1) := by decide +kernel
theorem dd_M_sense_147 : decode cc_M_sense 147 = .ok (.iaload, 1) := by decide +kernel
theorem dd_M_sense_148 : decode cc_M_sense 148 = .ok (.aload_n 0, 1) := by decide +kernel
theorem dd_M_sense_149 : decode cc_M_sense 149 = .ok (.getfield 62, 3) := by decide +kernel
theorem dd_M_sense_152 : decode cc_M_sense 152 = .ok (.iload_n 2, 1) := by decide +kernel
theorem dd_M_sense_153 : decode cc_M_sense 153 = .ok (.iaload, 1) := by decide +kernel
theorem dd_M_sense_154 : decode cc_M_sense 154 = .ok (.if_icmp .eq 7, 3) := by decide +kernel
theorem dd_M_sense_157 : decode cc_M_sense 157 = .ok (.iconst 1, 1) := by decide +kernel
theorem dd_M_sense_158 : decode cc_M_sense 158 = .ok (.goto 4, 3) := by decide +kernel
theorem dd_M_sense_161 : decode cc_M_sense 161 = .ok (.iconst 0, 1) := by decide +kernel
theorem dd_M_sense_162 : decode cc_M_sense 162 = .ok (.putfield 140, 3) := by decide +kernel
theorem dd_M_sense_165 : decode cc_M_sense 165 = .ok (.aload_n 0, 1) := by decide +kernel
theorem dd_M_sense_166 : decode cc_M_sense 166 = .ok (.getfield 59, 3) := by decide +kernel
theorem dd_M_sense_169 : decode cc_M_sense 169 = .ok (.iload_n 2, 1) := by decide +kernel
theorem dd_M_sense_170 : decode cc_M_sense 170 = .ok (.aload_n 0, 1) := by decide +kernel
theorem dd_M_sense_171 : decode cc_M_sense 171 = .ok (.getfield 62, 3) := by decide +kernel
theorem dd_M_sense_174 : decode cc_M_sense 174 = .ok (.iload_n 2, 1) := by decide +kernel
theorem dd_M_sense_175 : decode cc_M_sense 175 = .ok (.iaload, 1) := by decide +kernel
theorem dd_M_sense_176 : decode cc_M_sense 176 = .ok (.iastore, 1) := by decide +kernel
theorem dd_M_sense_177 : decode cc_M_sense 177 = .ok (.iinc 2 1, 3) := by decide +kernel
theorem dd_M_sense_180 : decode cc_M_sense 180 = .ok (.goto (-54), 3) := by decide +kernel
theorem dd_M_sense_183 : decode cc_M_sense 183 = .ok (.return_, 1) := by decide +kernel
theorem dd_M_solve_0 : decode cc_M_solve 0 = .ok (.iconst 0, 1) := by decide +kernel
theorem dd_M_solve_1 : decode cc_M_solve 1 = .ok (.istore_n 2, 1) := by decide +kernel
theorem dd_M_solve_2 : decode cc_M_solve 2 = .ok (.iload_n 2, 1) := by decide +kernel
theorem dd_M_solve_3 : decode cc_M_solve 3 = .ok (.bipush 11, 2) := by decide +kernel
theorem dd_M_solve_5 : decode cc_M_solve 5 = .ok (.aload_n 0, 1) := by decide +kernel
theorem dd_M_solve_6 : decode cc_M_solve 6 = .ok (.getfield 121, 3) := by decide +kernel
theorem dd_M_solve_9 : decode cc_M_solve 9 = .ok (.imul, 1) := by decide +kernel
theorem dd_M_solve_10 : decode cc_M_solve 10 = .ok (.if_icmp .ge 16, 3) := by decide +kernel
theorem dd_M_solve_13 : decode cc_M_solve 13 = .ok (.aload_n 0, 1) := by decide +kernel
theorem dd_M_solve_14 : decode cc_M_solve 14 = .ok (.getfield 56, 3) := by decide +kernel
theorem dd_M_solve_17 : decode cc_M_solve 17 = .ok (.iload_n 2, 1) := by decide +kernel
theorem dd_M_solve_18 : decode cc_M_solve 18 = .ok (.iconst 0, 1) := by decide +kernel
theorem dd_M_solve_19 : decode cc_M_solve 19 = .ok (.iastore, 1) := by decide +kernel
theorem dd_M_solve_20 : decode cc_M_solve 20 = .ok (.iinc 2 1, 3) := by decide +kernel
theorem dd_M_solve_23 : decode cc_M_solve 23 = .ok (.goto (-21), 3) := by decide +kernel
theorem dd_M_solve_26 : decode cc_M_solve 26 = .ok (.iconst 0, 1) := by decide +kernel
theorem dd_M_solve_27 : decode cc_M_solve 27 = .ok (.istore_n 2, 1) := by decide +kernel
theorem dd_M_solve_28 : decode cc_M_solve 28 = .ok (.iload_n 2, 1) := by decide +kernel
theorem dd_M_solve_29 : decode cc_M_solve 29 = .ok (.aload_n 0, 1) := by decide +kernel
theorem dd_M_solve_30 : decode cc_M_solve 30 = .ok (.getfield 111, 3) := by decide +kernel
theorem dd_M_solve_33 : decode cc_M_solve 33 = .ok (.if_icmp .ge 16, 3) := by decide +kernel
theorem dd_M_solve_36 : decode cc_M_solve 36 = .ok (.aload_n 0, 1) := by decide +kernel
theorem dd_M_solve_37 : decode cc_M_solve 37 = .ok (.getfield 59, 3) := by decide +kernel
theorem dd_M_solve_40 : decode cc_M_solve 40 = .ok (.iload_n 2, 1) := by decide +kernel
theorem dd_M_solve_41 : decode cc_M_solve 41 = .ok (.iconst 0, 1) := by decide +kernel
theorem dd_M_solve_42 : decode cc_M_solve 42 = .ok (.iastore, 1) := by decide +kernel
theorem dd_M_solve_43 : decode cc_M_solve 43 = .ok (.iinc 2 1, 3) := by decide +kernel
theorem dd_M_solve_46 : decode cc_M_solve 46 = .ok (.goto (-18), 3) := by decide +kernel
theorem dd_M_solve_49 : decode cc_M_solve 49 = .ok (.aload_n 0, 1) := by decide +kernel
theorem dd_M_solve_50 : decode cc_M_solve 50 = .ok (.iconst 1, 1) := by decide +kernel
theorem dd_M_solve_51 : decode cc_M_solve 51 = .ok (.putfield 140, 3) := by decide +kernel
theorem dd_M_solve_54 : decode cc_M_solve 54 = .ok (.aload_n 0, 1) := by decide +kernel
theorem dd_M_solve_55 : decode cc_M_solve 55 = .ok (.getfield 140, 3) := by decide +kernel
theorem dd_M_solve_58 : decode cc_M_solve 58 = .ok (.ifCond .eq 115, 3) := by decide +kernel
theorem dd_M_solve_61 : decode cc_M_solve 61 = .ok (.aload_n 0, 1) := by decide +kernel
theorem dd_M_solve_62 : decode cc_M_solve 62 = .ok (.iconst 0, 1) := by decide +kernel
theorem dd_M_solve_63 : decode cc_M_solve 63 = .ok (.putfield 140, 3) := by decide +kernel
theorem dd_M_solve_66 : decode cc_M_solve 66 = .ok (.aload_n 0, 1) := by decide +kernel
theorem dd_M_solve_67 : decode cc_M_solve 67 = .ok (.iconst 0, 1) := by decide +kernel
theorem dd_M_solve_68 : decode cc_M_solve 68 = .ok (.iconst 0, 1) := by decide +kernel
theorem dd_M_solve_69 : decode cc_M_solve 69 = .ok (.aload_n 0, 1) := by decide +kernel
theorem dd_M_solve_70 : decode cc_M_solve 70 = .ok (.getfield 137, 3) := by decide +kernel
theorem dd_M_solve_73 : decode cc_M_solve 73 = .ok (.ifCond .ne 7, 3) := by decide +kernel
theorem dd_M_solve_76 : decode cc_M_solve 76 = .ok (.iconst 1, 1) := by decide +kernel
theorem dd_M_solve_77 : decode cc_M_solve 77 = .ok (.goto 4, 3) := by decide +kernel
theorem dd_M_solve_80 : decode cc_M_solve 80 = .ok (.iconst 0, 1) := by decide +kernel
theorem dd_M_solve_81 : decode cc_M_solve 81 = .ok (.invokestatic 171, 3) := by decide +kernel
theorem dd_M_solve_84 : decode cc_M_solve 84 = .ok (.invokevirtual 161, 3) := by decide +kernel
theorem dd_M_solve_87 : decode cc_M_solve 87 = .ok (.aload_n 0, 1) := by decide +kernel
theorem dd_M_solve_88 : decode cc_M_solve 88 = .ok (.iconst 0, 1) := by decide +kernel
theorem dd_M_solve_89 : decode cc_M_solve 89 = .ok (.iconst 1, 1) := by decide +kernel
theorem dd_M_solve_90 : decode cc_M_solve 90 = .ok (.aload_n 0, 1) := by decide +kernel
theorem dd_M_solve_91 : decode cc_M_solve 91 = .ok (.getfield 137, 3) := by decide +kernel
theorem dd_M_solve_94 : decode cc_M_solve 94 = .ok (.ifCond .le 7, 3) := by decide +kernel
theorem dd_M_solve_97 : decode cc_M_solve 97 = .ok (.iconst 1, 1) := by decide +kernel
theorem dd_M_solve_98 : decode cc_M_solve 98 = .ok (.goto 4, 3) := by decide +kernel
theorem dd_M_solve_101 : decode cc_M_solve 101 = .ok (.iconst 0, 1) := by decide +kernel
theorem dd_M_solve_102 : decode cc_M_solve 102 = .ok (.invokestatic 171, 3) := by decide +kernel
theorem dd_M_solve_105 : decode cc_M_solve 105 = .ok (.invokevirtual 161, 3) := by decide +kernel
theorem dd_M_solve_108 : decode cc_M_solve 108 = .ok (.aload_n 0, 1) := by decide +kernel
theorem dd_M_solve_109 : decode cc_M_solve 109 = .ok (.iconst 0, 1) := by decide +kernel
theorem dd_M_solve_110 : decode cc_M_solve 110 = .ok (.iconst 2, 1) := by decide +kernel
theorem dd_M_solve_111 : decode cc_M_solve 111 = .ok (.iconst 2, 1) := by decide +kernel
theorem dd_M_solve_112 : decode cc_M_solve 112 = .ok (.invokevirtual 161, 3) := by decide +kernel
theorem dd_M_solve_115 : decode cc_M_solve 115 = .ok (.aload_n 0, 1) := by decide +kernel
theorem dd_M_solve_116 : decode cc_M_solve 116 = .ok (.iconst 0, 1) := by decide +kernel
theorem dd_M_solve_117 : decode cc_M_solve 117 = .ok (.iconst 3, 1) := by decide +kernel
theorem dd_M_solve_118 : decode cc_M_solve 118 = .ok (.iconst 2, 1) := by decide +kernel
theorem dd_M_solve_119 : decode cc_M_solve 119 = .ok (.invokevirtual 161, 3) := by decide +kernel
theorem dd_M_solve_122 : decode cc_M_solve 122 = .ok (.iconst 1, 1) := by decide +kernel
theorem dd_M_solve_123 : decode cc_M_solve 123 = .ok (.istore_n 2, 1) := by decide +kernel
theorem dd_M_solve_124 : decode cc_M_solve 124 = .ok (.iload_n 2, 1) := by decide +kernel
theorem dd_M_solve_125 : decode cc_M_solve 125 = .ok (.aload_n 0, 1) := by decide +kernel
theorem dd_M_solve_126 : decode cc_M_solve 126 = .ok (.getfield 121, 3) := by decide +kernel
theorem dd_M_solve_129 : decode cc_M_solve 129 = .ok (.if_icmp .ge 14, 3) := by decide +kernel
theorem dd_M_solve_132 : decode cc_M_solve 132 = .ok (.aload_n 0, 1) := by decide +kernel
theorem dd_M_solve_133 : decode cc_M_solve 133 = .ok (.iload_n 2, 1) := by decide +kernel
theorem dd_M_solve_134 : decode cc_M_solve 134 = .ok (.invokevirtual 182, 3) := by decide +kernel
theorem dd_M_solve_137 : decode cc_M_solve 137 = .ok (.iinc 2 1, 3) := by decide +kernel
theorem dd_M_solve_140 : decode cc_M_solve 140 = .ok (.goto (-16), 3) := by decide +kernel
theorem dd_M_solve_143 : decode cc_M_solve 143 = .ok (.aload_n 0, 1) := by decide +kernel
theorem dd_M_solve_144 : decode cc_M_solve 144 = .ok (.getfield 121, 3) := by decide +kernel
theorem dd_M_solve_147 : decode cc_M_solve 147 = .ok (.iconst 1, 1) := by decide +kernel
theorem dd_M_solve_148 : decode cc_M_solve 148 = .ok (.isub, 1) := by decide +kernel
theorem dd_M_solve_149 : decode cc_M_solve 149 = .ok (.istore_n 2, 1) := by decide +kernel
theorem dd_M_solve_150 : decode cc_M_solve 150 = .ok (.iload_n 2, 1) := by decide +kernel
theorem dd_M_solve_151 : decode cc_M_solve 151 = .ok (.ifCond .lt 14, 3) := by decide +kernel
theorem dd_M_solve_154 : decode cc_M_solve 154 = .ok (.aload_n 0, 1) := by decide +kernel
theorem dd_M_solve_155 : decode cc_M_solve 155 = .ok (.iload_n 2, 1) := by decide +kernel
theorem dd_M_solve_156 : decode cc_M_solve 156 = .ok (.invokevirtual 186, 3) := by decide +kernel
theorem dd_M_solve_159 : decode cc_M_solve 159 = .ok (.iinc 2 (-1), 3) := by decide +kernel
theorem dd_M_solve_162 : decode cc_M_solve 162 = .ok (.goto (-12), 3) := by decide +kernel
theorem dd_M_solve_165 : decode cc_M_solve 165 = .ok (.aload_n 0, 1) := by decide +kernel
theorem dd_M_solve_166 : decode cc_M_solve 166 = .ok (.iload_n 1, 1) := by decide +kernel
theorem dd_M_solve_167 : decode cc_M_solve 167 = .ok (.invokevirtual 189, 3) := by decide +kernel
theorem dd_M_solve_170 : decode cc_M_solve 170 = .ok (.goto (-116), 3) := by decide +kernel
theorem dd_M_solve_173 : decode cc_M_solve 173 = .ok (.return_, 1) := by decide +kernel
theorem dd_M_known_0 : decode cc_M_known 0 = .ok (.iconst 1, 1) := by decide +kernel
theorem dd_M_known_1 : decode cc_M_known 1 = .ok (.istore_n 1, 1) := by decide +kernel
theorem dd_M_known_2 : decode cc_M_known 2 = .ok (.iconst 0, 1) := by decide +kernel
theorem dd_M_known_3 : decode cc_M_known 3 = .ok (.istore_n 2, 1) := by decide +kernel
theorem dd_M_known_4 : decode cc_M_known 4 = .ok (.iload_n 2, 1) := by decide +kernel
theorem dd_M_known_5 : decode cc_M_known 5 = .ok (.bipush 11, 2) := by decide +kernel
theorem dd_M_known_7 : decode cc_M_known 7 = .ok (.aload_n 0, 1) := by decide +kernel
theorem dd_M_known_8 : decode cc_M_known 8 = .ok (.getfield 121, 3) := by decide +kernel
theorem dd_M_known_11 : decode cc_M_known 11 = .ok (.imul, 1) := by decide +kernel
theorem dd_M_known_12 : decode cc_M_known 12 = .ok (.if_icmp .ge 28, 3) := by decide +kernel
theorem dd_M_known_15 : decode cc_M_known 15 = .ok (.iload_n 1, 1) := by decide +kernel
theorem dd_M_known_16 : decode cc_M_known 16 = .ok (.ifCond .eq 16, 3) := by decide +kernel
theorem dd_M_known_19 : decode cc_M_known 19 = .ok (.aload_n 0, 1) := by decide +kernel
theorem dd_M_known_20 : decode cc_M_known 20 = .ok (.getfield 56, 3) := by decide +kernel
theorem dd_M_known_23 : decode cc_M_known 23 = .ok (.iload_n 2, 1) := by decide +kernel
theorem dd_M_known_24 : decode cc_M_known 24 = .ok (.iaload, 1) := by decide +kernel
theorem dd_M_known_25 : decode cc_M_known 25 = .ok (.ifCond .eq 7, 3) := by decide +kernel
theorem dd_M_known_28 : decode cc_M_known 28 = .ok (.iconst 1, 1) := by decide +kernel
theorem dd_M_known_29 : decode cc_M_known 29 = .ok (.goto 4, 3) := by decide +kernel
theorem dd_M_known_32 : decode cc_M_known 32 = .ok (.iconst 0, 1) := by decide +kernel
theorem dd_M_known_33 : decode cc_M_known 33 = .ok (.istore_n 1, 1) := by decide +kernel
theorem dd_M_known_34 : decode cc_M_known 34 = .ok (.iinc 2 1, 3) := by decide +kernel
theorem dd_M_known_37 : decode cc_M_known 37 = .ok (.goto (-33), 3) := by decide +kernel
theorem dd_M_known_40 : decode cc_M_known 40 = .ok (.iconst 0, 1) := by decide +kernel
theorem dd_M_known_41 : decode cc_M_known 41 = .ok (.istore_n 2, 1) := by decide +kernel
theorem dd_M_known_42 : decode cc_M_known 42 = .ok (.iload_n 2, 1) := by decide +kernel
theorem dd_M_known_43 : decode cc_M_known 43 = .ok (.aload_n 0, 1) := by decide +kernel
theorem dd_M_known_44 : decode cc_M_known 44 = .ok (.getfield 111, 3) := by decide +kernel
theorem dd_M_known_47 : decode cc_M_known 47 = .ok (.if_icmp .ge 28, 3) := by decide +kernel
theorem dd_M_known_50 : decode cc_M_known 50 = .ok (.iload_n 1, 1) := by decide +kernel
theorem dd_M_known_51 : decode cc_M_known 51 = .ok (.ifCond .eq 16, 3) := by decide +kernel
theorem dd_M_known_54 : decode cc_M_known 54 = .ok (.aload_n 0, 1) := by decide +kernel
theorem dd_M_known_55 : decode cc_M_known 55 = .ok (.getfield 59, 3) := by decide +kernel
theorem dd_M_known_58 : decode cc_M_known 58 = .ok (.iload_n 2, 1) := by decide +kernel
theorem dd_M_known_59 : decode cc_M_known 59 = .ok (.iaload, 1) := by decide +kernel
theorem dd_M_known_60 : decode cc_M_known 60 = .ok (.ifCond .eq 7, 3) := by decide +kernel
theorem dd_M_known_63 : decode cc_M_known 63 = .ok (.iconst 1, 1) := by decide +kernel
theorem dd_M_known_64 : decode cc_M_known 64 = .ok (.goto 4, 3) := by decide +kernel
theorem dd_M_known_67 : decode cc_M_known 67 = .ok (.iconst 0, 1) := by decide +kernel
theorem dd_M_known_68 : decode cc_M_known 68 = .ok (.istore_n 1, 1) := by decide +kernel
theorem dd_M_known_69 : decode cc_M_known 69 = .ok (.iinc 2 1, 3) := by decide +kernel
theorem dd_M_known_72 : decode cc_M_known 72 = .ok (.goto (-30), 3) := by decide +kernel
theorem dd_M_known_75 : decode cc_M_known 75 = .ok (.iload_n 1, 1) := by decide +kernel
theorem dd_M_known_76 : decode cc_M_known 76 = .ok (.ireturn, 1) := by decide +kernel
theorem dd_M_move_0 : decode cc_M_move 0 = .ok (.iconst 0, 1) := by decide +kernel
theorem dd_M_move_1 : decode cc_M_move 1 = .ok (.istore_n 1, 1) := by decide +kernel
theorem dd_M_move_2 : decode cc_M_move 2 = .ok (.iload_n 1, 1) := by decide +kernel
theorem dd_M_move_3 : decode cc_M_move 3 = .ok (.aload_n 0, 1) := by decide +kernel
theorem dd_M_move_4 : decode cc_M_move 4 = .ok (.getfield 121, 3) := by decide +kernel
theorem dd_M_move_7 : decode cc_M_move 7 = .ok (.if_icmp .ge 90, 3) := by decide +kernel
theorem dd_M_move_10 : decode cc_M_move 10 = .ok (.aload_n 0, 1) := by decide +kernel
theorem dd_M_move_11 : decode cc_M_move 11 = .ok (.iload_n 1, 1) := by decide +kernel
theorem dd_M_move_12 : decode cc_M_move 12 = .ok (.invokevirtual 152, 3) := by decide +kernel
theorem dd_M_move_15 : decode cc_M_move 15 = .ok (.iconst 1, 1) := by decide +kernel
theorem dd_M_move_16 : decode cc_M_move 16 = .ok (.if_icmp .ne 75, 3) := by decide +kernel
theorem dd_M_move_19 : decode cc_M_move 19 = .ok (.aload_n 0, 1) := by decide +kernel
theorem dd_M_move_20 : decode cc_M_move 20 = .ok (.getfield 52, 3) := by decide +kernel
theorem dd_M_move_23 : decode cc_M_move 23 = .ok (.aload_n 0, 1) := by decide +kernel
theorem dd_M_move_24 : decode cc_M_move 24 = .ok (.getfield 49, 3) := by decide +kernel
theorem dd_M_move_27 : decode cc_M_move 27 = .ok (.iload_n 1, 1) := by decide +kernel
theorem dd_M_move_28 : decode cc_M_move 28 = .ok (.iaload, 1) := by decide +kernel
theorem dd_M_move_29 : decode cc_M_move 29 = .ok (.baload, 1) := by decide +kernel
theorem dd_M_move_30 : decode cc_M_move 30 = .ok (.istore_n 2, 1) := by decide +kernel
theorem dd_M_move_31 : decode cc_M_move 31 = .ok (.aload_n 0, 1) := by decide +kernel
theorem dd_M_move_32 : decode cc_M_move 32 = .ok (.iload_n 1, 1) := by decide +kernel
theorem dd_M_move_33 : decode cc_M_move 33 = .ok (.iconst 0, 1) := by decide +kernel
theorem dd_M_move_34 : decode cc_M_move 34 = .ok (.invokevirtual 143, 3) := by decide +kernel
theorem dd_M_move_37 : decode cc_M_move 37 = .ok (.iconst 1, 1) := by decide +kernel
theorem dd_M_move_38 : decode cc_M_move 38 = .ok (.if_icmp .eq 17, 3) := by decide +kernel
theorem dd_M_move_41 : decode cc_M_move 41 = .ok (.aload_n 0, 1) := by decide +kernel
theorem dd_M_move_42 : decode cc_M_move 42 = .ok (.iload_n 1, 1) := by decide +kernel
theorem dd_M_move_43 : decode cc_M_move 43 = .ok (.iconst 2, 1) := by decide +kernel
theorem dd_M_move_44 : decode cc_M_move 44 = .ok (.invokevirtual 143, 3) := by decide +kernel
theorem dd_M_move_47 : decode cc_M_move 47 = .ok (.iconst 1, 1) := by decide +kernel
theorem dd_M_move_48 : decode cc_M_move 48 = .ok (.if_icmp .ne 11, 3) := by decide +kernel
theorem dd_M_move_51 : decode cc_M_move 51 = .ok (.iload_n 2, 1) := by decide +kernel
theorem dd_M_move_52 : decode cc_M_move 52 = .ok (.ifCond .eq 7, 3) := by decide +kernel
theorem dd_M_move_55 : decode cc_M_move 55 = .ok (.iconst 1, 1) := by decide +kernel
theorem dd_M_move_56 : decode cc_M_move 56 = .ok (.goto 4, 3) := by decide +kernel
theorem dd_M_move_59 : decode cc_M_move 59 = .ok (.iconst 0, 1) := by decide +kernel
theorem dd_M_move_60 : decode cc_M_move 60 = .ok (.istore_n 3, 1) := by decide +kernel
theorem dd_M_move_61 : decode cc_M_move 61 = .ok (.aload_n 0, 1) := by decide +kernel
theorem dd_M_move_62 : decode cc_M_move 62 = .ok (.getfield 52, 3) := by decide +kernel
theorem dd_M_move_65 : decode cc_M_move 65 = .ok (.aload_n 0, 1) := by decide +kernel
theorem dd_M_move_66 : decode cc_M_move 66 = .ok (.getfield 49, 3) := by decide +kernel
theorem dd_M_move_69 : decode cc_M_move 69 = .ok (.iload_n 1, 1) := by decide +kernel
theorem dd_M_move_70 : decode cc_M_move 70 = .ok (.iaload, 1) := by decide +kernel
theorem dd_M_move_71 : decode cc_M_move 71 = .ok (.iload_n 3, 1) := by decide +kernel
theorem dd_M_move_72 : decode cc_M_move 72 = .ok (.ifCond .eq 17, 3) := by decide +kernel
theorem dd_M_move_75 : decode cc_M_move 75 = .ok (.aload_n 0, 1) := by decide +kernel
theorem dd_M_move_76 : decode cc_M_move 76 = .ok (.iload_n 1, 1) := by decide +kernel
theorem dd_M_move_77 : decode cc_M_move 77 = .ok (.iconst 3, 1) := by decide +kernel
theorem dd_M_move_78 : decode cc_M_move 78 = .ok (.invokevirtual 143, 3) := by decide +kernel
theorem dd_M_move_81 : decode cc_M_move 81 = .ok (.iconst 2, 1) := by decide +kernel
theorem dd_M_move_82 : decode cc_M_move 82 = .ok (.if_icmp .ne 7, 3) := by decide +kernel
theorem dd_M_move_85 : decode cc_M_move 85 = .ok (.iconst 1, 1) := by decide +kernel
theorem dd_M_move_86 : decode cc_M_move 86 = .ok (.goto 4, 3) := by decide +kernel
theorem dd_M_move_89 : decode cc_M_move 89 = .ok (.iconst 0, 1) := by decide +kernel
theorem dd_M_move_90 : decode cc_M_move 90 = .ok (.bastore, 1) := by decide +kernel
theorem dd_M_move_91 : decode cc_M_move 91 = .ok (.iinc 1 1, 3) := by decide +kernel
theorem dd_M_move_94 : decode cc_M_move 94 = .ok (.goto (-92), 3) := by decide +kernel
theorem dd_M_move_97 : decode cc_M_move 97 = .ok (.aload_n 0, 1) := by decide +kernel
theorem dd_M_move_98 : decode cc_M_move 98 = .ok (.aload_n 0, 1) := by decide +kernel
theorem dd_M_move_99 : decode cc_M_move 99 = .ok (.iconst 0, 1) := by decide +kernel
theorem dd_M_move_100 : decode cc_M_move 100 = .ok (.iconst 5, 1) := by decide +kernel
theorem dd_M_move_101 : decode cc_M_move 101 = .ok (.invokevirtual 143, 3) := by decide +kernel
theorem dd_M_move_104 : decode cc_M_move 104 = .ok (.iconst 1, 1) := by decide +kernel
theorem dd_M_move_105 : decode cc_M_move 105 = .ok (.if_icmp .ne 7, 3) := by decide +kernel
theorem dd_M_move_108 : decode cc_M_move 108 = .ok (.iconst 1, 1) := by decide +kernel
theorem dd_M_move_109 : decode cc_M_move 109 = .ok (.goto 4, 3) := by decide +kernel
theorem dd_M_move_112 : decode cc_M_move 112 = .ok (.iconst 0, 1) := by decide +kernel
theorem dd_M_move_113 : decode cc_M_move 113 = .ok (.putfield 134, 3) := by decide +kernel
theorem dd_M_move_116 : decode cc_M_move 116 = .ok (.return_, 1) := by decide +kernel
theorem dd_M_react_0 : decode cc_M_react 0 = .ok (.aload_n 0, 1) := by decide +kernel
theorem dd_M_react_1 : decode cc_M_react 1 = .ok (.iconst 0, 1) := by decide +kernel
theorem dd_M_react_2 : decode cc_M_react 2 = .ok (.putfield 65, 3) := by decide +kernel
theorem dd_M_react_5 : decode cc_M_react 5 = .ok (.iload_n 1, 1) := by decide +kernel
theorem dd_M_react_6 : decode cc_M_react 6 = .ok (.iconst 0, 1) := by decide +kernel
theorem dd_M_react_7 : decode cc_M_react 7 = .ok (.bipush 7, 2) := by decide +kernel
theorem dd_M_react_9 : decode cc_M_react 9 = .ok (.invokestatic 69, 3) := by decide +kernel
theorem dd_M_react_12 : decode cc_M_react 12 = .ok (.ifCond .ne 9, 3) := by decide +kernel
theorem dd_M_react_15 : decode cc_M_react 15 = .ok (.aload_n 0, 1) := by decide +kernel
theorem dd_M_react_16 : decode cc_M_react 16 = .ok (.iconst 1, 1) := by decide +kernel
theorem dd_M_react_17 : decode cc_M_react 17 = .ok (.invokevirtual 84, 3) := by decide +kernel
theorem dd_M_react_20 : decode cc_M_react 20 = .ok (.ireturn, 1) := by decide +kernel
theorem dd_M_react_21 : decode cc_M_react 21 = .ok (.aload_n 0, 1) := by decide +kernel
theorem dd_M_react_22 : decode cc_M_react 22 = .ok (.getfield 124, 3) := by decide +kernel
theorem dd_M_react_25 : decode cc_M_react 25 = .ok (.ifCond .ne 9, 3) := by decide +kernel
theorem dd_M_react_28 : decode cc_M_react 28 = .ok (.aload_n 0, 1) := by decide +kernel
theorem dd_M_react_29 : decode cc_M_react 29 = .ok (.iconst 2, 1) := by decide +kernel
theorem dd_M_react_30 : decode cc_M_react 30 = .ok (.invokevirtual 84, 3) := by decide +kernel
theorem dd_M_react_33 : decode cc_M_react 33 = .ok (.ireturn, 1) := by decide +kernel
theorem dd_M_react_34 : decode cc_M_react 34 = .ok (.aload_n 0, 1) := by decide +kernel
theorem dd_M_react_35 : decode cc_M_react 35 = .ok (.getfield 134, 3) := by decide +kernel
theorem dd_M_react_38 : decode cc_M_react 38 = .ok (.ifCond .eq 15, 3) := by decide +kernel
theorem dd_M_react_41 : decode cc_M_react 41 = .ok (.aload_n 0, 1) := by decide +kernel
theorem dd_M_react_42 : decode cc_M_react 42 = .ok (.dup, 1) := by decide +kernel
theorem dd_M_react_43 : decode cc_M_react 43 = .ok (.getfield 137, 3) := by decide +kernel
theorem dd_M_react_46 : decode cc_M_react 46 = .ok (.iconst 1, 1) := by decide +kernel
theorem dd_M_react_47 : decode cc_M_react 47 = .ok (.iadd, 1) := by decide +kernel
theorem dd_M_react_48 : decode cc_M_react 48 = .ok (.putfield 137, 3) := by decide +kernel
theorem dd_M_react_51 : decode cc_M_react 51 = .ok (.iload_n 1, 1) := by decide +kernel
theorem dd_M_react_52 : decode cc_M_react 52 = .ok (.ireturn, 1) := by decide +kernel
theorem dd_M_react_53 : decode cc_M_react 53 = .ok (.aload_n 0, 1) := by decide +kernel
theorem dd_M_react_54 : decode cc_M_react 54 = .ok (.iload_n 1, 1) := by decide +kernel
theorem dd_M_react_55 : decode cc_M_react 55 = .ok (.invokevirtual 192, 3) := by decide +kernel
theorem dd_M_react_58 : decode cc_M_react 58 = .ok (.aload_n 0, 1) := by decide +kernel
theorem dd_M_react_59 : decode cc_M_react 59 = .ok (.invokevirtual 195, 3) := by decide +kernel
theorem dd_M_react_62 : decode cc_M_react 62 = .ok (.ifCond .ne 61, 3) := by decide +kernel
theorem dd_M_react_65 : decode cc_M_react 65 = .ok (.aload_n 0, 1) := by decide +kernel
theorem dd_M_react_66 : decode cc_M_react 66 = .ok (.dup, 1) := by decide +kernel
theorem dd_M_react_67 : decode cc_M_react 67 = .ok (.getfield 199, 3) := by decide +kernel
theorem dd_M_react_70 : decode cc_M_react 70 = .ok (.iconst 1, 1) := by decide +kernel
theorem dd_M_react_71 : decode cc_M_react 71 = .ok (.iadd, 1) := by decide +kernel
theorem dd_M_react_72 : decode cc_M_react 72 = .ok (.putfield 199, 3) := by decide +kernel
theorem dd_M_react_75 : decode cc_M_react 75 = .ok (.aload_n 0, 1) := by decide +kernel
theorem dd_M_react_76 : decode cc_M_react 76 = .ok (.iconst 0, 1) := by decide +kernel
theorem dd_M_react_77 : decode cc_M_react 77 = .ok (.putfield 128, 3) := by decide +kernel
theorem dd_M_react_80 : decode cc_M_react 80 = .ok (.iconst 0, 1) := by decide +kernel
theorem dd_M_react_81 : decode cc_M_react 81 = .ok (.istore_n 2, 1) := by decide +kernel
theorem dd_M_react_82 : decode cc_M_react 82 = .ok (.iload_n 2, 1) := by decide +kernel
theorem dd_M_react_83 : decode cc_M_react 83 = .ok (.bipush 8, 2) := by decide +kernel
theorem dd_M_react_85 : decode cc_M_react 85 = .ok (.if_icmp .ge 32, 3) := by decide +kernel
theorem dd_M_react_88 : decode cc_M_react 88 = .ok (.aload_n 0, 1) := by decide +kernel
theorem dd_M_react_89 : decode cc_M_react 89 = .ok (.dup, 1) := by decide +kernel
theorem dd_M_react_90 : decode cc_M_react 90 = .ok (.getfield 128, 3) := by decide +kernel
theorem dd_M_react_93 : decode cc_M_react 93 = .ok (.aload_n 0, 1) := by decide +kernel
theorem dd_M_react_94 : decode cc_M_react 94 = .ok (.getfield 59, 3) := by decide +kernel
theorem dd_M_react_97 : decode cc_M_react 97 = .ok (.iload_n 2, 1) := by decide +kernel
theorem dd_M_react_98 : decode cc_M_react 98 = .ok (.iaload, 1) := by decide +kernel
theorem dd_M_react_99 : decode cc_M_react 99 = .ok (.ifCond .ne 7, 3) := by decide +kernel
theorem dd_M_react_102 : decode cc_M_react 102 = .ok (.iconst 1, 1) := by decide +kernel
theorem dd_M_react_103 : decode cc_M_react 103 = .ok (.goto 4, 3) := by decide +kernel
theorem dd_M_react_106 : decode cc_M_react 106 = .ok (.iconst 0, 1) := by decide +kernel
theorem dd_M_react_107 : decode cc_M_react 107 = .ok (.iadd, 1) := by decide +kernel
theorem dd_M_react_108 : decode cc_M_react 108 = .ok (.putfield 128, 3) := by decide +kernel
theorem dd_M_react_111 : decode cc_M_react 111 = .ok (.iinc 2 1, 3) := by decide +kernel
theorem dd_M_react_114 : decode cc_M_react 114 = .ok (.goto (-32), 3) := by decide +kernel
theorem dd_M_react_117 : decode cc_M_react 117 = .ok (.aload_n 0, 1) := by decide +kernel
theorem dd_M_react_118 : decode cc_M_react 118 = .ok (.iconst 2, 1) := by decide +kernel
theorem dd_M_react_119 : decode cc_M_react 119 = .ok (.invokevirtual 84, 3) := by decide +kernel
theorem dd_M_react_122 : decode cc_M_react 122 = .ok (.ireturn, 1) := by decide +kernel
theorem dd_M_react_123 : decode cc_M_react 123 = .ok (.aload_n 0, 1) := by decide +kernel
theorem dd_M_react_124 : decode cc_M_react 124 = .ok (.invokevirtual 202, 3) := by decide +kernel
theorem dd_M_react_127 : decode cc_M_react 127 = .ok (.aload_n 0, 1) := by decide +kernel
theorem dd_M_react_128 : decode cc_M_react 128 = .ok (.dup, 1) := by decide +kernel
theorem dd_M_react_129 : decode cc_M_react 129 = .ok (.getfield 137, 3) := by decide +kernel
theorem dd_M_react_132 : decode cc_M_react 132 = .ok (.iconst 1, 1) := by decide +kernel
theorem dd_M_react_133 : decode cc_M_react 133 = .ok (.iadd, 1) := by decide +kernel
theorem dd_M_react_134 : decode cc_M_react 134 = .ok (.putfield 137, 3) := by decide +kernel
theorem dd_M_react_137 : decode cc_M_react 137 = .ok (.iconst 0, 1) := by decide +kernel
theorem dd_M_react_138 : decode cc_M_react 138 = .ok (.istore_n 2, 1) := by decide +kernel
theorem dd_M_react_139 : decode cc_M_react 139 = .ok (.iconst 0, 1) := by decide +kernel
theorem dd_M_react_140 : decode cc_M_react 140 = .ok (.istore_n 3, 1) := by decide +kernel
theorem dd_M_react_141 : decode cc_M_react 141 = .ok (.iload_n 3, 1) := by decide +kernel
theorem dd_M_react_142 : decode cc_M_react 142 = .ok (.bipush 8, 2) := by decide +kernel
theorem dd_M_react_144 : decode cc_M_react 144 = .ok (.if_icmp .ge 29, 3) := by decide +kernel
theorem dd_M_react_147 : decode cc_M_react 147 = .ok (.iload_n 2, 1) := by decide +kernel
theorem dd_M_react_148 : decode cc_M_react 148 = .ok (.aload_n 0, 1) := by decide +kernel
theorem dd_M_react_149 : decode cc_M_react 149 = .ok (.getfield 59, 3) := by decide +kernel
theorem dd_M_react_152 : decode cc_M_react 152 = .ok (.iload_n 3, 1) := by decide +kernel
theorem dd_M_react_153 : decode cc_M_react 153 = .ok (.iaload, 1) := by decide +kernel
theorem dd_M_react_154 : decode cc_M_react 154 = .ok (.iconst 1, 1) := by decide +kernel
theorem dd_M_react_155 : decode cc_M_react 155 = .ok (.if_icmp .ne 9, 3) := by decide +kernel
theorem dd_M_react_158 : decode cc_M_react 158 = .ok (.iconst 1, 1) := by decide +kernel
theorem dd_M_react_159 : decode cc_M_react 159 = .ok (.iload_n 3, 1) := by decide +kernel
theorem dd_M_react_160 : decode cc_M_react 160 = .ok (.ishl, 1) := by decide +kernel
theorem dd_M_react_161 : decode cc_M_react 161 = .ok (.goto 4, 3) := by decide +kernel
theorem dd_M_react_164 : decode cc_M_react 164 = .ok (.iconst 0, 1) := by decide +kernel
theorem dd_M_react_165 : decode cc_M_react 165 = .ok (.ior, 1) := by decide +kernel
theorem dd_M_react_166 : decode cc_M_react 166 = .ok (.istore_n 2, 1) := by decide +kernel
theorem dd_M_react_167 : decode cc_M_react 167 = .ok (.iinc 3 1, 3) := by decide +kernel
theorem dd_M_react_170 : decode cc_M_react 170 = .ok (.goto (-29), 3) := by decide +kernel
theorem dd_M_react_173 : decode cc_M_react 173 = .ok (.iload_n 2, 1) := by decide +kernel
theorem dd_M_react_174 : decode cc_M_react 174 = .ok (.ireturn, 1) := by decide +kernel
theorem dd_M_unknown_0 : decode cc_M_unknown 0 = .ok (.aload_n 0, 1) := by decide +kernel
theorem dd_M_unknown_1 : decode cc_M_unknown 1 = .ok (.iconst 0, 1) := by decide +kernel
theorem dd_M_unknown_2 : decode cc_M_unknown 2 = .ok (.putfield 65, 3) := by decide +kernel
theorem dd_M_unknown_5 : decode cc_M_unknown 5 = .ok (.aload_n 0, 1) := by decide +kernel
theorem dd_M_unknown_6 : decode cc_M_unknown 6 = .ok (.getfield 128, 3) := by decide +kernel
theorem dd_M_unknown_9 : decode cc_M_unknown 9 = .ok (.ireturn, 1) := by decide +kernel
theorem dd_M_reset_0 : decode cc_M_reset 0 = .ok (.aload_n 0, 1) := by decide +kernel
theorem dd_M_reset_1 : decode cc_M_reset 1 = .ok (.iconst 0, 1) := by decide +kernel
theorem dd_M_reset_2 : decode cc_M_reset 2 = .ok (.putfield 65, 3) := by decide +kernel
theorem dd_M_reset_5 : decode cc_M_reset 5 = .ok (.aload_n 0, 1) := by decide +kernel
theorem dd_M_reset_6 : decode cc_M_reset 6 = .ok (.getfield 124, 3) := by decide +kernel
theorem dd_M_reset_9 : decode cc_M_reset 9 = .ok (.ifCond .ne 9, 3) := by decide +kernel
theorem dd_M_reset_12 : decode cc_M_reset 12 = .ok (.aload_n 0, 1) := by decide +kernel
theorem dd_M_reset_13 : decode cc_M_reset 13 = .ok (.iconst 1, 1) := by decide +kernel
theorem dd_M_reset_14 : decode cc_M_reset 14 = .ok (.invokevirtual 84, 3) := by decide +kernel
theorem dd_M_reset_17 : decode cc_M_reset 17 = .ok (.ireturn, 1) := by decide +kernel
theorem dd_M_reset_18 : decode cc_M_reset 18 = .ok (.aload_n 0, 1) := by decide +kernel
theorem dd_M_reset_19 : decode cc_M_reset 19 = .ok (.getfield 137, 3) := by decide +kernel
theorem dd_M_reset_22 : decode cc_M_reset 22 = .ok (.istore_n 1, 1) := by decide +kernel
theorem dd_M_reset_23 : decode cc_M_reset 23 = .ok (.aload_n 0, 1) := by decide +kernel
theorem dd_M_reset_24 : decode cc_M_reset 24 = .ok (.invokevirtual 131, 3) := by decide +kernel
theorem dd_M_reset_27 : decode cc_M_reset 27 = .ok (.iload_n 1, 1) := by decide +kernel
theorem dd_M_reset_28 : decode cc_M_reset 28 = .ok (.ireturn, 1) := by decide +kernel
theorem dd_M_register_0 : decode cc_M_register 0 = .ok (.aload_n 0, 1) := by decide +kernel
theorem dd_M_register_1 : decode cc_M_register 1 = .ok (.iconst 0, 1) := by decide +kernel
theorem dd_M_register_2 : decode cc_M_register 2 = .ok (.putfield 65, 3) := by decide +kernel
theorem dd_M_register_5 : decode cc_M_register 5 = .ok (.aload_n 0, 1) := by decide +kernel
theorem dd_M_register_6 : decode cc_M_register 6 = .ok (.getfield 124, 3) := by decide +kernel
theorem dd_M_register_9 : decode cc_M_register 9 = .ok (.ifCond .eq 17, 3) := by decide +kernel
theorem dd_M_register_12 : decode cc_M_register 12 = .ok (.iload_n 1, 1) := by decide +kernel
theorem dd_M_register_13 : decode cc_M_register 13 = .ok (.iconst 0, 1) := by decide +kernel
theorem dd_M_register_14 : decode cc_M_register 14 = .ok (.aload_n 0, 1) := by decide +kernel
theorem dd_M_register_15 : decode cc_M_register 15 = .ok (.getfield 114, 3) := by decide +kernel
theorem dd_M_register_18 : decode cc_M_register 18 = .ok (.iconst 1, 1) := by decide +kernel
theorem dd_M_register_19 : decode cc_M_register 19 = .ok (.isub, 1) := by decide +kernel
theorem dd_M_register_20 : decode cc_M_register 20 = .ok (.invokestatic 69, 3) := by decide +kernel
theorem dd_M_register_23 : decode cc_M_register 23 = .ok (.ifCond .ne 17, 3) := by decide +kernel
theorem dd_M_register_26 : decode cc_M_register 26 = .ok (.aload_n 0, 1) := by decide +kernel
theorem dd_M_register_27 : decode cc_M_register 27 = .ok (.iconst 1, 1) := by decide +kernel
theorem dd_M_register_28 : decode cc_M_register 28 = .ok (.invokevirtual 84, 3) := by decide +kernel
theorem dd_M_register_31 : decode cc_M_register 31 = .ok (.ifCond .le 7, 3) := by decide +kernel
theorem dd_M_register_34 : decode cc_M_register 34 = .ok (.iconst 1, 1) := by decide +kernel
theorem dd_M_register_35 : decode cc_M_register 35 = .ok (.goto 4, 3) := by decide +kernel
theorem dd_M_register_38 : decode cc_M_register 38 = .ok (.iconst 0, 1) := by decide +kernel
theorem dd_M_register_39 : decode cc_M_register 39 = .ok (.ireturn, 1) := by decide +kernel
theorem dd_M_register_40 : decode cc_M_register 40 = .ok (.aload_n 0, 1) := by decide +kernel
theorem dd_M_register_41 : decode cc_M_register 41 = .ok (.getfield 52, 3) := by decide +kernel
theorem dd_M_register_44 : decode cc_M_register 44 = .ok (.iload_n 1, 1) := by decide +kernel
theorem dd_M_register_45 : decode cc_M_register 45 = .ok (.baload, 1) := by decide +kernel
theorem dd_M_register_46 : decode cc_M_register 46 = .ok (.ireturn, 1) := by decide +kernel
theorem dd_M_over_0 : decode cc_M_over 0 = .ok (.aload_n 0, 1) := by decide +kernel
theorem dd_M_over_1 : decode cc_M_over 1 = .ok (.iconst 0, 1) := by decide +kernel
theorem dd_M_over_2 : decode cc_M_over 2 = .ok (.putfield 65, 3) := by decide +kernel
theorem dd_M_over_5 : decode cc_M_over 5 = .ok (.aload_n 0, 1) := by decide +kernel
theorem dd_M_over_6 : decode cc_M_over 6 = .ok (.getfield 124, 3) := by decide +kernel
theorem dd_M_over_9 : decode cc_M_over 9 = .ok (.ifCond .eq 14, 3) := by decide +kernel
theorem dd_M_over_12 : decode cc_M_over 12 = .ok (.aload_n 0, 1) := by decide +kernel
theorem dd_M_over_13 : decode cc_M_over 13 = .ok (.getfield 134, 3) := by decide +kernel
theorem dd_M_over_16 : decode cc_M_over 16 = .ok (.ifCond .eq 7, 3) := by decide +kernel
theorem dd_M_over_19 : decode cc_M_over 19 = .ok (.iconst 1, 1) := by decide +kernel
theorem dd_M_over_20 : decode cc_M_over 20 = .ok (.goto 4, 3) := by decide +kernel
theorem dd_M_over_23 : decode cc_M_over 23 = .ok (.iconst 0, 1) := by decide +kernel
theorem dd_M_over_24 : decode cc_M_over 24 = .ok (.ireturn, 1) := by decide +kernel
theorem dd_M_count_0 : decode cc_M_count 0 = .ok (.aload_n 0, 1) := by decide +kernel
theorem dd_M_count_1 : decode cc_M_count 1 = .ok (.iconst 0, 1) := by decide +kernel
theorem dd_M_count_2 : decode cc_M_count 2 = .ok (.putfield 65, 3) := by decide +kernel
theorem dd_M_count_5 : decode cc_M_count 5 = .ok (.iload_n 1, 1) := by decide +kernel
theorem dd_M_count_6 : decode cc_M_count 6 = .ok (.iconst 0, 1) := by decide +kernel
theorem dd_M_count_7 : decode cc_M_count 7 = .ok (.iconst 3, 1) := by decide +kernel
theorem dd_M_count_8 : decode cc_M_count 8 = .ok (.invokestatic 69, 3) := by decide +kernel
theorem dd_M_count_11 : decode cc_M_count 11 = .ok (.ifCond .ne 9, 3) := by decide +kernel
theorem dd_M_count_14 : decode cc_M_count 14 = .ok (.aload_n 0, 1) := by decide +kernel
theorem dd_M_count_15 : decode cc_M_count 15 = .ok (.iconst 1, 1) := by decide +kernel
theorem dd_M_count_16 : decode cc_M_count 16 = .ok (.invokevirtual 84, 3) := by decide +kernel
theorem dd_M_count_19 : decode cc_M_count 19 = .ok (.ireturn, 1) := by decide +kernel
theorem dd_M_count_20 : decode cc_M_count 20 = .ok (.iload_n 1, 1) := by decide +kernel
theorem dd_M_count_21 : decode cc_M_count 21 = .ok (.ifCond .ne 10, 3) := by decide +kernel
theorem dd_M_count_24 : decode cc_M_count 24 = .ok (.aload_n 0, 1) := by decide +kernel
theorem dd_M_count_25 : decode cc_M_count 25 = .ok (.getfield 81, 3) := by decide +kernel
theorem dd_M_count_28 : decode cc_M_count 28 = .ok (.goto 31, 3) := by decide +kernel
theorem dd_M_count_31 : decode cc_M_count 31 = .ok (.iload_n 1, 1) := by decide +kernel
theorem dd_M_count_32 : decode cc_M_count 32 = .ok (.iconst 1, 1) := by decide +kernel
theorem dd_M_count_33 : decode cc_M_count 33 = .ok (.if_icmp .ne 10, 3) := by decide +kernel
theorem dd_M_count_36 : decode cc_M_count 36 = .ok (.aload_n 0, 1) := by decide +kernel
theorem dd_M_count_37 : decode cc_M_count 37 = .ok (.getfield 121, 3) := by decide +kernel
theorem dd_M_count_40 : decode cc_M_count 40 = .ok (.goto 19, 3) := by decide +kernel
theorem dd_M_count_43 : decode cc_M_count 43 = .ok (.iload_n 1, 1) := by decide +kernel
theorem dd_M_count_44 : decode cc_M_count 44 = .ok (.iconst 2, 1) := by decide +kernel
theorem dd_M_count_45 : decode cc_M_count 45 = .ok (.if_icmp .ne 10, 3) := by decide +kernel
theorem dd_M_count_48 : decode cc_M_count 48 = .ok (.aload_n 0, 1) := by decide +kernel
theorem dd_M_count_49 : decode cc_M_count 49 = .ok (.getfield 137, 3) := by decide +kernel
theorem dd_M_count_52 : decode cc_M_count 52 = .ok (.goto 7, 3) := by decide +kernel
theorem dd_M_count_55 : decode cc_M_count 55 = .ok (.aload_n 0, 1) := by decide +kernel
theorem dd_M_count_56 : decode cc_M_count 56 = .ok (.getfield 199, 3) := by decide +kernel
theorem dd_M_count_59 : decode cc_M_count 59 = .ok (.ireturn, 1) := by decide +kernel
