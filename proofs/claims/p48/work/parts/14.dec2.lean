theorem dL_act_375 : decode cL_act 375 = .ok (.astore 5, 2) := by decide +kernel
theorem dL_act_377 : decode cL_act 377 = .ok (.return_, 1) := by decide +kernel
theorem dL_act_378 : decode cL_act 378 = .ok (.return_, 1) := by decide +kernel
theorem dL_isBarSound_0 : decode cL_isBarSound 0 = .ok (.aload_n 0, 1) := by decide +kernel
theorem dL_isBarSound_1 : decode cL_isBarSound 1 = .ok (.iload_n 1, 1) := by decide +kernel
theorem dL_isBarSound_2 : decode cL_isBarSound 2 = .ok (.iload_n 2, 1) := by decide +kernel
theorem dL_isBarSound_3 : decode cL_isBarSound 3 = .ok (.invokevirtual 81, 3) := by decide +kernel
theorem dL_isBarSound_6 : decode cL_isBarSound 6 = .ok (.istore_n 3, 1) := by decide +kernel
theorem dL_isBarSound_7 : decode cL_isBarSound 7 = .ok (.aload_n 0, 1) := by decide +kernel
theorem dL_isBarSound_8 : decode cL_isBarSound 8 = .ok (.iload_n 1, 1) := by decide +kernel
theorem dL_isBarSound_9 : decode cL_isBarSound 9 = .ok (.iload_n 2, 1) := by decide +kernel
theorem dL_isBarSound_10 : decode cL_isBarSound 10 = .ok (.invokevirtual 84, 3) := by decide +kernel
theorem dL_isBarSound_13 : decode cL_isBarSound 13 = .ok (.istore 4, 2) := by decide +kernel
theorem dL_isBarSound_15 : decode cL_isBarSound 15 = .ok (.iconst (-1), 1) := by decide +kernel
theorem dL_isBarSound_16 : decode cL_isBarSound 16 = .ok (.istore 5, 2) := by decide +kernel
theorem dL_isBarSound_18 : decode cL_isBarSound 18 = .ok (.iconst 0, 1) := by decide +kernel
theorem dL_isBarSound_19 : decode cL_isBarSound 19 = .ok (.istore 6, 2) := by decide +kernel
theorem dL_isBarSound_21 : decode cL_isBarSound 21 = .ok (.iload 6, 2) := by decide +kernel
theorem dL_isBarSound_23 : decode cL_isBarSound 23 = .ok (.iload_n 3, 1) := by decide +kernel
theorem dL_isBarSound_24 : decode cL_isBarSound 24 = .ok (.if_icmp .ge 319, 3) := by decide +kernel
theorem dL_isBarSound_27 : decode cL_isBarSound 27 = .ok (.aload_n 0, 1) := by decide +kernel
theorem dL_isBarSound_28 : decode cL_isBarSound 28 = .ok (.iload_n 1, 1) := by decide +kernel
theorem dL_isBarSound_29 : decode cL_isBarSound 29 = .ok (.iload_n 2, 1) := by decide +kernel
theorem dL_isBarSound_30 : decode cL_isBarSound 30 = .ok (.iload 6, 2) := by decide +kernel
theorem dL_isBarSound_32 : decode cL_isBarSound 32 = .ok (.invokevirtual 87, 3) := by decide +kernel
theorem dL_isBarSound_35 : decode cL_isBarSound 35 = .ok (.istore 7, 2) := by decide +kernel
theorem dL_isBarSound_37 : decode cL_isBarSound 37 = .ok (.aload_n 0, 1) := by decide +kernel
theorem dL_isBarSound_38 : decode cL_isBarSound 38 = .ok (.iload_n 1, 1) := by decide +kernel
theorem dL_isBarSound_39 : decode cL_isBarSound 39 = .ok (.iload_n 2, 1) := by decide +kernel
theorem dL_isBarSound_40 : decode cL_isBarSound 40 = .ok (.iload 6, 2) := by decide +kernel
theorem dL_isBarSound_42 : decode cL_isBarSound 42 = .ok (.invokevirtual 90, 3) := by decide +kernel
theorem dL_isBarSound_45 : decode cL_isBarSound 45 = .ok (.istore 8, 2) := by decide +kernel
theorem dL_isBarSound_47 : decode cL_isBarSound 47 = .ok (.aload_n 0, 1) := by decide +kernel
theorem dL_isBarSound_48 : decode cL_isBarSound 48 = .ok (.iload_n 1, 1) := by decide +kernel
theorem dL_isBarSound_49 : decode cL_isBarSound 49 = .ok (.iload 7, 2) := by decide +kernel
theorem dL_isBarSound_51 : decode cL_isBarSound 51 = .ok (.invokevirtual 93, 3) := by decide +kernel
theorem dL_isBarSound_54 : decode cL_isBarSound 54 = .ok (.ifCond .lt 7, 3) := by decide +kernel
theorem dL_isBarSound_57 : decode cL_isBarSound 57 = .ok (.iconst 1, 1) := by decide +kernel
theorem dL_isBarSound_58 : decode cL_isBarSound 58 = .ok (.goto 4, 3) := by decide +kernel
theorem dL_isBarSound_61 : decode cL_isBarSound 61 = .ok (.iconst 0, 1) := by decide +kernel
theorem dL_isBarSound_62 : decode cL_isBarSound 62 = .ok (.istore 9, 2) := by decide +kernel
theorem dL_isBarSound_64 : decode cL_isBarSound 64 = .ok (.aload_n 0, 1) := by decide +kernel
theorem dL_isBarSound_65 : decode cL_isBarSound 65 = .ok (.iload_n 1, 1) := by decide +kernel
theorem dL_isBarSound_66 : decode cL_isBarSound 66 = .ok (.iload_n 2, 1) := by decide +kernel
theorem dL_isBarSound_67 : decode cL_isBarSound 67 = .ok (.iload 6, 2) := by decide +kernel
theorem dL_isBarSound_69 : decode cL_isBarSound 69 = .ok (.invokevirtual 96, 3) := by decide +kernel
theorem dL_isBarSound_72 : decode cL_isBarSound 72 = .ok (.istore 10, 2) := by decide +kernel
theorem dL_isBarSound_74 : decode cL_isBarSound 74 = .ok (.iload 4, 2) := by decide +kernel
theorem dL_isBarSound_76 : decode cL_isBarSound 76 = .ok (.iload 8, 2) := by decide +kernel
theorem dL_isBarSound_78 : decode cL_isBarSound 78 = .ok (.iadd, 1) := by decide +kernel
theorem dL_isBarSound_79 : decode cL_isBarSound 79 = .ok (.istore 4, 2) := by decide +kernel
theorem dL_isBarSound_81 : decode cL_isBarSound 81 = .ok (.iload 6, 2) := by decide +kernel
theorem dL_isBarSound_83 : decode cL_isBarSound 83 = .ok (.iconst 1, 1) := by decide +kernel
theorem dL_isBarSound_84 : decode cL_isBarSound 84 = .ok (.iadd, 1) := by decide +kernel
theorem dL_isBarSound_85 : decode cL_isBarSound 85 = .ok (.iload_n 3, 1) := by decide +kernel
theorem dL_isBarSound_86 : decode cL_isBarSound 86 = .ok (.if_icmp .ge 26, 3) := by decide +kernel
theorem dL_isBarSound_89 : decode cL_isBarSound 89 = .ok (.aload_n 0, 1) := by decide +kernel
theorem dL_isBarSound_90 : decode cL_isBarSound 90 = .ok (.iload_n 1, 1) := by decide +kernel
theorem dL_isBarSound_91 : decode cL_isBarSound 91 = .ok (.iload_n 2, 1) := by decide +kernel
theorem dL_isBarSound_92 : decode cL_isBarSound 92 = .ok (.iload 6, 2) := by decide +kernel
theorem dL_isBarSound_94 : decode cL_isBarSound 94 = .ok (.iconst 1, 1) := by decide +kernel
theorem dL_isBarSound_95 : decode cL_isBarSound 95 = .ok (.iadd, 1) := by decide +kernel
theorem dL_isBarSound_96 : decode cL_isBarSound 96 = .ok (.invokevirtual 87, 3) := by decide +kernel
theorem dL_isBarSound_99 : decode cL_isBarSound 99 = .ok (.iload 7, 2) := by decide +kernel
theorem dL_isBarSound_101 : decode cL_isBarSound 101 = .ok (.if_icmp .ne 7, 3) := by decide +kernel
theorem dL_isBarSound_104 : decode cL_isBarSound 104 = .ok (.iconst 1, 1) := by decide +kernel
theorem dL_isBarSound_105 : decode cL_isBarSound 105 = .ok (.goto 43, 3) := by decide +kernel
theorem dL_isBarSound_108 : decode cL_isBarSound 108 = .ok (.iconst 0, 1) := by decide +kernel
theorem dL_isBarSound_109 : decode cL_isBarSound 109 = .ok (.goto 39, 3) := by decide +kernel
theorem dL_isBarSound_112 : decode cL_isBarSound 112 = .ok (.iload_n 2, 1) := by decide +kernel
theorem dL_isBarSound_113 : decode cL_isBarSound 113 = .ok (.bipush 23, 2) := by decide +kernel
theorem dL_isBarSound_115 : decode cL_isBarSound 115 = .ok (.if_icmp .ge 32, 3) := by decide +kernel
theorem dL_isBarSound_118 : decode cL_isBarSound 118 = .ok (.aload_n 0, 1) := by decide +kernel
theorem dL_isBarSound_119 : decode cL_isBarSound 119 = .ok (.iload_n 1, 1) := by decide +kernel
theorem dL_isBarSound_120 : decode cL_isBarSound 120 = .ok (.iload_n 2, 1) := by decide +kernel
theorem dL_isBarSound_121 : decode cL_isBarSound 121 = .ok (.iconst 1, 1) := by decide +kernel
theorem dL_isBarSound_122 : decode cL_isBarSound 122 = .ok (.iadd, 1) := by decide +kernel
theorem dL_isBarSound_123 : decode cL_isBarSound 123 = .ok (.invokevirtual 81, 3) := by decide +kernel
theorem dL_isBarSound_126 : decode cL_isBarSound 126 = .ok (.ifCond .le 21, 3) := by decide +kernel
theorem dL_isBarSound_129 : decode cL_isBarSound 129 = .ok (.aload_n 0, 1) := by decide +kernel
theorem dL_isBarSound_130 : decode cL_isBarSound 130 = .ok (.iload_n 1, 1) := by decide +kernel
theorem dL_isBarSound_131 : decode cL_isBarSound 131 = .ok (.iload_n 2, 1) := by decide +kernel
theorem dL_isBarSound_132 : decode cL_isBarSound 132 = .ok (.iconst 1, 1) := by decide +kernel
theorem dL_isBarSound_133 : decode cL_isBarSound 133 = .ok (.iadd, 1) := by decide +kernel
theorem dL_isBarSound_134 : decode cL_isBarSound 134 = .ok (.iconst 0, 1) := by decide +kernel
theorem dL_isBarSound_135 : decode cL_isBarSound 135 = .ok (.invokevirtual 87, 3) := by decide +kernel
theorem dL_isBarSound_138 : decode cL_isBarSound 138 = .ok (.iload 7, 2) := by decide +kernel
theorem dL_isBarSound_140 : decode cL_isBarSound 140 = .ok (.if_icmp .ne 7, 3) := by decide +kernel
theorem dL_isBarSound_143 : decode cL_isBarSound 143 = .ok (.iconst 1, 1) := by decide +kernel
theorem dL_isBarSound_144 : decode cL_isBarSound 144 = .ok (.goto 4, 3) := by decide +kernel
theorem dL_isBarSound_147 : decode cL_isBarSound 147 = .ok (.iconst 0, 1) := by decide +kernel
theorem dL_isBarSound_148 : decode cL_isBarSound 148 = .ok (.istore 11, 2) := by decide +kernel
theorem dL_isBarSound_150 : decode cL_isBarSound 150 = .ok (.aload_n 0, 1) := by decide +kernel
theorem dL_isBarSound_151 : decode cL_isBarSound 151 = .ok (.iload_n 1, 1) := by decide +kernel
theorem dL_isBarSound_152 : decode cL_isBarSound 152 = .ok (.iload_n 2, 1) := by decide +kernel
theorem dL_isBarSound_153 : decode cL_isBarSound 153 = .ok (.iload 6, 2) := by decide +kernel
theorem dL_isBarSound_155 : decode cL_isBarSound 155 = .ok (.invokevirtual 99, 3) := by decide +kernel
theorem dL_isBarSound_158 : decode cL_isBarSound 158 = .ok (.iload 9, 2) := by decide +kernel
theorem dL_isBarSound_160 : decode cL_isBarSound 160 = .ok (.ifCond .eq 12, 3) := by decide +kernel
theorem dL_isBarSound_163 : decode cL_isBarSound 163 = .ok (.iload 11, 2) := by decide +kernel
theorem dL_isBarSound_165 : decode cL_isBarSound 165 = .ok (.ifCond .eq 7, 3) := by decide +kernel
theorem dL_isBarSound_168 : decode cL_isBarSound 168 = .ok (.iconst 1, 1) := by decide +kernel
theorem dL_isBarSound_169 : decode cL_isBarSound 169 = .ok (.goto 4, 3) := by decide +kernel
theorem dL_isBarSound_172 : decode cL_isBarSound 172 = .ok (.iconst 0, 1) := by decide +kernel
theorem dL_isBarSound_173 : decode cL_isBarSound 173 = .ok (.if_icmp .ne 41, 3) := by decide +kernel
theorem dL_isBarSound_176 : decode cL_isBarSound 176 = .ok (.iload 10, 2) := by decide +kernel
theorem dL_isBarSound_178 : decode cL_isBarSound 178 = .ok (.ifCond .lt 15, 3) := by decide +kernel
theorem dL_isBarSound_181 : decode cL_isBarSound 181 = .ok (.iload 9, 2) := by decide +kernel
theorem dL_isBarSound_183 : decode cL_isBarSound 183 = .ok (.ifCond .eq 31, 3) := by decide +kernel
theorem dL_isBarSound_186 : decode cL_isBarSound 186 = .ok (.iload 8, 2) := by decide +kernel
theorem dL_isBarSound_188 : decode cL_isBarSound 188 = .ok (.bipush 12, 2) := by decide +kernel
theorem dL_isBarSound_190 : decode cL_isBarSound 190 = .ok (.if_icmp .gt 24, 3) := by decide +kernel
theorem dL_isBarSound_193 : decode cL_isBarSound 193 = .ok (.iload 10, 2) := by decide +kernel
theorem dL_isBarSound_195 : decode cL_isBarSound 195 = .ok (.iload 5, 2) := by decide +kernel
theorem dL_isBarSound_197 : decode cL_isBarSound 197 = .ok (.iconst 1, 1) := by decide +kernel
theorem dL_isBarSound_198 : decode cL_isBarSound 198 = .ok (.iadd, 1) := by decide +kernel
theorem dL_isBarSound_199 : decode cL_isBarSound 199 = .ok (.if_icmp .gt 15, 3) := by decide +kernel
theorem dL_isBarSound_202 : decode cL_isBarSound 202 = .ok (.iload 10, 2) := by decide +kernel
theorem dL_isBarSound_204 : decode cL_isBarSound 204 = .ok (.ifCond .lt 12, 3) := by decide +kernel
theorem dL_isBarSound_207 : decode cL_isBarSound 207 = .ok (.iload 10, 2) := by decide +kernel
theorem dL_isBarSound_209 : decode cL_isBarSound 209 = .ok (.iload 5, 2) := by decide +kernel
theorem dL_isBarSound_211 : decode cL_isBarSound 211 = .ok (.if_icmp .ge 5, 3) := by decide +kernel
theorem dL_isBarSound_214 : decode cL_isBarSound 214 = .ok (.iconst 0, 1) := by decide +kernel
theorem dL_isBarSound_215 : decode cL_isBarSound 215 = .ok (.ireturn, 1) := by decide +kernel
theorem dL_isBarSound_216 : decode cL_isBarSound 216 = .ok (.iload 5, 2) := by decide +kernel
theorem dL_isBarSound_218 : decode cL_isBarSound 218 = .ok (.iload 10, 2) := by decide +kernel
theorem dL_isBarSound_220 : decode cL_isBarSound 220 = .ok (.invokestatic 65, 3) := by decide +kernel
theorem dL_isBarSound_223 : decode cL_isBarSound 223 = .ok (.istore 5, 2) := by decide +kernel
theorem dL_isBarSound_225 : decode cL_isBarSound 225 = .ok (.aload_n 0, 1) := by decide +kernel
theorem dL_isBarSound_226 : decode cL_isBarSound 226 = .ok (.iload_n 1, 1) := by decide +kernel
theorem dL_isBarSound_227 : decode cL_isBarSound 227 = .ok (.iload_n 2, 1) := by decide +kernel
theorem dL_isBarSound_228 : decode cL_isBarSound 228 = .ok (.iload 6, 2) := by decide +kernel
theorem dL_isBarSound_230 : decode cL_isBarSound 230 = .ok (.invokevirtual 103, 3) := by decide +kernel
theorem dL_isBarSound_233 : decode cL_isBarSound 233 = .ok (.istore 12, 2) := by decide +kernel
theorem dL_isBarSound_235 : decode cL_isBarSound 235 = .ok (.iload 12, 2) := by decide +kernel
theorem dL_isBarSound_237 : decode cL_isBarSound 237 = .ok (.bipush (-3), 2) := by decide +kernel
theorem dL_isBarSound_239 : decode cL_isBarSound 239 = .ok (.if_icmp .lt 54, 3) := by decide +kernel
theorem dL_isBarSound_242 : decode cL_isBarSound 242 = .ok (.iload 12, 2) := by decide +kernel
theorem dL_isBarSound_244 : decode cL_isBarSound 244 = .ok (.iconst 2, 1) := by decide +kernel
theorem dL_isBarSound_245 : decode cL_isBarSound 245 = .ok (.if_icmp .gt 48, 3) := by decide +kernel
theorem dL_isBarSound_248 : decode cL_isBarSound 248 = .ok (.iload 9, 2) := by decide +kernel
theorem dL_isBarSound_250 : decode cL_isBarSound 250 = .ok (.ifCond .ne 23, 3) := by decide +kernel
theorem dL_isBarSound_253 : decode cL_isBarSound 253 = .ok (.iload 12, 2) := by decide +kernel
theorem dL_isBarSound_255 : decode cL_isBarSound 255 = .ok (.bipush (-3), 2) := by decide +kernel
theorem dL_isBarSound_257 : decode cL_isBarSound 257 = .ok (.if_icmp .ne 36, 3) := by decide +kernel
theorem dL_isBarSound_260 : decode cL_isBarSound 260 = .ok (.aload_n 0, 1) := by decide +kernel
theorem dL_isBarSound_261 : decode cL_isBarSound 261 = .ok (.iload_n 1, 1) := by decide +kernel
theorem dL_isBarSound_262 : decode cL_isBarSound 262 = .ok (.iload_n 2, 1) := by decide +kernel
theorem dL_isBarSound_263 : decode cL_isBarSound 263 = .ok (.iload 6, 2) := by decide +kernel
theorem dL_isBarSound_265 : decode cL_isBarSound 265 = .ok (.invokevirtual 106, 3) := by decide +kernel
theorem dL_isBarSound_268 : decode cL_isBarSound 268 = .ok (.bipush (-3), 2) := by decide +kernel
theorem dL_isBarSound_270 : decode cL_isBarSound 270 = .ok (.if_icmp .ne 23, 3) := by decide +kernel
theorem dL_isBarSound_273 : decode cL_isBarSound 273 = .ok (.iload 6, 2) := by decide +kernel
theorem dL_isBarSound_275 : decode cL_isBarSound 275 = .ok (.ifCond .le 20, 3) := by decide +kernel
theorem dL_isBarSound_278 : decode cL_isBarSound 278 = .ok (.iload 7, 2) := by decide +kernel
theorem dL_isBarSound_280 : decode cL_isBarSound 280 = .ok (.aload_n 0, 1) := by decide +kernel
theorem dL_isBarSound_281 : decode cL_isBarSound 281 = .ok (.iload_n 1, 1) := by decide +kernel
theorem dL_isBarSound_282 : decode cL_isBarSound 282 = .ok (.iload_n 2, 1) := by decide +kernel
theorem dL_isBarSound_283 : decode cL_isBarSound 283 = .ok (.iload 6, 2) := by decide +kernel
theorem dL_isBarSound_285 : decode cL_isBarSound 285 = .ok (.iconst 1, 1) := by decide +kernel
theorem dL_isBarSound_286 : decode cL_isBarSound 286 = .ok (.isub, 1) := by decide +kernel
theorem dL_isBarSound_287 : decode cL_isBarSound 287 = .ok (.invokevirtual 87, 3) := by decide +kernel
theorem dL_isBarSound_290 : decode cL_isBarSound 290 = .ok (.if_icmp .ge 5, 3) := by decide +kernel
theorem dL_isBarSound_293 : decode cL_isBarSound 293 = .ok (.iconst 0, 1) := by decide +kernel
theorem dL_isBarSound_294 : decode cL_isBarSound 294 = .ok (.ireturn, 1) := by decide +kernel
theorem dL_isBarSound_295 : decode cL_isBarSound 295 = .ok (.iload 9, 2) := by decide +kernel
theorem dL_isBarSound_297 : decode cL_isBarSound 297 = .ok (.ifCond .eq 40, 3) := by decide +kernel
theorem dL_isBarSound_300 : decode cL_isBarSound 300 = .ok (.aload_n 0, 1) := by decide +kernel
theorem dL_isBarSound_301 : decode cL_isBarSound 301 = .ok (.iload_n 1, 1) := by decide +kernel
theorem dL_isBarSound_302 : decode cL_isBarSound 302 = .ok (.iload 7, 2) := by decide +kernel
theorem dL_isBarSound_304 : decode cL_isBarSound 304 = .ok (.invokevirtual 109, 3) := by decide +kernel
theorem dL_isBarSound_307 : decode cL_isBarSound 307 = .ok (.ifCond .ge 7, 3) := by decide +kernel
theorem dL_isBarSound_310 : decode cL_isBarSound 310 = .ok (.iconst 1, 1) := by decide +kernel
theorem dL_isBarSound_311 : decode cL_isBarSound 311 = .ok (.goto 4, 3) := by decide +kernel
theorem dL_isBarSound_314 : decode cL_isBarSound 314 = .ok (.iconst 0, 1) := by decide +kernel
theorem dL_isBarSound_315 : decode cL_isBarSound 315 = .ok (.aload_n 0, 1) := by decide +kernel
theorem dL_isBarSound_316 : decode cL_isBarSound 316 = .ok (.iload_n 1, 1) := by decide +kernel
theorem dL_isBarSound_317 : decode cL_isBarSound 317 = .ok (.iload 7, 2) := by decide +kernel
theorem dL_isBarSound_319 : decode cL_isBarSound 319 = .ok (.invokevirtual 112, 3) := by decide +kernel
theorem dL_isBarSound_322 : decode cL_isBarSound 322 = .ok (.bipush (-3), 2) := by decide +kernel
theorem dL_isBarSound_324 : decode cL_isBarSound 324 = .ok (.if_icmp .ne 7, 3) := by decide +kernel
theorem dL_isBarSound_327 : decode cL_isBarSound 327 = .ok (.iconst 1, 1) := by decide +kernel
theorem dL_isBarSound_328 : decode cL_isBarSound 328 = .ok (.goto 4, 3) := by decide +kernel
theorem dL_isBarSound_331 : decode cL_isBarSound 331 = .ok (.iconst 0, 1) := by decide +kernel
theorem dL_isBarSound_332 : decode cL_isBarSound 332 = .ok (.if_icmp .eq 5, 3) := by decide +kernel
theorem dL_isBarSound_335 : decode cL_isBarSound 335 = .ok (.iconst 0, 1) := by decide +kernel
theorem dL_isBarSound_336 : decode cL_isBarSound 336 = .ok (.ireturn, 1) := by decide +kernel
theorem dL_isBarSound_337 : decode cL_isBarSound 337 = .ok (.iinc 6 1, 3) := by decide +kernel
theorem dL_isBarSound_340 : decode cL_isBarSound 340 = .ok (.goto (-319), 3) := by decide +kernel
theorem dL_isBarSound_343 : decode cL_isBarSound 343 = .ok (.iload 4, 2) := by decide +kernel
theorem dL_isBarSound_345 : decode cL_isBarSound 345 = .ok (.aload_n 0, 1) := by decide +kernel
theorem dL_isBarSound_346 : decode cL_isBarSound 346 = .ok (.iload_n 2, 1) := by decide +kernel
theorem dL_isBarSound_347 : decode cL_isBarSound 347 = .ok (.invokevirtual 115, 3) := by decide +kernel
theorem dL_isBarSound_350 : decode cL_isBarSound 350 = .ok (.if_icmp .ne 31, 3) := by decide +kernel
theorem dL_isBarSound_353 : decode cL_isBarSound 353 = .ok (.aload_n 0, 1) := by decide +kernel
theorem dL_isBarSound_354 : decode cL_isBarSound 354 = .ok (.iload_n 1, 1) := by decide +kernel
theorem dL_isBarSound_355 : decode cL_isBarSound 355 = .ok (.iload_n 2, 1) := by decide +kernel
theorem dL_isBarSound_356 : decode cL_isBarSound 356 = .ok (.invokevirtual 118, 3) := by decide +kernel
theorem dL_isBarSound_359 : decode cL_isBarSound 359 = .ok (.iload 5, 2) := by decide +kernel
theorem dL_isBarSound_361 : decode cL_isBarSound 361 = .ok (.iconst 1, 1) := by decide +kernel
theorem dL_isBarSound_362 : decode cL_isBarSound 362 = .ok (.iadd, 1) := by decide +kernel
theorem dL_isBarSound_363 : decode cL_isBarSound 363 = .ok (.if_icmp .ne 18, 3) := by decide +kernel
theorem dL_isBarSound_366 : decode cL_isBarSound 366 = .ok (.aload_n 0, 1) := by decide +kernel
theorem dL_isBarSound_367 : decode cL_isBarSound 367 = .ok (.iload_n 2, 1) := by decide +kernel
theorem dL_isBarSound_368 : decode cL_isBarSound 368 = .ok (.invokevirtual 121, 3) := by decide +kernel
theorem dL_isBarSound_371 : decode cL_isBarSound 371 = .ok (.iconst 2, 1) := by decide +kernel
theorem dL_isBarSound_372 : decode cL_isBarSound 372 = .ok (.iload_n 2, 1) := by decide +kernel
theorem dL_isBarSound_373 : decode cL_isBarSound 373 = .ok (.imul, 1) := by decide +kernel
theorem dL_isBarSound_374 : decode cL_isBarSound 374 = .ok (.if_icmp .lt 7, 3) := by decide +kernel
theorem dL_isBarSound_377 : decode cL_isBarSound 377 = .ok (.iconst 1, 1) := by decide +kernel
theorem dL_isBarSound_378 : decode cL_isBarSound 378 = .ok (.goto 4, 3) := by decide +kernel
theorem dL_isBarSound_381 : decode cL_isBarSound 381 = .ok (.iconst 0, 1) := by decide +kernel
theorem dL_isBarSound_382 : decode cL_isBarSound 382 = .ok (.ireturn, 1) := by decide +kernel
theorem dL_areMomentsSound_0 : decode cL_areMomentsSound 0 = .ok (.iconst 0, 1) := by decide +kernel
theorem dL_areMomentsSound_1 : decode cL_areMomentsSound 1 = .ok (.istore_n 1, 1) := by decide +kernel
theorem dL_areMomentsSound_2 : decode cL_areMomentsSound 2 = .ok (.iconst 0, 1) := by decide +kernel
theorem dL_areMomentsSound_3 : decode cL_areMomentsSound 3 = .ok (.istore_n 2, 1) := by decide +kernel
theorem dL_areMomentsSound_4 : decode cL_areMomentsSound 4 = .ok (.iload_n 2, 1) := by decide +kernel
theorem dL_areMomentsSound_5 : decode cL_areMomentsSound 5 = .ok (.iconst 4, 1) := by decide +kernel
theorem dL_areMomentsSound_6 : decode cL_areMomentsSound 6 = .ok (.if_icmp .ge 19, 3) := by decide +kernel
theorem dL_areMomentsSound_9 : decode cL_areMomentsSound 9 = .ok (.iload_n 1, 1) := by decide +kernel
theorem dL_areMomentsSound_10 : decode cL_areMomentsSound 10 = .ok (.aload_n 0, 1) := by decide +kernel
theorem dL_areMomentsSound_11 : decode cL_areMomentsSound 11 = .ok (.iload_n 2, 1) := by decide +kernel
theorem dL_areMomentsSound_12 : decode cL_areMomentsSound 12 = .ok (.invokevirtual 62, 3) := by decide +kernel
theorem dL_areMomentsSound_15 : decode cL_areMomentsSound 15 = .ok (.invokestatic 65, 3) := by decide +kernel
theorem dL_areMomentsSound_18 : decode cL_areMomentsSound 18 = .ok (.istore_n 1, 1) := by decide +kernel
theorem dL_areMomentsSound_19 : decode cL_areMomentsSound 19 = .ok (.iinc 2 1, 3) := by decide +kernel
theorem dL_areMomentsSound_22 : decode cL_areMomentsSound 22 = .ok (.goto (-18), 3) := by decide +kernel
theorem dL_areMomentsSound_25 : decode cL_areMomentsSound 25 = .ok (.aload_n 0, 1) := by decide +kernel
theorem dL_areMomentsSound_26 : decode cL_areMomentsSound 26 = .ok (.invokevirtual 124, 3) := by decide +kernel
theorem dL_areMomentsSound_29 : decode cL_areMomentsSound 29 = .ok (.istore_n 2, 1) := by decide +kernel
theorem dL_areMomentsSound_30 : decode cL_areMomentsSound 30 = .ok (.iload_n 2, 1) := by decide +kernel
theorem dL_areMomentsSound_31 : decode cL_areMomentsSound 31 = .ok (.iload_n 1, 1) := by decide +kernel
theorem dL_areMomentsSound_32 : decode cL_areMomentsSound 32 = .ok (.if_icmp .ge 5, 3) := by decide +kernel
theorem dL_areMomentsSound_35 : decode cL_areMomentsSound 35 = .ok (.iconst 0, 1) := by decide +kernel
theorem dL_areMomentsSound_36 : decode cL_areMomentsSound 36 = .ok (.ireturn, 1) := by decide +kernel
theorem dL_areMomentsSound_37 : decode cL_areMomentsSound 37 = .ok (.iconst (-1), 1) := by decide +kernel
theorem dL_areMomentsSound_38 : decode cL_areMomentsSound 38 = .ok (.istore_n 3, 1) := by decide +kernel
theorem dL_areMomentsSound_39 : decode cL_areMomentsSound 39 = .ok (.iconst 0, 1) := by decide +kernel
theorem dL_areMomentsSound_40 : decode cL_areMomentsSound 40 = .ok (.istore 4, 2) := by decide +kernel
theorem dL_areMomentsSound_42 : decode cL_areMomentsSound 42 = .ok (.iload 4, 2) := by decide +kernel
theorem dL_areMomentsSound_44 : decode cL_areMomentsSound 44 = .ok (.iload_n 2, 1) := by decide +kernel
theorem dL_areMomentsSound_45 : decode cL_areMomentsSound 45 = .ok (.if_icmp .ge 109, 3) := by decide +kernel
theorem dL_areMomentsSound_48 : decode cL_areMomentsSound 48 = .ok (.aload_n 0, 1) := by decide +kernel
theorem dL_areMomentsSound_49 : decode cL_areMomentsSound 49 = .ok (.iload 4, 2) := by decide +kernel
theorem dL_areMomentsSound_51 : decode cL_areMomentsSound 51 = .ok (.invokevirtual 128, 3) := by decide +kernel
theorem dL_areMomentsSound_54 : decode cL_areMomentsSound 54 = .ok (.istore 5, 2) := by decide +kernel
theorem dL_areMomentsSound_56 : decode cL_areMomentsSound 56 = .ok (.iload 5, 2) := by decide +kernel
theorem dL_areMomentsSound_58 : decode cL_areMomentsSound 58 = .ok (.iload_n 3, 1) := by decide +kernel
theorem dL_areMomentsSound_59 : decode cL_areMomentsSound 59 = .ok (.if_icmp .le 84, 3) := by decide +kernel
theorem dL_areMomentsSound_62 : decode cL_areMomentsSound 62 = .ok (.aload_n 0, 1) := by decide +kernel
theorem dL_areMomentsSound_63 : decode cL_areMomentsSound 63 = .ok (.iload 4, 2) := by decide +kernel
theorem dL_areMomentsSound_65 : decode cL_areMomentsSound 65 = .ok (.invokevirtual 131, 3) := by decide +kernel
theorem dL_areMomentsSound_68 : decode cL_areMomentsSound 68 = .ok (.ifCond .ge 7, 3) := by decide +kernel
theorem dL_areMomentsSound_71 : decode cL_areMomentsSound 71 = .ok (.iconst 1, 1) := by decide +kernel
theorem dL_areMomentsSound_72 : decode cL_areMomentsSound 72 = .ok (.goto 4, 3) := by decide +kernel
theorem dL_areMomentsSound_75 : decode cL_areMomentsSound 75 = .ok (.iconst 0, 1) := by decide +kernel
theorem dL_areMomentsSound_76 : decode cL_areMomentsSound 76 = .ok (.aload_n 0, 1) := by decide +kernel
theorem dL_areMomentsSound_77 : decode cL_areMomentsSound 77 = .ok (.iload 4, 2) := by decide +kernel
theorem dL_areMomentsSound_79 : decode cL_areMomentsSound 79 = .ok (.invokevirtual 134, 3) := by decide +kernel
theorem dL_areMomentsSound_82 : decode cL_areMomentsSound 82 = .ok (.ifCond .ge 7, 3) := by decide +kernel
theorem dL_areMomentsSound_85 : decode cL_areMomentsSound 85 = .ok (.iconst 1, 1) := by decide +kernel
theorem dL_areMomentsSound_86 : decode cL_areMomentsSound 86 = .ok (.goto 4, 3) := by decide +kernel
theorem dL_areMomentsSound_89 : decode cL_areMomentsSound 89 = .ok (.iconst 0, 1) := by decide +kernel
theorem dL_areMomentsSound_90 : decode cL_areMomentsSound 90 = .ok (.if_icmp .ne 53, 3) := by decide +kernel
theorem dL_areMomentsSound_93 : decode cL_areMomentsSound 93 = .ok (.aload_n 0, 1) := by decide +kernel
theorem dL_areMomentsSound_94 : decode cL_areMomentsSound 94 = .ok (.iload 4, 2) := by decide +kernel
theorem dL_areMomentsSound_96 : decode cL_areMomentsSound 96 = .ok (.invokevirtual 134, 3) := by decide +kernel
theorem dL_areMomentsSound_99 : decode cL_areMomentsSound 99 = .ok (.ifCond .ge 7, 3) := by decide +kernel
theorem dL_areMomentsSound_102 : decode cL_areMomentsSound 102 = .ok (.iconst 1, 1) := by decide +kernel
theorem dL_areMomentsSound_103 : decode cL_areMomentsSound 103 = .ok (.goto 4, 3) := by decide +kernel
theorem dL_areMomentsSound_106 : decode cL_areMomentsSound 106 = .ok (.iconst 0, 1) := by decide +kernel
theorem dL_areMomentsSound_107 : decode cL_areMomentsSound 107 = .ok (.aload_n 0, 1) := by decide +kernel
theorem dL_areMomentsSound_108 : decode cL_areMomentsSound 108 = .ok (.iload 4, 2) := by decide +kernel
theorem dL_areMomentsSound_110 : decode cL_areMomentsSound 110 = .ok (.invokevirtual 137, 3) := by decide +kernel
theorem dL_areMomentsSound_113 : decode cL_areMomentsSound 113 = .ok (.ifCond .ge 7, 3) := by decide +kernel
theorem dL_areMomentsSound_116 : decode cL_areMomentsSound 116 = .ok (.iconst 1, 1) := by decide +kernel
theorem dL_areMomentsSound_117 : decode cL_areMomentsSound 117 = .ok (.goto 4, 3) := by decide +kernel
theorem dL_areMomentsSound_120 : decode cL_areMomentsSound 120 = .ok (.iconst 0, 1) := by decide +kernel
theorem dL_areMomentsSound_121 : decode cL_areMomentsSound 121 = .ok (.if_icmp .ne 22, 3) := by decide +kernel
theorem dL_areMomentsSound_124 : decode cL_areMomentsSound 124 = .ok (.aload_n 0, 1) := by decide +kernel
theorem dL_areMomentsSound_125 : decode cL_areMomentsSound 125 = .ok (.iload 4, 2) := by decide +kernel
theorem dL_areMomentsSound_127 : decode cL_areMomentsSound 127 = .ok (.invokevirtual 134, 3) := by decide +kernel
theorem dL_areMomentsSound_130 : decode cL_areMomentsSound 130 = .ok (.iconst 3, 1) := by decide +kernel
theorem dL_areMomentsSound_131 : decode cL_areMomentsSound 131 = .ok (.if_icmp .ne 14, 3) := by decide +kernel
theorem dL_areMomentsSound_134 : decode cL_areMomentsSound 134 = .ok (.aload_n 0, 1) := by decide +kernel
theorem dL_areMomentsSound_135 : decode cL_areMomentsSound 135 = .ok (.iload 4, 2) := by decide +kernel
theorem dL_areMomentsSound_137 : decode cL_areMomentsSound 137 = .ok (.invokevirtual 137, 3) := by decide +kernel
theorem dL_areMomentsSound_140 : decode cL_areMomentsSound 140 = .ok (.ifCond .eq 5, 3) := by decide +kernel
theorem dL_areMomentsSound_143 : decode cL_areMomentsSound 143 = .ok (.iconst 0, 1) := by decide +kernel
theorem dL_areMomentsSound_144 : decode cL_areMomentsSound 144 = .ok (.ireturn, 1) := by decide +kernel
theorem dL_areMomentsSound_145 : decode cL_areMomentsSound 145 = .ok (.iload 5, 2) := by decide +kernel
theorem dL_areMomentsSound_147 : decode cL_areMomentsSound 147 = .ok (.istore_n 3, 1) := by decide +kernel
theorem dL_areMomentsSound_148 : decode cL_areMomentsSound 148 = .ok (.iinc 4 1, 3) := by decide +kernel
theorem dL_areMomentsSound_151 : decode cL_areMomentsSound 151 = .ok (.goto (-109), 3) := by decide +kernel
theorem dL_areMomentsSound_154 : decode cL_areMomentsSound 154 = .ok (.aload_n 0, 1) := by decide +kernel
theorem dL_areMomentsSound_155 : decode cL_areMomentsSound 155 = .ok (.invokevirtual 140, 3) := by decide +kernel
theorem dL_areMomentsSound_158 : decode cL_areMomentsSound 158 = .ok (.istore 4, 2) := by decide +kernel
theorem dL_areMomentsSound_160 : decode cL_areMomentsSound 160 = .ok (.iconst (-1), 1) := by decide +kernel
theorem dL_areMomentsSound_161 : decode cL_areMomentsSound 161 = .ok (.istore_n 3, 1) := by decide +kernel
theorem dL_areMomentsSound_162 : decode cL_areMomentsSound 162 = .ok (.iconst 0, 1) := by decide +kernel
theorem dL_areMomentsSound_163 : decode cL_areMomentsSound 163 = .ok (.istore 5, 2) := by decide +kernel
theorem dL_areMomentsSound_165 : decode cL_areMomentsSound 165 = .ok (.iload 5, 2) := by decide +kernel
theorem dL_areMomentsSound_167 : decode cL_areMomentsSound 167 = .ok (.iload 4, 2) := by decide +kernel
theorem dL_areMomentsSound_169 : decode cL_areMomentsSound 169 = .ok (.if_icmp .ge 84, 3) := by decide +kernel
theorem dL_areMomentsSound_172 : decode cL_areMomentsSound 172 = .ok (.aload_n 0, 1) := by decide +kernel
theorem dL_areMomentsSound_173 : decode cL_areMomentsSound 173 = .ok (.iload 5, 2) := by decide +kernel
theorem dL_areMomentsSound_175 : decode cL_areMomentsSound 175 = .ok (.invokevirtual 143, 3) := by decide +kernel
theorem dL_areMomentsSound_178 : decode cL_areMomentsSound 178 = .ok (.istore 6, 2) := by decide +kernel
theorem dL_areMomentsSound_180 : decode cL_areMomentsSound 180 = .ok (.aload_n 0, 1) := by decide +kernel
theorem dL_areMomentsSound_181 : decode cL_areMomentsSound 181 = .ok (.iload 5, 2) := by decide +kernel
theorem dL_areMomentsSound_183 : decode cL_areMomentsSound 183 = .ok (.invokevirtual 146, 3) := by decide +kernel
theorem dL_areMomentsSound_186 : decode cL_areMomentsSound 186 = .ok (.istore 7, 2) := by decide +kernel
theorem dL_areMomentsSound_188 : decode cL_areMomentsSound 188 = .ok (.aload_n 0, 1) := by decide +kernel
theorem dL_areMomentsSound_189 : decode cL_areMomentsSound 189 = .ok (.iload 5, 2) := by decide +kernel
theorem dL_areMomentsSound_191 : decode cL_areMomentsSound 191 = .ok (.invokevirtual 149, 3) := by decide +kernel
theorem dL_areMomentsSound_194 : decode cL_areMomentsSound 194 = .ok (.istore 8, 2) := by decide +kernel
theorem dL_areMomentsSound_196 : decode cL_areMomentsSound 196 = .ok (.iload 6, 2) := by decide +kernel
theorem dL_areMomentsSound_198 : decode cL_areMomentsSound 198 = .ok (.iload_n 3, 1) := by decide +kernel
theorem dL_areMomentsSound_199 : decode cL_areMomentsSound 199 = .ok (.if_icmp .lt 43, 3) := by decide +kernel
theorem dL_areMomentsSound_202 : decode cL_areMomentsSound 202 = .ok (.iload 7, 2) := by decide +kernel
theorem dL_areMomentsSound_204 : decode cL_areMomentsSound 204 = .ok (.ifCond .lt 38, 3) := by decide +kernel
theorem dL_areMomentsSound_207 : decode cL_areMomentsSound 207 = .ok (.iload 7, 2) := by decide +kernel
theorem dL_areMomentsSound_209 : decode cL_areMomentsSound 209 = .ok (.iconst 4, 1) := by decide +kernel
theorem dL_areMomentsSound_210 : decode cL_areMomentsSound 210 = .ok (.if_icmp .gt 32, 3) := by decide +kernel
theorem dL_areMomentsSound_213 : decode cL_areMomentsSound 213 = .ok (.iload 7, 2) := by decide +kernel
theorem dL_areMomentsSound_215 : decode cL_areMomentsSound 215 = .ok (.iconst 3, 1) := by decide +kernel
theorem dL_areMomentsSound_216 : decode cL_areMomentsSound 216 = .ok (.if_icmp .ge 14, 3) := by decide +kernel
theorem dL_areMomentsSound_219 : decode cL_areMomentsSound 219 = .ok (.iload 8, 2) := by decide +kernel
theorem dL_areMomentsSound_221 : decode cL_areMomentsSound 221 = .ok (.iconst 4, 1) := by decide +kernel
theorem dL_areMomentsSound_222 : decode cL_areMomentsSound 222 = .ok (.idiv, 1) := by decide +kernel
theorem dL_areMomentsSound_223 : decode cL_areMomentsSound 223 = .ok (.iload 8, 2) := by decide +kernel
theorem dL_areMomentsSound_225 : decode cL_areMomentsSound 225 = .ok (.iconst 4, 1) := by decide +kernel
theorem dL_areMomentsSound_226 : decode cL_areMomentsSound 226 = .ok (.irem, 1) := by decide +kernel
theorem dL_areMomentsSound_227 : decode cL_areMomentsSound 227 = .ok (.if_icmp .ge 15, 3) := by decide +kernel
theorem dL_areMomentsSound_230 : decode cL_areMomentsSound 230 = .ok (.iload 7, 2) := by decide +kernel
theorem dL_areMomentsSound_232 : decode cL_areMomentsSound 232 = .ok (.iconst 3, 1) := by decide +kernel
theorem dL_areMomentsSound_233 : decode cL_areMomentsSound 233 = .ok (.if_icmp .lt 11, 3) := by decide +kernel
theorem dL_areMomentsSound_236 : decode cL_areMomentsSound 236 = .ok (.iload 8, 2) := by decide +kernel
theorem dL_areMomentsSound_238 : decode cL_areMomentsSound 238 = .ok (.iconst 3, 1) := by decide +kernel
theorem dL_areMomentsSound_239 : decode cL_areMomentsSound 239 = .ok (.if_icmp .le 5, 3) := by decide +kernel
theorem dL_areMomentsSound_242 : decode cL_areMomentsSound 242 = .ok (.iconst 0, 1) := by decide +kernel
theorem dL_areMomentsSound_243 : decode cL_areMomentsSound 243 = .ok (.ireturn, 1) := by decide +kernel
theorem dL_areMomentsSound_244 : decode cL_areMomentsSound 244 = .ok (.iload 6, 2) := by decide +kernel
theorem dL_areMomentsSound_246 : decode cL_areMomentsSound 246 = .ok (.istore_n 3, 1) := by decide +kernel
theorem dL_areMomentsSound_247 : decode cL_areMomentsSound 247 = .ok (.iinc 5 1, 3) := by decide +kernel
theorem dL_areMomentsSound_250 : decode cL_areMomentsSound 250 = .ok (.goto (-85), 3) := by decide +kernel
theorem dL_areMomentsSound_253 : decode cL_areMomentsSound 253 = .ok (.iconst 1, 1) := by decide +kernel
theorem dL_areMomentsSound_254 : decode cL_areMomentsSound 254 = .ok (.ireturn, 1) := by decide +kernel
theorem dL_areLinesSound_0 : decode cL_areLinesSound 0 = .ok (.aload_n 0, 1) := by decide +kernel
theorem dL_areLinesSound_1 : decode cL_areLinesSound 1 = .ok (.invokevirtual 152, 3) := by decide +kernel
theorem dL_areLinesSound_4 : decode cL_areLinesSound 4 = .ok (.istore_n 2, 1) := by decide +kernel
theorem dL_areLinesSound_5 : decode cL_areLinesSound 5 = .ok (.iconst 0, 1) := by decide +kernel
theorem dL_areLinesSound_6 : decode cL_areLinesSound 6 = .ok (.istore_n 3, 1) := by decide +kernel
theorem dL_areLinesSound_7 : decode cL_areLinesSound 7 = .ok (.iconst (-1), 1) := by decide +kernel
theorem dL_areLinesSound_8 : decode cL_areLinesSound 8 = .ok (.istore 4, 2) := by decide +kernel
theorem dL_areLinesSound_10 : decode cL_areLinesSound 10 = .ok (.iconst 0, 1) := by decide +kernel
theorem dL_areLinesSound_11 : decode cL_areLinesSound 11 = .ok (.istore 5, 2) := by decide +kernel
theorem dL_areLinesSound_13 : decode cL_areLinesSound 13 = .ok (.iload 5, 2) := by decide +kernel
theorem dL_areLinesSound_15 : decode cL_areLinesSound 15 = .ok (.bipush 24, 2) := by decide +kernel
theorem dL_areLinesSound_17 : decode cL_areLinesSound 17 = .ok (.if_icmp .ge 129, 3) := by decide +kernel
theorem dL_areLinesSound_20 : decode cL_areLinesSound 20 = .ok (.aload_n 0, 1) := by decide +kernel
theorem dL_areLinesSound_21 : decode cL_areLinesSound 21 = .ok (.iload_n 1, 1) := by decide +kernel
theorem dL_areLinesSound_22 : decode cL_areLinesSound 22 = .ok (.iload 5, 2) := by decide +kernel
theorem dL_areLinesSound_24 : decode cL_areLinesSound 24 = .ok (.invokevirtual 155, 3) := by decide +kernel
theorem dL_areLinesSound_27 : decode cL_areLinesSound 27 = .ok (.istore 6, 2) := by decide +kernel
theorem dL_areLinesSound_29 : decode cL_areLinesSound 29 = .ok (.iload 6, 2) := by decide +kernel
theorem dL_areLinesSound_31 : decode cL_areLinesSound 31 = .ok (.ifCond .lt 7, 3) := by decide +kernel
theorem dL_areLinesSound_34 : decode cL_areLinesSound 34 = .ok (.iconst 1, 1) := by decide +kernel
theorem dL_areLinesSound_35 : decode cL_areLinesSound 35 = .ok (.goto 4, 3) := by decide +kernel
theorem dL_areLinesSound_38 : decode cL_areLinesSound 38 = .ok (.iconst 0, 1) := by decide +kernel
theorem dL_areLinesSound_39 : decode cL_areLinesSound 39 = .ok (.iload 5, 2) := by decide +kernel
theorem dL_areLinesSound_41 : decode cL_areLinesSound 41 = .ok (.iload_n 2, 1) := by decide +kernel
theorem dL_areLinesSound_42 : decode cL_areLinesSound 42 = .ok (.if_icmp .ge 7, 3) := by decide +kernel
theorem dL_areLinesSound_45 : decode cL_areLinesSound 45 = .ok (.iconst 1, 1) := by decide +kernel
theorem dL_areLinesSound_46 : decode cL_areLinesSound 46 = .ok (.goto 4, 3) := by decide +kernel
theorem dL_areLinesSound_49 : decode cL_areLinesSound 49 = .ok (.iconst 0, 1) := by decide +kernel
theorem dL_areLinesSound_50 : decode cL_areLinesSound 50 = .ok (.if_icmp .ne 35, 3) := by decide +kernel
theorem dL_areLinesSound_53 : decode cL_areLinesSound 53 = .ok (.iload 6, 2) := by decide +kernel
theorem dL_areLinesSound_55 : decode cL_areLinesSound 55 = .ok (.ifCond .lt 19, 3) := by decide +kernel
theorem dL_areLinesSound_58 : decode cL_areLinesSound 58 = .ok (.iload 6, 2) := by decide +kernel
theorem dL_areLinesSound_60 : decode cL_areLinesSound 60 = .ok (.iload 4, 2) := by decide +kernel
theorem dL_areLinesSound_62 : decode cL_areLinesSound 62 = .ok (.if_icmp .lt 23, 3) := by decide +kernel
theorem dL_areLinesSound_65 : decode cL_areLinesSound 65 = .ok (.iload 6, 2) := by decide +kernel
theorem dL_areLinesSound_67 : decode cL_areLinesSound 67 = .ok (.iload 4, 2) := by decide +kernel
theorem dL_areLinesSound_69 : decode cL_areLinesSound 69 = .ok (.iconst 1, 1) := by decide +kernel
theorem dL_areLinesSound_70 : decode cL_areLinesSound 70 = .ok (.iadd, 1) := by decide +kernel
theorem dL_areLinesSound_71 : decode cL_areLinesSound 71 = .ok (.if_icmp .gt 14, 3) := by decide +kernel
theorem dL_areLinesSound_74 : decode cL_areLinesSound 74 = .ok (.aload_n 0, 1) := by decide +kernel
theorem dL_areLinesSound_75 : decode cL_areLinesSound 75 = .ok (.iload 5, 2) := by decide +kernel
theorem dL_areLinesSound_77 : decode cL_areLinesSound 77 = .ok (.invokevirtual 158, 3) := by decide +kernel
theorem dL_areLinesSound_80 : decode cL_areLinesSound 80 = .ok (.bipush 6, 2) := by decide +kernel
theorem dL_areLinesSound_82 : decode cL_areLinesSound 82 = .ok (.if_icmp .ge 5, 3) := by decide +kernel
theorem dL_areLinesSound_85 : decode cL_areLinesSound 85 = .ok (.iconst 0, 1) := by decide +kernel
theorem dL_areLinesSound_86 : decode cL_areLinesSound 86 = .ok (.ireturn, 1) := by decide +kernel
theorem dL_areLinesSound_87 : decode cL_areLinesSound 87 = .ok (.iload 4, 2) := by decide +kernel
theorem dL_areLinesSound_89 : decode cL_areLinesSound 89 = .ok (.iload 6, 2) := by decide +kernel
theorem dL_areLinesSound_91 : decode cL_areLinesSound 91 = .ok (.invokestatic 65, 3) := by decide +kernel
theorem dL_areLinesSound_94 : decode cL_areLinesSound 94 = .ok (.istore 4, 2) := by decide +kernel
theorem dL_areLinesSound_96 : decode cL_areLinesSound 96 = .ok (.aload_n 0, 1) := by decide +kernel
theorem dL_areLinesSound_97 : decode cL_areLinesSound 97 = .ok (.iload 5, 2) := by decide +kernel
theorem dL_areLinesSound_99 : decode cL_areLinesSound 99 = .ok (.invokevirtual 158, 3) := by decide +kernel
theorem dL_areLinesSound_102 : decode cL_areLinesSound 102 = .ok (.istore 7, 2) := by decide +kernel
theorem dL_areLinesSound_104 : decode cL_areLinesSound 104 = .ok (.iload 5, 2) := by decide +kernel
theorem dL_areLinesSound_106 : decode cL_areLinesSound 106 = .ok (.iload_n 2, 1) := by decide +kernel
theorem dL_areLinesSound_107 : decode cL_areLinesSound 107 = .ok (.if_icmp .ge 33, 3) := by decide +kernel
theorem dL_areLinesSound_110 : decode cL_areLinesSound 110 = .ok (.iload_n 3, 1) := by decide +kernel
theorem dL_areLinesSound_111 : decode cL_areLinesSound 111 = .ok (.iload 5, 2) := by decide +kernel
theorem dL_areLinesSound_113 : decode cL_areLinesSound 113 = .ok (.iload_n 2, 1) := by decide +kernel
theorem dL_areLinesSound_114 : decode cL_areLinesSound 114 = .ok (.iconst 1, 1) := by decide +kernel
theorem dL_areLinesSound_115 : decode cL_areLinesSound 115 = .ok (.isub, 1) := by decide +kernel
theorem dL_areLinesSound_116 : decode cL_areLinesSound 116 = .ok (.if_icmp .ne 13, 3) := by decide +kernel
theorem dL_areLinesSound_119 : decode cL_areLinesSound 119 = .ok (.iload 7, 2) := by decide +kernel
theorem dL_areLinesSound_121 : decode cL_areLinesSound 121 = .ok (.iload_n 1, 1) := by decide +kernel
theorem dL_areLinesSound_122 : decode cL_areLinesSound 122 = .ok (.if_icmp .gt 7, 3) := by decide +kernel
theorem dL_areLinesSound_125 : decode cL_areLinesSound 125 = .ok (.iconst 0, 1) := by decide +kernel
theorem dL_areLinesSound_126 : decode cL_areLinesSound 126 = .ok (.goto 12, 3) := by decide +kernel
theorem dL_areLinesSound_129 : decode cL_areLinesSound 129 = .ok (.iload_n 1, 1) := by decide +kernel
theorem dL_areLinesSound_130 : decode cL_areLinesSound 130 = .ok (.iload 7, 2) := by decide +kernel
theorem dL_areLinesSound_132 : decode cL_areLinesSound 132 = .ok (.isub, 1) := by decide +kernel
theorem dL_areLinesSound_133 : decode cL_areLinesSound 133 = .ok (.iload_n 1, 1) := by decide +kernel
theorem dL_areLinesSound_134 : decode cL_areLinesSound 134 = .ok (.iload 7, 2) := by decide +kernel
theorem dL_areLinesSound_136 : decode cL_areLinesSound 136 = .ok (.isub, 1) := by decide +kernel
theorem dL_areLinesSound_137 : decode cL_areLinesSound 137 = .ok (.imul, 1) := by decide +kernel
theorem dL_areLinesSound_138 : decode cL_areLinesSound 138 = .ok (.iadd, 1) := by decide +kernel
theorem dL_areLinesSound_139 : decode cL_areLinesSound 139 = .ok (.istore_n 3, 1) := by decide +kernel
theorem dL_areLinesSound_140 : decode cL_areLinesSound 140 = .ok (.iinc 5 1, 3) := by decide +kernel
theorem dL_areLinesSound_143 : decode cL_areLinesSound 143 = .ok (.goto (-130), 3) := by decide +kernel
theorem dL_areLinesSound_146 : decode cL_areLinesSound 146 = .ok (.aload_n 0, 1) := by decide +kernel
theorem dL_areLinesSound_147 : decode cL_areLinesSound 147 = .ok (.iload_n 1, 1) := by decide +kernel
theorem dL_areLinesSound_148 : decode cL_areLinesSound 148 = .ok (.invokevirtual 161, 3) := by decide +kernel
theorem dL_areLinesSound_151 : decode cL_areLinesSound 151 = .ok (.iload 4, 2) := by decide +kernel
theorem dL_areLinesSound_153 : decode cL_areLinesSound 153 = .ok (.iconst 1, 1) := by decide +kernel
theorem dL_areLinesSound_154 : decode cL_areLinesSound 154 = .ok (.iadd, 1) := by decide +kernel
theorem dL_areLinesSound_155 : decode cL_areLinesSound 155 = .ok (.if_icmp .ne 16, 3) := by decide +kernel
theorem dL_areLinesSound_158 : decode cL_areLinesSound 158 = .ok (.aload_n 0, 1) := by decide +kernel
theorem dL_areLinesSound_159 : decode cL_areLinesSound 159 = .ok (.iload_n 1, 1) := by decide +kernel
theorem dL_areLinesSound_160 : decode cL_areLinesSound 160 = .ok (.invokevirtual 164, 3) := by decide +kernel
theorem dL_areLinesSound_163 : decode cL_areLinesSound 163 = .ok (.iload_n 3, 1) := by decide +kernel
theorem dL_areLinesSound_164 : decode cL_areLinesSound 164 = .ok (.if_icmp .gt 7, 3) := by decide +kernel
theorem dL_areLinesSound_167 : decode cL_areLinesSound 167 = .ok (.iconst 1, 1) := by decide +kernel
theorem dL_areLinesSound_168 : decode cL_areLinesSound 168 = .ok (.goto 4, 3) := by decide +kernel
theorem dL_areLinesSound_171 : decode cL_areLinesSound 171 = .ok (.iconst 0, 1) := by decide +kernel
theorem dL_areLinesSound_172 : decode cL_areLinesSound 172 = .ok (.ireturn, 1) := by decide +kernel
