/-! instructions of alike -/
theorem dL_alike_0 : decode cL_alike 0 = .ok (.aload_n 0, 1) := by decide +kernel
theorem dL_alike_1 : decode cL_alike 1 = .ok (.invokevirtual 202, 3) := by decide +kernel
theorem dL_alike_4 : decode cL_alike 4 = .ok (.aload_n 1, 1) := by decide +kernel
theorem dL_alike_5 : decode cL_alike 5 = .ok (.invokevirtual 202, 3) := by decide +kernel
theorem dL_alike_8 : decode cL_alike 8 = .ok (.if_icmp .ne 51, 3) := by decide +kernel
theorem dL_alike_11 : decode cL_alike 11 = .ok (.aload_n 0, 1) := by decide +kernel
theorem dL_alike_12 : decode cL_alike 12 = .ok (.invokevirtual 133, 3) := by decide +kernel
theorem dL_alike_15 : decode cL_alike 15 = .ok (.aload_n 1, 1) := by decide +kernel
theorem dL_alike_16 : decode cL_alike 16 = .ok (.invokevirtual 133, 3) := by decide +kernel
theorem dL_alike_19 : decode cL_alike 19 = .ok (.if_icmp .ne 40, 3) := by decide +kernel
theorem dL_alike_22 : decode cL_alike 22 = .ok (.aload_n 0, 1) := by decide +kernel
theorem dL_alike_23 : decode cL_alike 23 = .ok (.invokevirtual 243, 3) := by decide +kernel
theorem dL_alike_26 : decode cL_alike 26 = .ok (.aload_n 1, 1) := by decide +kernel
theorem dL_alike_27 : decode cL_alike 27 = .ok (.invokevirtual 243, 3) := by decide +kernel
theorem dL_alike_30 : decode cL_alike 30 = .ok (.if_icmp .ne 29, 3) := by decide +kernel
theorem dL_alike_33 : decode cL_alike 33 = .ok (.aload_n 0, 1) := by decide +kernel
theorem dL_alike_34 : decode cL_alike 34 = .ok (.invokevirtual 234, 3) := by decide +kernel
theorem dL_alike_37 : decode cL_alike 37 = .ok (.aload_n 1, 1) := by decide +kernel
theorem dL_alike_38 : decode cL_alike 38 = .ok (.invokevirtual 234, 3) := by decide +kernel
theorem dL_alike_41 : decode cL_alike 41 = .ok (.if_icmp .ne 18, 3) := by decide +kernel
theorem dL_alike_44 : decode cL_alike 44 = .ok (.aload_n 0, 1) := by decide +kernel
theorem dL_alike_45 : decode cL_alike 45 = .ok (.invokevirtual 245, 3) := by decide +kernel
theorem dL_alike_48 : decode cL_alike 48 = .ok (.aload_n 1, 1) := by decide +kernel
theorem dL_alike_49 : decode cL_alike 49 = .ok (.invokevirtual 245, 3) := by decide +kernel
theorem dL_alike_52 : decode cL_alike 52 = .ok (.if_icmp .ne 7, 3) := by decide +kernel
theorem dL_alike_55 : decode cL_alike 55 = .ok (.iconst 1, 1) := by decide +kernel
theorem dL_alike_56 : decode cL_alike 56 = .ok (.goto 4, 3) := by decide +kernel
theorem dL_alike_59 : decode cL_alike 59 = .ok (.iconst 0, 1) := by decide +kernel
theorem dL_alike_60 : decode cL_alike 60 = .ok (.istore 4, 2) := by decide +kernel
theorem dL_alike_62 : decode cL_alike 62 = .ok (.iconst 0, 1) := by decide +kernel
theorem dL_alike_63 : decode cL_alike 63 = .ok (.istore 5, 2) := by decide +kernel
theorem dL_alike_65 : decode cL_alike 65 = .ok (.iload 5, 2) := by decide +kernel
theorem dL_alike_67 : decode cL_alike 67 = .ok (.aload_n 0, 1) := by decide +kernel
theorem dL_alike_68 : decode cL_alike 68 = .ok (.invokevirtual 133, 3) := by decide +kernel
theorem dL_alike_71 : decode cL_alike 71 = .ok (.if_icmp .ge 126, 3) := by decide +kernel
theorem dL_alike_74 : decode cL_alike 74 = .ok (.iload 4, 2) := by decide +kernel
theorem dL_alike_76 : decode cL_alike 76 = .ok (.ifCond .eq 121, 3) := by decide +kernel
theorem dL_alike_79 : decode cL_alike 79 = .ok (.aload_n 0, 1) := by decide +kernel
theorem dL_alike_80 : decode cL_alike 80 = .ok (.iload 5, 2) := by decide +kernel
theorem dL_alike_82 : decode cL_alike 82 = .ok (.invokestatic 186, 3) := by decide +kernel
theorem dL_alike_85 : decode cL_alike 85 = .ok (.aload_n 1, 1) := by decide +kernel
theorem dL_alike_86 : decode cL_alike 86 = .ok (.iload 5, 2) := by decide +kernel
theorem dL_alike_88 : decode cL_alike 88 = .ok (.invokestatic 186, 3) := by decide +kernel
theorem dL_alike_91 : decode cL_alike 91 = .ok (.if_icmp .ne 97, 3) := by decide +kernel
theorem dL_alike_94 : decode cL_alike 94 = .ok (.aload_n 0, 1) := by decide +kernel
theorem dL_alike_95 : decode cL_alike 95 = .ok (.iload 5, 2) := by decide +kernel
theorem dL_alike_97 : decode cL_alike 97 = .ok (.invokestatic 188, 3) := by decide +kernel
theorem dL_alike_100 : decode cL_alike 100 = .ok (.aload_n 1, 1) := by decide +kernel
theorem dL_alike_101 : decode cL_alike 101 = .ok (.iload 5, 2) := by decide +kernel
theorem dL_alike_103 : decode cL_alike 103 = .ok (.invokestatic 188, 3) := by decide +kernel
theorem dL_alike_106 : decode cL_alike 106 = .ok (.if_icmp .ne 82, 3) := by decide +kernel
theorem dL_alike_109 : decode cL_alike 109 = .ok (.aload_n 0, 1) := by decide +kernel
theorem dL_alike_110 : decode cL_alike 110 = .ok (.iload 5, 2) := by decide +kernel
theorem dL_alike_112 : decode cL_alike 112 = .ok (.invokestatic 190, 3) := by decide +kernel
theorem dL_alike_115 : decode cL_alike 115 = .ok (.aload_n 1, 1) := by decide +kernel
theorem dL_alike_116 : decode cL_alike 116 = .ok (.iload 5, 2) := by decide +kernel
theorem dL_alike_118 : decode cL_alike 118 = .ok (.invokestatic 190, 3) := by decide +kernel
theorem dL_alike_121 : decode cL_alike 121 = .ok (.if_icmp .ne 67, 3) := by decide +kernel
theorem dL_alike_124 : decode cL_alike 124 = .ok (.aload_n 0, 1) := by decide +kernel
theorem dL_alike_125 : decode cL_alike 125 = .ok (.iload 5, 2) := by decide +kernel
theorem dL_alike_127 : decode cL_alike 127 = .ok (.invokestatic 192, 3) := by decide +kernel
theorem dL_alike_130 : decode cL_alike 130 = .ok (.aload_n 1, 1) := by decide +kernel
theorem dL_alike_131 : decode cL_alike 131 = .ok (.iload 5, 2) := by decide +kernel
theorem dL_alike_133 : decode cL_alike 133 = .ok (.invokestatic 192, 3) := by decide +kernel
theorem dL_alike_136 : decode cL_alike 136 = .ok (.if_icmp .ne 52, 3) := by decide +kernel
theorem dL_alike_139 : decode cL_alike 139 = .ok (.aload_n 0, 1) := by decide +kernel
theorem dL_alike_140 : decode cL_alike 140 = .ok (.iload 5, 2) := by decide +kernel
theorem dL_alike_142 : decode cL_alike 142 = .ok (.invokestatic 194, 3) := by decide +kernel
theorem dL_alike_145 : decode cL_alike 145 = .ok (.aload_n 1, 1) := by decide +kernel
theorem dL_alike_146 : decode cL_alike 146 = .ok (.iload 5, 2) := by decide +kernel
theorem dL_alike_148 : decode cL_alike 148 = .ok (.invokestatic 194, 3) := by decide +kernel
theorem dL_alike_151 : decode cL_alike 151 = .ok (.if_icmp .ne 37, 3) := by decide +kernel
theorem dL_alike_154 : decode cL_alike 154 = .ok (.aload_n 0, 1) := by decide +kernel
theorem dL_alike_155 : decode cL_alike 155 = .ok (.iload 5, 2) := by decide +kernel
theorem dL_alike_157 : decode cL_alike 157 = .ok (.invokestatic 218, 3) := by decide +kernel
theorem dL_alike_160 : decode cL_alike 160 = .ok (.aload_n 1, 1) := by decide +kernel
theorem dL_alike_161 : decode cL_alike 161 = .ok (.iload 5, 2) := by decide +kernel
theorem dL_alike_163 : decode cL_alike 163 = .ok (.invokestatic 218, 3) := by decide +kernel
theorem dL_alike_166 : decode cL_alike 166 = .ok (.if_icmp .ne 22, 3) := by decide +kernel
theorem dL_alike_169 : decode cL_alike 169 = .ok (.aload_n 0, 1) := by decide +kernel
theorem dL_alike_170 : decode cL_alike 170 = .ok (.iload 5, 2) := by decide +kernel
theorem dL_alike_172 : decode cL_alike 172 = .ok (.invokestatic 226, 3) := by decide +kernel
theorem dL_alike_175 : decode cL_alike 175 = .ok (.aload_n 1, 1) := by decide +kernel
theorem dL_alike_176 : decode cL_alike 176 = .ok (.iload 5, 2) := by decide +kernel
theorem dL_alike_178 : decode cL_alike 178 = .ok (.invokestatic 226, 3) := by decide +kernel
theorem dL_alike_181 : decode cL_alike 181 = .ok (.if_icmp .ne 7, 3) := by decide +kernel
theorem dL_alike_184 : decode cL_alike 184 = .ok (.iconst 1, 1) := by decide +kernel
theorem dL_alike_185 : decode cL_alike 185 = .ok (.goto 4, 3) := by decide +kernel
theorem dL_alike_188 : decode cL_alike 188 = .ok (.iconst 0, 1) := by decide +kernel
theorem dL_alike_189 : decode cL_alike 189 = .ok (.istore 4, 2) := by decide +kernel
theorem dL_alike_191 : decode cL_alike 191 = .ok (.iinc 5 1, 3) := by decide +kernel
theorem dL_alike_194 : decode cL_alike 194 = .ok (.goto (-129), 3) := by decide +kernel
theorem dL_alike_197 : decode cL_alike 197 = .ok (.iconst 0, 1) := by decide +kernel
theorem dL_alike_198 : decode cL_alike 198 = .ok (.istore 5, 2) := by decide +kernel
theorem dL_alike_200 : decode cL_alike 200 = .ok (.iload 5, 2) := by decide +kernel
theorem dL_alike_202 : decode cL_alike 202 = .ok (.aload_n 2, 1) := by decide +kernel
theorem dL_alike_203 : decode cL_alike 203 = .ok (.iconst 0, 1) := by decide +kernel
theorem dL_alike_204 : decode cL_alike 204 = .ok (.iaload, 1) := by decide +kernel
theorem dL_alike_205 : decode cL_alike 205 = .ok (.if_icmp .ge 81, 3) := by decide +kernel
theorem dL_alike_208 : decode cL_alike 208 = .ok (.iload 4, 2) := by decide +kernel
theorem dL_alike_210 : decode cL_alike 210 = .ok (.ifCond .eq 76, 3) := by decide +kernel
theorem dL_alike_213 : decode cL_alike 213 = .ok (.aload_n 0, 1) := by decide +kernel
theorem dL_alike_214 : decode cL_alike 214 = .ok (.iload 5, 2) := by decide +kernel
theorem dL_alike_216 : decode cL_alike 216 = .ok (.invokestatic 211, 3) := by decide +kernel
theorem dL_alike_219 : decode cL_alike 219 = .ok (.aload_n 1, 1) := by decide +kernel
theorem dL_alike_220 : decode cL_alike 220 = .ok (.iload 5, 2) := by decide +kernel
theorem dL_alike_222 : decode cL_alike 222 = .ok (.invokestatic 211, 3) := by decide +kernel
theorem dL_alike_225 : decode cL_alike 225 = .ok (.if_icmp .ne 52, 3) := by decide +kernel
theorem dL_alike_228 : decode cL_alike 228 = .ok (.aload_n 0, 1) := by decide +kernel
theorem dL_alike_229 : decode cL_alike 229 = .ok (.iload 5, 2) := by decide +kernel
theorem dL_alike_231 : decode cL_alike 231 = .ok (.invokestatic 213, 3) := by decide +kernel
theorem dL_alike_234 : decode cL_alike 234 = .ok (.aload_n 1, 1) := by decide +kernel
theorem dL_alike_235 : decode cL_alike 235 = .ok (.iload 5, 2) := by decide +kernel
theorem dL_alike_237 : decode cL_alike 237 = .ok (.invokestatic 213, 3) := by decide +kernel
theorem dL_alike_240 : decode cL_alike 240 = .ok (.if_icmp .ne 37, 3) := by decide +kernel
theorem dL_alike_243 : decode cL_alike 243 = .ok (.aload_n 0, 1) := by decide +kernel
theorem dL_alike_244 : decode cL_alike 244 = .ok (.iload 5, 2) := by decide +kernel
theorem dL_alike_246 : decode cL_alike 246 = .ok (.invokestatic 222, 3) := by decide +kernel
theorem dL_alike_249 : decode cL_alike 249 = .ok (.aload_n 1, 1) := by decide +kernel
theorem dL_alike_250 : decode cL_alike 250 = .ok (.iload 5, 2) := by decide +kernel
theorem dL_alike_252 : decode cL_alike 252 = .ok (.invokestatic 222, 3) := by decide +kernel
theorem dL_alike_255 : decode cL_alike 255 = .ok (.if_icmp .ne 22, 3) := by decide +kernel
theorem dL_alike_258 : decode cL_alike 258 = .ok (.aload_n 0, 1) := by decide +kernel
theorem dL_alike_259 : decode cL_alike 259 = .ok (.iload 5, 2) := by decide +kernel
theorem dL_alike_261 : decode cL_alike 261 = .ok (.invokestatic 220, 3) := by decide +kernel
theorem dL_alike_264 : decode cL_alike 264 = .ok (.aload_n 1, 1) := by decide +kernel
theorem dL_alike_265 : decode cL_alike 265 = .ok (.iload 5, 2) := by decide +kernel
theorem dL_alike_267 : decode cL_alike 267 = .ok (.invokestatic 220, 3) := by decide +kernel
theorem dL_alike_270 : decode cL_alike 270 = .ok (.if_icmp .ne 7, 3) := by decide +kernel
theorem dL_alike_273 : decode cL_alike 273 = .ok (.iconst 1, 1) := by decide +kernel
theorem dL_alike_274 : decode cL_alike 274 = .ok (.goto 4, 3) := by decide +kernel
theorem dL_alike_277 : decode cL_alike 277 = .ok (.iconst 0, 1) := by decide +kernel
theorem dL_alike_278 : decode cL_alike 278 = .ok (.istore 4, 2) := by decide +kernel
theorem dL_alike_280 : decode cL_alike 280 = .ok (.iinc 5 1, 3) := by decide +kernel
theorem dL_alike_283 : decode cL_alike 283 = .ok (.goto (-83), 3) := by decide +kernel
theorem dL_alike_286 : decode cL_alike 286 = .ok (.iload_n 3, 1) := by decide +kernel
theorem dL_alike_287 : decode cL_alike 287 = .ok (.bipush 8, 2) := by decide +kernel
theorem dL_alike_289 : decode cL_alike 289 = .ok (.irem, 1) := by decide +kernel
theorem dL_alike_290 : decode cL_alike 290 = .ok (.istore 5, 2) := by decide +kernel
theorem dL_alike_292 : decode cL_alike 292 = .ok (.iload_n 3, 1) := by decide +kernel
theorem dL_alike_293 : decode cL_alike 293 = .ok (.bipush 8, 2) := by decide +kernel
theorem dL_alike_295 : decode cL_alike 295 = .ok (.idiv, 1) := by decide +kernel
theorem dL_alike_296 : decode cL_alike 296 = .ok (.aload_n 0, 1) := by decide +kernel
theorem dL_alike_297 : decode cL_alike 297 = .ok (.invokevirtual 202, 3) := by decide +kernel
theorem dL_alike_300 : decode cL_alike 300 = .ok (.iconst 1, 1) := by decide +kernel
theorem dL_alike_301 : decode cL_alike 301 = .ok (.iadd, 1) := by decide +kernel
theorem dL_alike_302 : decode cL_alike 302 = .ok (.irem, 1) := by decide +kernel
theorem dL_alike_303 : decode cL_alike 303 = .ok (.istore 6, 2) := by decide +kernel
theorem dL_alike_305 : decode cL_alike 305 = .ok (.iload 4, 2) := by decide +kernel
theorem dL_alike_307 : decode cL_alike 307 = .ok (.ifCond .eq 64, 3) := by decide +kernel
theorem dL_alike_310 : decode cL_alike 310 = .ok (.aload_n 0, 1) := by decide +kernel
theorem dL_alike_311 : decode cL_alike 311 = .ok (.iload 5, 2) := by decide +kernel
theorem dL_alike_313 : decode cL_alike 313 = .ok (.iload 6, 2) := by decide +kernel
theorem dL_alike_315 : decode cL_alike 315 = .ok (.invokestatic 200, 3) := by decide +kernel
theorem dL_alike_318 : decode cL_alike 318 = .ok (.aload_n 1, 1) := by decide +kernel
theorem dL_alike_319 : decode cL_alike 319 = .ok (.iload 5, 2) := by decide +kernel
theorem dL_alike_321 : decode cL_alike 321 = .ok (.iload 6, 2) := by decide +kernel
theorem dL_alike_323 : decode cL_alike 323 = .ok (.invokestatic 200, 3) := by decide +kernel
theorem dL_alike_326 : decode cL_alike 326 = .ok (.if_icmp .ne 45, 3) := by decide +kernel
theorem dL_alike_329 : decode cL_alike 329 = .ok (.aload_n 0, 1) := by decide +kernel
theorem dL_alike_330 : decode cL_alike 330 = .ok (.iload 5, 2) := by decide +kernel
theorem dL_alike_332 : decode cL_alike 332 = .ok (.iload 6, 2) := by decide +kernel
theorem dL_alike_334 : decode cL_alike 334 = .ok (.invokestatic 205, 3) := by decide +kernel
theorem dL_alike_337 : decode cL_alike 337 = .ok (.aload_n 1, 1) := by decide +kernel
theorem dL_alike_338 : decode cL_alike 338 = .ok (.iload 5, 2) := by decide +kernel
theorem dL_alike_340 : decode cL_alike 340 = .ok (.iload 6, 2) := by decide +kernel
theorem dL_alike_342 : decode cL_alike 342 = .ok (.invokestatic 205, 3) := by decide +kernel
theorem dL_alike_345 : decode cL_alike 345 = .ok (.if_icmp .ne 26, 3) := by decide +kernel
theorem dL_alike_348 : decode cL_alike 348 = .ok (.aload_n 0, 1) := by decide +kernel
theorem dL_alike_349 : decode cL_alike 349 = .ok (.iload 5, 2) := by decide +kernel
theorem dL_alike_351 : decode cL_alike 351 = .ok (.iload 6, 2) := by decide +kernel
theorem dL_alike_353 : decode cL_alike 353 = .ok (.invokestatic 208, 3) := by decide +kernel
theorem dL_alike_356 : decode cL_alike 356 = .ok (.aload_n 1, 1) := by decide +kernel
theorem dL_alike_357 : decode cL_alike 357 = .ok (.iload 5, 2) := by decide +kernel
theorem dL_alike_359 : decode cL_alike 359 = .ok (.iload 6, 2) := by decide +kernel
theorem dL_alike_361 : decode cL_alike 361 = .ok (.invokestatic 208, 3) := by decide +kernel
theorem dL_alike_364 : decode cL_alike 364 = .ok (.if_icmp .ne 7, 3) := by decide +kernel
theorem dL_alike_367 : decode cL_alike 367 = .ok (.iconst 1, 1) := by decide +kernel
theorem dL_alike_368 : decode cL_alike 368 = .ok (.goto 4, 3) := by decide +kernel
theorem dL_alike_371 : decode cL_alike 371 = .ok (.iconst 0, 1) := by decide +kernel
theorem dL_alike_372 : decode cL_alike 372 = .ok (.ireturn, 1) := by decide +kernel
