theorem dL_parts_17 : decode cL_parts 17 = .ok (.iconst 0, 1) := by decide +kernel
theorem dL_parts_18 : decode cL_parts 18 = .ok (.iaload, 1) := by decide +kernel
theorem dL_parts_19 : decode cL_parts 19 = .ok (.ifCond .eq 15, 3) := by decide +kernel
theorem dL_parts_22 : decode cL_parts 22 = .ok (.iload 6, 2) := by decide +kernel
theorem dL_parts_24 : decode cL_parts 24 = .ok (.ifCond .ne 121, 3) := by decide +kernel
theorem dL_parts_27 : decode cL_parts 27 = .ok (.aload_n 3, 1) := by decide +kernel
theorem dL_parts_28 : decode cL_parts 28 = .ok (.iconst 0, 1) := by decide +kernel
theorem dL_parts_29 : decode cL_parts 29 = .ok (.iaload, 1) := by decide +kernel
theorem dL_parts_30 : decode cL_parts 30 = .ok (.iconst 3, 1) := by decide +kernel
theorem dL_parts_31 : decode cL_parts 31 = .ok (.if_icmp .ge 114, 3) := by decide +kernel
theorem dL_parts_34 : decode cL_parts 34 = .ok (.aload_n 3, 1) := by decide +kernel
theorem dL_parts_35 : decode cL_parts 35 = .ok (.iconst 0, 1) := by decide +kernel
theorem dL_parts_36 : decode cL_parts 36 = .ok (.dup2, 1) := by decide +kernel
theorem dL_parts_37 : decode cL_parts 37 = .ok (.iaload, 1) := by decide +kernel
theorem dL_parts_38 : decode cL_parts 38 = .ok (.dup_x2, 1) := by decide +kernel
theorem dL_parts_39 : decode cL_parts 39 = .ok (.iconst 1, 1) := by decide +kernel
theorem dL_parts_40 : decode cL_parts 40 = .ok (.iadd, 1) := by decide +kernel
theorem dL_parts_41 : decode cL_parts 41 = .ok (.iastore, 1) := by decide +kernel
theorem dL_parts_42 : decode cL_parts 42 = .ok (.istore 7, 2) := by decide +kernel
theorem dL_parts_44 : decode cL_parts 44 = .ok (.iload_n 2, 1) := by decide +kernel
theorem dL_parts_45 : decode cL_parts 45 = .ok (.bipush 6, 2) := by decide +kernel
theorem dL_parts_47 : decode cL_parts 47 = .ok (.invokestatic 20, 3) := by decide +kernel
theorem dL_parts_50 : decode cL_parts 50 = .ok (.istore 8, 2) := by decide +kernel
theorem dL_parts_52 : decode cL_parts 52 = .ok (.iconst 0, 1) := by decide +kernel
theorem dL_parts_53 : decode cL_parts 53 = .ok (.istore 9, 2) := by decide +kernel
theorem dL_parts_55 : decode cL_parts 55 = .ok (.iload 9, 2) := by decide +kernel
theorem dL_parts_57 : decode cL_parts 57 = .ok (.bipush 6, 2) := by decide +kernel
theorem dL_parts_59 : decode cL_parts 59 = .ok (.if_icmp .ge 54, 3) := by decide +kernel
theorem dL_parts_62 : decode cL_parts 62 = .ok (.aload 4, 2) := by decide +kernel
theorem dL_parts_64 : decode cL_parts 64 = .ok (.bipush 6, 2) := by decide +kernel
theorem dL_parts_66 : decode cL_parts 66 = .ok (.iload 7, 2) := by decide +kernel
theorem dL_parts_68 : decode cL_parts 68 = .ok (.imul, 1) := by decide +kernel
theorem dL_parts_69 : decode cL_parts 69 = .ok (.iload 9, 2) := by decide +kernel
theorem dL_parts_71 : decode cL_parts 71 = .ok (.iadd, 1) := by decide +kernel
theorem dL_parts_72 : decode cL_parts 72 = .ok (.iload 9, 2) := by decide +kernel
theorem dL_parts_74 : decode cL_parts 74 = .ok (.iload 8, 2) := by decide +kernel
theorem dL_parts_76 : decode cL_parts 76 = .ok (.if_icmp .gt 7, 3) := by decide +kernel
theorem dL_parts_79 : decode cL_parts 79 = .ok (.iconst 1, 1) := by decide +kernel
theorem dL_parts_80 : decode cL_parts 80 = .ok (.goto 4, 3) := by decide +kernel
theorem dL_parts_83 : decode cL_parts 83 = .ok (.iconst 0, 1) := by decide +kernel
theorem dL_parts_84 : decode cL_parts 84 = .ok (.iastore, 1) := by decide +kernel
theorem dL_parts_85 : decode cL_parts 85 = .ok (.aload 5, 2) := by decide +kernel
theorem dL_parts_87 : decode cL_parts 87 = .ok (.bipush 6, 2) := by decide +kernel
theorem dL_parts_89 : decode cL_parts 89 = .ok (.iload 7, 2) := by decide +kernel
theorem dL_parts_91 : decode cL_parts 91 = .ok (.imul, 1) := by decide +kernel
theorem dL_parts_92 : decode cL_parts 92 = .ok (.iload 9, 2) := by decide +kernel
theorem dL_parts_94 : decode cL_parts 94 = .ok (.iadd, 1) := by decide +kernel
theorem dL_parts_95 : decode cL_parts 95 = .ok (.aload 4, 2) := by decide +kernel
theorem dL_parts_97 : decode cL_parts 97 = .ok (.bipush 6, 2) := by decide +kernel
theorem dL_parts_99 : decode cL_parts 99 = .ok (.iload 7, 2) := by decide +kernel
theorem dL_parts_101 : decode cL_parts 101 = .ok (.imul, 1) := by decide +kernel
theorem dL_parts_102 : decode cL_parts 102 = .ok (.iload 9, 2) := by decide +kernel
theorem dL_parts_104 : decode cL_parts 104 = .ok (.iadd, 1) := by decide +kernel
theorem dL_parts_105 : decode cL_parts 105 = .ok (.iaload, 1) := by decide +kernel
theorem dL_parts_106 : decode cL_parts 106 = .ok (.iastore, 1) := by decide +kernel
theorem dL_parts_107 : decode cL_parts 107 = .ok (.iinc 9 1, 3) := by decide +kernel
theorem dL_parts_110 : decode cL_parts 110 = .ok (.goto (-55), 3) := by decide +kernel
theorem dL_parts_113 : decode cL_parts 113 = .ok (.aload_n 3, 1) := by decide +kernel
theorem dL_parts_114 : decode cL_parts 114 = .ok (.iconst 5, 1) := by decide +kernel
theorem dL_parts_115 : decode cL_parts 115 = .ok (.iaload, 1) := by decide +kernel
theorem dL_parts_116 : decode cL_parts 116 = .ok (.bipush 6, 2) := by decide +kernel
theorem dL_parts_118 : decode cL_parts 118 = .ok (.if_icmp .ge 10, 3) := by decide +kernel
theorem dL_parts_121 : decode cL_parts 121 = .ok (.aload_n 3, 1) := by decide +kernel
theorem dL_parts_122 : decode cL_parts 122 = .ok (.iconst 5, 1) := by decide +kernel
theorem dL_parts_123 : decode cL_parts 123 = .ok (.dup2, 1) := by decide +kernel
theorem dL_parts_124 : decode cL_parts 124 = .ok (.iaload, 1) := by decide +kernel
theorem dL_parts_125 : decode cL_parts 125 = .ok (.iconst 1, 1) := by decide +kernel
theorem dL_parts_126 : decode cL_parts 126 = .ok (.iadd, 1) := by decide +kernel
theorem dL_parts_127 : decode cL_parts 127 = .ok (.iastore, 1) := by decide +kernel
theorem dL_parts_128 : decode cL_parts 128 = .ok (.aload_n 0, 1) := by decide +kernel
theorem dL_parts_129 : decode cL_parts 129 = .ok (.iload 8, 2) := by decide +kernel
theorem dL_parts_131 : decode cL_parts 131 = .ok (.invokevirtual 24, 3) := by decide +kernel
theorem dL_parts_134 : decode cL_parts 134 = .ok (.iload 7, 2) := by decide +kernel
theorem dL_parts_136 : decode cL_parts 136 = .ok (.if_icmp .ne 7, 3) := by decide +kernel
theorem dL_parts_139 : decode cL_parts 139 = .ok (.iconst 1, 1) := by decide +kernel
theorem dL_parts_140 : decode cL_parts 140 = .ok (.goto 4, 3) := by decide +kernel
theorem dL_parts_143 : decode cL_parts 143 = .ok (.iconst 0, 1) := by decide +kernel
theorem dL_parts_144 : decode cL_parts 144 = .ok (.ireturn, 1) := by decide +kernel
theorem dL_parts_145 : decode cL_parts 145 = .ok (.iload_n 2, 1) := by decide +kernel
theorem dL_parts_146 : decode cL_parts 146 = .ok (.aload_n 3, 1) := by decide +kernel
theorem dL_parts_147 : decode cL_parts 147 = .ok (.iconst 0, 1) := by decide +kernel
theorem dL_parts_148 : decode cL_parts 148 = .ok (.iaload, 1) := by decide +kernel
theorem dL_parts_149 : decode cL_parts 149 = .ok (.invokestatic 20, 3) := by decide +kernel
theorem dL_parts_152 : decode cL_parts 152 = .ok (.istore 7, 2) := by decide +kernel
theorem dL_parts_154 : decode cL_parts 154 = .ok (.iload_n 2, 1) := by decide +kernel
theorem dL_parts_155 : decode cL_parts 155 = .ok (.iconst 2, 1) := by decide +kernel
theorem dL_parts_156 : decode cL_parts 156 = .ok (.ishr, 1) := by decide +kernel
theorem dL_parts_157 : decode cL_parts 157 = .ok (.bipush 6, 2) := by decide +kernel
theorem dL_parts_159 : decode cL_parts 159 = .ok (.invokestatic 20, 3) := by decide +kernel
theorem dL_parts_162 : decode cL_parts 162 = .ok (.istore 8, 2) := by decide +kernel
theorem dL_parts_164 : decode cL_parts 164 = .ok (.iload 6, 2) := by decide +kernel
theorem dL_parts_166 : decode cL_parts 166 = .ok (.iconst 5, 1) := by decide +kernel
theorem dL_parts_167 : decode cL_parts 167 = .ok (.if_icmp .ge 117, 3) := by decide +kernel
theorem dL_parts_170 : decode cL_parts 170 = .ok (.aload 4, 2) := by decide +kernel
theorem dL_parts_172 : decode cL_parts 172 = .ok (.bipush 6, 2) := by decide +kernel
theorem dL_parts_174 : decode cL_parts 174 = .ok (.iload 7, 2) := by decide +kernel
theorem dL_parts_176 : decode cL_parts 176 = .ok (.imul, 1) := by decide +kernel
theorem dL_parts_177 : decode cL_parts 177 = .ok (.iload 8, 2) := by decide +kernel
theorem dL_parts_179 : decode cL_parts 179 = .ok (.iadd, 1) := by decide +kernel
theorem dL_parts_180 : decode cL_parts 180 = .ok (.iaload, 1) := by decide +kernel
theorem dL_parts_181 : decode cL_parts 181 = .ok (.istore 9, 2) := by decide +kernel
theorem dL_parts_183 : decode cL_parts 183 = .ok (.iload_n 2, 1) := by decide +kernel
theorem dL_parts_184 : decode cL_parts 184 = .ok (.iconst 5, 1) := by decide +kernel
theorem dL_parts_185 : decode cL_parts 185 = .ok (.ishr, 1) := by decide +kernel
theorem dL_parts_186 : decode cL_parts 186 = .ok (.bipush 10, 2) := by decide +kernel
theorem dL_parts_188 : decode cL_parts 188 = .ok (.invokestatic 20, 3) := by decide +kernel
theorem dL_parts_191 : decode cL_parts 191 = .ok (.istore 10, 2) := by decide +kernel
theorem dL_parts_193 : decode cL_parts 193 = .ok (.aload 4, 2) := by decide +kernel
theorem dL_parts_195 : decode cL_parts 195 = .ok (.iload 7, 2) := by decide +kernel
theorem dL_parts_197 : decode cL_parts 197 = .ok (.invokestatic 14, 3) := by decide +kernel
theorem dL_parts_200 : decode cL_parts 200 = .ok (.iload 9, 2) := by decide +kernel
theorem dL_parts_202 : decode cL_parts 202 = .ok (.isub, 1) := by decide +kernel
theorem dL_parts_203 : decode cL_parts 203 = .ok (.iload 10, 2) := by decide +kernel
theorem dL_parts_205 : decode cL_parts 205 = .ok (.iadd, 1) := by decide +kernel
theorem dL_parts_206 : decode cL_parts 206 = .ok (.ifCond .ne 6, 3) := by decide +kernel
theorem dL_parts_209 : decode cL_parts 209 = .ok (.iconst 3, 1) := by decide +kernel
theorem dL_parts_210 : decode cL_parts 210 = .ok (.istore 10, 2) := by decide +kernel
theorem dL_parts_212 : decode cL_parts 212 = .ok (.aload 4, 2) := by decide +kernel
theorem dL_parts_214 : decode cL_parts 214 = .ok (.bipush 6, 2) := by decide +kernel
theorem dL_parts_216 : decode cL_parts 216 = .ok (.iload 7, 2) := by decide +kernel
theorem dL_parts_218 : decode cL_parts 218 = .ok (.imul, 1) := by decide +kernel
theorem dL_parts_219 : decode cL_parts 219 = .ok (.iload 8, 2) := by decide +kernel
theorem dL_parts_221 : decode cL_parts 221 = .ok (.iadd, 1) := by decide +kernel
theorem dL_parts_222 : decode cL_parts 222 = .ok (.iload 10, 2) := by decide +kernel
theorem dL_parts_224 : decode cL_parts 224 = .ok (.iastore, 1) := by decide +kernel
theorem dL_parts_225 : decode cL_parts 225 = .ok (.iload 9, 2) := by decide +kernel
theorem dL_parts_227 : decode cL_parts 227 = .ok (.ifCond .eq 8, 3) := by decide +kernel
theorem dL_parts_230 : decode cL_parts 230 = .ok (.iload 10, 2) := by decide +kernel
theorem dL_parts_232 : decode cL_parts 232 = .ok (.ifCond .ne 16, 3) := by decide +kernel
theorem dL_parts_235 : decode cL_parts 235 = .ok (.aload 5, 2) := by decide +kernel
theorem dL_parts_237 : decode cL_parts 237 = .ok (.bipush 6, 2) := by decide +kernel
theorem dL_parts_239 : decode cL_parts 239 = .ok (.iload 7, 2) := by decide +kernel
theorem dL_parts_241 : decode cL_parts 241 = .ok (.imul, 1) := by decide +kernel
theorem dL_parts_242 : decode cL_parts 242 = .ok (.iload 8, 2) := by decide +kernel
theorem dL_parts_244 : decode cL_parts 244 = .ok (.iadd, 1) := by decide +kernel
theorem dL_parts_245 : decode cL_parts 245 = .ok (.iload 10, 2) := by decide +kernel
theorem dL_parts_247 : decode cL_parts 247 = .ok (.iastore, 1) := by decide +kernel
theorem dL_parts_248 : decode cL_parts 248 = .ok (.aload_n 3, 1) := by decide +kernel
theorem dL_parts_249 : decode cL_parts 249 = .ok (.iconst 5, 1) := by decide +kernel
theorem dL_parts_250 : decode cL_parts 250 = .ok (.iaload, 1) := by decide +kernel
theorem dL_parts_251 : decode cL_parts 251 = .ok (.bipush 6, 2) := by decide +kernel
theorem dL_parts_253 : decode cL_parts 253 = .ok (.if_icmp .ge 10, 3) := by decide +kernel
theorem dL_parts_256 : decode cL_parts 256 = .ok (.aload_n 3, 1) := by decide +kernel
theorem dL_parts_257 : decode cL_parts 257 = .ok (.iconst 5, 1) := by decide +kernel
theorem dL_parts_258 : decode cL_parts 258 = .ok (.dup2, 1) := by decide +kernel
theorem dL_parts_259 : decode cL_parts 259 = .ok (.iaload, 1) := by decide +kernel
theorem dL_parts_260 : decode cL_parts 260 = .ok (.iconst 1, 1) := by decide +kernel
theorem dL_parts_261 : decode cL_parts 261 = .ok (.iadd, 1) := by decide +kernel
theorem dL_parts_262 : decode cL_parts 262 = .ok (.iastore, 1) := by decide +kernel
theorem dL_parts_263 : decode cL_parts 263 = .ok (.aload_n 0, 1) := by decide +kernel
theorem dL_parts_264 : decode cL_parts 264 = .ok (.iload 7, 2) := by decide +kernel
theorem dL_parts_266 : decode cL_parts 266 = .ok (.iload 8, 2) := by decide +kernel
theorem dL_parts_268 : decode cL_parts 268 = .ok (.iload 10, 2) := by decide +kernel
theorem dL_parts_270 : decode cL_parts 270 = .ok (.invokevirtual 30, 3) := by decide +kernel
theorem dL_parts_273 : decode cL_parts 273 = .ok (.iload 9, 2) := by decide +kernel
theorem dL_parts_275 : decode cL_parts 275 = .ok (.if_icmp .ne 7, 3) := by decide +kernel
theorem dL_parts_278 : decode cL_parts 278 = .ok (.iconst 1, 1) := by decide +kernel
theorem dL_parts_279 : decode cL_parts 279 = .ok (.goto 4, 3) := by decide +kernel
theorem dL_parts_282 : decode cL_parts 282 = .ok (.iconst 0, 1) := by decide +kernel
theorem dL_parts_283 : decode cL_parts 283 = .ok (.ireturn, 1) := by decide +kernel
theorem dL_parts_284 : decode cL_parts 284 = .ok (.iload 6, 2) := by decide +kernel
theorem dL_parts_286 : decode cL_parts 286 = .ok (.iconst 5, 1) := by decide +kernel
theorem dL_parts_287 : decode cL_parts 287 = .ok (.if_icmp .ne 114, 3) := by decide +kernel
theorem dL_parts_290 : decode cL_parts 290 = .ok (.iload_n 2, 1) := by decide +kernel
theorem dL_parts_291 : decode cL_parts 291 = .ok (.bipush 10, 2) := by decide +kernel
theorem dL_parts_293 : decode cL_parts 293 = .ok (.invokestatic 20, 3) := by decide +kernel
theorem dL_parts_296 : decode cL_parts 296 = .ok (.istore 9, 2) := by decide +kernel
theorem dL_parts_298 : decode cL_parts 298 = .ok (.iconst 0, 1) := by decide +kernel
theorem dL_parts_299 : decode cL_parts 299 = .ok (.istore 10, 2) := by decide +kernel
theorem dL_parts_301 : decode cL_parts 301 = .ok (.iconst 0, 1) := by decide +kernel
theorem dL_parts_302 : decode cL_parts 302 = .ok (.istore 11, 2) := by decide +kernel
theorem dL_parts_304 : decode cL_parts 304 = .ok (.iload 11, 2) := by decide +kernel
theorem dL_parts_306 : decode cL_parts 306 = .ok (.bipush 6, 2) := by decide +kernel
theorem dL_parts_308 : decode cL_parts 308 = .ok (.aload_n 3, 1) := by decide +kernel
theorem dL_parts_309 : decode cL_parts 309 = .ok (.iconst 0, 1) := by decide +kernel
theorem dL_parts_310 : decode cL_parts 310 = .ok (.iaload, 1) := by decide +kernel
theorem dL_parts_311 : decode cL_parts 311 = .ok (.imul, 1) := by decide +kernel
theorem dL_parts_312 : decode cL_parts 312 = .ok (.if_icmp .ge 57, 3) := by decide +kernel
theorem dL_parts_315 : decode cL_parts 315 = .ok (.aload 5, 2) := by decide +kernel
theorem dL_parts_317 : decode cL_parts 317 = .ok (.iload 11, 2) := by decide +kernel
theorem dL_parts_319 : decode cL_parts 319 = .ok (.aload 4, 2) := by decide +kernel
theorem dL_parts_321 : decode cL_parts 321 = .ok (.iload 11, 2) := by decide +kernel
theorem dL_parts_323 : decode cL_parts 323 = .ok (.iaload, 1) := by decide +kernel
theorem dL_parts_324 : decode cL_parts 324 = .ok (.iconst 1, 1) := by decide +kernel
theorem dL_parts_325 : decode cL_parts 325 = .ok (.iload 11, 2) := by decide +kernel
theorem dL_parts_327 : decode cL_parts 327 = .ok (.bipush 6, 2) := by decide +kernel
theorem dL_parts_329 : decode cL_parts 329 = .ok (.irem, 1) := by decide +kernel
theorem dL_parts_330 : decode cL_parts 330 = .ok (.iload 9, 2) := by decide +kernel
theorem dL_parts_332 : decode cL_parts 332 = .ok (.imul, 1) := by decide +kernel
theorem dL_parts_333 : decode cL_parts 333 = .ok (.iadd, 1) := by decide +kernel
theorem dL_parts_334 : decode cL_parts 334 = .ok (.imul, 1) := by decide +kernel
theorem dL_parts_335 : decode cL_parts 335 = .ok (.iastore, 1) := by decide +kernel
theorem dL_parts_336 : decode cL_parts 336 = .ok (.aload 5, 2) := by decide +kernel
theorem dL_parts_338 : decode cL_parts 338 = .ok (.iload 11, 2) := by decide +kernel
theorem dL_parts_340 : decode cL_parts 340 = .ok (.iaload, 1) := by decide +kernel
theorem dL_parts_341 : decode cL_parts 341 = .ok (.bipush 99, 2) := by decide +kernel
theorem dL_parts_343 : decode cL_parts 343 = .ok (.if_icmp .le 10, 3) := by decide +kernel
theorem dL_parts_346 : decode cL_parts 346 = .ok (.aload 5, 2) := by decide +kernel
theorem dL_parts_348 : decode cL_parts 348 = .ok (.iload 11, 2) := by decide +kernel
theorem dL_parts_350 : decode cL_parts 350 = .ok (.bipush 99, 2) := by decide +kernel
theorem dL_parts_352 : decode cL_parts 352 = .ok (.iastore, 1) := by decide +kernel
theorem dL_parts_353 : decode cL_parts 353 = .ok (.iload 10, 2) := by decide +kernel
theorem dL_parts_355 : decode cL_parts 355 = .ok (.aload 5, 2) := by decide +kernel
theorem dL_parts_357 : decode cL_parts 357 = .ok (.iload 11, 2) := by decide +kernel
theorem dL_parts_359 : decode cL_parts 359 = .ok (.iaload, 1) := by decide +kernel
theorem dL_parts_360 : decode cL_parts 360 = .ok (.iadd, 1) := by decide +kernel
theorem dL_parts_361 : decode cL_parts 361 = .ok (.istore 10, 2) := by decide +kernel
theorem dL_parts_363 : decode cL_parts 363 = .ok (.iinc 11 1, 3) := by decide +kernel
theorem dL_parts_366 : decode cL_parts 366 = .ok (.goto (-62), 3) := by decide +kernel
theorem dL_parts_369 : decode cL_parts 369 = .ok (.aload_n 3, 1) := by decide +kernel
theorem dL_parts_370 : decode cL_parts 370 = .ok (.iconst 5, 1) := by decide +kernel
theorem dL_parts_371 : decode cL_parts 371 = .ok (.iaload, 1) := by decide +kernel
theorem dL_parts_372 : decode cL_parts 372 = .ok (.bipush 6, 2) := by decide +kernel
theorem dL_parts_374 : decode cL_parts 374 = .ok (.if_icmp .ge 10, 3) := by decide +kernel
theorem dL_parts_377 : decode cL_parts 377 = .ok (.aload_n 3, 1) := by decide +kernel
theorem dL_parts_378 : decode cL_parts 378 = .ok (.iconst 5, 1) := by decide +kernel
theorem dL_parts_379 : decode cL_parts 379 = .ok (.dup2, 1) := by decide +kernel
theorem dL_parts_380 : decode cL_parts 380 = .ok (.iaload, 1) := by decide +kernel
theorem dL_parts_381 : decode cL_parts 381 = .ok (.iconst 1, 1) := by decide +kernel
theorem dL_parts_382 : decode cL_parts 382 = .ok (.iadd, 1) := by decide +kernel
theorem dL_parts_383 : decode cL_parts 383 = .ok (.iastore, 1) := by decide +kernel
theorem dL_parts_384 : decode cL_parts 384 = .ok (.aload_n 0, 1) := by decide +kernel
theorem dL_parts_385 : decode cL_parts 385 = .ok (.iload 9, 2) := by decide +kernel
theorem dL_parts_387 : decode cL_parts 387 = .ok (.invokevirtual 34, 3) := by decide +kernel
theorem dL_parts_390 : decode cL_parts 390 = .ok (.iload 10, 2) := by decide +kernel
theorem dL_parts_392 : decode cL_parts 392 = .ok (.if_icmp .ne 7, 3) := by decide +kernel
theorem dL_parts_395 : decode cL_parts 395 = .ok (.iconst 1, 1) := by decide +kernel
theorem dL_parts_396 : decode cL_parts 396 = .ok (.goto 4, 3) := by decide +kernel
theorem dL_parts_399 : decode cL_parts 399 = .ok (.iconst 0, 1) := by decide +kernel
theorem dL_parts_400 : decode cL_parts 400 = .ok (.ireturn, 1) := by decide +kernel
theorem dL_parts_401 : decode cL_parts 401 = .ok (.iload 6, 2) := by decide +kernel
theorem dL_parts_403 : decode cL_parts 403 = .ok (.bipush 6, 2) := by decide +kernel
theorem dL_parts_405 : decode cL_parts 405 = .ok (.if_icmp .ne 96, 3) := by decide +kernel
theorem dL_parts_408 : decode cL_parts 408 = .ok (.aload 4, 2) := by decide +kernel
theorem dL_parts_410 : decode cL_parts 410 = .ok (.bipush 6, 2) := by decide +kernel
theorem dL_parts_412 : decode cL_parts 412 = .ok (.iload 7, 2) := by decide +kernel
theorem dL_parts_414 : decode cL_parts 414 = .ok (.imul, 1) := by decide +kernel
theorem dL_parts_415 : decode cL_parts 415 = .ok (.iload 8, 2) := by decide +kernel
theorem dL_parts_417 : decode cL_parts 417 = .ok (.iadd, 1) := by decide +kernel
theorem dL_parts_418 : decode cL_parts 418 = .ok (.iaload, 1) := by decide +kernel
theorem dL_parts_419 : decode cL_parts 419 = .ok (.ifCond .le 82, 3) := by decide +kernel
theorem dL_parts_422 : decode cL_parts 422 = .ok (.aload 5, 2) := by decide +kernel
theorem dL_parts_424 : decode cL_parts 424 = .ok (.bipush 6, 2) := by decide +kernel
theorem dL_parts_426 : decode cL_parts 426 = .ok (.iload 7, 2) := by decide +kernel
theorem dL_parts_428 : decode cL_parts 428 = .ok (.imul, 1) := by decide +kernel
theorem dL_parts_429 : decode cL_parts 429 = .ok (.iload 8, 2) := by decide +kernel
theorem dL_parts_431 : decode cL_parts 431 = .ok (.iadd, 1) := by decide +kernel
theorem dL_parts_432 : decode cL_parts 432 = .ok (.iaload, 1) := by decide +kernel
theorem dL_parts_433 : decode cL_parts 433 = .ok (.istore 9, 2) := by decide +kernel
theorem dL_parts_435 : decode cL_parts 435 = .ok (.aload 5, 2) := by decide +kernel
theorem dL_parts_437 : decode cL_parts 437 = .ok (.bipush 6, 2) := by decide +kernel
theorem dL_parts_439 : decode cL_parts 439 = .ok (.iload 7, 2) := by decide +kernel
theorem dL_parts_441 : decode cL_parts 441 = .ok (.imul, 1) := by decide +kernel
theorem dL_parts_442 : decode cL_parts 442 = .ok (.iload 8, 2) := by decide +kernel
theorem dL_parts_444 : decode cL_parts 444 = .ok (.iadd, 1) := by decide +kernel
theorem dL_parts_445 : decode cL_parts 445 = .ok (.iconst 1, 1) := by decide +kernel
theorem dL_parts_446 : decode cL_parts 446 = .ok (.iload_n 2, 1) := by decide +kernel
theorem dL_parts_447 : decode cL_parts 447 = .ok (.iconst 5, 1) := by decide +kernel
theorem dL_parts_448 : decode cL_parts 448 = .ok (.ishr, 1) := by decide +kernel
theorem dL_parts_449 : decode cL_parts 449 = .ok (.bipush 99, 2) := by decide +kernel
theorem dL_parts_451 : decode cL_parts 451 = .ok (.invokestatic 20, 3) := by decide +kernel
theorem dL_parts_454 : decode cL_parts 454 = .ok (.iadd, 1) := by decide +kernel
theorem dL_parts_455 : decode cL_parts 455 = .ok (.iastore, 1) := by decide +kernel
theorem dL_parts_456 : decode cL_parts 456 = .ok (.aload_n 3, 1) := by decide +kernel
theorem dL_parts_457 : decode cL_parts 457 = .ok (.iconst 5, 1) := by decide +kernel
theorem dL_parts_458 : decode cL_parts 458 = .ok (.iaload, 1) := by decide +kernel
theorem dL_parts_459 : decode cL_parts 459 = .ok (.bipush 6, 2) := by decide +kernel
theorem dL_parts_461 : decode cL_parts 461 = .ok (.if_icmp .ge 10, 3) := by decide +kernel
theorem dL_parts_464 : decode cL_parts 464 = .ok (.aload_n 3, 1) := by decide +kernel
theorem dL_parts_465 : decode cL_parts 465 = .ok (.iconst 5, 1) := by decide +kernel
theorem dL_parts_466 : decode cL_parts 466 = .ok (.dup2, 1) := by decide +kernel
theorem dL_parts_467 : decode cL_parts 467 = .ok (.iaload, 1) := by decide +kernel
theorem dL_parts_468 : decode cL_parts 468 = .ok (.iconst 1, 1) := by decide +kernel
theorem dL_parts_469 : decode cL_parts 469 = .ok (.iadd, 1) := by decide +kernel
theorem dL_parts_470 : decode cL_parts 470 = .ok (.iastore, 1) := by decide +kernel
theorem dL_parts_471 : decode cL_parts 471 = .ok (.aload_n 0, 1) := by decide +kernel
theorem dL_parts_472 : decode cL_parts 472 = .ok (.iload 7, 2) := by decide +kernel
theorem dL_parts_474 : decode cL_parts 474 = .ok (.iload 8, 2) := by decide +kernel
theorem dL_parts_476 : decode cL_parts 476 = .ok (.aload 5, 2) := by decide +kernel
theorem dL_parts_478 : decode cL_parts 478 = .ok (.bipush 6, 2) := by decide +kernel
theorem dL_parts_480 : decode cL_parts 480 = .ok (.iload 7, 2) := by decide +kernel
theorem dL_parts_482 : decode cL_parts 482 = .ok (.imul, 1) := by decide +kernel
theorem dL_parts_483 : decode cL_parts 483 = .ok (.iload 8, 2) := by decide +kernel
theorem dL_parts_485 : decode cL_parts 485 = .ok (.iadd, 1) := by decide +kernel
theorem dL_parts_486 : decode cL_parts 486 = .ok (.iaload, 1) := by decide +kernel
theorem dL_parts_487 : decode cL_parts 487 = .ok (.invokevirtual 37, 3) := by decide +kernel
theorem dL_parts_490 : decode cL_parts 490 = .ok (.iload 9, 2) := by decide +kernel
theorem dL_parts_492 : decode cL_parts 492 = .ok (.if_icmp .ne 7, 3) := by decide +kernel
theorem dL_parts_495 : decode cL_parts 495 = .ok (.iconst 1, 1) := by decide +kernel
theorem dL_parts_496 : decode cL_parts 496 = .ok (.goto 4, 3) := by decide +kernel
theorem dL_parts_499 : decode cL_parts 499 = .ok (.iconst 0, 1) := by decide +kernel
theorem dL_parts_500 : decode cL_parts 500 = .ok (.ireturn, 1) := by decide +kernel
theorem dL_parts_501 : decode cL_parts 501 = .ok (.aload_n 3, 1) := by decide +kernel
theorem dL_parts_502 : decode cL_parts 502 = .ok (.iconst 5, 1) := by decide +kernel
theorem dL_parts_503 : decode cL_parts 503 = .ok (.iaload, 1) := by decide +kernel
theorem dL_parts_504 : decode cL_parts 504 = .ok (.bipush 6, 2) := by decide +kernel
theorem dL_parts_506 : decode cL_parts 506 = .ok (.if_icmp .ge 10, 3) := by decide +kernel
theorem dL_parts_509 : decode cL_parts 509 = .ok (.aload_n 3, 1) := by decide +kernel
theorem dL_parts_510 : decode cL_parts 510 = .ok (.iconst 5, 1) := by decide +kernel
theorem dL_parts_511 : decode cL_parts 511 = .ok (.dup2, 1) := by decide +kernel
theorem dL_parts_512 : decode cL_parts 512 = .ok (.iaload, 1) := by decide +kernel
theorem dL_parts_513 : decode cL_parts 513 = .ok (.iconst 1, 1) := by decide +kernel
theorem dL_parts_514 : decode cL_parts 514 = .ok (.iadd, 1) := by decide +kernel
theorem dL_parts_515 : decode cL_parts 515 = .ok (.iastore, 1) := by decide +kernel
theorem dL_parts_516 : decode cL_parts 516 = .ok (.iload 6, 2) := by decide +kernel
theorem dL_parts_518 : decode cL_parts 518 = .ok (.bipush 7, 2) := by decide +kernel
theorem dL_parts_520 : decode cL_parts 520 = .ok (.if_icmp .ne 88, 3) := by decide +kernel
theorem dL_parts_523 : decode cL_parts 523 = .ok (.iload_n 2, 1) := by decide +kernel
theorem dL_parts_524 : decode cL_parts 524 = .ok (.iconst 5, 1) := by decide +kernel
theorem dL_parts_525 : decode cL_parts 525 = .ok (.ishr, 1) := by decide +kernel
theorem dL_parts_526 : decode cL_parts 526 = .ok (.iconst 2, 1) := by decide +kernel
theorem dL_parts_527 : decode cL_parts 527 = .ok (.invokestatic 20, 3) := by decide +kernel
theorem dL_parts_530 : decode cL_parts 530 = .ok (.ifCond .ne 78, 3) := by decide +kernel
theorem dL_parts_533 : decode cL_parts 533 = .ok (.aload_n 3, 1) := by decide +kernel
theorem dL_parts_534 : decode cL_parts 534 = .ok (.iconst 0, 1) := by decide +kernel
theorem dL_parts_535 : decode cL_parts 535 = .ok (.dup2, 1) := by decide +kernel
theorem dL_parts_536 : decode cL_parts 536 = .ok (.iaload, 1) := by decide +kernel
theorem dL_parts_537 : decode cL_parts 537 = .ok (.iconst 1, 1) := by decide +kernel
theorem dL_parts_538 : decode cL_parts 538 = .ok (.isub, 1) := by decide +kernel
theorem dL_parts_539 : decode cL_parts 539 = .ok (.iastore, 1) := by decide +kernel
theorem dL_parts_540 : decode cL_parts 540 = .ok (.bipush 6, 2) := by decide +kernel
theorem dL_parts_542 : decode cL_parts 542 = .ok (.iload 7, 2) := by decide +kernel
theorem dL_parts_544 : decode cL_parts 544 = .ok (.imul, 1) := by decide +kernel
theorem dL_parts_545 : decode cL_parts 545 = .ok (.istore 9, 2) := by decide +kernel
theorem dL_parts_547 : decode cL_parts 547 = .ok (.iload 9, 2) := by decide +kernel
theorem dL_parts_549 : decode cL_parts 549 = .ok (.bipush 6, 2) := by decide +kernel
theorem dL_parts_551 : decode cL_parts 551 = .ok (.aload_n 3, 1) := by decide +kernel
theorem dL_parts_552 : decode cL_parts 552 = .ok (.iconst 0, 1) := by decide +kernel
theorem dL_parts_553 : decode cL_parts 553 = .ok (.iaload, 1) := by decide +kernel
theorem dL_parts_554 : decode cL_parts 554 = .ok (.imul, 1) := by decide +kernel
theorem dL_parts_555 : decode cL_parts 555 = .ok (.if_icmp .ge 35, 3) := by decide +kernel
theorem dL_parts_558 : decode cL_parts 558 = .ok (.aload 4, 2) := by decide +kernel
theorem dL_parts_560 : decode cL_parts 560 = .ok (.iload 9, 2) := by decide +kernel
theorem dL_parts_562 : decode cL_parts 562 = .ok (.aload 4, 2) := by decide +kernel
theorem dL_parts_564 : decode cL_parts 564 = .ok (.iload 9, 2) := by decide +kernel
theorem dL_parts_566 : decode cL_parts 566 = .ok (.bipush 6, 2) := by decide +kernel
theorem dL_parts_568 : decode cL_parts 568 = .ok (.iadd, 1) := by decide +kernel
theorem dL_parts_569 : decode cL_parts 569 = .ok (.iaload, 1) := by decide +kernel
theorem dL_parts_570 : decode cL_parts 570 = .ok (.iastore, 1) := by decide +kernel
theorem dL_parts_571 : decode cL_parts 571 = .ok (.aload 5, 2) := by decide +kernel
theorem dL_parts_573 : decode cL_parts 573 = .ok (.iload 9, 2) := by decide +kernel
theorem dL_parts_575 : decode cL_parts 575 = .ok (.aload 5, 2) := by decide +kernel
theorem dL_parts_577 : decode cL_parts 577 = .ok (.iload 9, 2) := by decide +kernel
theorem dL_parts_579 : decode cL_parts 579 = .ok (.bipush 6, 2) := by decide +kernel
theorem dL_parts_581 : decode cL_parts 581 = .ok (.iadd, 1) := by decide +kernel
theorem dL_parts_582 : decode cL_parts 582 = .ok (.iaload, 1) := by decide +kernel
theorem dL_parts_583 : decode cL_parts 583 = .ok (.iastore, 1) := by decide +kernel
theorem dL_parts_584 : decode cL_parts 584 = .ok (.iinc 9 1, 3) := by decide +kernel
theorem dL_parts_587 : decode cL_parts 587 = .ok (.goto (-40), 3) := by decide +kernel
theorem dL_parts_590 : decode cL_parts 590 = .ok (.aload_n 0, 1) := by decide +kernel
theorem dL_parts_591 : decode cL_parts 591 = .ok (.iload 7, 2) := by decide +kernel
theorem dL_parts_593 : decode cL_parts 593 = .ok (.invokevirtual 40, 3) := by decide +kernel
theorem dL_parts_596 : decode cL_parts 596 = .ok (.aload_n 3, 1) := by decide +kernel
theorem dL_parts_597 : decode cL_parts 597 = .ok (.iconst 0, 1) := by decide +kernel
theorem dL_parts_598 : decode cL_parts 598 = .ok (.iaload, 1) := by decide +kernel
theorem dL_parts_599 : decode cL_parts 599 = .ok (.if_icmp .ne 7, 3) := by decide +kernel
theorem dL_parts_602 : decode cL_parts 602 = .ok (.iconst 1, 1) := by decide +kernel
theorem dL_parts_603 : decode cL_parts 603 = .ok (.goto 4, 3) := by decide +kernel
theorem dL_parts_606 : decode cL_parts 606 = .ok (.iconst 0, 1) := by decide +kernel
theorem dL_parts_607 : decode cL_parts 607 = .ok (.ireturn, 1) := by decide +kernel
theorem dL_parts_608 : decode cL_parts 608 = .ok (.aload_n 3, 1) := by decide +kernel
theorem dL_parts_609 : decode cL_parts 609 = .ok (.iconst 1, 1) := by decide +kernel
theorem dL_parts_610 : decode cL_parts 610 = .ok (.iaload, 1) := by decide +kernel
theorem dL_parts_611 : decode cL_parts 611 = .ok (.istore 9, 2) := by decide +kernel
theorem dL_parts_613 : decode cL_parts 613 = .ok (.aload_n 3, 1) := by decide +kernel
theorem dL_parts_614 : decode cL_parts 614 = .ok (.iconst 1, 1) := by decide +kernel
theorem dL_parts_615 : decode cL_parts 615 = .ok (.iload_n 2, 1) := by decide +kernel
theorem dL_parts_616 : decode cL_parts 616 = .ok (.bipush 16, 2) := by decide +kernel
theorem dL_parts_618 : decode cL_parts 618 = .ok (.invokestatic 20, 3) := by decide +kernel
theorem dL_parts_621 : decode cL_parts 621 = .ok (.iastore, 1) := by decide +kernel
theorem dL_parts_622 : decode cL_parts 622 = .ok (.aload_n 0, 1) := by decide +kernel
theorem dL_parts_623 : decode cL_parts 623 = .ok (.aload_n 3, 1) := by decide +kernel
theorem dL_parts_624 : decode cL_parts 624 = .ok (.iconst 1, 1) := by decide +kernel
theorem dL_parts_625 : decode cL_parts 625 = .ok (.iaload, 1) := by decide +kernel
theorem dL_parts_626 : decode cL_parts 626 = .ok (.invokevirtual 43, 3) := by decide +kernel
theorem dL_parts_629 : decode cL_parts 629 = .ok (.iload 9, 2) := by decide +kernel
theorem dL_parts_631 : decode cL_parts 631 = .ok (.if_icmp .ne 7, 3) := by decide +kernel
theorem dL_parts_634 : decode cL_parts 634 = .ok (.iconst 1, 1) := by decide +kernel
theorem dL_parts_635 : decode cL_parts 635 = .ok (.goto 4, 3) := by decide +kernel
theorem dL_parts_638 : decode cL_parts 638 = .ok (.iconst 0, 1) := by decide +kernel
theorem dL_parts_639 : decode cL_parts 639 = .ok (.ireturn, 1) := by decide +kernel
theorem dL_samples_0 : decode cL_samples 0 = .ok (.aload_n 3, 1) := by decide +kernel
theorem dL_samples_1 : decode cL_samples 1 = .ok (.iconst 5, 1) := by decide +kernel
theorem dL_samples_2 : decode cL_samples 2 = .ok (.iaload, 1) := by decide +kernel
theorem dL_samples_3 : decode cL_samples 3 = .ok (.bipush 6, 2) := by decide +kernel
theorem dL_samples_5 : decode cL_samples 5 = .ok (.if_icmp .ge 10, 3) := by decide +kernel
theorem dL_samples_8 : decode cL_samples 8 = .ok (.aload_n 3, 1) := by decide +kernel
theorem dL_samples_9 : decode cL_samples 9 = .ok (.iconst 5, 1) := by decide +kernel
theorem dL_samples_10 : decode cL_samples 10 = .ok (.dup2, 1) := by decide +kernel
theorem dL_samples_11 : decode cL_samples 11 = .ok (.iaload, 1) := by decide +kernel
theorem dL_samples_12 : decode cL_samples 12 = .ok (.iconst 1, 1) := by decide +kernel
theorem dL_samples_13 : decode cL_samples 13 = .ok (.iadd, 1) := by decide +kernel
theorem dL_samples_14 : decode cL_samples 14 = .ok (.iastore, 1) := by decide +kernel
theorem dL_samples_15 : decode cL_samples 15 = .ok (.iload_n 1, 1) := by decide +kernel
theorem dL_samples_16 : decode cL_samples 16 = .ok (.bipush 7, 2) := by decide +kernel
theorem dL_samples_18 : decode cL_samples 18 = .ok (.invokestatic 20, 3) := by decide +kernel
theorem dL_samples_21 : decode cL_samples 21 = .ok (.ifCond .ne 33, 3) := by decide +kernel
theorem dL_samples_24 : decode cL_samples 24 = .ok (.aload_n 3, 1) := by decide +kernel
theorem dL_samples_25 : decode cL_samples 25 = .ok (.iconst 2, 1) := by decide +kernel
theorem dL_samples_26 : decode cL_samples 26 = .ok (.iaload, 1) := by decide +kernel
theorem dL_samples_27 : decode cL_samples 27 = .ok (.istore 6, 2) := by decide +kernel
theorem dL_samples_29 : decode cL_samples 29 = .ok (.aload_n 3, 1) := by decide +kernel
theorem dL_samples_30 : decode cL_samples 30 = .ok (.iconst 2, 1) := by decide +kernel
theorem dL_samples_31 : decode cL_samples 31 = .ok (.iload_n 2, 1) := by decide +kernel
theorem dL_samples_32 : decode cL_samples 32 = .ok (.ldc 46, 2) := by decide +kernel
theorem dL_samples_34 : decode cL_samples 34 = .ok (.iand, 1) := by decide +kernel
theorem dL_samples_35 : decode cL_samples 35 = .ok (.iastore, 1) := by decide +kernel
theorem dL_samples_36 : decode cL_samples 36 = .ok (.aload_n 0, 1) := by decide +kernel
theorem dL_samples_37 : decode cL_samples 37 = .ok (.aload_n 3, 1) := by decide +kernel
theorem dL_samples_38 : decode cL_samples 38 = .ok (.iconst 2, 1) := by decide +kernel
theorem dL_samples_39 : decode cL_samples 39 = .ok (.iaload, 1) := by decide +kernel
theorem dL_samples_40 : decode cL_samples 40 = .ok (.invokevirtual 47, 3) := by decide +kernel
theorem dL_samples_43 : decode cL_samples 43 = .ok (.iload 6, 2) := by decide +kernel
theorem dL_samples_45 : decode cL_samples 45 = .ok (.if_icmp .ne 7, 3) := by decide +kernel
theorem dL_samples_48 : decode cL_samples 48 = .ok (.iconst 1, 1) := by decide +kernel
theorem dL_samples_49 : decode cL_samples 49 = .ok (.goto 4, 3) := by decide +kernel
theorem dL_samples_52 : decode cL_samples 52 = .ok (.iconst 0, 1) := by decide +kernel
theorem dL_samples_53 : decode cL_samples 53 = .ok (.ireturn, 1) := by decide +kernel
theorem dL_samples_54 : decode cL_samples 54 = .ok (.iconst 1, 1) := by decide +kernel
theorem dL_samples_55 : decode cL_samples 55 = .ok (.iload_n 2, 1) := by decide +kernel
theorem dL_samples_56 : decode cL_samples 56 = .ok (.iload_n 1, 1) := by decide +kernel
theorem dL_samples_57 : decode cL_samples 57 = .ok (.iconst 3, 1) := by decide +kernel
theorem dL_samples_58 : decode cL_samples 58 = .ok (.ishr, 1) := by decide +kernel
theorem dL_samples_59 : decode cL_samples 59 = .ok (.iconst 4, 1) := by decide +kernel
theorem dL_samples_60 : decode cL_samples 60 = .ok (.invokestatic 20, 3) := by decide +kernel
theorem dL_samples_63 : decode cL_samples 63 = .ok (.ifCond .ne 8, 3) := by decide +kernel
theorem dL_samples_66 : decode cL_samples 66 = .ok (.bipush 64, 2) := by decide +kernel
theorem dL_samples_68 : decode cL_samples 68 = .ok (.goto 4, 3) := by decide +kernel
theorem dL_samples_71 : decode cL_samples 71 = .ok (.iconst 5, 1) := by decide +kernel
theorem dL_samples_72 : decode cL_samples 72 = .ok (.invokestatic 20, 3) := by decide +kernel
theorem dL_samples_75 : decode cL_samples 75 = .ok (.iadd, 1) := by decide +kernel
theorem dL_samples_76 : decode cL_samples 76 = .ok (.istore 6, 2) := by decide +kernel
theorem dL_samples_78 : decode cL_samples 78 = .ok (.iconst 0, 1) := by decide +kernel
theorem dL_samples_79 : decode cL_samples 79 = .ok (.istore 7, 2) := by decide +kernel
theorem dL_samples_81 : decode cL_samples 81 = .ok (.iconst 0, 1) := by decide +kernel
theorem dL_samples_82 : decode cL_samples 82 = .ok (.istore 8, 2) := by decide +kernel
theorem dL_samples_84 : decode cL_samples 84 = .ok (.iload 8, 2) := by decide +kernel
theorem dL_samples_86 : decode cL_samples 86 = .ok (.iload 6, 2) := by decide +kernel
theorem dL_samples_88 : decode cL_samples 88 = .ok (.if_icmp .ge 63, 3) := by decide +kernel
theorem dL_samples_91 : decode cL_samples 91 = .ok (.iconst 0, 1) := by decide +kernel
theorem dL_samples_92 : decode cL_samples 92 = .ok (.istore 9, 2) := by decide +kernel
theorem dL_samples_94 : decode cL_samples 94 = .ok (.iconst 0, 1) := by decide +kernel
theorem dL_samples_95 : decode cL_samples 95 = .ok (.istore 10, 2) := by decide +kernel
theorem dL_samples_97 : decode cL_samples 97 = .ok (.iload 10, 2) := by decide +kernel
theorem dL_samples_99 : decode cL_samples 99 = .ok (.aload_n 3, 1) := by decide +kernel
theorem dL_samples_100 : decode cL_samples 100 = .ok (.iconst 0, 1) := by decide +kernel
theorem dL_samples_101 : decode cL_samples 101 = .ok (.iaload, 1) := by decide +kernel
theorem dL_samples_102 : decode cL_samples 102 = .ok (.if_icmp .ge 32, 3) := by decide +kernel
theorem dL_samples_105 : decode cL_samples 105 = .ok (.aload 5, 2) := by decide +kernel
theorem dL_samples_107 : decode cL_samples 107 = .ok (.iload 10, 2) := by decide +kernel
theorem dL_samples_109 : decode cL_samples 109 = .ok (.aload_n 3, 1) := by decide +kernel
theorem dL_samples_110 : decode cL_samples 110 = .ok (.aload 4, 2) := by decide +kernel
theorem dL_samples_112 : decode cL_samples 112 = .ok (.iload 10, 2) := by decide +kernel
theorem dL_samples_114 : decode cL_samples 114 = .ok (.invokestatic 50, 3) := by decide +kernel
theorem dL_samples_117 : decode cL_samples 117 = .ok (.iastore, 1) := by decide +kernel
theorem dL_samples_118 : decode cL_samples 118 = .ok (.iload 9, 2) := by decide +kernel
theorem dL_samples_120 : decode cL_samples 120 = .ok (.aload 5, 2) := by decide +kernel
theorem dL_samples_122 : decode cL_samples 122 = .ok (.iload 10, 2) := by decide +kernel
theorem dL_samples_124 : decode cL_samples 124 = .ok (.iaload, 1) := by decide +kernel
theorem dL_samples_125 : decode cL_samples 125 = .ok (.iadd, 1) := by decide +kernel
theorem dL_samples_126 : decode cL_samples 126 = .ok (.istore 9, 2) := by decide +kernel
theorem dL_samples_128 : decode cL_samples 128 = .ok (.iinc 10 1, 3) := by decide +kernel
theorem dL_samples_131 : decode cL_samples 131 = .ok (.goto (-34), 3) := by decide +kernel
theorem dL_samples_134 : decode cL_samples 134 = .ok (.iload 9, 2) := by decide +kernel
theorem dL_samples_136 : decode cL_samples 136 = .ok (.aload_n 3, 1) := by decide +kernel
theorem dL_samples_137 : decode cL_samples 137 = .ok (.iconst 1, 1) := by decide +kernel
theorem dL_samples_138 : decode cL_samples 138 = .ok (.iaload, 1) := by decide +kernel
theorem dL_samples_139 : decode cL_samples 139 = .ok (.if_icmp .lt 6, 3) := by decide +kernel
theorem dL_samples_142 : decode cL_samples 142 = .ok (.iinc 7 1, 3) := by decide +kernel
theorem dL_samples_145 : decode cL_samples 145 = .ok (.iinc 8 1, 3) := by decide +kernel
theorem dL_samples_148 : decode cL_samples 148 = .ok (.goto (-64), 3) := by decide +kernel
theorem dL_samples_151 : decode cL_samples 151 = .ok (.aload_n 3, 1) := by decide +kernel
theorem dL_samples_152 : decode cL_samples 152 = .ok (.iconst 3, 1) := by decide +kernel
theorem dL_samples_153 : decode cL_samples 153 = .ok (.dup2, 1) := by decide +kernel
theorem dL_samples_154 : decode cL_samples 154 = .ok (.iaload, 1) := by decide +kernel
theorem dL_samples_155 : decode cL_samples 155 = .ok (.iload 6, 2) := by decide +kernel
theorem dL_samples_157 : decode cL_samples 157 = .ok (.iadd, 1) := by decide +kernel
theorem dL_samples_158 : decode cL_samples 158 = .ok (.iastore, 1) := by decide +kernel
theorem dL_samples_159 : decode cL_samples 159 = .ok (.aload_n 3, 1) := by decide +kernel
theorem dL_samples_160 : decode cL_samples 160 = .ok (.iconst 4, 1) := by decide +kernel
theorem dL_samples_161 : decode cL_samples 161 = .ok (.dup2, 1) := by decide +kernel
theorem dL_samples_162 : decode cL_samples 162 = .ok (.iaload, 1) := by decide +kernel
theorem dL_samples_163 : decode cL_samples 163 = .ok (.iload 7, 2) := by decide +kernel
theorem dL_samples_165 : decode cL_samples 165 = .ok (.iadd, 1) := by decide +kernel
theorem dL_samples_166 : decode cL_samples 166 = .ok (.iastore, 1) := by decide +kernel
theorem dL_samples_167 : decode cL_samples 167 = .ok (.aload_n 0, 1) := by decide +kernel
theorem dL_samples_168 : decode cL_samples 168 = .ok (.iload 6, 2) := by decide +kernel
theorem dL_samples_170 : decode cL_samples 170 = .ok (.invokevirtual 54, 3) := by decide +kernel
theorem dL_samples_173 : decode cL_samples 173 = .ok (.iload 7, 2) := by decide +kernel
theorem dL_samples_175 : decode cL_samples 175 = .ok (.if_icmp .ne 7, 3) := by decide +kernel
theorem dL_samples_178 : decode cL_samples 178 = .ok (.iconst 1, 1) := by decide +kernel
theorem dL_samples_179 : decode cL_samples 179 = .ok (.goto 4, 3) := by decide +kernel
theorem dL_samples_182 : decode cL_samples 182 = .ok (.iconst 0, 1) := by decide +kernel
theorem dL_samples_183 : decode cL_samples 183 = .ok (.ireturn, 1) := by decide +kernel
theorem dL_rows_0 : decode cL_rows 0 = .ok (.iload_n 1, 1) := by decide +kernel
theorem dL_rows_1 : decode cL_rows 1 = .ok (.bipush 17, 2) := by decide +kernel
theorem dL_rows_3 : decode cL_rows 3 = .ok (.invokestatic 20, 3) := by decide +kernel
theorem dL_rows_6 : decode cL_rows 6 = .ok (.istore 4, 2) := by decide +kernel
theorem dL_rows_8 : decode cL_rows 8 = .ok (.aload_n 2, 1) := by decide +kernel
theorem dL_rows_9 : decode cL_rows 9 = .ok (.iconst 0, 1) := by decide +kernel
theorem dL_rows_10 : decode cL_rows 10 = .ok (.iaload, 1) := by decide +kernel
theorem dL_rows_11 : decode cL_rows 11 = .ok (.ifCond .ne 7, 3) := by decide +kernel
theorem dL_rows_14 : decode cL_rows 14 = .ok (.iconst 1, 1) := by decide +kernel
theorem dL_rows_15 : decode cL_rows 15 = .ok (.goto 30, 3) := by decide +kernel
theorem dL_rows_18 : decode cL_rows 18 = .ok (.aload_n 2, 1) := by decide +kernel
theorem dL_rows_19 : decode cL_rows 19 = .ok (.iconst 0, 1) := by decide +kernel
theorem dL_rows_20 : decode cL_rows 20 = .ok (.iaload, 1) := by decide +kernel
theorem dL_rows_21 : decode cL_rows 21 = .ok (.iconst 1, 1) := by decide +kernel
theorem dL_rows_22 : decode cL_rows 22 = .ok (.if_icmp .ne 8, 3) := by decide +kernel
theorem dL_rows_25 : decode cL_rows 25 = .ok (.bipush 6, 2) := by decide +kernel
theorem dL_rows_27 : decode cL_rows 27 = .ok (.goto 18, 3) := by decide +kernel
theorem dL_rows_30 : decode cL_rows 30 = .ok (.aload_n 2, 1) := by decide +kernel
theorem dL_rows_31 : decode cL_rows 31 = .ok (.iconst 0, 1) := by decide +kernel
theorem dL_rows_32 : decode cL_rows 32 = .ok (.iaload, 1) := by decide +kernel
theorem dL_rows_33 : decode cL_rows 33 = .ok (.iconst 2, 1) := by decide +kernel
theorem dL_rows_34 : decode cL_rows 34 = .ok (.if_icmp .ne 8, 3) := by decide +kernel
theorem dL_rows_37 : decode cL_rows 37 = .ok (.bipush 36, 2) := by decide +kernel
theorem dL_rows_39 : decode cL_rows 39 = .ok (.goto 6, 3) := by decide +kernel
theorem dL_rows_42 : decode cL_rows 42 = .ok (.sipush 216, 3) := by decide +kernel
theorem dL_rows_45 : decode cL_rows 45 = .ok (.istore 5, 2) := by decide +kernel
theorem dL_rows_47 : decode cL_rows 47 = .ok (.iconst 0, 1) := by decide +kernel
theorem dL_rows_48 : decode cL_rows 48 = .ok (.istore 6, 2) := by decide +kernel
theorem dL_rows_50 : decode cL_rows 50 = .ok (.iconst 0, 1) := by decide +kernel
theorem dL_rows_51 : decode cL_rows 51 = .ok (.istore 7, 2) := by decide +kernel
theorem dL_rows_53 : decode cL_rows 53 = .ok (.iconst 0, 1) := by decide +kernel
theorem dL_rows_54 : decode cL_rows 54 = .ok (.istore 8, 2) := by decide +kernel
theorem dL_rows_56 : decode cL_rows 56 = .ok (.iconst 0, 1) := by decide +kernel
theorem dL_rows_57 : decode cL_rows 57 = .ok (.istore 9, 2) := by decide +kernel
theorem dL_rows_59 : decode cL_rows 59 = .ok (.iconst 0, 1) := by decide +kernel
theorem dL_rows_60 : decode cL_rows 60 = .ok (.istore 10, 2) := by decide +kernel
theorem dL_rows_62 : decode cL_rows 62 = .ok (.iconst 0, 1) := by decide +kernel
theorem dL_rows_63 : decode cL_rows 63 = .ok (.istore 11, 2) := by decide +kernel
theorem dL_rows_65 : decode cL_rows 65 = .ok (.iconst 0, 1) := by decide +kernel
theorem dL_rows_66 : decode cL_rows 66 = .ok (.istore 12, 2) := by decide +kernel
theorem dL_rows_68 : decode cL_rows 68 = .ok (.iload 12, 2) := by decide +kernel
theorem dL_rows_70 : decode cL_rows 70 = .ok (.iload 5, 2) := by decide +kernel
theorem dL_rows_72 : decode cL_rows 72 = .ok (.if_icmp .ge 140, 3) := by decide +kernel
theorem dL_rows_75 : decode cL_rows 75 = .ok (.iconst 1, 1) := by decide +kernel
theorem dL_rows_76 : decode cL_rows 76 = .ok (.istore 13, 2) := by decide +kernel
theorem dL_rows_78 : decode cL_rows 78 = .ok (.iconst 0, 1) := by decide +kernel
theorem dL_rows_79 : decode cL_rows 79 = .ok (.istore 14, 2) := by decide +kernel
theorem dL_rows_81 : decode cL_rows 81 = .ok (.aload_n 2, 1) := by decide +kernel
theorem dL_rows_82 : decode cL_rows 82 = .ok (.iconst 0, 1) := by decide +kernel
theorem dL_rows_83 : decode cL_rows 83 = .ok (.iaload, 1) := by decide +kernel
theorem dL_rows_84 : decode cL_rows 84 = .ok (.iconst 1, 1) := by decide +kernel
theorem dL_rows_85 : decode cL_rows 85 = .ok (.isub, 1) := by decide +kernel
theorem dL_rows_86 : decode cL_rows 86 = .ok (.istore 15, 2) := by decide +kernel
theorem dL_rows_88 : decode cL_rows 88 = .ok (.iload 12, 2) := by decide +kernel
theorem dL_rows_90 : decode cL_rows 90 = .ok (.istore 16, 2) := by decide +kernel
theorem dL_rows_92 : decode cL_rows 92 = .ok (.iload 15, 2) := by decide +kernel
theorem dL_rows_94 : decode cL_rows 94 = .ok (.ifCond .lt 44, 3) := by decide +kernel
theorem dL_rows_97 : decode cL_rows 97 = .ok (.iload 13, 2) := by decide +kernel
theorem dL_rows_99 : decode cL_rows 99 = .ok (.aload_n 3, 1) := by decide +kernel
theorem dL_rows_100 : decode cL_rows 100 = .ok (.bipush 6, 2) := by decide +kernel
theorem dL_rows_102 : decode cL_rows 102 = .ok (.iload 15, 2) := by decide +kernel
theorem dL_rows_104 : decode cL_rows 104 = .ok (.imul, 1) := by decide +kernel
theorem dL_rows_105 : decode cL_rows 105 = .ok (.iload 16, 2) := by decide +kernel
theorem dL_rows_107 : decode cL_rows 107 = .ok (.bipush 6, 2) := by decide +kernel
theorem dL_rows_109 : decode cL_rows 109 = .ok (.irem, 1) := by decide +kernel
theorem dL_rows_110 : decode cL_rows 110 = .ok (.iadd, 1) := by decide +kernel
theorem dL_rows_111 : decode cL_rows 111 = .ok (.iaload, 1) := by decide +kernel
theorem dL_rows_112 : decode cL_rows 112 = .ok (.imul, 1) := by decide +kernel
theorem dL_rows_113 : decode cL_rows 113 = .ok (.istore 13, 2) := by decide +kernel
theorem dL_rows_115 : decode cL_rows 115 = .ok (.iload 14, 2) := by decide +kernel
theorem dL_rows_117 : decode cL_rows 117 = .ok (.iload 16, 2) := by decide +kernel
theorem dL_rows_119 : decode cL_rows 119 = .ok (.bipush 6, 2) := by decide +kernel
theorem dL_rows_121 : decode cL_rows 121 = .ok (.irem, 1) := by decide +kernel
theorem dL_rows_122 : decode cL_rows 122 = .ok (.iadd, 1) := by decide +kernel
theorem dL_rows_123 : decode cL_rows 123 = .ok (.istore 14, 2) := by decide +kernel
theorem dL_rows_125 : decode cL_rows 125 = .ok (.iinc 15 (-1), 3) := by decide +kernel
theorem dL_rows_128 : decode cL_rows 128 = .ok (.iload 16, 2) := by decide +kernel
theorem dL_rows_130 : decode cL_rows 130 = .ok (.bipush 6, 2) := by decide +kernel
theorem dL_rows_132 : decode cL_rows 132 = .ok (.idiv, 1) := by decide +kernel
theorem dL_rows_133 : decode cL_rows 133 = .ok (.istore 16, 2) := by decide +kernel
theorem dL_rows_135 : decode cL_rows 135 = .ok (.goto (-43), 3) := by decide +kernel
theorem dL_rows_138 : decode cL_rows 138 = .ok (.iload 8, 2) := by decide +kernel
theorem dL_rows_140 : decode cL_rows 140 = .ok (.iload 13, 2) := by decide +kernel
theorem dL_rows_142 : decode cL_rows 142 = .ok (.iadd, 1) := by decide +kernel
theorem dL_rows_143 : decode cL_rows 143 = .ok (.istore 8, 2) := by decide +kernel
theorem dL_rows_145 : decode cL_rows 145 = .ok (.iload 14, 2) := by decide +kernel
theorem dL_rows_147 : decode cL_rows 147 = .ok (.iload 4, 2) := by decide +kernel
theorem dL_rows_149 : decode cL_rows 149 = .ok (.if_icmp .ne 10, 3) := by decide +kernel
theorem dL_rows_152 : decode cL_rows 152 = .ok (.iload 6, 2) := by decide +kernel
theorem dL_rows_154 : decode cL_rows 154 = .ok (.iload 13, 2) := by decide +kernel
theorem dL_rows_156 : decode cL_rows 156 = .ok (.iadd, 1) := by decide +kernel
theorem dL_rows_157 : decode cL_rows 157 = .ok (.istore 6, 2) := by decide +kernel
theorem dL_rows_159 : decode cL_rows 159 = .ok (.iload 14, 2) := by decide +kernel
theorem dL_rows_161 : decode cL_rows 161 = .ok (.iload 4, 2) := by decide +kernel
theorem dL_rows_163 : decode cL_rows 163 = .ok (.if_icmp .lt 10, 3) := by decide +kernel
theorem dL_rows_166 : decode cL_rows 166 = .ok (.iload 7, 2) := by decide +kernel
theorem dL_rows_168 : decode cL_rows 168 = .ok (.iload 13, 2) := by decide +kernel
theorem dL_rows_170 : decode cL_rows 170 = .ok (.iadd, 1) := by decide +kernel
theorem dL_rows_171 : decode cL_rows 171 = .ok (.istore 7, 2) := by decide +kernel
theorem dL_rows_173 : decode cL_rows 173 = .ok (.iload 14, 2) := by decide +kernel
theorem dL_rows_175 : decode cL_rows 175 = .ok (.aload_n 2, 1) := by decide +kernel
theorem dL_rows_176 : decode cL_rows 176 = .ok (.iconst 1, 1) := by decide +kernel
theorem dL_rows_177 : decode cL_rows 177 = .ok (.iaload, 1) := by decide +kernel
theorem dL_rows_178 : decode cL_rows 178 = .ok (.if_icmp .ge 6, 3) := by decide +kernel
theorem dL_rows_181 : decode cL_rows 181 = .ok (.goto 25, 3) := by decide +kernel
theorem dL_rows_184 : decode cL_rows 184 = .ok (.iload 9, 2) := by decide +kernel
theorem dL_rows_186 : decode cL_rows 186 = .ok (.iload 13, 2) := by decide +kernel
theorem dL_rows_188 : decode cL_rows 188 = .ok (.iadd, 1) := by decide +kernel
theorem dL_rows_189 : decode cL_rows 189 = .ok (.istore 9, 2) := by decide +kernel
theorem dL_rows_191 : decode cL_rows 191 = .ok (.iload 13, 2) := by decide +kernel
theorem dL_rows_193 : decode cL_rows 193 = .ok (.iload 10, 2) := by decide +kernel
theorem dL_rows_195 : decode cL_rows 195 = .ok (.if_icmp .le 11, 3) := by decide +kernel
theorem dL_rows_198 : decode cL_rows 198 = .ok (.iload 13, 2) := by decide +kernel
theorem dL_rows_200 : decode cL_rows 200 = .ok (.istore 10, 2) := by decide +kernel
theorem dL_rows_202 : decode cL_rows 202 = .ok (.iload 12, 2) := by decide +kernel
theorem dL_rows_204 : decode cL_rows 204 = .ok (.istore 11, 2) := by decide +kernel
theorem dL_rows_206 : decode cL_rows 206 = .ok (.iinc 12 1, 3) := by decide +kernel
theorem dL_rows_209 : decode cL_rows 209 = .ok (.goto (-141), 3) := by decide +kernel
theorem dL_rows_212 : decode cL_rows 212 = .ok (.aload_n 2, 1) := by decide +kernel
theorem dL_rows_213 : decode cL_rows 213 = .ok (.iconst 0, 1) := by decide +kernel
theorem dL_rows_214 : decode cL_rows 214 = .ok (.iaload, 1) := by decide +kernel
theorem dL_rows_215 : decode cL_rows 215 = .ok (.iconst 1, 1) := by decide +kernel
theorem dL_rows_216 : decode cL_rows 216 = .ok (.isub, 1) := by decide +kernel
theorem dL_rows_217 : decode cL_rows 217 = .ok (.istore 12, 2) := by decide +kernel
theorem dL_rows_219 : decode cL_rows 219 = .ok (.iload 12, 2) := by decide +kernel
theorem dL_rows_221 : decode cL_rows 221 = .ok (.ifCond .lt 41, 3) := by decide +kernel
theorem dL_rows_224 : decode cL_rows 224 = .ok (.aload_n 0, 1) := by decide +kernel
theorem dL_rows_225 : decode cL_rows 225 = .ok (.iload 12, 2) := by decide +kernel
theorem dL_rows_227 : decode cL_rows 227 = .ok (.invokevirtual 56, 3) := by decide +kernel
theorem dL_rows_230 : decode cL_rows 230 = .ok (.iload 10, 2) := by decide +kernel
theorem dL_rows_232 : decode cL_rows 232 = .ok (.ifCond .ne 7, 3) := by decide +kernel
theorem dL_rows_235 : decode cL_rows 235 = .ok (.iconst (-1), 1) := by decide +kernel
theorem dL_rows_236 : decode cL_rows 236 = .ok (.goto 8, 3) := by decide +kernel
theorem dL_rows_239 : decode cL_rows 239 = .ok (.iload 11, 2) := by decide +kernel
theorem dL_rows_241 : decode cL_rows 241 = .ok (.bipush 6, 2) := by decide +kernel
theorem dL_rows_243 : decode cL_rows 243 = .ok (.irem, 1) := by decide +kernel
theorem dL_rows_244 : decode cL_rows 244 = .ok (.if_icmp .eq 5, 3) := by decide +kernel
theorem dL_rows_247 : decode cL_rows 247 = .ok (.iconst 0, 1) := by decide +kernel
theorem dL_rows_248 : decode cL_rows 248 = .ok (.ireturn, 1) := by decide +kernel
theorem dL_rows_249 : decode cL_rows 249 = .ok (.iinc 12 (-1), 3) := by decide +kernel
theorem dL_rows_252 : decode cL_rows 252 = .ok (.iload 11, 2) := by decide +kernel
theorem dL_rows_254 : decode cL_rows 254 = .ok (.bipush 6, 2) := by decide +kernel
theorem dL_rows_256 : decode cL_rows 256 = .ok (.idiv, 1) := by decide +kernel
theorem dL_rows_257 : decode cL_rows 257 = .ok (.istore 11, 2) := by decide +kernel
theorem dL_rows_259 : decode cL_rows 259 = .ok (.goto (-40), 3) := by decide +kernel
theorem dL_rows_262 : decode cL_rows 262 = .ok (.aload_n 0, 1) := by decide +kernel
theorem dL_rows_263 : decode cL_rows 263 = .ok (.bipush 7, 2) := by decide +kernel
theorem dL_rows_265 : decode cL_rows 265 = .ok (.invokevirtual 59, 3) := by decide +kernel
theorem dL_rows_268 : decode cL_rows 268 = .ok (.iload 10, 2) := by decide +kernel
theorem dL_rows_270 : decode cL_rows 270 = .ok (.if_icmp .ne 64, 3) := by decide +kernel
theorem dL_rows_273 : decode cL_rows 273 = .ok (.aload_n 0, 1) := by decide +kernel
theorem dL_rows_274 : decode cL_rows 274 = .ok (.iload 4, 2) := by decide +kernel
theorem dL_rows_276 : decode cL_rows 276 = .ok (.iconst 0, 1) := by decide +kernel
theorem dL_rows_277 : decode cL_rows 277 = .ok (.invokevirtual 62, 3) := by decide +kernel
theorem dL_rows_280 : decode cL_rows 280 = .ok (.iload 6, 2) := by decide +kernel
theorem dL_rows_282 : decode cL_rows 282 = .ok (.i2l, 1) := by decide +kernel
theorem dL_rows_283 : decode cL_rows 283 = .ok (.lcmp, 1) := by decide +kernel
theorem dL_rows_284 : decode cL_rows 284 = .ok (.ifCond .ne 50, 3) := by decide +kernel
theorem dL_rows_287 : decode cL_rows 287 = .ok (.aload_n 0, 1) := by decide +kernel
theorem dL_rows_288 : decode cL_rows 288 = .ok (.iload 4, 2) := by decide +kernel
theorem dL_rows_290 : decode cL_rows 290 = .ok (.iconst 1, 1) := by decide +kernel
theorem dL_rows_291 : decode cL_rows 291 = .ok (.invokevirtual 62, 3) := by decide +kernel
theorem dL_rows_294 : decode cL_rows 294 = .ok (.iload 7, 2) := by decide +kernel
theorem dL_rows_296 : decode cL_rows 296 = .ok (.i2l, 1) := by decide +kernel
theorem dL_rows_297 : decode cL_rows 297 = .ok (.lcmp, 1) := by decide +kernel
theorem dL_rows_298 : decode cL_rows 298 = .ok (.ifCond .ne 36, 3) := by decide +kernel
theorem dL_rows_301 : decode cL_rows 301 = .ok (.aload_n 0, 1) := by decide +kernel
theorem dL_rows_302 : decode cL_rows 302 = .ok (.iconst 0, 1) := by decide +kernel
theorem dL_rows_303 : decode cL_rows 303 = .ok (.iconst 1, 1) := by decide +kernel
theorem dL_rows_304 : decode cL_rows 304 = .ok (.invokevirtual 62, 3) := by decide +kernel
theorem dL_rows_307 : decode cL_rows 307 = .ok (.iload 8, 2) := by decide +kernel
theorem dL_rows_309 : decode cL_rows 309 = .ok (.i2l, 1) := by decide +kernel
theorem dL_rows_310 : decode cL_rows 310 = .ok (.lcmp, 1) := by decide +kernel
theorem dL_rows_311 : decode cL_rows 311 = .ok (.ifCond .ne 23, 3) := by decide +kernel
theorem dL_rows_314 : decode cL_rows 314 = .ok (.aload_n 0, 1) := by decide +kernel
theorem dL_rows_315 : decode cL_rows 315 = .ok (.iconst 0, 1) := by decide +kernel
theorem dL_rows_316 : decode cL_rows 316 = .ok (.invokevirtual 66, 3) := by decide +kernel
theorem dL_rows_319 : decode cL_rows 319 = .ok (.iload 9, 2) := by decide +kernel
theorem dL_rows_321 : decode cL_rows 321 = .ok (.i2d, 1) := by decide +kernel
theorem dL_rows_322 : decode cL_rows 322 = .ok (.iload 8, 2) := by decide +kernel
theorem dL_rows_324 : decode cL_rows 324 = .ok (.i2d, 1) := by decide +kernel
theorem dL_rows_325 : decode cL_rows 325 = .ok (.ddiv, 1) := by decide +kernel
theorem dL_rows_326 : decode cL_rows 326 = .ok (.dcmp .l, 1) := by decide +kernel
theorem dL_rows_327 : decode cL_rows 327 = .ok (.ifCond .ne 7, 3) := by decide +kernel
theorem dL_rows_330 : decode cL_rows 330 = .ok (.iconst 1, 1) := by decide +kernel
theorem dL_rows_331 : decode cL_rows 331 = .ok (.goto 4, 3) := by decide +kernel
theorem dL_rows_334 : decode cL_rows 334 = .ok (.iconst 0, 1) := by decide +kernel
theorem dL_rows_335 : decode cL_rows 335 = .ok (.ireturn, 1) := by decide +kernel
theorem dL_agree_0 : decode cL_agree 0 = .ok (.iconst 0, 1) := by decide +kernel
theorem dL_agree_1 : decode cL_agree 1 = .ok (.istore 6, 2) := by decide +kernel
theorem dL_agree_3 : decode cL_agree 3 = .ok (.iload 6, 2) := by decide +kernel
theorem dL_agree_5 : decode cL_agree 5 = .ok (.aload_n 2, 1) := by decide +kernel
theorem dL_agree_6 : decode cL_agree 6 = .ok (.iconst 0, 1) := by decide +kernel
theorem dL_agree_7 : decode cL_agree 7 = .ok (.iaload, 1) := by decide +kernel
theorem dL_agree_8 : decode cL_agree 8 = .ok (.if_icmp .ge 133, 3) := by decide +kernel
theorem dL_agree_11 : decode cL_agree 11 = .ok (.aload_n 0, 1) := by decide +kernel
theorem dL_agree_12 : decode cL_agree 12 = .ok (.iload 6, 2) := by decide +kernel
theorem dL_agree_14 : decode cL_agree 14 = .ok (.iconst 0, 1) := by decide +kernel
theorem dL_agree_15 : decode cL_agree 15 = .ok (.invokevirtual 70, 3) := by decide +kernel
theorem dL_agree_18 : decode cL_agree 18 = .ok (.aload_n 3, 1) := by decide +kernel
theorem dL_agree_19 : decode cL_agree 19 = .ok (.iload 6, 2) := by decide +kernel
theorem dL_agree_21 : decode cL_agree 21 = .ok (.invokestatic 14, 3) := by decide +kernel
theorem dL_agree_24 : decode cL_agree 24 = .ok (.if_icmp .ne 46, 3) := by decide +kernel
theorem dL_agree_27 : decode cL_agree 27 = .ok (.aload_n 0, 1) := by decide +kernel
theorem dL_agree_28 : decode cL_agree 28 = .ok (.iload 6, 2) := by decide +kernel
theorem dL_agree_30 : decode cL_agree 30 = .ok (.iconst 1, 1) := by decide +kernel
theorem dL_agree_31 : decode cL_agree 31 = .ok (.invokevirtual 70, 3) := by decide +kernel
theorem dL_agree_34 : decode cL_agree 34 = .ok (.aload 4, 2) := by decide +kernel
theorem dL_agree_36 : decode cL_agree 36 = .ok (.iload 6, 2) := by decide +kernel
theorem dL_agree_38 : decode cL_agree 38 = .ok (.invokestatic 14, 3) := by decide +kernel
theorem dL_agree_41 : decode cL_agree 41 = .ok (.if_icmp .ne 29, 3) := by decide +kernel
theorem dL_agree_44 : decode cL_agree 44 = .ok (.aload_n 0, 1) := by decide +kernel
theorem dL_agree_45 : decode cL_agree 45 = .ok (.iload 6, 2) := by decide +kernel
theorem dL_agree_47 : decode cL_agree 47 = .ok (.bipush 6, 2) := by decide +kernel
theorem dL_agree_49 : decode cL_agree 49 = .ok (.invokevirtual 70, 3) := by decide +kernel
theorem dL_agree_52 : decode cL_agree 52 = .ok (.aload_n 2, 1) := by decide +kernel
theorem dL_agree_53 : decode cL_agree 53 = .ok (.iconst 3, 1) := by decide +kernel
theorem dL_agree_54 : decode cL_agree 54 = .ok (.iaload, 1) := by decide +kernel
theorem dL_agree_55 : decode cL_agree 55 = .ok (.ifCond .ne 7, 3) := by decide +kernel
theorem dL_agree_58 : decode cL_agree 58 = .ok (.iconst (-1), 1) := by decide +kernel
theorem dL_agree_59 : decode cL_agree 59 = .ok (.goto 8, 3) := by decide +kernel
theorem dL_agree_62 : decode cL_agree 62 = .ok (.aload 5, 2) := by decide +kernel
theorem dL_agree_64 : decode cL_agree 64 = .ok (.iload 6, 2) := by decide +kernel
theorem dL_agree_66 : decode cL_agree 66 = .ok (.iaload, 1) := by decide +kernel
theorem dL_agree_67 : decode cL_agree 67 = .ok (.if_icmp .eq 5, 3) := by decide +kernel
theorem dL_agree_70 : decode cL_agree 70 = .ok (.iconst 0, 1) := by decide +kernel
theorem dL_agree_71 : decode cL_agree 71 = .ok (.ireturn, 1) := by decide +kernel
theorem dL_agree_72 : decode cL_agree 72 = .ok (.iconst 0, 1) := by decide +kernel
theorem dL_agree_73 : decode cL_agree 73 = .ok (.istore 7, 2) := by decide +kernel
theorem dL_agree_75 : decode cL_agree 75 = .ok (.iload 7, 2) := by decide +kernel
theorem dL_agree_77 : decode cL_agree 77 = .ok (.bipush 6, 2) := by decide +kernel
theorem dL_agree_79 : decode cL_agree 79 = .ok (.if_icmp .ge 56, 3) := by decide +kernel
theorem dL_agree_82 : decode cL_agree 82 = .ok (.aload_n 0, 1) := by decide +kernel
theorem dL_agree_83 : decode cL_agree 83 = .ok (.iload 6, 2) := by decide +kernel
theorem dL_agree_85 : decode cL_agree 85 = .ok (.iload 7, 2) := by decide +kernel
theorem dL_agree_87 : decode cL_agree 87 = .ok (.iconst 0, 1) := by decide +kernel
theorem dL_agree_88 : decode cL_agree 88 = .ok (.invokevirtual 73, 3) := by decide +kernel
theorem dL_agree_91 : decode cL_agree 91 = .ok (.aload_n 3, 1) := by decide +kernel
theorem dL_agree_92 : decode cL_agree 92 = .ok (.bipush 6, 2) := by decide +kernel
theorem dL_agree_94 : decode cL_agree 94 = .ok (.iload 6, 2) := by decide +kernel
theorem dL_agree_96 : decode cL_agree 96 = .ok (.imul, 1) := by decide +kernel
theorem dL_agree_97 : decode cL_agree 97 = .ok (.iload 7, 2) := by decide +kernel
theorem dL_agree_99 : decode cL_agree 99 = .ok (.iadd, 1) := by decide +kernel
theorem dL_agree_100 : decode cL_agree 100 = .ok (.iaload, 1) := by decide +kernel
theorem dL_agree_101 : decode cL_agree 101 = .ok (.if_icmp .ne 26, 3) := by decide +kernel
theorem dL_agree_104 : decode cL_agree 104 = .ok (.aload_n 0, 1) := by decide +kernel
theorem dL_agree_105 : decode cL_agree 105 = .ok (.iload 6, 2) := by decide +kernel
theorem dL_agree_107 : decode cL_agree 107 = .ok (.iload 7, 2) := by decide +kernel
theorem dL_agree_109 : decode cL_agree 109 = .ok (.iconst 1, 1) := by decide +kernel
theorem dL_agree_110 : decode cL_agree 110 = .ok (.invokevirtual 73, 3) := by decide +kernel
theorem dL_agree_113 : decode cL_agree 113 = .ok (.aload 4, 2) := by decide +kernel
theorem dL_agree_115 : decode cL_agree 115 = .ok (.bipush 6, 2) := by decide +kernel
theorem dL_agree_117 : decode cL_agree 117 = .ok (.iload 6, 2) := by decide +kernel
theorem dL_agree_119 : decode cL_agree 119 = .ok (.imul, 1) := by decide +kernel
theorem dL_agree_120 : decode cL_agree 120 = .ok (.iload 7, 2) := by decide +kernel
theorem dL_agree_122 : decode cL_agree 122 = .ok (.iadd, 1) := by decide +kernel
theorem dL_agree_123 : decode cL_agree 123 = .ok (.iaload, 1) := by decide +kernel
theorem dL_agree_124 : decode cL_agree 124 = .ok (.if_icmp .eq 5, 3) := by decide +kernel
theorem dL_agree_127 : decode cL_agree 127 = .ok (.iconst 0, 1) := by decide +kernel
theorem dL_agree_128 : decode cL_agree 128 = .ok (.ireturn, 1) := by decide +kernel
theorem dL_agree_129 : decode cL_agree 129 = .ok (.iinc 7 1, 3) := by decide +kernel
theorem dL_agree_132 : decode cL_agree 132 = .ok (.goto (-57), 3) := by decide +kernel
theorem dL_agree_135 : decode cL_agree 135 = .ok (.iinc 6 1, 3) := by decide +kernel
theorem dL_agree_138 : decode cL_agree 138 = .ok (.goto (-135), 3) := by decide +kernel
theorem dL_agree_141 : decode cL_agree 141 = .ok (.aload_n 0, 1) := by decide +kernel
theorem dL_agree_142 : decode cL_agree 142 = .ok (.iconst 0, 1) := by decide +kernel
theorem dL_agree_143 : decode cL_agree 143 = .ok (.invokevirtual 59, 3) := by decide +kernel
theorem dL_agree_146 : decode cL_agree 146 = .ok (.aload_n 2, 1) := by decide +kernel
theorem dL_agree_147 : decode cL_agree 147 = .ok (.iconst 0, 1) := by decide +kernel
theorem dL_agree_148 : decode cL_agree 148 = .ok (.iaload, 1) := by decide +kernel
theorem dL_agree_149 : decode cL_agree 149 = .ok (.if_icmp .ne 73, 3) := by decide +kernel
theorem dL_agree_152 : decode cL_agree 152 = .ok (.aload_n 0, 1) := by decide +kernel
theorem dL_agree_153 : decode cL_agree 153 = .ok (.iconst 1, 1) := by decide +kernel
theorem dL_agree_154 : decode cL_agree 154 = .ok (.invokevirtual 59, 3) := by decide +kernel
theorem dL_agree_157 : decode cL_agree 157 = .ok (.aload_n 2, 1) := by decide +kernel
theorem dL_agree_158 : decode cL_agree 158 = .ok (.iconst 1, 1) := by decide +kernel
theorem dL_agree_159 : decode cL_agree 159 = .ok (.iaload, 1) := by decide +kernel
theorem dL_agree_160 : decode cL_agree 160 = .ok (.if_icmp .ne 62, 3) := by decide +kernel
theorem dL_agree_163 : decode cL_agree 163 = .ok (.aload_n 0, 1) := by decide +kernel
theorem dL_agree_164 : decode cL_agree 164 = .ok (.iconst 2, 1) := by decide +kernel
theorem dL_agree_165 : decode cL_agree 165 = .ok (.invokevirtual 59, 3) := by decide +kernel
theorem dL_agree_168 : decode cL_agree 168 = .ok (.aload_n 2, 1) := by decide +kernel
theorem dL_agree_169 : decode cL_agree 169 = .ok (.iconst 2, 1) := by decide +kernel
theorem dL_agree_170 : decode cL_agree 170 = .ok (.iaload, 1) := by decide +kernel
theorem dL_agree_171 : decode cL_agree 171 = .ok (.if_icmp .ne 51, 3) := by decide +kernel
theorem dL_agree_174 : decode cL_agree 174 = .ok (.aload_n 0, 1) := by decide +kernel
theorem dL_agree_175 : decode cL_agree 175 = .ok (.iconst 3, 1) := by decide +kernel
theorem dL_agree_176 : decode cL_agree 176 = .ok (.invokevirtual 59, 3) := by decide +kernel
theorem dL_agree_179 : decode cL_agree 179 = .ok (.aload_n 2, 1) := by decide +kernel
theorem dL_agree_180 : decode cL_agree 180 = .ok (.iconst 3, 1) := by decide +kernel
theorem dL_agree_181 : decode cL_agree 181 = .ok (.iaload, 1) := by decide +kernel
theorem dL_agree_182 : decode cL_agree 182 = .ok (.if_icmp .ne 40, 3) := by decide +kernel
theorem dL_agree_185 : decode cL_agree 185 = .ok (.aload_n 0, 1) := by decide +kernel
theorem dL_agree_186 : decode cL_agree 186 = .ok (.iconst 4, 1) := by decide +kernel
theorem dL_agree_187 : decode cL_agree 187 = .ok (.invokevirtual 59, 3) := by decide +kernel
theorem dL_agree_190 : decode cL_agree 190 = .ok (.aload_n 2, 1) := by decide +kernel
theorem dL_agree_191 : decode cL_agree 191 = .ok (.iconst 4, 1) := by decide +kernel
theorem dL_agree_192 : decode cL_agree 192 = .ok (.iaload, 1) := by decide +kernel
theorem dL_agree_193 : decode cL_agree 193 = .ok (.if_icmp .ne 29, 3) := by decide +kernel
theorem dL_agree_196 : decode cL_agree 196 = .ok (.aload_n 0, 1) := by decide +kernel
theorem dL_agree_197 : decode cL_agree 197 = .ok (.bipush 8, 2) := by decide +kernel
theorem dL_agree_199 : decode cL_agree 199 = .ok (.invokevirtual 59, 3) := by decide +kernel
theorem dL_agree_202 : decode cL_agree 202 = .ok (.aload_n 2, 1) := by decide +kernel
theorem dL_agree_203 : decode cL_agree 203 = .ok (.iconst 5, 1) := by decide +kernel
theorem dL_agree_204 : decode cL_agree 204 = .ok (.iaload, 1) := by decide +kernel
theorem dL_agree_205 : decode cL_agree 205 = .ok (.if_icmp .ne 17, 3) := by decide +kernel
theorem dL_agree_208 : decode cL_agree 208 = .ok (.aload_n 0, 1) := by decide +kernel
theorem dL_agree_209 : decode cL_agree 209 = .ok (.iload_n 1, 1) := by decide +kernel
theorem dL_agree_210 : decode cL_agree 210 = .ok (.aload_n 2, 1) := by decide +kernel
theorem dL_agree_211 : decode cL_agree 211 = .ok (.aload_n 3, 1) := by decide +kernel
theorem dL_agree_212 : decode cL_agree 212 = .ok (.invokestatic 77, 3) := by decide +kernel
theorem dL_agree_215 : decode cL_agree 215 = .ok (.ifCond .eq 7, 3) := by decide +kernel
theorem dL_agree_218 : decode cL_agree 218 = .ok (.iconst 1, 1) := by decide +kernel
theorem dL_agree_219 : decode cL_agree 219 = .ok (.goto 4, 3) := by decide +kernel
theorem dL_agree_222 : decode cL_agree 222 = .ok (.iconst 0, 1) := by decide +kernel
theorem dL_agree_223 : decode cL_agree 223 = .ok (.ireturn, 1) := by decide +kernel
theorem dL_law_0 : decode cL_law 0 = .ok (.new 25, 3) := by decide +kernel
theorem dL_law_3 : decode cL_law 3 = .ok (.dup, 1) := by decide +kernel
theorem dL_law_4 : decode cL_law 4 = .ok (.invokespecial 81, 3) := by decide +kernel
theorem dL_law_7 : decode cL_law 7 = .ok (.astore_n 1, 1) := by decide +kernel
theorem dL_law_8 : decode cL_law 8 = .ok (.bipush 6, 2) := by decide +kernel
theorem dL_law_10 : decode cL_law 10 = .ok (.newarray .int, 2) := by decide +kernel
theorem dL_law_12 : decode cL_law 12 = .ok (.astore_n 2, 1) := by decide +kernel
theorem dL_law_13 : decode cL_law 13 = .ok (.bipush 24, 2) := by decide +kernel
theorem dL_law_15 : decode cL_law 15 = .ok (.newarray .int, 2) := by decide +kernel
theorem dL_law_17 : decode cL_law 17 = .ok (.astore_n 3, 1) := by decide +kernel
theorem dL_law_18 : decode cL_law 18 = .ok (.bipush 24, 2) := by decide +kernel
theorem dL_law_20 : decode cL_law 20 = .ok (.newarray .int, 2) := by decide +kernel
theorem dL_law_22 : decode cL_law 22 = .ok (.astore 4, 2) := by decide +kernel
theorem dL_law_24 : decode cL_law 24 = .ok (.iconst 3, 1) := by decide +kernel
theorem dL_law_25 : decode cL_law 25 = .ok (.newarray .int, 2) := by decide +kernel
theorem dL_law_27 : decode cL_law 27 = .ok (.astore 5, 2) := by decide +kernel
theorem dL_law_29 : decode cL_law 29 = .ok (.aload_n 2, 1) := by decide +kernel
theorem dL_law_30 : decode cL_law 30 = .ok (.iconst 1, 1) := by decide +kernel
theorem dL_law_31 : decode cL_law 31 = .ok (.bipush 10, 2) := by decide +kernel
theorem dL_law_33 : decode cL_law 33 = .ok (.iastore, 1) := by decide +kernel
theorem dL_law_34 : decode cL_law 34 = .ok (.aload_n 2, 1) := by decide +kernel
theorem dL_law_35 : decode cL_law 35 = .ok (.iconst 2, 1) := by decide +kernel
theorem dL_law_36 : decode cL_law 36 = .ok (.iconst 1, 1) := by decide +kernel
theorem dL_law_37 : decode cL_law 37 = .ok (.iastore, 1) := by decide +kernel
theorem dL_law_38 : decode cL_law 38 = .ok (.iconst 0, 1) := by decide +kernel
theorem dL_law_39 : decode cL_law 39 = .ok (.istore 6, 2) := by decide +kernel
theorem dL_law_41 : decode cL_law 41 = .ok (.iload 6, 2) := by decide +kernel
theorem dL_law_43 : decode cL_law 43 = .ok (.bipush 60, 2) := by decide +kernel
theorem dL_law_45 : decode cL_law 45 = .ok (.if_icmp .ge 96, 3) := by decide +kernel
theorem dL_law_48 : decode cL_law 48 = .ok (.aload_n 0, 1) := by decide +kernel
theorem dL_law_49 : decode cL_law 49 = .ok (.iconst 2, 1) := by decide +kernel
theorem dL_law_50 : decode cL_law 50 = .ok (.iload 6, 2) := by decide +kernel
theorem dL_law_52 : decode cL_law 52 = .ok (.imul, 1) := by decide +kernel
theorem dL_law_53 : decode cL_law 53 = .ok (.invokestatic 82, 3) := by decide +kernel
theorem dL_law_56 : decode cL_law 56 = .ok (.istore 7, 2) := by decide +kernel
theorem dL_law_58 : decode cL_law 58 = .ok (.aload_n 0, 1) := by decide +kernel
theorem dL_law_59 : decode cL_law 59 = .ok (.iconst 2, 1) := by decide +kernel
theorem dL_law_60 : decode cL_law 60 = .ok (.iload 6, 2) := by decide +kernel
theorem dL_law_62 : decode cL_law 62 = .ok (.imul, 1) := by decide +kernel
theorem dL_law_63 : decode cL_law 63 = .ok (.iconst 1, 1) := by decide +kernel
theorem dL_law_64 : decode cL_law 64 = .ok (.iadd, 1) := by decide +kernel
theorem dL_law_65 : decode cL_law 65 = .ok (.invokestatic 82, 3) := by decide +kernel
theorem dL_law_68 : decode cL_law 68 = .ok (.istore 8, 2) := by decide +kernel
theorem dL_law_70 : decode cL_law 70 = .ok (.iload 7, 2) := by decide +kernel
theorem dL_law_72 : decode cL_law 72 = .ok (.bipush 20, 2) := by decide +kernel
theorem dL_law_74 : decode cL_law 74 = .ok (.ishr, 1) := by decide +kernel
theorem dL_law_75 : decode cL_law 75 = .ok (.bipush 10, 2) := by decide +kernel
theorem dL_law_77 : decode cL_law 77 = .ok (.invokestatic 20, 3) := by decide +kernel
theorem dL_law_80 : decode cL_law 80 = .ok (.iconst 4, 1) := by decide +kernel
theorem dL_law_81 : decode cL_law 81 = .ok (.if_icmp .ge 21, 3) := by decide +kernel
theorem dL_law_84 : decode cL_law 84 = .ok (.aload_n 1, 1) := by decide +kernel
theorem dL_law_85 : decode cL_law 85 = .ok (.iload 7, 2) := by decide +kernel
theorem dL_law_87 : decode cL_law 87 = .ok (.iload 8, 2) := by decide +kernel
theorem dL_law_89 : decode cL_law 89 = .ok (.aload_n 2, 1) := by decide +kernel
theorem dL_law_90 : decode cL_law 90 = .ok (.aload_n 3, 1) := by decide +kernel
theorem dL_law_91 : decode cL_law 91 = .ok (.aload 4, 2) := by decide +kernel
theorem dL_law_93 : decode cL_law 93 = .ok (.invokestatic 85, 3) := by decide +kernel
theorem dL_law_96 : decode cL_law 96 = .ok (.ifCond .eq 37, 3) := by decide +kernel
theorem dL_law_99 : decode cL_law 99 = .ok (.goto 19, 3) := by decide +kernel
theorem dL_law_102 : decode cL_law 102 = .ok (.aload_n 1, 1) := by decide +kernel
theorem dL_law_103 : decode cL_law 103 = .ok (.iload 7, 2) := by decide +kernel
theorem dL_law_105 : decode cL_law 105 = .ok (.iload 8, 2) := by decide +kernel
theorem dL_law_107 : decode cL_law 107 = .ok (.aload_n 2, 1) := by decide +kernel
theorem dL_law_108 : decode cL_law 108 = .ok (.aload 4, 2) := by decide +kernel
theorem dL_law_110 : decode cL_law 110 = .ok (.aload 5, 2) := by decide +kernel
theorem dL_law_112 : decode cL_law 112 = .ok (.invokestatic 89, 3) := by decide +kernel
theorem dL_law_115 : decode cL_law 115 = .ok (.ifCond .eq 18, 3) := by decide +kernel
theorem dL_law_118 : decode cL_law 118 = .ok (.aload_n 1, 1) := by decide +kernel
theorem dL_law_119 : decode cL_law 119 = .ok (.iload 8, 2) := by decide +kernel
theorem dL_law_121 : decode cL_law 121 = .ok (.aload_n 2, 1) := by decide +kernel
theorem dL_law_122 : decode cL_law 122 = .ok (.aload_n 3, 1) := by decide +kernel
theorem dL_law_123 : decode cL_law 123 = .ok (.aload 4, 2) := by decide +kernel
theorem dL_law_125 : decode cL_law 125 = .ok (.aload 5, 2) := by decide +kernel
theorem dL_law_127 : decode cL_law 127 = .ok (.invokestatic 92, 3) := by decide +kernel
theorem dL_law_130 : decode cL_law 130 = .ok (.ifCond .ne 5, 3) := by decide +kernel
theorem dL_law_133 : decode cL_law 133 = .ok (.iconst 0, 1) := by decide +kernel
theorem dL_law_134 : decode cL_law 134 = .ok (.ireturn, 1) := by decide +kernel
theorem dL_law_135 : decode cL_law 135 = .ok (.iinc 6 1, 3) := by decide +kernel
theorem dL_law_138 : decode cL_law 138 = .ok (.goto (-97), 3) := by decide +kernel
theorem dL_law_141 : decode cL_law 141 = .ok (.iconst 1, 1) := by decide +kernel
theorem dL_law_142 : decode cL_law 142 = .ok (.ireturn, 1) := by decide +kernel
