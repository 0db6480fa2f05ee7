theorem d_Mod_sums_0 : decode b_Mod_sums 0 = .ok (.lload 4, 2) := by decide +kernel
theorem d_Mod_sums_2 : decode b_Mod_sums 2 = .ok (.ldc2_w 175, 3) := by decide +kernel
theorem d_Mod_sums_5 : decode b_Mod_sums 5 = .ok (.lcmp, 1) := by decide +kernel
theorem d_Mod_sums_6 : decode b_Mod_sums 6 = .ok (.ifCond .ne 15, 3) := by decide +kernel
theorem d_Mod_sums_9 : decode b_Mod_sums 9 = .ok (.lload_n 2, 1) := by decide +kernel
theorem d_Mod_sums_10 : decode b_Mod_sums 10 = .ok (.ldc2_w 179, 3) := by decide +kernel
theorem d_Mod_sums_13 : decode b_Mod_sums 13 = .ok (.lcmp, 1) := by decide +kernel
theorem d_Mod_sums_14 : decode b_Mod_sums 14 = .ok (.ifCond .ne 7, 3) := by decide +kernel
theorem d_Mod_sums_17 : decode b_Mod_sums 17 = .ok (.iconst 1, 1) := by decide +kernel
theorem d_Mod_sums_18 : decode b_Mod_sums 18 = .ok (.goto 4, 3) := by decide +kernel
theorem d_Mod_sums_21 : decode b_Mod_sums 21 = .ok (.iconst 0, 1) := by decide +kernel
theorem d_Mod_sums_22 : decode b_Mod_sums 22 = .ok (.istore 6, 2) := by decide +kernel
theorem d_Mod_sums_24 : decode b_Mod_sums 24 = .ok (.iload_n 1, 1) := by decide +kernel
theorem d_Mod_sums_25 : decode b_Mod_sums 25 = .ok (.tableswitch 457 0 8 #[51, 118, 185, 212, 283, 359, 389, 423, 440], 51) := by decide +kernel
theorem d_Mod_sums_76 : decode b_Mod_sums 76 = .ok (.lload 4, 2) := by decide +kernel
theorem d_Mod_sums_78 : decode b_Mod_sums 78 = .ok (.lconst 0, 1) := by decide +kernel
theorem d_Mod_sums_79 : decode b_Mod_sums 79 = .ok (.lcmp, 1) := by decide +kernel
theorem d_Mod_sums_80 : decode b_Mod_sums 80 = .ok (.ifCond .le 34, 3) := by decide +kernel
theorem d_Mod_sums_83 : decode b_Mod_sums 83 = .ok (.lload_n 2, 1) := by decide +kernel
theorem d_Mod_sums_84 : decode b_Mod_sums 84 = .ok (.ldc2_w 181, 3) := by decide +kernel
theorem d_Mod_sums_87 : decode b_Mod_sums 87 = .ok (.lload 4, 2) := by decide +kernel
theorem d_Mod_sums_89 : decode b_Mod_sums 89 = .ok (.lsub, 1) := by decide +kernel
theorem d_Mod_sums_90 : decode b_Mod_sums 90 = .ok (.lcmp, 1) := by decide +kernel
theorem d_Mod_sums_91 : decode b_Mod_sums 91 = .ok (.ifCond .le 11, 3) := by decide +kernel
theorem d_Mod_sums_94 : decode b_Mod_sums 94 = .ok (.aload_n 0, 1) := by decide +kernel
theorem d_Mod_sums_95 : decode b_Mod_sums 95 = .ok (.iconst 3, 1) := by decide +kernel
theorem d_Mod_sums_96 : decode b_Mod_sums 96 = .ok (.invokevirtual 183, 3) := by decide +kernel
theorem d_Mod_sums_99 : decode b_Mod_sums 99 = .ok (.goto 43, 3) := by decide +kernel
theorem d_Mod_sums_102 : decode b_Mod_sums 102 = .ok (.aload_n 0, 1) := by decide +kernel
theorem d_Mod_sums_103 : decode b_Mod_sums 103 = .ok (.iconst 0, 1) := by decide +kernel
theorem d_Mod_sums_104 : decode b_Mod_sums 104 = .ok (.lload_n 2, 1) := by decide +kernel
theorem d_Mod_sums_105 : decode b_Mod_sums 105 = .ok (.lload 4, 2) := by decide +kernel
theorem d_Mod_sums_107 : decode b_Mod_sums 107 = .ok (.ladd, 1) := by decide +kernel
theorem d_Mod_sums_108 : decode b_Mod_sums 108 = .ok (.invokevirtual 141, 3) := by decide +kernel
theorem d_Mod_sums_111 : decode b_Mod_sums 111 = .ok (.goto 31, 3) := by decide +kernel
theorem d_Mod_sums_114 : decode b_Mod_sums 114 = .ok (.lload_n 2, 1) := by decide +kernel
theorem d_Mod_sums_115 : decode b_Mod_sums 115 = .ok (.ldc2_w 179, 3) := by decide +kernel
theorem d_Mod_sums_118 : decode b_Mod_sums 118 = .ok (.lload 4, 2) := by decide +kernel
theorem d_Mod_sums_120 : decode b_Mod_sums 120 = .ok (.lsub, 1) := by decide +kernel
theorem d_Mod_sums_121 : decode b_Mod_sums 121 = .ok (.lcmp, 1) := by decide +kernel
theorem d_Mod_sums_122 : decode b_Mod_sums 122 = .ok (.ifCond .ge 11, 3) := by decide +kernel
theorem d_Mod_sums_125 : decode b_Mod_sums 125 = .ok (.aload_n 0, 1) := by decide +kernel
theorem d_Mod_sums_126 : decode b_Mod_sums 126 = .ok (.iconst 3, 1) := by decide +kernel
theorem d_Mod_sums_127 : decode b_Mod_sums 127 = .ok (.invokevirtual 183, 3) := by decide +kernel
theorem d_Mod_sums_130 : decode b_Mod_sums 130 = .ok (.goto 12, 3) := by decide +kernel
theorem d_Mod_sums_133 : decode b_Mod_sums 133 = .ok (.aload_n 0, 1) := by decide +kernel
theorem d_Mod_sums_134 : decode b_Mod_sums 134 = .ok (.iconst 0, 1) := by decide +kernel
theorem d_Mod_sums_135 : decode b_Mod_sums 135 = .ok (.lload_n 2, 1) := by decide +kernel
theorem d_Mod_sums_136 : decode b_Mod_sums 136 = .ok (.lload 4, 2) := by decide +kernel
theorem d_Mod_sums_138 : decode b_Mod_sums 138 = .ok (.ladd, 1) := by decide +kernel
theorem d_Mod_sums_139 : decode b_Mod_sums 139 = .ok (.invokevirtual 141, 3) := by decide +kernel
theorem d_Mod_sums_142 : decode b_Mod_sums 142 = .ok (.ireturn, 1) := by decide +kernel
theorem d_Mod_sums_143 : decode b_Mod_sums 143 = .ok (.lload 4, 2) := by decide +kernel
theorem d_Mod_sums_145 : decode b_Mod_sums 145 = .ok (.lconst 0, 1) := by decide +kernel
theorem d_Mod_sums_146 : decode b_Mod_sums 146 = .ok (.lcmp, 1) := by decide +kernel
theorem d_Mod_sums_147 : decode b_Mod_sums 147 = .ok (.ifCond .ge 34, 3) := by decide +kernel
theorem d_Mod_sums_150 : decode b_Mod_sums 150 = .ok (.lload_n 2, 1) := by decide +kernel
theorem d_Mod_sums_151 : decode b_Mod_sums 151 = .ok (.ldc2_w 181, 3) := by decide +kernel
theorem d_Mod_sums_154 : decode b_Mod_sums 154 = .ok (.lload 4, 2) := by decide +kernel
theorem d_Mod_sums_156 : decode b_Mod_sums 156 = .ok (.ladd, 1) := by decide +kernel
theorem d_Mod_sums_157 : decode b_Mod_sums 157 = .ok (.lcmp, 1) := by decide +kernel
theorem d_Mod_sums_158 : decode b_Mod_sums 158 = .ok (.ifCond .le 11, 3) := by decide +kernel
theorem d_Mod_sums_161 : decode b_Mod_sums 161 = .ok (.aload_n 0, 1) := by decide +kernel
theorem d_Mod_sums_162 : decode b_Mod_sums 162 = .ok (.iconst 3, 1) := by decide +kernel
theorem d_Mod_sums_163 : decode b_Mod_sums 163 = .ok (.invokevirtual 183, 3) := by decide +kernel
theorem d_Mod_sums_166 : decode b_Mod_sums 166 = .ok (.goto 43, 3) := by decide +kernel
theorem d_Mod_sums_169 : decode b_Mod_sums 169 = .ok (.aload_n 0, 1) := by decide +kernel
theorem d_Mod_sums_170 : decode b_Mod_sums 170 = .ok (.iconst 0, 1) := by decide +kernel
theorem d_Mod_sums_171 : decode b_Mod_sums 171 = .ok (.lload_n 2, 1) := by decide +kernel
theorem d_Mod_sums_172 : decode b_Mod_sums 172 = .ok (.lload 4, 2) := by decide +kernel
theorem d_Mod_sums_174 : decode b_Mod_sums 174 = .ok (.lsub, 1) := by decide +kernel
theorem d_Mod_sums_175 : decode b_Mod_sums 175 = .ok (.invokevirtual 141, 3) := by decide +kernel
theorem d_Mod_sums_178 : decode b_Mod_sums 178 = .ok (.goto 31, 3) := by decide +kernel
theorem d_Mod_sums_181 : decode b_Mod_sums 181 = .ok (.lload_n 2, 1) := by decide +kernel
theorem d_Mod_sums_182 : decode b_Mod_sums 182 = .ok (.ldc2_w 179, 3) := by decide +kernel
theorem d_Mod_sums_185 : decode b_Mod_sums 185 = .ok (.lload 4, 2) := by decide +kernel
theorem d_Mod_sums_187 : decode b_Mod_sums 187 = .ok (.ladd, 1) := by decide +kernel
theorem d_Mod_sums_188 : decode b_Mod_sums 188 = .ok (.lcmp, 1) := by decide +kernel
theorem d_Mod_sums_189 : decode b_Mod_sums 189 = .ok (.ifCond .ge 11, 3) := by decide +kernel
theorem d_Mod_sums_192 : decode b_Mod_sums 192 = .ok (.aload_n 0, 1) := by decide +kernel
theorem d_Mod_sums_193 : decode b_Mod_sums 193 = .ok (.iconst 3, 1) := by decide +kernel
theorem d_Mod_sums_194 : decode b_Mod_sums 194 = .ok (.invokevirtual 183, 3) := by decide +kernel
theorem d_Mod_sums_197 : decode b_Mod_sums 197 = .ok (.goto 12, 3) := by decide +kernel
theorem d_Mod_sums_200 : decode b_Mod_sums 200 = .ok (.aload_n 0, 1) := by decide +kernel
theorem d_Mod_sums_201 : decode b_Mod_sums 201 = .ok (.iconst 0, 1) := by decide +kernel
theorem d_Mod_sums_202 : decode b_Mod_sums 202 = .ok (.lload_n 2, 1) := by decide +kernel
theorem d_Mod_sums_203 : decode b_Mod_sums 203 = .ok (.lload 4, 2) := by decide +kernel
theorem d_Mod_sums_205 : decode b_Mod_sums 205 = .ok (.lsub, 1) := by decide +kernel
theorem d_Mod_sums_206 : decode b_Mod_sums 206 = .ok (.invokevirtual 141, 3) := by decide +kernel
theorem d_Mod_sums_209 : decode b_Mod_sums 209 = .ok (.ireturn, 1) := by decide +kernel
theorem d_Mod_sums_210 : decode b_Mod_sums 210 = .ok (.lload_n 2, 1) := by decide +kernel
theorem d_Mod_sums_211 : decode b_Mod_sums 211 = .ok (.lload 4, 2) := by decide +kernel
theorem d_Mod_sums_213 : decode b_Mod_sums 213 = .ok (.invokestatic 186, 3) := by decide +kernel
theorem d_Mod_sums_216 : decode b_Mod_sums 216 = .ok (.ifCond .eq 15, 3) := by decide +kernel
theorem d_Mod_sums_219 : decode b_Mod_sums 219 = .ok (.aload_n 0, 1) := by decide +kernel
theorem d_Mod_sums_220 : decode b_Mod_sums 220 = .ok (.iconst 0, 1) := by decide +kernel
theorem d_Mod_sums_221 : decode b_Mod_sums 221 = .ok (.lload_n 2, 1) := by decide +kernel
theorem d_Mod_sums_222 : decode b_Mod_sums 222 = .ok (.lload 4, 2) := by decide +kernel
theorem d_Mod_sums_224 : decode b_Mod_sums 224 = .ok (.lmul, 1) := by decide +kernel
theorem d_Mod_sums_225 : decode b_Mod_sums 225 = .ok (.invokevirtual 141, 3) := by decide +kernel
theorem d_Mod_sums_228 : decode b_Mod_sums 228 = .ok (.goto 8, 3) := by decide +kernel
theorem d_Mod_sums_231 : decode b_Mod_sums 231 = .ok (.aload_n 0, 1) := by decide +kernel
theorem d_Mod_sums_232 : decode b_Mod_sums 232 = .ok (.iconst 3, 1) := by decide +kernel
theorem d_Mod_sums_233 : decode b_Mod_sums 233 = .ok (.invokevirtual 183, 3) := by decide +kernel
theorem d_Mod_sums_236 : decode b_Mod_sums 236 = .ok (.ireturn, 1) := by decide +kernel
theorem d_Mod_sums_237 : decode b_Mod_sums 237 = .ok (.lload 4, 2) := by decide +kernel
theorem d_Mod_sums_239 : decode b_Mod_sums 239 = .ok (.lconst 0, 1) := by decide +kernel
theorem d_Mod_sums_240 : decode b_Mod_sums 240 = .ok (.lcmp, 1) := by decide +kernel
theorem d_Mod_sums_241 : decode b_Mod_sums 241 = .ok (.ifCond .eq 8, 3) := by decide +kernel
theorem d_Mod_sums_244 : decode b_Mod_sums 244 = .ok (.iload 6, 2) := by decide +kernel
theorem d_Mod_sums_246 : decode b_Mod_sums 246 = .ok (.ifCond .eq 11, 3) := by decide +kernel
theorem d_Mod_sums_249 : decode b_Mod_sums 249 = .ok (.aload_n 0, 1) := by decide +kernel
theorem d_Mod_sums_250 : decode b_Mod_sums 250 = .ok (.iconst 3, 1) := by decide +kernel
theorem d_Mod_sums_251 : decode b_Mod_sums 251 = .ok (.invokevirtual 183, 3) := by decide +kernel
theorem d_Mod_sums_254 : decode b_Mod_sums 254 = .ok (.goto 53, 3) := by decide +kernel
theorem d_Mod_sums_257 : decode b_Mod_sums 257 = .ok (.aload_n 0, 1) := by decide +kernel
theorem d_Mod_sums_258 : decode b_Mod_sums 258 = .ok (.iconst 0, 1) := by decide +kernel
theorem d_Mod_sums_259 : decode b_Mod_sums 259 = .ok (.lload_n 2, 1) := by decide +kernel
theorem d_Mod_sums_260 : decode b_Mod_sums 260 = .ok (.lload 4, 2) := by decide +kernel
theorem d_Mod_sums_262 : decode b_Mod_sums 262 = .ok (.ldiv, 1) := by decide +kernel
theorem d_Mod_sums_263 : decode b_Mod_sums 263 = .ok (.lload_n 2, 1) := by decide +kernel
theorem d_Mod_sums_264 : decode b_Mod_sums 264 = .ok (.lload 4, 2) := by decide +kernel
theorem d_Mod_sums_266 : decode b_Mod_sums 266 = .ok (.lrem, 1) := by decide +kernel
theorem d_Mod_sums_267 : decode b_Mod_sums 267 = .ok (.lconst 0, 1) := by decide +kernel
theorem d_Mod_sums_268 : decode b_Mod_sums 268 = .ok (.lcmp, 1) := by decide +kernel
theorem d_Mod_sums_269 : decode b_Mod_sums 269 = .ok (.ifCond .eq 33, 3) := by decide +kernel
theorem d_Mod_sums_272 : decode b_Mod_sums 272 = .ok (.lload_n 2, 1) := by decide +kernel
theorem d_Mod_sums_273 : decode b_Mod_sums 273 = .ok (.lconst 0, 1) := by decide +kernel
theorem d_Mod_sums_274 : decode b_Mod_sums 274 = .ok (.lcmp, 1) := by decide +kernel
theorem d_Mod_sums_275 : decode b_Mod_sums 275 = .ok (.ifCond .ge 7, 3) := by decide +kernel
theorem d_Mod_sums_278 : decode b_Mod_sums 278 = .ok (.iconst 1, 1) := by decide +kernel
theorem d_Mod_sums_279 : decode b_Mod_sums 279 = .ok (.goto 4, 3) := by decide +kernel
theorem d_Mod_sums_282 : decode b_Mod_sums 282 = .ok (.iconst 0, 1) := by decide +kernel
theorem d_Mod_sums_283 : decode b_Mod_sums 283 = .ok (.lload 4, 2) := by decide +kernel
theorem d_Mod_sums_285 : decode b_Mod_sums 285 = .ok (.lconst 0, 1) := by decide +kernel
theorem d_Mod_sums_286 : decode b_Mod_sums 286 = .ok (.lcmp, 1) := by decide +kernel
theorem d_Mod_sums_287 : decode b_Mod_sums 287 = .ok (.ifCond .ge 7, 3) := by decide +kernel
theorem d_Mod_sums_290 : decode b_Mod_sums 290 = .ok (.iconst 1, 1) := by decide +kernel
theorem d_Mod_sums_291 : decode b_Mod_sums 291 = .ok (.goto 4, 3) := by decide +kernel
theorem d_Mod_sums_294 : decode b_Mod_sums 294 = .ok (.iconst 0, 1) := by decide +kernel
theorem d_Mod_sums_295 : decode b_Mod_sums 295 = .ok (.if_icmp .eq 7, 3) := by decide +kernel
theorem d_Mod_sums_298 : decode b_Mod_sums 298 = .ok (.lconst 1, 1) := by decide +kernel
theorem d_Mod_sums_299 : decode b_Mod_sums 299 = .ok (.goto 4, 3) := by decide +kernel
theorem d_Mod_sums_302 : decode b_Mod_sums 302 = .ok (.lconst 0, 1) := by decide +kernel
theorem d_Mod_sums_303 : decode b_Mod_sums 303 = .ok (.lsub, 1) := by decide +kernel
theorem d_Mod_sums_304 : decode b_Mod_sums 304 = .ok (.invokevirtual 141, 3) := by decide +kernel
theorem d_Mod_sums_307 : decode b_Mod_sums 307 = .ok (.ireturn, 1) := by decide +kernel
theorem d_Mod_sums_308 : decode b_Mod_sums 308 = .ok (.lload 4, 2) := by decide +kernel
theorem d_Mod_sums_310 : decode b_Mod_sums 310 = .ok (.lconst 0, 1) := by decide +kernel
theorem d_Mod_sums_311 : decode b_Mod_sums 311 = .ok (.lcmp, 1) := by decide +kernel
theorem d_Mod_sums_312 : decode b_Mod_sums 312 = .ok (.ifCond .ne 11, 3) := by decide +kernel
theorem d_Mod_sums_315 : decode b_Mod_sums 315 = .ok (.aload_n 0, 1) := by decide +kernel
theorem d_Mod_sums_316 : decode b_Mod_sums 316 = .ok (.iconst 3, 1) := by decide +kernel
theorem d_Mod_sums_317 : decode b_Mod_sums 317 = .ok (.invokevirtual 183, 3) := by decide +kernel
theorem d_Mod_sums_320 : decode b_Mod_sums 320 = .ok (.goto 63, 3) := by decide +kernel
theorem d_Mod_sums_323 : decode b_Mod_sums 323 = .ok (.aload_n 0, 1) := by decide +kernel
theorem d_Mod_sums_324 : decode b_Mod_sums 324 = .ok (.iconst 0, 1) := by decide +kernel
theorem d_Mod_sums_325 : decode b_Mod_sums 325 = .ok (.iload 6, 2) := by decide +kernel
theorem d_Mod_sums_327 : decode b_Mod_sums 327 = .ok (.ifCond .eq 7, 3) := by decide +kernel
theorem d_Mod_sums_330 : decode b_Mod_sums 330 = .ok (.lconst 0, 1) := by decide +kernel
theorem d_Mod_sums_331 : decode b_Mod_sums 331 = .ok (.goto 49, 3) := by decide +kernel
theorem d_Mod_sums_334 : decode b_Mod_sums 334 = .ok (.lload_n 2, 1) := by decide +kernel
theorem d_Mod_sums_335 : decode b_Mod_sums 335 = .ok (.lload 4, 2) := by decide +kernel
theorem d_Mod_sums_337 : decode b_Mod_sums 337 = .ok (.lrem, 1) := by decide +kernel
theorem d_Mod_sums_338 : decode b_Mod_sums 338 = .ok (.lload_n 2, 1) := by decide +kernel
theorem d_Mod_sums_339 : decode b_Mod_sums 339 = .ok (.lload 4, 2) := by decide +kernel
theorem d_Mod_sums_341 : decode b_Mod_sums 341 = .ok (.lrem, 1) := by decide +kernel
theorem d_Mod_sums_342 : decode b_Mod_sums 342 = .ok (.lconst 0, 1) := by decide +kernel
theorem d_Mod_sums_343 : decode b_Mod_sums 343 = .ok (.lcmp, 1) := by decide +kernel
theorem d_Mod_sums_344 : decode b_Mod_sums 344 = .ok (.ifCond .eq 34, 3) := by decide +kernel
theorem d_Mod_sums_347 : decode b_Mod_sums 347 = .ok (.lload_n 2, 1) := by decide +kernel
theorem d_Mod_sums_348 : decode b_Mod_sums 348 = .ok (.lconst 0, 1) := by decide +kernel
theorem d_Mod_sums_349 : decode b_Mod_sums 349 = .ok (.lcmp, 1) := by decide +kernel
theorem d_Mod_sums_350 : decode b_Mod_sums 350 = .ok (.ifCond .ge 7, 3) := by decide +kernel
theorem d_Mod_sums_353 : decode b_Mod_sums 353 = .ok (.iconst 1, 1) := by decide +kernel
theorem d_Mod_sums_354 : decode b_Mod_sums 354 = .ok (.goto 4, 3) := by decide +kernel
theorem d_Mod_sums_357 : decode b_Mod_sums 357 = .ok (.iconst 0, 1) := by decide +kernel
theorem d_Mod_sums_358 : decode b_Mod_sums 358 = .ok (.lload 4, 2) := by decide +kernel
theorem d_Mod_sums_360 : decode b_Mod_sums 360 = .ok (.lconst 0, 1) := by decide +kernel
theorem d_Mod_sums_361 : decode b_Mod_sums 361 = .ok (.lcmp, 1) := by decide +kernel
theorem d_Mod_sums_362 : decode b_Mod_sums 362 = .ok (.ifCond .ge 7, 3) := by decide +kernel
theorem d_Mod_sums_365 : decode b_Mod_sums 365 = .ok (.iconst 1, 1) := by decide +kernel
theorem d_Mod_sums_366 : decode b_Mod_sums 366 = .ok (.goto 4, 3) := by decide +kernel
theorem d_Mod_sums_369 : decode b_Mod_sums 369 = .ok (.iconst 0, 1) := by decide +kernel
theorem d_Mod_sums_370 : decode b_Mod_sums 370 = .ok (.if_icmp .eq 8, 3) := by decide +kernel
theorem d_Mod_sums_373 : decode b_Mod_sums 373 = .ok (.lload 4, 2) := by decide +kernel
theorem d_Mod_sums_375 : decode b_Mod_sums 375 = .ok (.goto 4, 3) := by decide +kernel
theorem d_Mod_sums_378 : decode b_Mod_sums 378 = .ok (.lconst 0, 1) := by decide +kernel
theorem d_Mod_sums_379 : decode b_Mod_sums 379 = .ok (.ladd, 1) := by decide +kernel
theorem d_Mod_sums_380 : decode b_Mod_sums 380 = .ok (.invokevirtual 141, 3) := by decide +kernel
theorem d_Mod_sums_383 : decode b_Mod_sums 383 = .ok (.ireturn, 1) := by decide +kernel
theorem d_Mod_sums_384 : decode b_Mod_sums 384 = .ok (.lload 4, 2) := by decide +kernel
theorem d_Mod_sums_386 : decode b_Mod_sums 386 = .ok (.lconst 0, 1) := by decide +kernel
theorem d_Mod_sums_387 : decode b_Mod_sums 387 = .ok (.lcmp, 1) := by decide +kernel
theorem d_Mod_sums_388 : decode b_Mod_sums 388 = .ok (.ifCond .eq 8, 3) := by decide +kernel
theorem d_Mod_sums_391 : decode b_Mod_sums 391 = .ok (.iload 6, 2) := by decide +kernel
theorem d_Mod_sums_393 : decode b_Mod_sums 393 = .ok (.ifCond .eq 11, 3) := by decide +kernel
theorem d_Mod_sums_396 : decode b_Mod_sums 396 = .ok (.aload_n 0, 1) := by decide +kernel
theorem d_Mod_sums_397 : decode b_Mod_sums 397 = .ok (.iconst 3, 1) := by decide +kernel
theorem d_Mod_sums_398 : decode b_Mod_sums 398 = .ok (.invokevirtual 183, 3) := by decide +kernel
theorem d_Mod_sums_401 : decode b_Mod_sums 401 = .ok (.goto 12, 3) := by decide +kernel
theorem d_Mod_sums_404 : decode b_Mod_sums 404 = .ok (.aload_n 0, 1) := by decide +kernel
theorem d_Mod_sums_405 : decode b_Mod_sums 405 = .ok (.iconst 0, 1) := by decide +kernel
theorem d_Mod_sums_406 : decode b_Mod_sums 406 = .ok (.lload_n 2, 1) := by decide +kernel
theorem d_Mod_sums_407 : decode b_Mod_sums 407 = .ok (.lload 4, 2) := by decide +kernel
theorem d_Mod_sums_409 : decode b_Mod_sums 409 = .ok (.ldiv, 1) := by decide +kernel
theorem d_Mod_sums_410 : decode b_Mod_sums 410 = .ok (.invokevirtual 141, 3) := by decide +kernel
theorem d_Mod_sums_413 : decode b_Mod_sums 413 = .ok (.ireturn, 1) := by decide +kernel
theorem d_Mod_sums_414 : decode b_Mod_sums 414 = .ok (.lload 4, 2) := by decide +kernel
theorem d_Mod_sums_416 : decode b_Mod_sums 416 = .ok (.lconst 0, 1) := by decide +kernel
theorem d_Mod_sums_417 : decode b_Mod_sums 417 = .ok (.lcmp, 1) := by decide +kernel
theorem d_Mod_sums_418 : decode b_Mod_sums 418 = .ok (.ifCond .ne 11, 3) := by decide +kernel
theorem d_Mod_sums_421 : decode b_Mod_sums 421 = .ok (.aload_n 0, 1) := by decide +kernel
theorem d_Mod_sums_422 : decode b_Mod_sums 422 = .ok (.iconst 3, 1) := by decide +kernel
theorem d_Mod_sums_423 : decode b_Mod_sums 423 = .ok (.invokevirtual 183, 3) := by decide +kernel
theorem d_Mod_sums_426 : decode b_Mod_sums 426 = .ok (.goto 21, 3) := by decide +kernel
theorem d_Mod_sums_429 : decode b_Mod_sums 429 = .ok (.aload_n 0, 1) := by decide +kernel
theorem d_Mod_sums_430 : decode b_Mod_sums 430 = .ok (.iconst 0, 1) := by decide +kernel
theorem d_Mod_sums_431 : decode b_Mod_sums 431 = .ok (.iload 6, 2) := by decide +kernel
theorem d_Mod_sums_433 : decode b_Mod_sums 433 = .ok (.ifCond .eq 7, 3) := by decide +kernel
theorem d_Mod_sums_436 : decode b_Mod_sums 436 = .ok (.lconst 0, 1) := by decide +kernel
theorem d_Mod_sums_437 : decode b_Mod_sums 437 = .ok (.goto 7, 3) := by decide +kernel
theorem d_Mod_sums_440 : decode b_Mod_sums 440 = .ok (.lload_n 2, 1) := by decide +kernel
theorem d_Mod_sums_441 : decode b_Mod_sums 441 = .ok (.lload 4, 2) := by decide +kernel
theorem d_Mod_sums_443 : decode b_Mod_sums 443 = .ok (.lrem, 1) := by decide +kernel
theorem d_Mod_sums_444 : decode b_Mod_sums 444 = .ok (.invokevirtual 141, 3) := by decide +kernel
theorem d_Mod_sums_447 : decode b_Mod_sums 447 = .ok (.ireturn, 1) := by decide +kernel
theorem d_Mod_sums_448 : decode b_Mod_sums 448 = .ok (.aload_n 0, 1) := by decide +kernel
theorem d_Mod_sums_449 : decode b_Mod_sums 449 = .ok (.lload_n 2, 1) := by decide +kernel
theorem d_Mod_sums_450 : decode b_Mod_sums 450 = .ok (.lload 4, 2) := by decide +kernel
theorem d_Mod_sums_452 : decode b_Mod_sums 452 = .ok (.lcmp, 1) := by decide +kernel
theorem d_Mod_sums_453 : decode b_Mod_sums 453 = .ok (.ifCond .ne 7, 3) := by decide +kernel
theorem d_Mod_sums_456 : decode b_Mod_sums 456 = .ok (.iconst 1, 1) := by decide +kernel
theorem d_Mod_sums_457 : decode b_Mod_sums 457 = .ok (.goto 4, 3) := by decide +kernel
theorem d_Mod_sums_460 : decode b_Mod_sums 460 = .ok (.iconst 0, 1) := by decide +kernel
theorem d_Mod_sums_461 : decode b_Mod_sums 461 = .ok (.invokevirtual 190, 3) := by decide +kernel
theorem d_Mod_sums_464 : decode b_Mod_sums 464 = .ok (.ireturn, 1) := by decide +kernel
theorem d_Mod_sums_465 : decode b_Mod_sums 465 = .ok (.aload_n 0, 1) := by decide +kernel
theorem d_Mod_sums_466 : decode b_Mod_sums 466 = .ok (.lload_n 2, 1) := by decide +kernel
theorem d_Mod_sums_467 : decode b_Mod_sums 467 = .ok (.lload 4, 2) := by decide +kernel
theorem d_Mod_sums_469 : decode b_Mod_sums 469 = .ok (.lcmp, 1) := by decide +kernel
theorem d_Mod_sums_470 : decode b_Mod_sums 470 = .ok (.ifCond .ge 7, 3) := by decide +kernel
theorem d_Mod_sums_473 : decode b_Mod_sums 473 = .ok (.iconst 1, 1) := by decide +kernel
theorem d_Mod_sums_474 : decode b_Mod_sums 474 = .ok (.goto 4, 3) := by decide +kernel
theorem d_Mod_sums_477 : decode b_Mod_sums 477 = .ok (.iconst 0, 1) := by decide +kernel
theorem d_Mod_sums_478 : decode b_Mod_sums 478 = .ok (.invokevirtual 190, 3) := by decide +kernel
theorem d_Mod_sums_481 : decode b_Mod_sums 481 = .ok (.ireturn, 1) := by decide +kernel
theorem d_Mod_sums_482 : decode b_Mod_sums 482 = .ok (.aload_n 0, 1) := by decide +kernel
theorem d_Mod_sums_483 : decode b_Mod_sums 483 = .ok (.lload_n 2, 1) := by decide +kernel
theorem d_Mod_sums_484 : decode b_Mod_sums 484 = .ok (.lload 4, 2) := by decide +kernel
theorem d_Mod_sums_486 : decode b_Mod_sums 486 = .ok (.lcmp, 1) := by decide +kernel
theorem d_Mod_sums_487 : decode b_Mod_sums 487 = .ok (.ifCond .gt 7, 3) := by decide +kernel
theorem d_Mod_sums_490 : decode b_Mod_sums 490 = .ok (.iconst 1, 1) := by decide +kernel
theorem d_Mod_sums_491 : decode b_Mod_sums 491 = .ok (.goto 4, 3) := by decide +kernel
theorem d_Mod_sums_494 : decode b_Mod_sums 494 = .ok (.iconst 0, 1) := by decide +kernel
theorem d_Mod_sums_495 : decode b_Mod_sums 495 = .ok (.invokevirtual 190, 3) := by decide +kernel
theorem d_Mod_sums_498 : decode b_Mod_sums 498 = .ok (.ireturn, 1) := by decide +kernel
def f_Mod_sums (R_values : Int) (R_fault : Int) (R_valueKinds : Int → Int) (R_valueNumbers : Int → Int) (R_given : Int → Int) (p1 : Int) (p2 : Int) (p4 : Int) : Option (Int × Int × Int × (Int → Int) × (Int → Int) × (Int → Int)) :=
  if jl2 p4 (-1) = true then (if p4 = (-1) then (
   if jl2 p2 (-9223372036854775808) = true then (if p2 = (-9223372036854775808) then (
    if rI p1 = true then (
     if p1 = 0 then (
      if jl2 p4 0 = true then (if p4 ≤ 0 then (
       if jl2 p2 ((-9223372036854775808) - p4) = true then (if ((-9223372036854775808) - p4) ≤ p2 then (
        ob5 (f_Mod_make R_values R_valueKinds R_valueNumbers R_given 0 (p2 + p4)) (fun r529 R_values_530 R_valueKinds_531 R_valueNumbers_532 R_given_533 =>
         some (r529, R_values_530, R_fault, R_valueKinds_531, R_valueNumbers_532, R_given_533))) else (
        ob2 (f_Mod_fail R_fault 3) (fun r535 R_fault_536 =>
         some (r535, R_values, R_fault_536, R_valueKinds, R_valueNumbers, R_given)))) else none) else (
       if jl2 p2 (9223372036854775807 - p4) = true then (if p2 ≤ (9223372036854775807 - p4) then (
        ob5 (f_Mod_make R_values R_valueKinds R_valueNumbers R_given 0 (p2 + p4)) (fun r539 R_values_540 R_valueKinds_541 R_valueNumbers_542 R_given_543 =>
         some (r539, R_values_540, R_fault, R_valueKinds_541, R_valueNumbers_542, R_given_543))) else (
        ob2 (f_Mod_fail R_fault 3) (fun r545 R_fault_546 =>
         some (r545, R_values, R_fault_546, R_valueKinds, R_valueNumbers, R_given)))) else none)) else none) else (
      if p1 = 1 then (
       if jl2 p4 0 = true then (if 0 ≤ p4 then (
        if jl2 p2 ((-9223372036854775808) + p4) = true then (if ((-9223372036854775808) + p4) ≤ p2 then (
         ob5 (f_Mod_make R_values R_valueKinds R_valueNumbers R_given 0 (p2 - p4)) (fun r551 R_values_552 R_valueKinds_553 R_valueNumbers_554 R_given_555 =>
          some (r551, R_values_552, R_fault, R_valueKinds_553, R_valueNumbers_554, R_given_555))) else (
         ob2 (f_Mod_fail R_fault 3) (fun r557 R_fault_558 =>
          some (r557, R_values, R_fault_558, R_valueKinds, R_valueNumbers, R_given)))) else none) else (
        if jl2 p2 (9223372036854775807 + p4) = true then (if p2 ≤ (9223372036854775807 + p4) then (
         ob5 (f_Mod_make R_values R_valueKinds R_valueNumbers R_given 0 (p2 - p4)) (fun r561 R_values_562 R_valueKinds_563 R_valueNumbers_564 R_given_565 =>
          some (r561, R_values_562, R_fault, R_valueKinds_563, R_valueNumbers_564, R_given_565))) else (
         ob2 (f_Mod_fail R_fault 3) (fun r567 R_fault_568 =>
          some (r567, R_values, R_fault_568, R_valueKinds, R_valueNumbers, R_given)))) else none)) else none) else (
       if p1 = 2 then (
        Option.bind (f_Mod_isProduct p2 p4) (fun r571 =>
         if rI r571 = true then (if r571 = 0 then (
          ob2 (f_Mod_fail R_fault 3) (fun r574 R_fault_575 =>
           some (r574, R_values, R_fault_575, R_valueKinds, R_valueNumbers, R_given))) else (
          ob5 (f_Mod_make R_values R_valueKinds R_valueNumbers R_given 0 (p2 * p4)) (fun r577 R_values_578 R_valueKinds_579 R_valueNumbers_580 R_given_581 =>
           some (r577, R_values_578, R_fault, R_valueKinds_579, R_valueNumbers_580, R_given_581)))) else none)) else (
        if p1 = 3 then (
         if jl2 p4 0 = true then (if p4 = 0 then (
          ob2 (f_Mod_fail R_fault 3) (fun r585 R_fault_586 =>
           some (r585, R_values, R_fault_586, R_valueKinds, R_valueNumbers, R_given))) else (
          ob2 (f_Mod_fail R_fault 3) (fun r588 R_fault_589 =>
           some (r588, R_values, R_fault_589, R_valueKinds, R_valueNumbers, R_given)))) else none) else (
         if p1 = 4 then (
          if jl2 p4 0 = true then (if p4 = 0 then (
           ob2 (f_Mod_fail R_fault 3) (fun r599 R_fault_600 =>
            some (r599, R_values, R_fault_600, R_valueKinds, R_valueNumbers, R_given))) else (
           ob5 (f_Mod_make R_values R_valueKinds R_valueNumbers R_given 0 0) (fun r593 R_values_594 R_valueKinds_595 R_valueNumbers_596 R_given_597 =>
            some (r593, R_values_594, R_fault, R_valueKinds_595, R_valueNumbers_596, R_given_597)))) else none) else (
          if p1 = 5 then (
           if jl2 p4 0 = true then (if p4 = 0 then (
            ob2 (f_Mod_fail R_fault 3) (fun r604 R_fault_605 =>
             some (r604, R_values, R_fault_605, R_valueKinds, R_valueNumbers, R_given))) else (
            ob2 (f_Mod_fail R_fault 3) (fun r607 R_fault_608 =>
             some (r607, R_values, R_fault_608, R_valueKinds, R_valueNumbers, R_given)))) else none) else (
           if p1 = 6 then (
            if jl2 p4 0 = true then (if p4 = 0 then (
             ob2 (f_Mod_fail R_fault 3) (fun r618 R_fault_619 =>
              some (r618, R_values, R_fault_619, R_valueKinds, R_valueNumbers, R_given))) else (
             ob5 (f_Mod_make R_values R_valueKinds R_valueNumbers R_given 0 0) (fun r612 R_values_613 R_valueKinds_614 R_valueNumbers_615 R_given_616 =>
              some (r612, R_values_613, R_fault, R_valueKinds_614, R_valueNumbers_615, R_given_616)))) else none) else (
            if p1 = 7 then (
             if jl2 p2 p4 = true then (if p2 = p4 then (
              ob5 (f_Mod_truth R_values R_valueKinds R_valueNumbers R_given 1) (fun r629 R_values_630 R_valueKinds_631 R_valueNumbers_632 R_given_633 =>
               some (r629, R_values_630, R_fault, R_valueKinds_631, R_valueNumbers_632, R_given_633))) else (
              ob5 (f_Mod_truth R_values R_valueKinds R_valueNumbers R_given 0) (fun r623 R_values_624 R_valueKinds_625 R_valueNumbers_626 R_given_627 =>
               some (r623, R_values_624, R_fault, R_valueKinds_625, R_valueNumbers_626, R_given_627)))) else none) else (
             if p1 = 8 then (
              if jl2 p2 p4 = true then (if p4 ≤ p2 then (
               ob5 (f_Mod_truth R_values R_valueKinds R_valueNumbers R_given 0) (fun r637 R_values_638 R_valueKinds_639 R_valueNumbers_640 R_given_641 =>
                some (r637, R_values_638, R_fault, R_valueKinds_639, R_valueNumbers_640, R_given_641))) else (
               ob5 (f_Mod_truth R_values R_valueKinds R_valueNumbers R_given 1) (fun r643 R_values_644 R_valueKinds_645 R_valueNumbers_646 R_given_647 =>
                some (r643, R_values_644, R_fault, R_valueKinds_645, R_valueNumbers_646, R_given_647)))) else none) else (
              if jl2 p2 p4 = true then (if p4 < p2 then (
               ob5 (f_Mod_truth R_values R_valueKinds R_valueNumbers R_given 0) (fun r650 R_values_651 R_valueKinds_652 R_valueNumbers_653 R_given_654 =>
                some (r650, R_values_651, R_fault, R_valueKinds_652, R_valueNumbers_653, R_given_654))) else (
               ob5 (f_Mod_truth R_values R_valueKinds R_valueNumbers R_given 1) (fun r656 R_values_657 R_valueKinds_658 R_valueNumbers_659 R_given_660 =>
                some (r656, R_values_657, R_fault, R_valueKinds_658, R_valueNumbers_659, R_given_660)))) else none)))))))))) else none) else (
    if rI p1 = true then (
     if p1 = 0 then (
      if jl2 p4 0 = true then (if p4 ≤ 0 then (
       if jl2 p2 ((-9223372036854775808) - p4) = true then (if ((-9223372036854775808) - p4) ≤ p2 then (
        ob5 (f_Mod_make R_values R_valueKinds R_valueNumbers R_given 0 (p2 + p4)) (fun r268 R_values_269 R_valueKinds_270 R_valueNumbers_271 R_given_272 =>
         some (r268, R_values_269, R_fault, R_valueKinds_270, R_valueNumbers_271, R_given_272))) else (
        ob2 (f_Mod_fail R_fault 3) (fun r274 R_fault_275 =>
         some (r274, R_values, R_fault_275, R_valueKinds, R_valueNumbers, R_given)))) else none) else (
       if jl2 p2 (9223372036854775807 - p4) = true then (if p2 ≤ (9223372036854775807 - p4) then (
        ob5 (f_Mod_make R_values R_valueKinds R_valueNumbers R_given 0 (p2 + p4)) (fun r278 R_values_279 R_valueKinds_280 R_valueNumbers_281 R_given_282 =>
         some (r278, R_values_279, R_fault, R_valueKinds_280, R_valueNumbers_281, R_given_282))) else (
        ob2 (f_Mod_fail R_fault 3) (fun r284 R_fault_285 =>
         some (r284, R_values, R_fault_285, R_valueKinds, R_valueNumbers, R_given)))) else none)) else none) else (
      if p1 = 1 then (
       if jl2 p4 0 = true then (if 0 ≤ p4 then (
        if jl2 p2 ((-9223372036854775808) + p4) = true then (if ((-9223372036854775808) + p4) ≤ p2 then (
         ob5 (f_Mod_make R_values R_valueKinds R_valueNumbers R_given 0 (p2 - p4)) (fun r290 R_values_291 R_valueKinds_292 R_valueNumbers_293 R_given_294 =>
          some (r290, R_values_291, R_fault, R_valueKinds_292, R_valueNumbers_293, R_given_294))) else (
         ob2 (f_Mod_fail R_fault 3) (fun r296 R_fault_297 =>
          some (r296, R_values, R_fault_297, R_valueKinds, R_valueNumbers, R_given)))) else none) else (
        if jl2 p2 (9223372036854775807 + p4) = true then (if p2 ≤ (9223372036854775807 + p4) then (
         ob5 (f_Mod_make R_values R_valueKinds R_valueNumbers R_given 0 (p2 - p4)) (fun r300 R_values_301 R_valueKinds_302 R_valueNumbers_303 R_given_304 =>
          some (r300, R_values_301, R_fault, R_valueKinds_302, R_valueNumbers_303, R_given_304))) else (
         ob2 (f_Mod_fail R_fault 3) (fun r306 R_fault_307 =>
          some (r306, R_values, R_fault_307, R_valueKinds, R_valueNumbers, R_given)))) else none)) else none) else (
       if p1 = 2 then (
        Option.bind (f_Mod_isProduct p2 p4) (fun r310 =>
         if rI r310 = true then (if r310 = 0 then (
          ob2 (f_Mod_fail R_fault 3) (fun r313 R_fault_314 =>
           some (r313, R_values, R_fault_314, R_valueKinds, R_valueNumbers, R_given))) else (
          ob5 (f_Mod_make R_values R_valueKinds R_valueNumbers R_given 0 (p2 * p4)) (fun r316 R_values_317 R_valueKinds_318 R_valueNumbers_319 R_given_320 =>
           some (r316, R_values_317, R_fault, R_valueKinds_318, R_valueNumbers_319, R_given_320)))) else none)) else (
        if p1 = 3 then (
         if jl2 p4 0 = true then (if p4 = 0 then (
          ob2 (f_Mod_fail R_fault 3) (fun r324 R_fault_325 =>
           some (r324, R_values, R_fault_325, R_valueKinds, R_valueNumbers, R_given))) else (
          if jdl p2 p4 = true then (
           if jdl p2 p4 = true then (
            if jl2 (p2 - (Int.tdiv p2 p4) * p4) 0 = true then (if (p2 - (Int.tdiv p2 p4) * p4) = 0 then (
             ob5 (f_Mod_make R_values R_valueKinds R_valueNumbers R_given 0 ((Int.tdiv p2 p4) - 0)) (fun r330 R_values_331 R_valueKinds_332 R_valueNumbers_333 R_given_334 =>
              some (r330, R_values_331, R_fault, R_valueKinds_332, R_valueNumbers_333, R_given_334))) else (
             if jl2 p2 0 = true then (if 0 ≤ p2 then (
              if jl2 p4 0 = true then (if 0 ≤ p4 then (
               if jr2 0 0 = true then (if 0 = 0 then (
                ob5 (f_Mod_make R_values R_valueKinds R_valueNumbers R_given 0 ((Int.tdiv p2 p4) - 0)) (fun r339 R_values_340 R_valueKinds_341 R_valueNumbers_342 R_given_343 =>
                 some (r339, R_values_340, R_fault, R_valueKinds_341, R_valueNumbers_342, R_given_343))) else (
                ob5 (f_Mod_make R_values R_valueKinds R_valueNumbers R_given 0 ((Int.tdiv p2 p4) - 1)) (fun r345 R_values_346 R_valueKinds_347 R_valueNumbers_348 R_given_349 =>
                 some (r345, R_values_346, R_fault, R_valueKinds_347, R_valueNumbers_348, R_given_349)))) else none) else (
               if jr2 0 1 = true then (if 0 = 1 then (
                ob5 (f_Mod_make R_values R_valueKinds R_valueNumbers R_given 0 ((Int.tdiv p2 p4) - 0)) (fun r352 R_values_353 R_valueKinds_354 R_valueNumbers_355 R_given_356 =>
                 some (r352, R_values_353, R_fault, R_valueKinds_354, R_valueNumbers_355, R_given_356))) else (
                ob5 (f_Mod_make R_values R_valueKinds R_valueNumbers R_given 0 ((Int.tdiv p2 p4) - 1)) (fun r358 R_values_359 R_valueKinds_360 R_valueNumbers_361 R_given_362 =>
                 some (r358, R_values_359, R_fault, R_valueKinds_360, R_valueNumbers_361, R_given_362)))) else none)) else none) else (
              if jl2 p4 0 = true then (if 0 ≤ p4 then (
               if jr2 1 0 = true then (if 1 = 0 then (
                ob5 (f_Mod_make R_values R_valueKinds R_valueNumbers R_given 0 ((Int.tdiv p2 p4) - 0)) (fun r366 R_values_367 R_valueKinds_368 R_valueNumbers_369 R_given_370 =>
                 some (r366, R_values_367, R_fault, R_valueKinds_368, R_valueNumbers_369, R_given_370))) else (
                ob5 (f_Mod_make R_values R_valueKinds R_valueNumbers R_given 0 ((Int.tdiv p2 p4) - 1)) (fun r372 R_values_373 R_valueKinds_374 R_valueNumbers_375 R_given_376 =>
                 some (r372, R_values_373, R_fault, R_valueKinds_374, R_valueNumbers_375, R_given_376)))) else none) else (
               if jr2 1 1 = true then (if 1 = 1 then (
                ob5 (f_Mod_make R_values R_valueKinds R_valueNumbers R_given 0 ((Int.tdiv p2 p4) - 0)) (fun r379 R_values_380 R_valueKinds_381 R_valueNumbers_382 R_given_383 =>
                 some (r379, R_values_380, R_fault, R_valueKinds_381, R_valueNumbers_382, R_given_383))) else (
                ob5 (f_Mod_make R_values R_valueKinds R_valueNumbers R_given 0 ((Int.tdiv p2 p4) - 1)) (fun r385 R_values_386 R_valueKinds_387 R_valueNumbers_388 R_given_389 =>
                 some (r385, R_values_386, R_fault, R_valueKinds_387, R_valueNumbers_388, R_given_389)))) else none)) else none)) else none)) else none) else none) else none)) else none) else (
         if p1 = 4 then (
          if jl2 p4 0 = true then (if p4 = 0 then (
           ob2 (f_Mod_fail R_fault 3) (fun r457 R_fault_458 =>
            some (r457, R_values, R_fault_458, R_valueKinds, R_valueNumbers, R_given))) else (
           if jdl p2 p4 = true then (
            if jdl p2 p4 = true then (
             if jl2 (p2 - (Int.tdiv p2 p4) * p4) 0 = true then (if (p2 - (Int.tdiv p2 p4) * p4) = 0 then (
              ob5 (f_Mod_make R_values R_valueKinds R_valueNumbers R_given 0 ((p2 - (Int.tdiv p2 p4) * p4) + 0)) (fun r396 R_values_397 R_valueKinds_398 R_valueNumbers_399 R_given_400 =>
               some (r396, R_values_397, R_fault, R_valueKinds_398, R_valueNumbers_399, R_given_400))) else (
              if jl2 p2 0 = true then (if 0 ≤ p2 then (
               if jl2 p4 0 = true then (if 0 ≤ p4 then (
                if jr2 0 0 = true then (if 0 = 0 then (
                 ob5 (f_Mod_make R_values R_valueKinds R_valueNumbers R_given 0 ((p2 - (Int.tdiv p2 p4) * p4) + 0)) (fun r405 R_values_406 R_valueKinds_407 R_valueNumbers_408 R_given_409 =>
                  some (r405, R_values_406, R_fault, R_valueKinds_407, R_valueNumbers_408, R_given_409))) else (
                 ob5 (f_Mod_make R_values R_valueKinds R_valueNumbers R_given 0 ((p2 - (Int.tdiv p2 p4) * p4) + p4)) (fun r411 R_values_412 R_valueKinds_413 R_valueNumbers_414 R_given_415 =>
                  some (r411, R_values_412, R_fault, R_valueKinds_413, R_valueNumbers_414, R_given_415)))) else none) else (
                if jr2 0 1 = true then (if 0 = 1 then (
                 ob5 (f_Mod_make R_values R_valueKinds R_valueNumbers R_given 0 ((p2 - (Int.tdiv p2 p4) * p4) + 0)) (fun r418 R_values_419 R_valueKinds_420 R_valueNumbers_421 R_given_422 =>
                  some (r418, R_values_419, R_fault, R_valueKinds_420, R_valueNumbers_421, R_given_422))) else (
                 ob5 (f_Mod_make R_values R_valueKinds R_valueNumbers R_given 0 ((p2 - (Int.tdiv p2 p4) * p4) + p4)) (fun r424 R_values_425 R_valueKinds_426 R_valueNumbers_427 R_given_428 =>
                  some (r424, R_values_425, R_fault, R_valueKinds_426, R_valueNumbers_427, R_given_428)))) else none)) else none) else (
               if jl2 p4 0 = true then (if 0 ≤ p4 then (
                if jr2 1 0 = true then (if 1 = 0 then (
                 ob5 (f_Mod_make R_values R_valueKinds R_valueNumbers R_given 0 ((p2 - (Int.tdiv p2 p4) * p4) + 0)) (fun r432 R_values_433 R_valueKinds_434 R_valueNumbers_435 R_given_436 =>
                  some (r432, R_values_433, R_fault, R_valueKinds_434, R_valueNumbers_435, R_given_436))) else (
                 ob5 (f_Mod_make R_values R_valueKinds R_valueNumbers R_given 0 ((p2 - (Int.tdiv p2 p4) * p4) + p4)) (fun r438 R_values_439 R_valueKinds_440 R_valueNumbers_441 R_given_442 =>
                  some (r438, R_values_439, R_fault, R_valueKinds_440, R_valueNumbers_441, R_given_442)))) else none) else (
                if jr2 1 1 = true then (if 1 = 1 then (
                 ob5 (f_Mod_make R_values R_valueKinds R_valueNumbers R_given 0 ((p2 - (Int.tdiv p2 p4) * p4) + 0)) (fun r445 R_values_446 R_valueKinds_447 R_valueNumbers_448 R_given_449 =>
                  some (r445, R_values_446, R_fault, R_valueKinds_447, R_valueNumbers_448, R_given_449))) else (
                 ob5 (f_Mod_make R_values R_valueKinds R_valueNumbers R_given 0 ((p2 - (Int.tdiv p2 p4) * p4) + p4)) (fun r451 R_values_452 R_valueKinds_453 R_valueNumbers_454 R_given_455 =>
                  some (r451, R_values_452, R_fault, R_valueKinds_453, R_valueNumbers_454, R_given_455)))) else none)) else none)) else none)) else none) else none) else none)) else none) else (
          if p1 = 5 then (
           if jl2 p4 0 = true then (if p4 = 0 then (
            ob2 (f_Mod_fail R_fault 3) (fun r462 R_fault_463 =>
             some (r462, R_values, R_fault_463, R_valueKinds, R_valueNumbers, R_given))) else (
            if jdl p2 p4 = true then (
             ob5 (f_Mod_make R_values R_valueKinds R_valueNumbers R_given 0 (Int.tdiv p2 p4)) (fun r466 R_values_467 R_valueKinds_468 R_valueNumbers_469 R_given_470 =>
              some (r466, R_values_467, R_fault, R_valueKinds_468, R_valueNumbers_469, R_given_470))) else none)) else none) else (
           if p1 = 6 then (
            if jl2 p4 0 = true then (if p4 = 0 then (
             ob2 (f_Mod_fail R_fault 3) (fun r481 R_fault_482 =>
              some (r481, R_values, R_fault_482, R_valueKinds, R_valueNumbers, R_given))) else (
             if jdl p2 p4 = true then (
              ob5 (f_Mod_make R_values R_valueKinds R_valueNumbers R_given 0 (p2 - (Int.tdiv p2 p4) * p4)) (fun r475 R_values_476 R_valueKinds_477 R_valueNumbers_478 R_given_479 =>
               some (r475, R_values_476, R_fault, R_valueKinds_477, R_valueNumbers_478, R_given_479))) else none)) else none) else (
            if p1 = 7 then (
             if jl2 p2 p4 = true then (if p2 = p4 then (
              ob5 (f_Mod_truth R_values R_valueKinds R_valueNumbers R_given 1) (fun r492 R_values_493 R_valueKinds_494 R_valueNumbers_495 R_given_496 =>
               some (r492, R_values_493, R_fault, R_valueKinds_494, R_valueNumbers_495, R_given_496))) else (
              ob5 (f_Mod_truth R_values R_valueKinds R_valueNumbers R_given 0) (fun r486 R_values_487 R_valueKinds_488 R_valueNumbers_489 R_given_490 =>
               some (r486, R_values_487, R_fault, R_valueKinds_488, R_valueNumbers_489, R_given_490)))) else none) else (
             if p1 = 8 then (
              if jl2 p2 p4 = true then (if p4 ≤ p2 then (
               ob5 (f_Mod_truth R_values R_valueKinds R_valueNumbers R_given 0) (fun r500 R_values_501 R_valueKinds_502 R_valueNumbers_503 R_given_504 =>
                some (r500, R_values_501, R_fault, R_valueKinds_502, R_valueNumbers_503, R_given_504))) else (
               ob5 (f_Mod_truth R_values R_valueKinds R_valueNumbers R_given 1) (fun r506 R_values_507 R_valueKinds_508 R_valueNumbers_509 R_given_510 =>
                some (r506, R_values_507, R_fault, R_valueKinds_508, R_valueNumbers_509, R_given_510)))) else none) else (
              if jl2 p2 p4 = true then (if p4 < p2 then (
               ob5 (f_Mod_truth R_values R_valueKinds R_valueNumbers R_given 0) (fun r513 R_values_514 R_valueKinds_515 R_valueNumbers_516 R_given_517 =>
                some (r513, R_values_514, R_fault, R_valueKinds_515, R_valueNumbers_516, R_given_517))) else (
               ob5 (f_Mod_truth R_values R_valueKinds R_valueNumbers R_given 1) (fun r519 R_values_520 R_valueKinds_521 R_valueNumbers_522 R_given_523 =>
                some (r519, R_values_520, R_fault, R_valueKinds_521, R_valueNumbers_522, R_given_523)))) else none)))))))))) else none)) else none) else (
   if rI p1 = true then (
    if p1 = 0 then (
     if jl2 p4 0 = true then (if p4 ≤ 0 then (
      if jl2 p2 ((-9223372036854775808) - p4) = true then (if ((-9223372036854775808) - p4) ≤ p2 then (
       ob5 (f_Mod_make R_values R_valueKinds R_valueNumbers R_given 0 (p2 + p4)) (fun r6 R_values_7 R_valueKinds_8 R_valueNumbers_9 R_given_10 =>
        some (r6, R_values_7, R_fault, R_valueKinds_8, R_valueNumbers_9, R_given_10))) else (
       ob2 (f_Mod_fail R_fault 3) (fun r12 R_fault_13 =>
        some (r12, R_values, R_fault_13, R_valueKinds, R_valueNumbers, R_given)))) else none) else (
      if jl2 p2 (9223372036854775807 - p4) = true then (if p2 ≤ (9223372036854775807 - p4) then (
       ob5 (f_Mod_make R_values R_valueKinds R_valueNumbers R_given 0 (p2 + p4)) (fun r16 R_values_17 R_valueKinds_18 R_valueNumbers_19 R_given_20 =>
        some (r16, R_values_17, R_fault, R_valueKinds_18, R_valueNumbers_19, R_given_20))) else (
       ob2 (f_Mod_fail R_fault 3) (fun r22 R_fault_23 =>
        some (r22, R_values, R_fault_23, R_valueKinds, R_valueNumbers, R_given)))) else none)) else none) else (
     if p1 = 1 then (
      if jl2 p4 0 = true then (if 0 ≤ p4 then (
       if jl2 p2 ((-9223372036854775808) + p4) = true then (if ((-9223372036854775808) + p4) ≤ p2 then (
        ob5 (f_Mod_make R_values R_valueKinds R_valueNumbers R_given 0 (p2 - p4)) (fun r28 R_values_29 R_valueKinds_30 R_valueNumbers_31 R_given_32 =>
         some (r28, R_values_29, R_fault, R_valueKinds_30, R_valueNumbers_31, R_given_32))) else (
        ob2 (f_Mod_fail R_fault 3) (fun r34 R_fault_35 =>
         some (r34, R_values, R_fault_35, R_valueKinds, R_valueNumbers, R_given)))) else none) else (
       if jl2 p2 (9223372036854775807 + p4) = true then (if p2 ≤ (9223372036854775807 + p4) then (
        ob5 (f_Mod_make R_values R_valueKinds R_valueNumbers R_given 0 (p2 - p4)) (fun r38 R_values_39 R_valueKinds_40 R_valueNumbers_41 R_given_42 =>
         some (r38, R_values_39, R_fault, R_valueKinds_40, R_valueNumbers_41, R_given_42))) else (
        ob2 (f_Mod_fail R_fault 3) (fun r44 R_fault_45 =>
         some (r44, R_values, R_fault_45, R_valueKinds, R_valueNumbers, R_given)))) else none)) else none) else (
      if p1 = 2 then (
       Option.bind (f_Mod_isProduct p2 p4) (fun r48 =>
        if rI r48 = true then (if r48 = 0 then (
         ob2 (f_Mod_fail R_fault 3) (fun r51 R_fault_52 =>
          some (r51, R_values, R_fault_52, R_valueKinds, R_valueNumbers, R_given))) else (
         ob5 (f_Mod_make R_values R_valueKinds R_valueNumbers R_given 0 (p2 * p4)) (fun r54 R_values_55 R_valueKinds_56 R_valueNumbers_57 R_given_58 =>
          some (r54, R_values_55, R_fault, R_valueKinds_56, R_valueNumbers_57, R_given_58)))) else none)) else (
       if p1 = 3 then (
        if jl2 p4 0 = true then (if p4 = 0 then (
         ob2 (f_Mod_fail R_fault 3) (fun r62 R_fault_63 =>
          some (r62, R_values, R_fault_63, R_valueKinds, R_valueNumbers, R_given))) else (
         if jdl p2 p4 = true then (
          if jdl p2 p4 = true then (
           if jl2 (p2 - (Int.tdiv p2 p4) * p4) 0 = true then (if (p2 - (Int.tdiv p2 p4) * p4) = 0 then (
            ob5 (f_Mod_make R_values R_valueKinds R_valueNumbers R_given 0 ((Int.tdiv p2 p4) - 0)) (fun r68 R_values_69 R_valueKinds_70 R_valueNumbers_71 R_given_72 =>
             some (r68, R_values_69, R_fault, R_valueKinds_70, R_valueNumbers_71, R_given_72))) else (
            if jl2 p2 0 = true then (if 0 ≤ p2 then (
             if jl2 p4 0 = true then (if 0 ≤ p4 then (
              if jr2 0 0 = true then (if 0 = 0 then (
               ob5 (f_Mod_make R_values R_valueKinds R_valueNumbers R_given 0 ((Int.tdiv p2 p4) - 0)) (fun r77 R_values_78 R_valueKinds_79 R_valueNumbers_80 R_given_81 =>
                some (r77, R_values_78, R_fault, R_valueKinds_79, R_valueNumbers_80, R_given_81))) else (
               ob5 (f_Mod_make R_values R_valueKinds R_valueNumbers R_given 0 ((Int.tdiv p2 p4) - 1)) (fun r83 R_values_84 R_valueKinds_85 R_valueNumbers_86 R_given_87 =>
                some (r83, R_values_84, R_fault, R_valueKinds_85, R_valueNumbers_86, R_given_87)))) else none) else (
              if jr2 0 1 = true then (if 0 = 1 then (
               ob5 (f_Mod_make R_values R_valueKinds R_valueNumbers R_given 0 ((Int.tdiv p2 p4) - 0)) (fun r90 R_values_91 R_valueKinds_92 R_valueNumbers_93 R_given_94 =>
                some (r90, R_values_91, R_fault, R_valueKinds_92, R_valueNumbers_93, R_given_94))) else (
               ob5 (f_Mod_make R_values R_valueKinds R_valueNumbers R_given 0 ((Int.tdiv p2 p4) - 1)) (fun r96 R_values_97 R_valueKinds_98 R_valueNumbers_99 R_given_100 =>
                some (r96, R_values_97, R_fault, R_valueKinds_98, R_valueNumbers_99, R_given_100)))) else none)) else none) else (
             if jl2 p4 0 = true then (if 0 ≤ p4 then (
              if jr2 1 0 = true then (if 1 = 0 then (
               ob5 (f_Mod_make R_values R_valueKinds R_valueNumbers R_given 0 ((Int.tdiv p2 p4) - 0)) (fun r104 R_values_105 R_valueKinds_106 R_valueNumbers_107 R_given_108 =>
                some (r104, R_values_105, R_fault, R_valueKinds_106, R_valueNumbers_107, R_given_108))) else (
               ob5 (f_Mod_make R_values R_valueKinds R_valueNumbers R_given 0 ((Int.tdiv p2 p4) - 1)) (fun r110 R_values_111 R_valueKinds_112 R_valueNumbers_113 R_given_114 =>
                some (r110, R_values_111, R_fault, R_valueKinds_112, R_valueNumbers_113, R_given_114)))) else none) else (
              if jr2 1 1 = true then (if 1 = 1 then (
               ob5 (f_Mod_make R_values R_valueKinds R_valueNumbers R_given 0 ((Int.tdiv p2 p4) - 0)) (fun r117 R_values_118 R_valueKinds_119 R_valueNumbers_120 R_given_121 =>
                some (r117, R_values_118, R_fault, R_valueKinds_119, R_valueNumbers_120, R_given_121))) else (
               ob5 (f_Mod_make R_values R_valueKinds R_valueNumbers R_given 0 ((Int.tdiv p2 p4) - 1)) (fun r123 R_values_124 R_valueKinds_125 R_valueNumbers_126 R_given_127 =>
                some (r123, R_values_124, R_fault, R_valueKinds_125, R_valueNumbers_126, R_given_127)))) else none)) else none)) else none)) else none) else none) else none)) else none) else (
        if p1 = 4 then (
         if jl2 p4 0 = true then (if p4 = 0 then (
          ob2 (f_Mod_fail R_fault 3) (fun r195 R_fault_196 =>
           some (r195, R_values, R_fault_196, R_valueKinds, R_valueNumbers, R_given))) else (
          if jdl p2 p4 = true then (
           if jdl p2 p4 = true then (
            if jl2 (p2 - (Int.tdiv p2 p4) * p4) 0 = true then (if (p2 - (Int.tdiv p2 p4) * p4) = 0 then (
             ob5 (f_Mod_make R_values R_valueKinds R_valueNumbers R_given 0 ((p2 - (Int.tdiv p2 p4) * p4) + 0)) (fun r134 R_values_135 R_valueKinds_136 R_valueNumbers_137 R_given_138 =>
              some (r134, R_values_135, R_fault, R_valueKinds_136, R_valueNumbers_137, R_given_138))) else (
             if jl2 p2 0 = true then (if 0 ≤ p2 then (
              if jl2 p4 0 = true then (if 0 ≤ p4 then (
               if jr2 0 0 = true then (if 0 = 0 then (
                ob5 (f_Mod_make R_values R_valueKinds R_valueNumbers R_given 0 ((p2 - (Int.tdiv p2 p4) * p4) + 0)) (fun r143 R_values_144 R_valueKinds_145 R_valueNumbers_146 R_given_147 =>
                 some (r143, R_values_144, R_fault, R_valueKinds_145, R_valueNumbers_146, R_given_147))) else (
                ob5 (f_Mod_make R_values R_valueKinds R_valueNumbers R_given 0 ((p2 - (Int.tdiv p2 p4) * p4) + p4)) (fun r149 R_values_150 R_valueKinds_151 R_valueNumbers_152 R_given_153 =>
                 some (r149, R_values_150, R_fault, R_valueKinds_151, R_valueNumbers_152, R_given_153)))) else none) else (
               if jr2 0 1 = true then (if 0 = 1 then (
                ob5 (f_Mod_make R_values R_valueKinds R_valueNumbers R_given 0 ((p2 - (Int.tdiv p2 p4) * p4) + 0)) (fun r156 R_values_157 R_valueKinds_158 R_valueNumbers_159 R_given_160 =>
                 some (r156, R_values_157, R_fault, R_valueKinds_158, R_valueNumbers_159, R_given_160))) else (
                ob5 (f_Mod_make R_values R_valueKinds R_valueNumbers R_given 0 ((p2 - (Int.tdiv p2 p4) * p4) + p4)) (fun r162 R_values_163 R_valueKinds_164 R_valueNumbers_165 R_given_166 =>
                 some (r162, R_values_163, R_fault, R_valueKinds_164, R_valueNumbers_165, R_given_166)))) else none)) else none) else (
              if jl2 p4 0 = true then (if 0 ≤ p4 then (
               if jr2 1 0 = true then (if 1 = 0 then (
                ob5 (f_Mod_make R_values R_valueKinds R_valueNumbers R_given 0 ((p2 - (Int.tdiv p2 p4) * p4) + 0)) (fun r170 R_values_171 R_valueKinds_172 R_valueNumbers_173 R_given_174 =>
                 some (r170, R_values_171, R_fault, R_valueKinds_172, R_valueNumbers_173, R_given_174))) else (
                ob5 (f_Mod_make R_values R_valueKinds R_valueNumbers R_given 0 ((p2 - (Int.tdiv p2 p4) * p4) + p4)) (fun r176 R_values_177 R_valueKinds_178 R_valueNumbers_179 R_given_180 =>
                 some (r176, R_values_177, R_fault, R_valueKinds_178, R_valueNumbers_179, R_given_180)))) else none) else (
               if jr2 1 1 = true then (if 1 = 1 then (
                ob5 (f_Mod_make R_values R_valueKinds R_valueNumbers R_given 0 ((p2 - (Int.tdiv p2 p4) * p4) + 0)) (fun r183 R_values_184 R_valueKinds_185 R_valueNumbers_186 R_given_187 =>
                 some (r183, R_values_184, R_fault, R_valueKinds_185, R_valueNumbers_186, R_given_187))) else (
                ob5 (f_Mod_make R_values R_valueKinds R_valueNumbers R_given 0 ((p2 - (Int.tdiv p2 p4) * p4) + p4)) (fun r189 R_values_190 R_valueKinds_191 R_valueNumbers_192 R_given_193 =>
                 some (r189, R_values_190, R_fault, R_valueKinds_191, R_valueNumbers_192, R_given_193)))) else none)) else none)) else none)) else none) else none) else none)) else none) else (
         if p1 = 5 then (
          if jl2 p4 0 = true then (if p4 = 0 then (
           ob2 (f_Mod_fail R_fault 3) (fun r200 R_fault_201 =>
            some (r200, R_values, R_fault_201, R_valueKinds, R_valueNumbers, R_given))) else (
           if jdl p2 p4 = true then (
            ob5 (f_Mod_make R_values R_valueKinds R_valueNumbers R_given 0 (Int.tdiv p2 p4)) (fun r204 R_values_205 R_valueKinds_206 R_valueNumbers_207 R_given_208 =>
             some (r204, R_values_205, R_fault, R_valueKinds_206, R_valueNumbers_207, R_given_208))) else none)) else none) else (
          if p1 = 6 then (
           if jl2 p4 0 = true then (if p4 = 0 then (
            ob2 (f_Mod_fail R_fault 3) (fun r219 R_fault_220 =>
             some (r219, R_values, R_fault_220, R_valueKinds, R_valueNumbers, R_given))) else (
            if jdl p2 p4 = true then (
             ob5 (f_Mod_make R_values R_valueKinds R_valueNumbers R_given 0 (p2 - (Int.tdiv p2 p4) * p4)) (fun r213 R_values_214 R_valueKinds_215 R_valueNumbers_216 R_given_217 =>
              some (r213, R_values_214, R_fault, R_valueKinds_215, R_valueNumbers_216, R_given_217))) else none)) else none) else (
           if p1 = 7 then (
            if jl2 p2 p4 = true then (if p2 = p4 then (
             ob5 (f_Mod_truth R_values R_valueKinds R_valueNumbers R_given 1) (fun r230 R_values_231 R_valueKinds_232 R_valueNumbers_233 R_given_234 =>
              some (r230, R_values_231, R_fault, R_valueKinds_232, R_valueNumbers_233, R_given_234))) else (
             ob5 (f_Mod_truth R_values R_valueKinds R_valueNumbers R_given 0) (fun r224 R_values_225 R_valueKinds_226 R_valueNumbers_227 R_given_228 =>
              some (r224, R_values_225, R_fault, R_valueKinds_226, R_valueNumbers_227, R_given_228)))) else none) else (
            if p1 = 8 then (
             if jl2 p2 p4 = true then (if p4 ≤ p2 then (
              ob5 (f_Mod_truth R_values R_valueKinds R_valueNumbers R_given 0) (fun r238 R_values_239 R_valueKinds_240 R_valueNumbers_241 R_given_242 =>
               some (r238, R_values_239, R_fault, R_valueKinds_240, R_valueNumbers_241, R_given_242))) else (
              ob5 (f_Mod_truth R_values R_valueKinds R_valueNumbers R_given 1) (fun r244 R_values_245 R_valueKinds_246 R_valueNumbers_247 R_given_248 =>
               some (r244, R_values_245, R_fault, R_valueKinds_246, R_valueNumbers_247, R_given_248)))) else none) else (
             if jl2 p2 p4 = true then (if p4 < p2 then (
              ob5 (f_Mod_truth R_values R_valueKinds R_valueNumbers R_given 0) (fun r251 R_values_252 R_valueKinds_253 R_valueNumbers_254 R_given_255 =>
               some (r251, R_values_252, R_fault, R_valueKinds_253, R_valueNumbers_254, R_given_255))) else (
              ob5 (f_Mod_truth R_values R_valueKinds R_valueNumbers R_given 1) (fun r257 R_values_258 R_valueKinds_259 R_valueNumbers_260 R_given_261 =>
               some (r257, R_values_258, R_fault, R_valueKinds_259, R_valueNumbers_260, R_given_261)))) else none)))))))))) else none)) else none
set_option maxHeartbeats 4000000 in
set_option maxRecDepth 100000 in
theorem c_Mod_sums {l : Launch} {D : va_G} {cI cL cB : ClassId} {ad : Nat → Nat} {R_thrown : Int} {R_used : Int} {R_many : Int} {R_values : Int} {R_textEnd : Int} {R_dataEnd : Int} {R_rowEnd : Int} {R_rowMany : Int} {R_waiting : Int} {R_mostWaiting : Int} {R_answer : Int} {R_steps : Int} {R_memory : Int} {R_maxSteps : Int} {R_maxMemory : Int} {R_fault : Int} {R_result : Int} {R_now : Int} {R_nowRow : Int} {R_come : Int} {R_puts : Int} {R_valueKinds : Int → Int} {R_valueNumbers : Int → Int} {R_given : Int → Int} {p1 : Int} {p2 : Int} {p4 : Int} {out : Int × Int × Int × (Int → Int) × (Int → Int) × (Int → Int)} (h : f_Mod_sums R_values R_fault R_valueKinds R_valueNumbers R_given p1 p2 p4 = some out) : CT jF0 false l D [(cI, .int), (cL, .long), (cB, .byte)] y_Mod_sums w_Mod_sums ({ frames := 2, cells := 0, slots := 0, locals := 44 } : Room) [.ref (ad 0), .int (zI p1), .long (zL p2), .long (zL p4)] [(ad 0, .inr (10, [.int (zI R_thrown), .ref (ad 1), .ref (ad 2), .ref (ad 3), .ref (ad 4), .ref (ad 5), .ref (ad 6), .int (zI R_used), .ref (ad 7), .int (zI R_many), .ref (ad 8), .ref (ad 9), .ref (ad 10), .ref (ad 11), .ref (ad 12), .ref (ad 13), .ref (ad 14), .ref (ad 15), .ref (ad 16), .int (zI R_values), .ref (ad 17), .int (zI R_textEnd), .ref (ad 18), .ref (ad 19), .ref (ad 20), .ref (ad 21), .int (zI R_dataEnd), .ref (ad 22), .int (zI R_rowEnd), .ref (ad 23), .ref (ad 24), .int (zI R_rowMany), .ref (ad 25), .ref (ad 26), .ref (ad 27), .ref (ad 28), .int (zI R_waiting), .int (zI R_mostWaiting), .int (zI R_answer), .int (zI R_steps), .int (zI R_memory), .int (zI R_maxSteps), .int (zI R_maxMemory), .int (zI R_fault), .int (zI R_result), .int (zI R_now), .int (zI R_nowRow), .int (zI R_come), .ref (ad 29), .ref (ad 30), .int (zI R_puts), .ref (ad 31)])), (ad 8, .inl (cI, 3700, .inl (zA R_valueKinds))), (ad 9, .inl (cL, 3700, .inr (.inl (zB R_valueNumbers)))), (ad 14, .inl (cI, 3700, .inl (zA R_given)))] (some (.int (zI out.1))) [(ad 0, .inr (10, [.int (zI R_thrown), .ref (ad 1), .ref (ad 2), .ref (ad 3), .ref (ad 4), .ref (ad 5), .ref (ad 6), .int (zI R_used), .ref (ad 7), .int (zI R_many), .ref (ad 8), .ref (ad 9), .ref (ad 10), .ref (ad 11), .ref (ad 12), .ref (ad 13), .ref (ad 14), .ref (ad 15), .ref (ad 16), .int (zI (out.2.1)), .ref (ad 17), .int (zI R_textEnd), .ref (ad 18), .ref (ad 19), .ref (ad 20), .ref (ad 21), .int (zI R_dataEnd), .ref (ad 22), .int (zI R_rowEnd), .ref (ad 23), .ref (ad 24), .int (zI R_rowMany), .ref (ad 25), .ref (ad 26), .ref (ad 27), .ref (ad 28), .int (zI R_waiting), .int (zI R_mostWaiting), .int (zI R_answer), .int (zI R_steps), .int (zI R_memory), .int (zI R_maxSteps), .int (zI R_maxMemory), .int (zI (out.2.2.1)), .int (zI R_result), .int (zI R_now), .int (zI R_nowRow), .int (zI R_come), .ref (ad 29), .ref (ad 30), .int (zI R_puts), .ref (ad 31)])), (ad 8, .inl (cI, 3700, .inl (zA (out.2.2.2.1)))), (ad 9, .inl (cL, 3700, .inr (.inl (zB (out.2.2.2.2.1))))), (ad 14, .inl (cI, 3700, .inl (zA (out.2.2.2.2.2))))] 0 0 := by
  refine CT_of_J (cc := b_Mod_sums) (maxL := 7) (ret := (some .int)) jF0_k (by decide) rfl (Nat.le_of_ble_eq_true rfl) ?_
  intro K hKl hKD X E
  subst hKl; subst hKD
  unfold f_Mod_sums at h
  refine J_lload X d_Mod_sums_0 3 rfl ?_
  refine J_ldc2 (v := (-1)) (n := (-1)) X (j_m own_Mod_sums (by decide +kernel)) (by decide) d_Mod_sums_2 ?_
  refine J_lc_ne (tgt := 21) X d_Mod_sums_5 d_Mod_sums_6 (by decide) h (fun c1 h => ?_) (fun c1 h => ?_)
  · refine J_iconst X d_Mod_sums_21 ?_
    refine J_istore (lv' := [(6, .int (zI 0)), (0, .ref (ad 0)), (1, .int (zI p1)), (2, .long (zL p2)), (4, .long (zL p4))]) X d_Mod_sums_22 (by decide) rfl ?_
    refine J_iload_n X d_Mod_sums_24 rfl 2 rfl ?_
    obtain ⟨g2, h⟩ := wk_g h
    rcases wk_c h with ⟨c3, h⟩ | ⟨c3, h⟩
    · refine J_tsIn (tgt := 76) X 0 c3 g2 d_Mod_sums_25 (by decide) (by decide) rfl (by decide) ?_
      refine J_lload X d_Mod_sums_76 4 rfl ?_
      refine J_lconst (v := 0) X d_Mod_sums_78 (by decide) ?_
      refine J_lc_le (tgt := 114) X d_Mod_sums_79 d_Mod_sums_80 (by decide) h (fun c4 h => ?_) (fun c4 h => ?_)
      · refine J_lload_n X d_Mod_sums_114 rfl 3 rfl ?_
        refine J_ldc2 (v := (-9223372036854775808)) (n := (-9223372036854775808)) X (j_m own_Mod_sums (by decide +kernel)) (by decide) d_Mod_sums_115 ?_
        refine J_lload X d_Mod_sums_118 4 rfl ?_
        refine J_lsub X d_Mod_sums_120 ?_
        refine J_lc_ge (tgt := 133) X d_Mod_sums_121 d_Mod_sums_122 (by decide) h (fun c5 h => ?_) (fun c5 h => ?_)
        · refine J_aload_n X d_Mod_sums_133 rfl 1 rfl ?_
          refine J_iconst X d_Mod_sums_134 ?_
          refine J_lload_n X d_Mod_sums_135 rfl 3 rfl ?_
          refine J_lload X d_Mod_sums_136 4 rfl ?_
          refine J_ladd X d_Mod_sums_138 ?_
          obtain ⟨r6, R_values_7, R_valueKinds_8, R_valueNumbers_9, R_given_10, q11, h⟩ := wk_b5 h
          refine J_afterI0 (ws' := [(ad 0, .inr (10, [.int (zI R_thrown), .ref (ad 1), .ref (ad 2), .ref (ad 3), .ref (ad 4), .ref (ad 5), .ref (ad 6), .int (zI R_used), .ref (ad 7), .int (zI R_many), .ref (ad 8), .ref (ad 9), .ref (ad 10), .ref (ad 11), .ref (ad 12), .ref (ad 13), .ref (ad 14), .ref (ad 15), .ref (ad 16), .int (zI R_values_7), .ref (ad 17), .int (zI R_textEnd), .ref (ad 18), .ref (ad 19), .ref (ad 20), .ref (ad 21), .int (zI R_dataEnd), .ref (ad 22), .int (zI R_rowEnd), .ref (ad 23), .ref (ad 24), .int (zI R_rowMany), .ref (ad 25), .ref (ad 26), .ref (ad 27), .ref (ad 28), .int (zI R_waiting), .int (zI R_mostWaiting), .int (zI R_answer), .int (zI R_steps), .int (zI R_memory), .int (zI R_maxSteps), .int (zI R_maxMemory), .int (zI R_fault), .int (zI R_result), .int (zI R_now), .int (zI R_nowRow), .int (zI R_come), .ref (ad 29), .ref (ad 30), .int (zI R_puts), .ref (ad 31)])), (ad 8, .inl (cI, 3700, .inl (zA R_valueKinds_8))), (ad 9, .inl (cL, 3700, .inr (.inl (zB R_valueNumbers_9)))), (ad 14, .inl (cI, 3700, .inl (zA R_given_10)))]) X (jrunV X (c_Mod_make (ad := ad) q11) jF0_k (fun _ _ _ _ => trivial) (jgV own_Mod_sums (by decide +kernel)) rfl rfl rfl pd_Mod_make (by decide) [0, 1, 2, 3] rfl (by decide) 0 10 rfl rfl rfl rfl (Nat.le_of_ble_eq_true rfl) d_Mod_sums_139 (by decide)) [0, 1, 2, 3] [] [0, 1, 2, 3] rfl rfl (by decide) (by decide) rfl (by decide) ?_
          cases h
          exact J_ret E ⟨_, rfl, rfl⟩ d_Mod_sums_142 (Nat.le_refl _) (Nat.le_refl _) rfl
        · refine J_aload_n X d_Mod_sums_125 rfl 1 rfl ?_
          refine J_iconst X d_Mod_sums_126 ?_
          obtain ⟨r12, R_fault_13, q14, h⟩ := wk_b2 h
          refine J_afterI0 (ws' := [(ad 0, .inr (10, [.int (zI R_thrown), .ref (ad 1), .ref (ad 2), .ref (ad 3), .ref (ad 4), .ref (ad 5), .ref (ad 6), .int (zI R_used), .ref (ad 7), .int (zI R_many), .ref (ad 8), .ref (ad 9), .ref (ad 10), .ref (ad 11), .ref (ad 12), .ref (ad 13), .ref (ad 14), .ref (ad 15), .ref (ad 16), .int (zI R_values), .ref (ad 17), .int (zI R_textEnd), .ref (ad 18), .ref (ad 19), .ref (ad 20), .ref (ad 21), .int (zI R_dataEnd), .ref (ad 22), .int (zI R_rowEnd), .ref (ad 23), .ref (ad 24), .int (zI R_rowMany), .ref (ad 25), .ref (ad 26), .ref (ad 27), .ref (ad 28), .int (zI R_waiting), .int (zI R_mostWaiting), .int (zI R_answer), .int (zI R_steps), .int (zI R_memory), .int (zI R_maxSteps), .int (zI R_maxMemory), .int (zI R_fault_13), .int (zI R_result), .int (zI R_now), .int (zI R_nowRow), .int (zI R_come), .ref (ad 29), .ref (ad 30), .int (zI R_puts), .ref (ad 31)])), (ad 8, .inl (cI, 3700, .inl (zA R_valueKinds))), (ad 9, .inl (cL, 3700, .inr (.inl (zB R_valueNumbers)))), (ad 14, .inl (cI, 3700, .inl (zA R_given)))]) X (jrunV X (c_Mod_fail (ad := ad) q14) jF0_k (fun _ _ _ _ => trivial) (jgV own_Mod_sums (by decide +kernel)) rfl rfl rfl pd_Mod_fail (by decide) [0] rfl (by decide) 0 10 rfl rfl rfl rfl (Nat.le_of_ble_eq_true rfl) d_Mod_sums_127 (by decide)) [0] [1, 2, 3] [3, 0, 1, 2] rfl rfl (by decide) (by decide) rfl (by decide) ?_
          refine J_goto (tgt := 142) X d_Mod_sums_130 (by decide) ?_
          cases h
          exact J_ret E ⟨_, rfl, rfl⟩ d_Mod_sums_142 (Nat.le_refl _) (Nat.le_refl _) rfl
      · refine J_lload_n X d_Mod_sums_83 rfl 3 rfl ?_
        refine J_ldc2 (v := 9223372036854775807) (n := 9223372036854775807) X (j_m own_Mod_sums (by decide +kernel)) (by decide) d_Mod_sums_84 ?_
        refine J_lload X d_Mod_sums_87 4 rfl ?_
        refine J_lsub X d_Mod_sums_89 ?_
        refine J_lc_le (tgt := 102) X d_Mod_sums_90 d_Mod_sums_91 (by decide) h (fun c15 h => ?_) (fun c15 h => ?_)
        · refine J_aload_n X d_Mod_sums_102 rfl 1 rfl ?_
          refine J_iconst X d_Mod_sums_103 ?_
          refine J_lload_n X d_Mod_sums_104 rfl 3 rfl ?_
          refine J_lload X d_Mod_sums_105 4 rfl ?_
          refine J_ladd X d_Mod_sums_107 ?_
          obtain ⟨r16, R_values_17, R_valueKinds_18, R_valueNumbers_19, R_given_20, q21, h⟩ := wk_b5 h
          refine J_afterI0 (ws' := [(ad 0, .inr (10, [.int (zI R_thrown), .ref (ad 1), .ref (ad 2), .ref (ad 3), .ref (ad 4), .ref (ad 5), .ref (ad 6), .int (zI R_used), .ref (ad 7), .int (zI R_many), .ref (ad 8), .ref (ad 9), .ref (ad 10), .ref (ad 11), .ref (ad 12), .ref (ad 13), .ref (ad 14), .ref (ad 15), .ref (ad 16), .int (zI R_values_17), .ref (ad 17), .int (zI R_textEnd), .ref (ad 18), .ref (ad 19), .ref (ad 20), .ref (ad 21), .int (zI R_dataEnd), .ref (ad 22), .int (zI R_rowEnd), .ref (ad 23), .ref (ad 24), .int (zI R_rowMany), .ref (ad 25), .ref (ad 26), .ref (ad 27), .ref (ad 28), .int (zI R_waiting), .int (zI R_mostWaiting), .int (zI R_answer), .int (zI R_steps), .int (zI R_memory), .int (zI R_maxSteps), .int (zI R_maxMemory), .int (zI R_fault), .int (zI R_result), .int (zI R_now), .int (zI R_nowRow), .int (zI R_come), .ref (ad 29), .ref (ad 30), .int (zI R_puts), .ref (ad 31)])), (ad 8, .inl (cI, 3700, .inl (zA R_valueKinds_18))), (ad 9, .inl (cL, 3700, .inr (.inl (zB R_valueNumbers_19)))), (ad 14, .inl (cI, 3700, .inl (zA R_given_20)))]) X (jrunV X (c_Mod_make (ad := ad) q21) jF0_k (fun _ _ _ _ => trivial) (jgV own_Mod_sums (by decide +kernel)) rfl rfl rfl pd_Mod_make (by decide) [0, 1, 2, 3] rfl (by decide) 0 10 rfl rfl rfl rfl (Nat.le_of_ble_eq_true rfl) d_Mod_sums_108 (by decide)) [0, 1, 2, 3] [] [0, 1, 2, 3] rfl rfl (by decide) (by decide) rfl (by decide) ?_
          refine J_goto (tgt := 142) X d_Mod_sums_111 (by decide) ?_
          cases h
          exact J_ret E ⟨_, rfl, rfl⟩ d_Mod_sums_142 (Nat.le_refl _) (Nat.le_refl _) rfl
        · refine J_aload_n X d_Mod_sums_94 rfl 1 rfl ?_
          refine J_iconst X d_Mod_sums_95 ?_
          obtain ⟨r22, R_fault_23, q24, h⟩ := wk_b2 h
          refine J_afterI0 (ws' := [(ad 0, .inr (10, [.int (zI R_thrown), .ref (ad 1), .ref (ad 2), .ref (ad 3), .ref (ad 4), .ref (ad 5), .ref (ad 6), .int (zI R_used), .ref (ad 7), .int (zI R_many), .ref (ad 8), .ref (ad 9), .ref (ad 10), .ref (ad 11), .ref (ad 12), .ref (ad 13), .ref (ad 14), .ref (ad 15), .ref (ad 16), .int (zI R_values), .ref (ad 17), .int (zI R_textEnd), .ref (ad 18), .ref (ad 19), .ref (ad 20), .ref (ad 21), .int (zI R_dataEnd), .ref (ad 22), .int (zI R_rowEnd), .ref (ad 23), .ref (ad 24), .int (zI R_rowMany), .ref (ad 25), .ref (ad 26), .ref (ad 27), .ref (ad 28), .int (zI R_waiting), .int (zI R_mostWaiting), .int (zI R_answer), .int (zI R_steps), .int (zI R_memory), .int (zI R_maxSteps), .int (zI R_maxMemory), .int (zI R_fault_23), .int (zI R_result), .int (zI R_now), .int (zI R_nowRow), .int (zI R_come), .ref (ad 29), .ref (ad 30), .int (zI R_puts), .ref (ad 31)])), (ad 8, .inl (cI, 3700, .inl (zA R_valueKinds))), (ad 9, .inl (cL, 3700, .inr (.inl (zB R_valueNumbers)))), (ad 14, .inl (cI, 3700, .inl (zA R_given)))]) X (jrunV X (c_Mod_fail (ad := ad) q24) jF0_k (fun _ _ _ _ => trivial) (jgV own_Mod_sums (by decide +kernel)) rfl rfl rfl pd_Mod_fail (by decide) [0] rfl (by decide) 0 10 rfl rfl rfl rfl (Nat.le_of_ble_eq_true rfl) d_Mod_sums_96 (by decide)) [0] [1, 2, 3] [3, 0, 1, 2] rfl rfl (by decide) (by decide) rfl (by decide) ?_
          refine J_goto (tgt := 142) X d_Mod_sums_99 (by decide) ?_
          cases h
          exact J_ret E ⟨_, rfl, rfl⟩ d_Mod_sums_142 (Nat.le_refl _) (Nat.le_refl _) rfl
    · rcases wk_c h with ⟨c25, h⟩ | ⟨c25, h⟩
      · refine J_tsIn (tgt := 143) X 1 c25 g2 d_Mod_sums_25 (by decide) (by decide) rfl (by decide) ?_
        refine J_lload X d_Mod_sums_143 4 rfl ?_
        refine J_lconst (v := 0) X d_Mod_sums_145 (by decide) ?_
        refine J_lc_ge (tgt := 181) X d_Mod_sums_146 d_Mod_sums_147 (by decide) h (fun c26 h => ?_) (fun c26 h => ?_)
        · refine J_lload_n X d_Mod_sums_181 rfl 3 rfl ?_
          refine J_ldc2 (v := (-9223372036854775808)) (n := (-9223372036854775808)) X (j_m own_Mod_sums (by decide +kernel)) (by decide) d_Mod_sums_182 ?_
          refine J_lload X d_Mod_sums_185 4 rfl ?_
          refine J_ladd X d_Mod_sums_187 ?_
          refine J_lc_ge (tgt := 200) X d_Mod_sums_188 d_Mod_sums_189 (by decide) h (fun c27 h => ?_) (fun c27 h => ?_)
          · refine J_aload_n X d_Mod_sums_200 rfl 1 rfl ?_
            refine J_iconst X d_Mod_sums_201 ?_
            refine J_lload_n X d_Mod_sums_202 rfl 3 rfl ?_
            refine J_lload X d_Mod_sums_203 4 rfl ?_
            refine J_lsub X d_Mod_sums_205 ?_
            obtain ⟨r28, R_values_29, R_valueKinds_30, R_valueNumbers_31, R_given_32, q33, h⟩ := wk_b5 h
            refine J_afterI0 (ws' := [(ad 0, .inr (10, [.int (zI R_thrown), .ref (ad 1), .ref (ad 2), .ref (ad 3), .ref (ad 4), .ref (ad 5), .ref (ad 6), .int (zI R_used), .ref (ad 7), .int (zI R_many), .ref (ad 8), .ref (ad 9), .ref (ad 10), .ref (ad 11), .ref (ad 12), .ref (ad 13), .ref (ad 14), .ref (ad 15), .ref (ad 16), .int (zI R_values_29), .ref (ad 17), .int (zI R_textEnd), .ref (ad 18), .ref (ad 19), .ref (ad 20), .ref (ad 21), .int (zI R_dataEnd), .ref (ad 22), .int (zI R_rowEnd), .ref (ad 23), .ref (ad 24), .int (zI R_rowMany), .ref (ad 25), .ref (ad 26), .ref (ad 27), .ref (ad 28), .int (zI R_waiting), .int (zI R_mostWaiting), .int (zI R_answer), .int (zI R_steps), .int (zI R_memory), .int (zI R_maxSteps), .int (zI R_maxMemory), .int (zI R_fault), .int (zI R_result), .int (zI R_now), .int (zI R_nowRow), .int (zI R_come), .ref (ad 29), .ref (ad 30), .int (zI R_puts), .ref (ad 31)])), (ad 8, .inl (cI, 3700, .inl (zA R_valueKinds_30))), (ad 9, .inl (cL, 3700, .inr (.inl (zB R_valueNumbers_31)))), (ad 14, .inl (cI, 3700, .inl (zA R_given_32)))]) X (jrunV X (c_Mod_make (ad := ad) q33) jF0_k (fun _ _ _ _ => trivial) (jgV own_Mod_sums (by decide +kernel)) rfl rfl rfl pd_Mod_make (by decide) [0, 1, 2, 3] rfl (by decide) 0 10 rfl rfl rfl rfl (Nat.le_of_ble_eq_true rfl) d_Mod_sums_206 (by decide)) [0, 1, 2, 3] [] [0, 1, 2, 3] rfl rfl (by decide) (by decide) rfl (by decide) ?_
            cases h
            exact J_ret E ⟨_, rfl, rfl⟩ d_Mod_sums_209 (Nat.le_refl _) (Nat.le_refl _) rfl
          · refine J_aload_n X d_Mod_sums_192 rfl 1 rfl ?_
            refine J_iconst X d_Mod_sums_193 ?_
            obtain ⟨r34, R_fault_35, q36, h⟩ := wk_b2 h
            refine J_afterI0 (ws' := [(ad 0, .inr (10, [.int (zI R_thrown), .ref (ad 1), .ref (ad 2), .ref (ad 3), .ref (ad 4), .ref (ad 5), .ref (ad 6), .int (zI R_used), .ref (ad 7), .int (zI R_many), .ref (ad 8), .ref (ad 9), .ref (ad 10), .ref (ad 11), .ref (ad 12), .ref (ad 13), .ref (ad 14), .ref (ad 15), .ref (ad 16), .int (zI R_values), .ref (ad 17), .int (zI R_textEnd), .ref (ad 18), .ref (ad 19), .ref (ad 20), .ref (ad 21), .int (zI R_dataEnd), .ref (ad 22), .int (zI R_rowEnd), .ref (ad 23), .ref (ad 24), .int (zI R_rowMany), .ref (ad 25), .ref (ad 26), .ref (ad 27), .ref (ad 28), .int (zI R_waiting), .int (zI R_mostWaiting), .int (zI R_answer), .int (zI R_steps), .int (zI R_memory), .int (zI R_maxSteps), .int (zI R_maxMemory), .int (zI R_fault_35), .int (zI R_result), .int (zI R_now), .int (zI R_nowRow), .int (zI R_come), .ref (ad 29), .ref (ad 30), .int (zI R_puts), .ref (ad 31)])), (ad 8, .inl (cI, 3700, .inl (zA R_valueKinds))), (ad 9, .inl (cL, 3700, .inr (.inl (zB R_valueNumbers)))), (ad 14, .inl (cI, 3700, .inl (zA R_given)))]) X (jrunV X (c_Mod_fail (ad := ad) q36) jF0_k (fun _ _ _ _ => trivial) (jgV own_Mod_sums (by decide +kernel)) rfl rfl rfl pd_Mod_fail (by decide) [0] rfl (by decide) 0 10 rfl rfl rfl rfl (Nat.le_of_ble_eq_true rfl) d_Mod_sums_194 (by decide)) [0] [1, 2, 3] [3, 0, 1, 2] rfl rfl (by decide) (by decide) rfl (by decide) ?_
            refine J_goto (tgt := 209) X d_Mod_sums_197 (by decide) ?_
            cases h
            exact J_ret E ⟨_, rfl, rfl⟩ d_Mod_sums_209 (Nat.le_refl _) (Nat.le_refl _) rfl
        · refine J_lload_n X d_Mod_sums_150 rfl 3 rfl ?_
          refine J_ldc2 (v := 9223372036854775807) (n := 9223372036854775807) X (j_m own_Mod_sums (by decide +kernel)) (by decide) d_Mod_sums_151 ?_
          refine J_lload X d_Mod_sums_154 4 rfl ?_
          refine J_ladd X d_Mod_sums_156 ?_
          refine J_lc_le (tgt := 169) X d_Mod_sums_157 d_Mod_sums_158 (by decide) h (fun c37 h => ?_) (fun c37 h => ?_)
          · refine J_aload_n X d_Mod_sums_169 rfl 1 rfl ?_
            refine J_iconst X d_Mod_sums_170 ?_
            refine J_lload_n X d_Mod_sums_171 rfl 3 rfl ?_
            refine J_lload X d_Mod_sums_172 4 rfl ?_
            refine J_lsub X d_Mod_sums_174 ?_
            obtain ⟨r38, R_values_39, R_valueKinds_40, R_valueNumbers_41, R_given_42, q43, h⟩ := wk_b5 h
            refine J_afterI0 (ws' := [(ad 0, .inr (10, [.int (zI R_thrown), .ref (ad 1), .ref (ad 2), .ref (ad 3), .ref (ad 4), .ref (ad 5), .ref (ad 6), .int (zI R_used), .ref (ad 7), .int (zI R_many), .ref (ad 8), .ref (ad 9), .ref (ad 10), .ref (ad 11), .ref (ad 12), .ref (ad 13), .ref (ad 14), .ref (ad 15), .ref (ad 16), .int (zI R_values_39), .ref (ad 17), .int (zI R_textEnd), .ref (ad 18), .ref (ad 19), .ref (ad 20), .ref (ad 21), .int (zI R_dataEnd), .ref (ad 22), .int (zI R_rowEnd), .ref (ad 23), .ref (ad 24), .int (zI R_rowMany), .ref (ad 25), .ref (ad 26), .ref (ad 27), .ref (ad 28), .int (zI R_waiting), .int (zI R_mostWaiting), .int (zI R_answer), .int (zI R_steps), .int (zI R_memory), .int (zI R_maxSteps), .int (zI R_maxMemory), .int (zI R_fault), .int (zI R_result), .int (zI R_now), .int (zI R_nowRow), .int (zI R_come), .ref (ad 29), .ref (ad 30), .int (zI R_puts), .ref (ad 31)])), (ad 8, .inl (cI, 3700, .inl (zA R_valueKinds_40))), (ad 9, .inl (cL, 3700, .inr (.inl (zB R_valueNumbers_41)))), (ad 14, .inl (cI, 3700, .inl (zA R_given_42)))]) X (jrunV X (c_Mod_make (ad := ad) q43) jF0_k (fun _ _ _ _ => trivial) (jgV own_Mod_sums (by decide +kernel)) rfl rfl rfl pd_Mod_make (by decide) [0, 1, 2, 3] rfl (by decide) 0 10 rfl rfl rfl rfl (Nat.le_of_ble_eq_true rfl) d_Mod_sums_175 (by decide)) [0, 1, 2, 3] [] [0, 1, 2, 3] rfl rfl (by decide) (by decide) rfl (by decide) ?_
            refine J_goto (tgt := 209) X d_Mod_sums_178 (by decide) ?_
            cases h
            exact J_ret E ⟨_, rfl, rfl⟩ d_Mod_sums_209 (Nat.le_refl _) (Nat.le_refl _) rfl
          · refine J_aload_n X d_Mod_sums_161 rfl 1 rfl ?_
            refine J_iconst X d_Mod_sums_162 ?_
            obtain ⟨r44, R_fault_45, q46, h⟩ := wk_b2 h
            refine J_afterI0 (ws' := [(ad 0, .inr (10, [.int (zI R_thrown), .ref (ad 1), .ref (ad 2), .ref (ad 3), .ref (ad 4), .ref (ad 5), .ref (ad 6), .int (zI R_used), .ref (ad 7), .int (zI R_many), .ref (ad 8), .ref (ad 9), .ref (ad 10), .ref (ad 11), .ref (ad 12), .ref (ad 13), .ref (ad 14), .ref (ad 15), .ref (ad 16), .int (zI R_values), .ref (ad 17), .int (zI R_textEnd), .ref (ad 18), .ref (ad 19), .ref (ad 20), .ref (ad 21), .int (zI R_dataEnd), .ref (ad 22), .int (zI R_rowEnd), .ref (ad 23), .ref (ad 24), .int (zI R_rowMany), .ref (ad 25), .ref (ad 26), .ref (ad 27), .ref (ad 28), .int (zI R_waiting), .int (zI R_mostWaiting), .int (zI R_answer), .int (zI R_steps), .int (zI R_memory), .int (zI R_maxSteps), .int (zI R_maxMemory), .int (zI R_fault_45), .int (zI R_result), .int (zI R_now), .int (zI R_nowRow), .int (zI R_come), .ref (ad 29), .ref (ad 30), .int (zI R_puts), .ref (ad 31)])), (ad 8, .inl (cI, 3700, .inl (zA R_valueKinds))), (ad 9, .inl (cL, 3700, .inr (.inl (zB R_valueNumbers)))), (ad 14, .inl (cI, 3700, .inl (zA R_given)))]) X (jrunV X (c_Mod_fail (ad := ad) q46) jF0_k (fun _ _ _ _ => trivial) (jgV own_Mod_sums (by decide +kernel)) rfl rfl rfl pd_Mod_fail (by decide) [0] rfl (by decide) 0 10 rfl rfl rfl rfl (Nat.le_of_ble_eq_true rfl) d_Mod_sums_163 (by decide)) [0] [1, 2, 3] [3, 0, 1, 2] rfl rfl (by decide) (by decide) rfl (by decide) ?_
            refine J_goto (tgt := 209) X d_Mod_sums_166 (by decide) ?_
            cases h
            exact J_ret E ⟨_, rfl, rfl⟩ d_Mod_sums_209 (Nat.le_refl _) (Nat.le_refl _) rfl
      · rcases wk_c h with ⟨c47, h⟩ | ⟨c47, h⟩
        · refine J_tsIn (tgt := 210) X 2 c47 g2 d_Mod_sums_25 (by decide) (by decide) rfl (by decide) ?_
          refine J_lload_n X d_Mod_sums_210 rfl 3 rfl ?_
          refine J_lload X d_Mod_sums_211 4 rfl ?_
          obtain ⟨r48, q49, h⟩ := wk_b h
          refine J_afterP (jrunS X (c_Mod_isProduct (ad := ad) q49) jF0_k (fun _ _ _ _ => trivial) (jgS own_Mod_sums (by decide +kernel)) rfl rfl rfl pd_Mod_isProduct (by decide) [] rfl (by decide) rfl rfl (Nat.le_of_ble_eq_true rfl) d_Mod_sums_213 (by decide)) ?_
          refine J_if_eq (tgt := 231) X d_Mod_sums_216 (by decide) h (fun c50 h => ?_) (fun c50 h => ?_)
          · refine J_aload_n X d_Mod_sums_231 rfl 1 rfl ?_
            refine J_iconst X d_Mod_sums_232 ?_
            obtain ⟨r51, R_fault_52, q53, h⟩ := wk_b2 h
            refine J_afterI0 (ws' := [(ad 0, .inr (10, [.int (zI R_thrown), .ref (ad 1), .ref (ad 2), .ref (ad 3), .ref (ad 4), .ref (ad 5), .ref (ad 6), .int (zI R_used), .ref (ad 7), .int (zI R_many), .ref (ad 8), .ref (ad 9), .ref (ad 10), .ref (ad 11), .ref (ad 12), .ref (ad 13), .ref (ad 14), .ref (ad 15), .ref (ad 16), .int (zI R_values), .ref (ad 17), .int (zI R_textEnd), .ref (ad 18), .ref (ad 19), .ref (ad 20), .ref (ad 21), .int (zI R_dataEnd), .ref (ad 22), .int (zI R_rowEnd), .ref (ad 23), .ref (ad 24), .int (zI R_rowMany), .ref (ad 25), .ref (ad 26), .ref (ad 27), .ref (ad 28), .int (zI R_waiting), .int (zI R_mostWaiting), .int (zI R_answer), .int (zI R_steps), .int (zI R_memory), .int (zI R_maxSteps), .int (zI R_maxMemory), .int (zI R_fault_52), .int (zI R_result), .int (zI R_now), .int (zI R_nowRow), .int (zI R_come), .ref (ad 29), .ref (ad 30), .int (zI R_puts), .ref (ad 31)])), (ad 8, .inl (cI, 3700, .inl (zA R_valueKinds))), (ad 9, .inl (cL, 3700, .inr (.inl (zB R_valueNumbers)))), (ad 14, .inl (cI, 3700, .inl (zA R_given)))]) X (jrunV X (c_Mod_fail (ad := ad) q53) jF0_k (fun _ _ _ _ => trivial) (jgV own_Mod_sums (by decide +kernel)) rfl rfl rfl pd_Mod_fail (by decide) [0] rfl (by decide) 0 10 rfl rfl rfl rfl (Nat.le_of_ble_eq_true rfl) d_Mod_sums_233 (by decide)) [0] [1, 2, 3] [3, 0, 1, 2] rfl rfl (by decide) (by decide) rfl (by decide) ?_
            cases h
            exact J_ret E ⟨_, rfl, rfl⟩ d_Mod_sums_236 (Nat.le_refl _) (Nat.le_refl _) rfl
          · refine J_aload_n X d_Mod_sums_219 rfl 1 rfl ?_
            refine J_iconst X d_Mod_sums_220 ?_
            refine J_lload_n X d_Mod_sums_221 rfl 3 rfl ?_
            refine J_lload X d_Mod_sums_222 4 rfl ?_
            refine J_lmul X d_Mod_sums_224 ?_
            obtain ⟨r54, R_values_55, R_valueKinds_56, R_valueNumbers_57, R_given_58, q59, h⟩ := wk_b5 h
            refine J_afterI0 (ws' := [(ad 0, .inr (10, [.int (zI R_thrown), .ref (ad 1), .ref (ad 2), .ref (ad 3), .ref (ad 4), .ref (ad 5), .ref (ad 6), .int (zI R_used), .ref (ad 7), .int (zI R_many), .ref (ad 8), .ref (ad 9), .ref (ad 10), .ref (ad 11), .ref (ad 12), .ref (ad 13), .ref (ad 14), .ref (ad 15), .ref (ad 16), .int (zI R_values_55), .ref (ad 17), .int (zI R_textEnd), .ref (ad 18), .ref (ad 19), .ref (ad 20), .ref (ad 21), .int (zI R_dataEnd), .ref (ad 22), .int (zI R_rowEnd), .ref (ad 23), .ref (ad 24), .int (zI R_rowMany), .ref (ad 25), .ref (ad 26), .ref (ad 27), .ref (ad 28), .int (zI R_waiting), .int (zI R_mostWaiting), .int (zI R_answer), .int (zI R_steps), .int (zI R_memory), .int (zI R_maxSteps), .int (zI R_maxMemory), .int (zI R_fault), .int (zI R_result), .int (zI R_now), .int (zI R_nowRow), .int (zI R_come), .ref (ad 29), .ref (ad 30), .int (zI R_puts), .ref (ad 31)])), (ad 8, .inl (cI, 3700, .inl (zA R_valueKinds_56))), (ad 9, .inl (cL, 3700, .inr (.inl (zB R_valueNumbers_57)))), (ad 14, .inl (cI, 3700, .inl (zA R_given_58)))]) X (jrunV X (c_Mod_make (ad := ad) q59) jF0_k (fun _ _ _ _ => trivial) (jgV own_Mod_sums (by decide +kernel)) rfl rfl rfl pd_Mod_make (by decide) [0, 1, 2, 3] rfl (by decide) 0 10 rfl rfl rfl rfl (Nat.le_of_ble_eq_true rfl) d_Mod_sums_225 (by decide)) [0, 1, 2, 3] [] [0, 1, 2, 3] rfl rfl (by decide) (by decide) rfl (by decide) ?_
            refine J_goto (tgt := 236) X d_Mod_sums_228 (by decide) ?_
            cases h
            exact J_ret E ⟨_, rfl, rfl⟩ d_Mod_sums_236 (Nat.le_refl _) (Nat.le_refl _) rfl
        · rcases wk_c h with ⟨c60, h⟩ | ⟨c60, h⟩
          · refine J_tsIn (tgt := 237) X 3 c60 g2 d_Mod_sums_25 (by decide) (by decide) rfl (by decide) ?_
            refine J_lload X d_Mod_sums_237 4 rfl ?_
            refine J_lconst (v := 0) X d_Mod_sums_239 (by decide) ?_
            refine J_lc_eq (tgt := 249) X d_Mod_sums_240 d_Mod_sums_241 (by decide) h (fun c61 h => ?_) (fun c61 h => ?_)
            · refine J_aload_n X d_Mod_sums_249 rfl 1 rfl ?_
              refine J_iconst X d_Mod_sums_250 ?_
              obtain ⟨r62, R_fault_63, q64, h⟩ := wk_b2 h
              refine J_afterI0 (ws' := [(ad 0, .inr (10, [.int (zI R_thrown), .ref (ad 1), .ref (ad 2), .ref (ad 3), .ref (ad 4), .ref (ad 5), .ref (ad 6), .int (zI R_used), .ref (ad 7), .int (zI R_many), .ref (ad 8), .ref (ad 9), .ref (ad 10), .ref (ad 11), .ref (ad 12), .ref (ad 13), .ref (ad 14), .ref (ad 15), .ref (ad 16), .int (zI R_values), .ref (ad 17), .int (zI R_textEnd), .ref (ad 18), .ref (ad 19), .ref (ad 20), .ref (ad 21), .int (zI R_dataEnd), .ref (ad 22), .int (zI R_rowEnd), .ref (ad 23), .ref (ad 24), .int (zI R_rowMany), .ref (ad 25), .ref (ad 26), .ref (ad 27), .ref (ad 28), .int (zI R_waiting), .int (zI R_mostWaiting), .int (zI R_answer), .int (zI R_steps), .int (zI R_memory), .int (zI R_maxSteps), .int (zI R_maxMemory), .int (zI R_fault_63), .int (zI R_result), .int (zI R_now), .int (zI R_nowRow), .int (zI R_come), .ref (ad 29), .ref (ad 30), .int (zI R_puts), .ref (ad 31)])), (ad 8, .inl (cI, 3700, .inl (zA R_valueKinds))), (ad 9, .inl (cL, 3700, .inr (.inl (zB R_valueNumbers)))), (ad 14, .inl (cI, 3700, .inl (zA R_given)))]) X (jrunV X (c_Mod_fail (ad := ad) q64) jF0_k (fun _ _ _ _ => trivial) (jgV own_Mod_sums (by decide +kernel)) rfl rfl rfl pd_Mod_fail (by decide) [0] rfl (by decide) 0 10 rfl rfl rfl rfl (Nat.le_of_ble_eq_true rfl) d_Mod_sums_251 (by decide)) [0] [1, 2, 3] [3, 0, 1, 2] rfl rfl (by decide) (by decide) rfl (by decide) ?_
              refine J_goto (tgt := 307) X d_Mod_sums_254 (by decide) ?_
              cases h
              exact J_ret E ⟨_, rfl, rfl⟩ d_Mod_sums_307 (Nat.le_refl _) (Nat.le_refl _) rfl
            · refine J_iload X d_Mod_sums_244 0 rfl ?_
              refine J_if_eq (pa := some ()) (pb := none) (o := ()) (tgt := 257) X d_Mod_sums_246 (by decide) (by decide) (fun _ _ => ?_) (fun _ h => by cases h)
              refine J_aload_n X d_Mod_sums_257 rfl 1 rfl ?_
              refine J_iconst X d_Mod_sums_258 ?_
              refine J_lload_n X d_Mod_sums_259 rfl 3 rfl ?_
              refine J_lload X d_Mod_sums_260 4 rfl ?_
              obtain ⟨g65, h⟩ := wk_g h
              refine J_ldiv X g65 d_Mod_sums_262 ?_
              refine J_lload_n X d_Mod_sums_263 rfl 3 rfl ?_
              refine J_lload X d_Mod_sums_264 4 rfl ?_
              obtain ⟨g66, h⟩ := wk_g h
              refine J_lrem X g66 d_Mod_sums_266 ?_
              refine J_lconst (v := 0) X d_Mod_sums_267 (by decide) ?_
              refine J_lc_eq (tgt := 302) X d_Mod_sums_268 d_Mod_sums_269 (by decide) h (fun c67 h => ?_) (fun c67 h => ?_)
              · refine J_lconst (v := 0) X d_Mod_sums_302 (by decide) ?_
                refine J_lsub X d_Mod_sums_303 ?_
                obtain ⟨r68, R_values_69, R_valueKinds_70, R_valueNumbers_71, R_given_72, q73, h⟩ := wk_b5 h
                refine J_afterI0 (ws' := [(ad 0, .inr (10, [.int (zI R_thrown), .ref (ad 1), .ref (ad 2), .ref (ad 3), .ref (ad 4), .ref (ad 5), .ref (ad 6), .int (zI R_used), .ref (ad 7), .int (zI R_many), .ref (ad 8), .ref (ad 9), .ref (ad 10), .ref (ad 11), .ref (ad 12), .ref (ad 13), .ref (ad 14), .ref (ad 15), .ref (ad 16), .int (zI R_values_69), .ref (ad 17), .int (zI R_textEnd), .ref (ad 18), .ref (ad 19), .ref (ad 20), .ref (ad 21), .int (zI R_dataEnd), .ref (ad 22), .int (zI R_rowEnd), .ref (ad 23), .ref (ad 24), .int (zI R_rowMany), .ref (ad 25), .ref (ad 26), .ref (ad 27), .ref (ad 28), .int (zI R_waiting), .int (zI R_mostWaiting), .int (zI R_answer), .int (zI R_steps), .int (zI R_memory), .int (zI R_maxSteps), .int (zI R_maxMemory), .int (zI R_fault), .int (zI R_result), .int (zI R_now), .int (zI R_nowRow), .int (zI R_come), .ref (ad 29), .ref (ad 30), .int (zI R_puts), .ref (ad 31)])), (ad 8, .inl (cI, 3700, .inl (zA R_valueKinds_70))), (ad 9, .inl (cL, 3700, .inr (.inl (zB R_valueNumbers_71)))), (ad 14, .inl (cI, 3700, .inl (zA R_given_72)))]) X (jrunV X (c_Mod_make (ad := ad) q73) jF0_k (fun _ _ _ _ => trivial) (jgV own_Mod_sums (by decide +kernel)) rfl rfl rfl pd_Mod_make (by decide) [0, 1, 2, 3] rfl (by decide) 0 10 rfl rfl rfl rfl (Nat.le_of_ble_eq_true rfl) d_Mod_sums_304 (by decide)) [0, 1, 2, 3] [] [0, 1, 2, 3] rfl rfl (by decide) (by decide) rfl (by decide) ?_
                cases h
                exact J_ret E ⟨_, rfl, rfl⟩ d_Mod_sums_307 (Nat.le_refl _) (Nat.le_refl _) rfl
              · refine J_lload_n X d_Mod_sums_272 rfl 3 rfl ?_
                refine J_lconst (v := 0) X d_Mod_sums_273 (by decide) ?_
                refine J_lc_ge (tgt := 282) X d_Mod_sums_274 d_Mod_sums_275 (by decide) h (fun c74 h => ?_) (fun c74 h => ?_)
                · refine J_iconst X d_Mod_sums_282 ?_
                  refine J_lload X d_Mod_sums_283 4 rfl ?_
                  refine J_lconst (v := 0) X d_Mod_sums_285 (by decide) ?_
                  refine J_lc_ge (tgt := 294) X d_Mod_sums_286 d_Mod_sums_287 (by decide) h (fun c75 h => ?_) (fun c75 h => ?_)
                  · refine J_iconst X d_Mod_sums_294 ?_
                    refine J_icmp_eq (tgt := 302) X d_Mod_sums_295 (by decide) h (fun c76 h => ?_) (fun c76 h => ?_)
                    · refine J_lconst (v := 0) X d_Mod_sums_302 (by decide) ?_
                      refine J_lsub X d_Mod_sums_303 ?_
                      obtain ⟨r77, R_values_78, R_valueKinds_79, R_valueNumbers_80, R_given_81, q82, h⟩ := wk_b5 h
                      refine J_afterI0 (ws' := [(ad 0, .inr (10, [.int (zI R_thrown), .ref (ad 1), .ref (ad 2), .ref (ad 3), .ref (ad 4), .ref (ad 5), .ref (ad 6), .int (zI R_used), .ref (ad 7), .int (zI R_many), .ref (ad 8), .ref (ad 9), .ref (ad 10), .ref (ad 11), .ref (ad 12), .ref (ad 13), .ref (ad 14), .ref (ad 15), .ref (ad 16), .int (zI R_values_78), .ref (ad 17), .int (zI R_textEnd), .ref (ad 18), .ref (ad 19), .ref (ad 20), .ref (ad 21), .int (zI R_dataEnd), .ref (ad 22), .int (zI R_rowEnd), .ref (ad 23), .ref (ad 24), .int (zI R_rowMany), .ref (ad 25), .ref (ad 26), .ref (ad 27), .ref (ad 28), .int (zI R_waiting), .int (zI R_mostWaiting), .int (zI R_answer), .int (zI R_steps), .int (zI R_memory), .int (zI R_maxSteps), .int (zI R_maxMemory), .int (zI R_fault), .int (zI R_result), .int (zI R_now), .int (zI R_nowRow), .int (zI R_come), .ref (ad 29), .ref (ad 30), .int (zI R_puts), .ref (ad 31)])), (ad 8, .inl (cI, 3700, .inl (zA R_valueKinds_79))), (ad 9, .inl (cL, 3700, .inr (.inl (zB R_valueNumbers_80)))), (ad 14, .inl (cI, 3700, .inl (zA R_given_81)))]) X (jrunV X (c_Mod_make (ad := ad) q82) jF0_k (fun _ _ _ _ => trivial) (jgV own_Mod_sums (by decide +kernel)) rfl rfl rfl pd_Mod_make (by decide) [0, 1, 2, 3] rfl (by decide) 0 10 rfl rfl rfl rfl (Nat.le_of_ble_eq_true rfl) d_Mod_sums_304 (by decide)) [0, 1, 2, 3] [] [0, 1, 2, 3] rfl rfl (by decide) (by decide) rfl (by decide) ?_
                      cases h
                      exact J_ret E ⟨_, rfl, rfl⟩ d_Mod_sums_307 (Nat.le_refl _) (Nat.le_refl _) rfl
                    · refine J_lconst (v := 1) X d_Mod_sums_298 (by decide) ?_
                      refine J_goto (tgt := 303) X d_Mod_sums_299 (by decide) ?_
                      refine J_lsub X d_Mod_sums_303 ?_
                      obtain ⟨r83, R_values_84, R_valueKinds_85, R_valueNumbers_86, R_given_87, q88, h⟩ := wk_b5 h
                      refine J_afterI0 (ws' := [(ad 0, .inr (10, [.int (zI R_thrown), .ref (ad 1), .ref (ad 2), .ref (ad 3), .ref (ad 4), .ref (ad 5), .ref (ad 6), .int (zI R_used), .ref (ad 7), .int (zI R_many), .ref (ad 8), .ref (ad 9), .ref (ad 10), .ref (ad 11), .ref (ad 12), .ref (ad 13), .ref (ad 14), .ref (ad 15), .ref (ad 16), .int (zI R_values_84), .ref (ad 17), .int (zI R_textEnd), .ref (ad 18), .ref (ad 19), .ref (ad 20), .ref (ad 21), .int (zI R_dataEnd), .ref (ad 22), .int (zI R_rowEnd), .ref (ad 23), .ref (ad 24), .int (zI R_rowMany), .ref (ad 25), .ref (ad 26), .ref (ad 27), .ref (ad 28), .int (zI R_waiting), .int (zI R_mostWaiting), .int (zI R_answer), .int (zI R_steps), .int (zI R_memory), .int (zI R_maxSteps), .int (zI R_maxMemory), .int (zI R_fault), .int (zI R_result), .int (zI R_now), .int (zI R_nowRow), .int (zI R_come), .ref (ad 29), .ref (ad 30), .int (zI R_puts), .ref (ad 31)])), (ad 8, .inl (cI, 3700, .inl (zA R_valueKinds_85))), (ad 9, .inl (cL, 3700, .inr (.inl (zB R_valueNumbers_86)))), (ad 14, .inl (cI, 3700, .inl (zA R_given_87)))]) X (jrunV X (c_Mod_make (ad := ad) q88) jF0_k (fun _ _ _ _ => trivial) (jgV own_Mod_sums (by decide +kernel)) rfl rfl rfl pd_Mod_make (by decide) [0, 1, 2, 3] rfl (by decide) 0 10 rfl rfl rfl rfl (Nat.le_of_ble_eq_true rfl) d_Mod_sums_304 (by decide)) [0, 1, 2, 3] [] [0, 1, 2, 3] rfl rfl (by decide) (by decide) rfl (by decide) ?_
                      cases h
                      exact J_ret E ⟨_, rfl, rfl⟩ d_Mod_sums_307 (Nat.le_refl _) (Nat.le_refl _) rfl
                  · refine J_iconst X d_Mod_sums_290 ?_
                    refine J_goto (tgt := 295) X d_Mod_sums_291 (by decide) ?_
                    refine J_icmp_eq (tgt := 302) X d_Mod_sums_295 (by decide) h (fun c89 h => ?_) (fun c89 h => ?_)
                    · refine J_lconst (v := 0) X d_Mod_sums_302 (by decide) ?_
                      refine J_lsub X d_Mod_sums_303 ?_
                      obtain ⟨r90, R_values_91, R_valueKinds_92, R_valueNumbers_93, R_given_94, q95, h⟩ := wk_b5 h
                      refine J_afterI0 (ws' := [(ad 0, .inr (10, [.int (zI R_thrown), .ref (ad 1), .ref (ad 2), .ref (ad 3), .ref (ad 4), .ref (ad 5), .ref (ad 6), .int (zI R_used), .ref (ad 7), .int (zI R_many), .ref (ad 8), .ref (ad 9), .ref (ad 10), .ref (ad 11), .ref (ad 12), .ref (ad 13), .ref (ad 14), .ref (ad 15), .ref (ad 16), .int (zI R_values_91), .ref (ad 17), .int (zI R_textEnd), .ref (ad 18), .ref (ad 19), .ref (ad 20), .ref (ad 21), .int (zI R_dataEnd), .ref (ad 22), .int (zI R_rowEnd), .ref (ad 23), .ref (ad 24), .int (zI R_rowMany), .ref (ad 25), .ref (ad 26), .ref (ad 27), .ref (ad 28), .int (zI R_waiting), .int (zI R_mostWaiting), .int (zI R_answer), .int (zI R_steps), .int (zI R_memory), .int (zI R_maxSteps), .int (zI R_maxMemory), .int (zI R_fault), .int (zI R_result), .int (zI R_now), .int (zI R_nowRow), .int (zI R_come), .ref (ad 29), .ref (ad 30), .int (zI R_puts), .ref (ad 31)])), (ad 8, .inl (cI, 3700, .inl (zA R_valueKinds_92))), (ad 9, .inl (cL, 3700, .inr (.inl (zB R_valueNumbers_93)))), (ad 14, .inl (cI, 3700, .inl (zA R_given_94)))]) X (jrunV X (c_Mod_make (ad := ad) q95) jF0_k (fun _ _ _ _ => trivial) (jgV own_Mod_sums (by decide +kernel)) rfl rfl rfl pd_Mod_make (by decide) [0, 1, 2, 3] rfl (by decide) 0 10 rfl rfl rfl rfl (Nat.le_of_ble_eq_true rfl) d_Mod_sums_304 (by decide)) [0, 1, 2, 3] [] [0, 1, 2, 3] rfl rfl (by decide) (by decide) rfl (by decide) ?_
                      cases h
                      exact J_ret E ⟨_, rfl, rfl⟩ d_Mod_sums_307 (Nat.le_refl _) (Nat.le_refl _) rfl
                    · refine J_lconst (v := 1) X d_Mod_sums_298 (by decide) ?_
                      refine J_goto (tgt := 303) X d_Mod_sums_299 (by decide) ?_
                      refine J_lsub X d_Mod_sums_303 ?_
                      obtain ⟨r96, R_values_97, R_valueKinds_98, R_valueNumbers_99, R_given_100, q101, h⟩ := wk_b5 h
                      refine J_afterI0 (ws' := [(ad 0, .inr (10, [.int (zI R_thrown), .ref (ad 1), .ref (ad 2), .ref (ad 3), .ref (ad 4), .ref (ad 5), .ref (ad 6), .int (zI R_used), .ref (ad 7), .int (zI R_many), .ref (ad 8), .ref (ad 9), .ref (ad 10), .ref (ad 11), .ref (ad 12), .ref (ad 13), .ref (ad 14), .ref (ad 15), .ref (ad 16), .int (zI R_values_97), .ref (ad 17), .int (zI R_textEnd), .ref (ad 18), .ref (ad 19), .ref (ad 20), .ref (ad 21), .int (zI R_dataEnd), .ref (ad 22), .int (zI R_rowEnd), .ref (ad 23), .ref (ad 24), .int (zI R_rowMany), .ref (ad 25), .ref (ad 26), .ref (ad 27), .ref (ad 28), .int (zI R_waiting), .int (zI R_mostWaiting), .int (zI R_answer), .int (zI R_steps), .int (zI R_memory), .int (zI R_maxSteps), .int (zI R_maxMemory), .int (zI R_fault), .int (zI R_result), .int (zI R_now), .int (zI R_nowRow), .int (zI R_come), .ref (ad 29), .ref (ad 30), .int (zI R_puts), .ref (ad 31)])), (ad 8, .inl (cI, 3700, .inl (zA R_valueKinds_98))), (ad 9, .inl (cL, 3700, .inr (.inl (zB R_valueNumbers_99)))), (ad 14, .inl (cI, 3700, .inl (zA R_given_100)))]) X (jrunV X (c_Mod_make (ad := ad) q101) jF0_k (fun _ _ _ _ => trivial) (jgV own_Mod_sums (by decide +kernel)) rfl rfl rfl pd_Mod_make (by decide) [0, 1, 2, 3] rfl (by decide) 0 10 rfl rfl rfl rfl (Nat.le_of_ble_eq_true rfl) d_Mod_sums_304 (by decide)) [0, 1, 2, 3] [] [0, 1, 2, 3] rfl rfl (by decide) (by decide) rfl (by decide) ?_
                      cases h
                      exact J_ret E ⟨_, rfl, rfl⟩ d_Mod_sums_307 (Nat.le_refl _) (Nat.le_refl _) rfl
                · refine J_iconst X d_Mod_sums_278 ?_
                  refine J_goto (tgt := 283) X d_Mod_sums_279 (by decide) ?_
                  refine J_lload X d_Mod_sums_283 4 rfl ?_
                  refine J_lconst (v := 0) X d_Mod_sums_285 (by decide) ?_
                  refine J_lc_ge (tgt := 294) X d_Mod_sums_286 d_Mod_sums_287 (by decide) h (fun c102 h => ?_) (fun c102 h => ?_)
                  · refine J_iconst X d_Mod_sums_294 ?_
                    refine J_icmp_eq (tgt := 302) X d_Mod_sums_295 (by decide) h (fun c103 h => ?_) (fun c103 h => ?_)
                    · refine J_lconst (v := 0) X d_Mod_sums_302 (by decide) ?_
                      refine J_lsub X d_Mod_sums_303 ?_
                      obtain ⟨r104, R_values_105, R_valueKinds_106, R_valueNumbers_107, R_given_108, q109, h⟩ := wk_b5 h
                      refine J_afterI0 (ws' := [(ad 0, .inr (10, [.int (zI R_thrown), .ref (ad 1), .ref (ad 2), .ref (ad 3), .ref (ad 4), .ref (ad 5), .ref (ad 6), .int (zI R_used), .ref (ad 7), .int (zI R_many), .ref (ad 8), .ref (ad 9), .ref (ad 10), .ref (ad 11), .ref (ad 12), .ref (ad 13), .ref (ad 14), .ref (ad 15), .ref (ad 16), .int (zI R_values_105), .ref (ad 17), .int (zI R_textEnd), .ref (ad 18), .ref (ad 19), .ref (ad 20), .ref (ad 21), .int (zI R_dataEnd), .ref (ad 22), .int (zI R_rowEnd), .ref (ad 23), .ref (ad 24), .int (zI R_rowMany), .ref (ad 25), .ref (ad 26), .ref (ad 27), .ref (ad 28), .int (zI R_waiting), .int (zI R_mostWaiting), .int (zI R_answer), .int (zI R_steps), .int (zI R_memory), .int (zI R_maxSteps), .int (zI R_maxMemory), .int (zI R_fault), .int (zI R_result), .int (zI R_now), .int (zI R_nowRow), .int (zI R_come), .ref (ad 29), .ref (ad 30), .int (zI R_puts), .ref (ad 31)])), (ad 8, .inl (cI, 3700, .inl (zA R_valueKinds_106))), (ad 9, .inl (cL, 3700, .inr (.inl (zB R_valueNumbers_107)))), (ad 14, .inl (cI, 3700, .inl (zA R_given_108)))]) X (jrunV X (c_Mod_make (ad := ad) q109) jF0_k (fun _ _ _ _ => trivial) (jgV own_Mod_sums (by decide +kernel)) rfl rfl rfl pd_Mod_make (by decide) [0, 1, 2, 3] rfl (by decide) 0 10 rfl rfl rfl rfl (Nat.le_of_ble_eq_true rfl) d_Mod_sums_304 (by decide)) [0, 1, 2, 3] [] [0, 1, 2, 3] rfl rfl (by decide) (by decide) rfl (by decide) ?_
                      cases h
                      exact J_ret E ⟨_, rfl, rfl⟩ d_Mod_sums_307 (Nat.le_refl _) (Nat.le_refl _) rfl
                    · refine J_lconst (v := 1) X d_Mod_sums_298 (by decide) ?_
                      refine J_goto (tgt := 303) X d_Mod_sums_299 (by decide) ?_
                      refine J_lsub X d_Mod_sums_303 ?_
                      obtain ⟨r110, R_values_111, R_valueKinds_112, R_valueNumbers_113, R_given_114, q115, h⟩ := wk_b5 h
                      refine J_afterI0 (ws' := [(ad 0, .inr (10, [.int (zI R_thrown), .ref (ad 1), .ref (ad 2), .ref (ad 3), .ref (ad 4), .ref (ad 5), .ref (ad 6), .int (zI R_used), .ref (ad 7), .int (zI R_many), .ref (ad 8), .ref (ad 9), .ref (ad 10), .ref (ad 11), .ref (ad 12), .ref (ad 13), .ref (ad 14), .ref (ad 15), .ref (ad 16), .int (zI R_values_111), .ref (ad 17), .int (zI R_textEnd), .ref (ad 18), .ref (ad 19), .ref (ad 20), .ref (ad 21), .int (zI R_dataEnd), .ref (ad 22), .int (zI R_rowEnd), .ref (ad 23), .ref (ad 24), .int (zI R_rowMany), .ref (ad 25), .ref (ad 26), .ref (ad 27), .ref (ad 28), .int (zI R_waiting), .int (zI R_mostWaiting), .int (zI R_answer), .int (zI R_steps), .int (zI R_memory), .int (zI R_maxSteps), .int (zI R_maxMemory), .int (zI R_fault), .int (zI R_result), .int (zI R_now), .int (zI R_nowRow), .int (zI R_come), .ref (ad 29), .ref (ad 30), .int (zI R_puts), .ref (ad 31)])), (ad 8, .inl (cI, 3700, .inl (zA R_valueKinds_112))), (ad 9, .inl (cL, 3700, .inr (.inl (zB R_valueNumbers_113)))), (ad 14, .inl (cI, 3700, .inl (zA R_given_114)))]) X (jrunV X (c_Mod_make (ad := ad) q115) jF0_k (fun _ _ _ _ => trivial) (jgV own_Mod_sums (by decide +kernel)) rfl rfl rfl pd_Mod_make (by decide) [0, 1, 2, 3] rfl (by decide) 0 10 rfl rfl rfl rfl (Nat.le_of_ble_eq_true rfl) d_Mod_sums_304 (by decide)) [0, 1, 2, 3] [] [0, 1, 2, 3] rfl rfl (by decide) (by decide) rfl (by decide) ?_
                      cases h
                      exact J_ret E ⟨_, rfl, rfl⟩ d_Mod_sums_307 (Nat.le_refl _) (Nat.le_refl _) rfl
                  · refine J_iconst X d_Mod_sums_290 ?_
                    refine J_goto (tgt := 295) X d_Mod_sums_291 (by decide) ?_
                    refine J_icmp_eq (tgt := 302) X d_Mod_sums_295 (by decide) h (fun c116 h => ?_) (fun c116 h => ?_)
                    · refine J_lconst (v := 0) X d_Mod_sums_302 (by decide) ?_
                      refine J_lsub X d_Mod_sums_303 ?_
                      obtain ⟨r117, R_values_118, R_valueKinds_119, R_valueNumbers_120, R_given_121, q122, h⟩ := wk_b5 h
                      refine J_afterI0 (ws' := [(ad 0, .inr (10, [.int (zI R_thrown), .ref (ad 1), .ref (ad 2), .ref (ad 3), .ref (ad 4), .ref (ad 5), .ref (ad 6), .int (zI R_used), .ref (ad 7), .int (zI R_many), .ref (ad 8), .ref (ad 9), .ref (ad 10), .ref (ad 11), .ref (ad 12), .ref (ad 13), .ref (ad 14), .ref (ad 15), .ref (ad 16), .int (zI R_values_118), .ref (ad 17), .int (zI R_textEnd), .ref (ad 18), .ref (ad 19), .ref (ad 20), .ref (ad 21), .int (zI R_dataEnd), .ref (ad 22), .int (zI R_rowEnd), .ref (ad 23), .ref (ad 24), .int (zI R_rowMany), .ref (ad 25), .ref (ad 26), .ref (ad 27), .ref (ad 28), .int (zI R_waiting), .int (zI R_mostWaiting), .int (zI R_answer), .int (zI R_steps), .int (zI R_memory), .int (zI R_maxSteps), .int (zI R_maxMemory), .int (zI R_fault), .int (zI R_result), .int (zI R_now), .int (zI R_nowRow), .int (zI R_come), .ref (ad 29), .ref (ad 30), .int (zI R_puts), .ref (ad 31)])), (ad 8, .inl (cI, 3700, .inl (zA R_valueKinds_119))), (ad 9, .inl (cL, 3700, .inr (.inl (zB R_valueNumbers_120)))), (ad 14, .inl (cI, 3700, .inl (zA R_given_121)))]) X (jrunV X (c_Mod_make (ad := ad) q122) jF0_k (fun _ _ _ _ => trivial) (jgV own_Mod_sums (by decide +kernel)) rfl rfl rfl pd_Mod_make (by decide) [0, 1, 2, 3] rfl (by decide) 0 10 rfl rfl rfl rfl (Nat.le_of_ble_eq_true rfl) d_Mod_sums_304 (by decide)) [0, 1, 2, 3] [] [0, 1, 2, 3] rfl rfl (by decide) (by decide) rfl (by decide) ?_
                      cases h
                      exact J_ret E ⟨_, rfl, rfl⟩ d_Mod_sums_307 (Nat.le_refl _) (Nat.le_refl _) rfl
                    · refine J_lconst (v := 1) X d_Mod_sums_298 (by decide) ?_
                      refine J_goto (tgt := 303) X d_Mod_sums_299 (by decide) ?_
                      refine J_lsub X d_Mod_sums_303 ?_
                      obtain ⟨r123, R_values_124, R_valueKinds_125, R_valueNumbers_126, R_given_127, q128, h⟩ := wk_b5 h
                      refine J_afterI0 (ws' := [(ad 0, .inr (10, [.int (zI R_thrown), .ref (ad 1), .ref (ad 2), .ref (ad 3), .ref (ad 4), .ref (ad 5), .ref (ad 6), .int (zI R_used), .ref (ad 7), .int (zI R_many), .ref (ad 8), .ref (ad 9), .ref (ad 10), .ref (ad 11), .ref (ad 12), .ref (ad 13), .ref (ad 14), .ref (ad 15), .ref (ad 16), .int (zI R_values_124), .ref (ad 17), .int (zI R_textEnd), .ref (ad 18), .ref (ad 19), .ref (ad 20), .ref (ad 21), .int (zI R_dataEnd), .ref (ad 22), .int (zI R_rowEnd), .ref (ad 23), .ref (ad 24), .int (zI R_rowMany), .ref (ad 25), .ref (ad 26), .ref (ad 27), .ref (ad 28), .int (zI R_waiting), .int (zI R_mostWaiting), .int (zI R_answer), .int (zI R_steps), .int (zI R_memory), .int (zI R_maxSteps), .int (zI R_maxMemory), .int (zI R_fault), .int (zI R_result), .int (zI R_now), .int (zI R_nowRow), .int (zI R_come), .ref (ad 29), .ref (ad 30), .int (zI R_puts), .ref (ad 31)])), (ad 8, .inl (cI, 3700, .inl (zA R_valueKinds_125))), (ad 9, .inl (cL, 3700, .inr (.inl (zB R_valueNumbers_126)))), (ad 14, .inl (cI, 3700, .inl (zA R_given_127)))]) X (jrunV X (c_Mod_make (ad := ad) q128) jF0_k (fun _ _ _ _ => trivial) (jgV own_Mod_sums (by decide +kernel)) rfl rfl rfl pd_Mod_make (by decide) [0, 1, 2, 3] rfl (by decide) 0 10 rfl rfl rfl rfl (Nat.le_of_ble_eq_true rfl) d_Mod_sums_304 (by decide)) [0, 1, 2, 3] [] [0, 1, 2, 3] rfl rfl (by decide) (by decide) rfl (by decide) ?_
                      cases h
                      exact J_ret E ⟨_, rfl, rfl⟩ d_Mod_sums_307 (Nat.le_refl _) (Nat.le_refl _) rfl
          · rcases wk_c h with ⟨c129, h⟩ | ⟨c129, h⟩
            · refine J_tsIn (tgt := 308) X 4 c129 g2 d_Mod_sums_25 (by decide) (by decide) rfl (by decide) ?_
              refine J_lload X d_Mod_sums_308 4 rfl ?_
              refine J_lconst (v := 0) X d_Mod_sums_310 (by decide) ?_
              refine J_lc_ne (tgt := 323) X d_Mod_sums_311 d_Mod_sums_312 (by decide) h (fun c130 h => ?_) (fun c130 h => ?_)
              · refine J_aload_n X d_Mod_sums_323 rfl 1 rfl ?_
                refine J_iconst X d_Mod_sums_324 ?_
                refine J_iload X d_Mod_sums_325 0 rfl ?_
                refine J_if_eq (pa := some ()) (pb := none) (o := ()) (tgt := 334) X d_Mod_sums_327 (by decide) (by decide) (fun _ _ => ?_) (fun _ h => by cases h)
                refine J_lload_n X d_Mod_sums_334 rfl 3 rfl ?_
                refine J_lload X d_Mod_sums_335 4 rfl ?_
                obtain ⟨g131, h⟩ := wk_g h
                refine J_lrem X g131 d_Mod_sums_337 ?_
                refine J_lload_n X d_Mod_sums_338 rfl 3 rfl ?_
                refine J_lload X d_Mod_sums_339 4 rfl ?_
                obtain ⟨g132, h⟩ := wk_g h
                refine J_lrem X g132 d_Mod_sums_341 ?_
                refine J_lconst (v := 0) X d_Mod_sums_342 (by decide) ?_
                refine J_lc_eq (tgt := 378) X d_Mod_sums_343 d_Mod_sums_344 (by decide) h (fun c133 h => ?_) (fun c133 h => ?_)
                · refine J_lconst (v := 0) X d_Mod_sums_378 (by decide) ?_
                  refine J_ladd X d_Mod_sums_379 ?_
                  obtain ⟨r134, R_values_135, R_valueKinds_136, R_valueNumbers_137, R_given_138, q139, h⟩ := wk_b5 h
                  refine J_afterI0 (ws' := [(ad 0, .inr (10, [.int (zI R_thrown), .ref (ad 1), .ref (ad 2), .ref (ad 3), .ref (ad 4), .ref (ad 5), .ref (ad 6), .int (zI R_used), .ref (ad 7), .int (zI R_many), .ref (ad 8), .ref (ad 9), .ref (ad 10), .ref (ad 11), .ref (ad 12), .ref (ad 13), .ref (ad 14), .ref (ad 15), .ref (ad 16), .int (zI R_values_135), .ref (ad 17), .int (zI R_textEnd), .ref (ad 18), .ref (ad 19), .ref (ad 20), .ref (ad 21), .int (zI R_dataEnd), .ref (ad 22), .int (zI R_rowEnd), .ref (ad 23), .ref (ad 24), .int (zI R_rowMany), .ref (ad 25), .ref (ad 26), .ref (ad 27), .ref (ad 28), .int (zI R_waiting), .int (zI R_mostWaiting), .int (zI R_answer), .int (zI R_steps), .int (zI R_memory), .int (zI R_maxSteps), .int (zI R_maxMemory), .int (zI R_fault), .int (zI R_result), .int (zI R_now), .int (zI R_nowRow), .int (zI R_come), .ref (ad 29), .ref (ad 30), .int (zI R_puts), .ref (ad 31)])), (ad 8, .inl (cI, 3700, .inl (zA R_valueKinds_136))), (ad 9, .inl (cL, 3700, .inr (.inl (zB R_valueNumbers_137)))), (ad 14, .inl (cI, 3700, .inl (zA R_given_138)))]) X (jrunV X (c_Mod_make (ad := ad) q139) jF0_k (fun _ _ _ _ => trivial) (jgV own_Mod_sums (by decide +kernel)) rfl rfl rfl pd_Mod_make (by decide) [0, 1, 2, 3] rfl (by decide) 0 10 rfl rfl rfl rfl (Nat.le_of_ble_eq_true rfl) d_Mod_sums_380 (by decide)) [0, 1, 2, 3] [] [0, 1, 2, 3] rfl rfl (by decide) (by decide) rfl (by decide) ?_
                  cases h
                  exact J_ret E ⟨_, rfl, rfl⟩ d_Mod_sums_383 (Nat.le_refl _) (Nat.le_refl _) rfl
                · refine J_lload_n X d_Mod_sums_347 rfl 3 rfl ?_
                  refine J_lconst (v := 0) X d_Mod_sums_348 (by decide) ?_
                  refine J_lc_ge (tgt := 357) X d_Mod_sums_349 d_Mod_sums_350 (by decide) h (fun c140 h => ?_) (fun c140 h => ?_)
                  · refine J_iconst X d_Mod_sums_357 ?_
                    refine J_lload X d_Mod_sums_358 4 rfl ?_
                    refine J_lconst (v := 0) X d_Mod_sums_360 (by decide) ?_
                    refine J_lc_ge (tgt := 369) X d_Mod_sums_361 d_Mod_sums_362 (by decide) h (fun c141 h => ?_) (fun c141 h => ?_)
                    · refine J_iconst X d_Mod_sums_369 ?_
                      refine J_icmp_eq (tgt := 378) X d_Mod_sums_370 (by decide) h (fun c142 h => ?_) (fun c142 h => ?_)
                      · refine J_lconst (v := 0) X d_Mod_sums_378 (by decide) ?_
                        refine J_ladd X d_Mod_sums_379 ?_
                        obtain ⟨r143, R_values_144, R_valueKinds_145, R_valueNumbers_146, R_given_147, q148, h⟩ := wk_b5 h
                        refine J_afterI0 (ws' := [(ad 0, .inr (10, [.int (zI R_thrown), .ref (ad 1), .ref (ad 2), .ref (ad 3), .ref (ad 4), .ref (ad 5), .ref (ad 6), .int (zI R_used), .ref (ad 7), .int (zI R_many), .ref (ad 8), .ref (ad 9), .ref (ad 10), .ref (ad 11), .ref (ad 12), .ref (ad 13), .ref (ad 14), .ref (ad 15), .ref (ad 16), .int (zI R_values_144), .ref (ad 17), .int (zI R_textEnd), .ref (ad 18), .ref (ad 19), .ref (ad 20), .ref (ad 21), .int (zI R_dataEnd), .ref (ad 22), .int (zI R_rowEnd), .ref (ad 23), .ref (ad 24), .int (zI R_rowMany), .ref (ad 25), .ref (ad 26), .ref (ad 27), .ref (ad 28), .int (zI R_waiting), .int (zI R_mostWaiting), .int (zI R_answer), .int (zI R_steps), .int (zI R_memory), .int (zI R_maxSteps), .int (zI R_maxMemory), .int (zI R_fault), .int (zI R_result), .int (zI R_now), .int (zI R_nowRow), .int (zI R_come), .ref (ad 29), .ref (ad 30), .int (zI R_puts), .ref (ad 31)])), (ad 8, .inl (cI, 3700, .inl (zA R_valueKinds_145))), (ad 9, .inl (cL, 3700, .inr (.inl (zB R_valueNumbers_146)))), (ad 14, .inl (cI, 3700, .inl (zA R_given_147)))]) X (jrunV X (c_Mod_make (ad := ad) q148) jF0_k (fun _ _ _ _ => trivial) (jgV own_Mod_sums (by decide +kernel)) rfl rfl rfl pd_Mod_make (by decide) [0, 1, 2, 3] rfl (by decide) 0 10 rfl rfl rfl rfl (Nat.le_of_ble_eq_true rfl) d_Mod_sums_380 (by decide)) [0, 1, 2, 3] [] [0, 1, 2, 3] rfl rfl (by decide) (by decide) rfl (by decide) ?_
                        cases h
                        exact J_ret E ⟨_, rfl, rfl⟩ d_Mod_sums_383 (Nat.le_refl _) (Nat.le_refl _) rfl
                      · refine J_lload X d_Mod_sums_373 4 rfl ?_
                        refine J_goto (tgt := 379) X d_Mod_sums_375 (by decide) ?_
                        refine J_ladd X d_Mod_sums_379 ?_
                        obtain ⟨r149, R_values_150, R_valueKinds_151, R_valueNumbers_152, R_given_153, q154, h⟩ := wk_b5 h
                        refine J_afterI0 (ws' := [(ad 0, .inr (10, [.int (zI R_thrown), .ref (ad 1), .ref (ad 2), .ref (ad 3), .ref (ad 4), .ref (ad 5), .ref (ad 6), .int (zI R_used), .ref (ad 7), .int (zI R_many), .ref (ad 8), .ref (ad 9), .ref (ad 10), .ref (ad 11), .ref (ad 12), .ref (ad 13), .ref (ad 14), .ref (ad 15), .ref (ad 16), .int (zI R_values_150), .ref (ad 17), .int (zI R_textEnd), .ref (ad 18), .ref (ad 19), .ref (ad 20), .ref (ad 21), .int (zI R_dataEnd), .ref (ad 22), .int (zI R_rowEnd), .ref (ad 23), .ref (ad 24), .int (zI R_rowMany), .ref (ad 25), .ref (ad 26), .ref (ad 27), .ref (ad 28), .int (zI R_waiting), .int (zI R_mostWaiting), .int (zI R_answer), .int (zI R_steps), .int (zI R_memory), .int (zI R_maxSteps), .int (zI R_maxMemory), .int (zI R_fault), .int (zI R_result), .int (zI R_now), .int (zI R_nowRow), .int (zI R_come), .ref (ad 29), .ref (ad 30), .int (zI R_puts), .ref (ad 31)])), (ad 8, .inl (cI, 3700, .inl (zA R_valueKinds_151))), (ad 9, .inl (cL, 3700, .inr (.inl (zB R_valueNumbers_152)))), (ad 14, .inl (cI, 3700, .inl (zA R_given_153)))]) X (jrunV X (c_Mod_make (ad := ad) q154) jF0_k (fun _ _ _ _ => trivial) (jgV own_Mod_sums (by decide +kernel)) rfl rfl rfl pd_Mod_make (by decide) [0, 1, 2, 3] rfl (by decide) 0 10 rfl rfl rfl rfl (Nat.le_of_ble_eq_true rfl) d_Mod_sums_380 (by decide)) [0, 1, 2, 3] [] [0, 1, 2, 3] rfl rfl (by decide) (by decide) rfl (by decide) ?_
                        cases h
                        exact J_ret E ⟨_, rfl, rfl⟩ d_Mod_sums_383 (Nat.le_refl _) (Nat.le_refl _) rfl
                    · refine J_iconst X d_Mod_sums_365 ?_
                      refine J_goto (tgt := 370) X d_Mod_sums_366 (by decide) ?_
                      refine J_icmp_eq (tgt := 378) X d_Mod_sums_370 (by decide) h (fun c155 h => ?_) (fun c155 h => ?_)
                      · refine J_lconst (v := 0) X d_Mod_sums_378 (by decide) ?_
                        refine J_ladd X d_Mod_sums_379 ?_
                        obtain ⟨r156, R_values_157, R_valueKinds_158, R_valueNumbers_159, R_given_160, q161, h⟩ := wk_b5 h
                        refine J_afterI0 (ws' := [(ad 0, .inr (10, [.int (zI R_thrown), .ref (ad 1), .ref (ad 2), .ref (ad 3), .ref (ad 4), .ref (ad 5), .ref (ad 6), .int (zI R_used), .ref (ad 7), .int (zI R_many), .ref (ad 8), .ref (ad 9), .ref (ad 10), .ref (ad 11), .ref (ad 12), .ref (ad 13), .ref (ad 14), .ref (ad 15), .ref (ad 16), .int (zI R_values_157), .ref (ad 17), .int (zI R_textEnd), .ref (ad 18), .ref (ad 19), .ref (ad 20), .ref (ad 21), .int (zI R_dataEnd), .ref (ad 22), .int (zI R_rowEnd), .ref (ad 23), .ref (ad 24), .int (zI R_rowMany), .ref (ad 25), .ref (ad 26), .ref (ad 27), .ref (ad 28), .int (zI R_waiting), .int (zI R_mostWaiting), .int (zI R_answer), .int (zI R_steps), .int (zI R_memory), .int (zI R_maxSteps), .int (zI R_maxMemory), .int (zI R_fault), .int (zI R_result), .int (zI R_now), .int (zI R_nowRow), .int (zI R_come), .ref (ad 29), .ref (ad 30), .int (zI R_puts), .ref (ad 31)])), (ad 8, .inl (cI, 3700, .inl (zA R_valueKinds_158))), (ad 9, .inl (cL, 3700, .inr (.inl (zB R_valueNumbers_159)))), (ad 14, .inl (cI, 3700, .inl (zA R_given_160)))]) X (jrunV X (c_Mod_make (ad := ad) q161) jF0_k (fun _ _ _ _ => trivial) (jgV own_Mod_sums (by decide +kernel)) rfl rfl rfl pd_Mod_make (by decide) [0, 1, 2, 3] rfl (by decide) 0 10 rfl rfl rfl rfl (Nat.le_of_ble_eq_true rfl) d_Mod_sums_380 (by decide)) [0, 1, 2, 3] [] [0, 1, 2, 3] rfl rfl (by decide) (by decide) rfl (by decide) ?_
                        cases h
                        exact J_ret E ⟨_, rfl, rfl⟩ d_Mod_sums_383 (Nat.le_refl _) (Nat.le_refl _) rfl
                      · refine J_lload X d_Mod_sums_373 4 rfl ?_
                        refine J_goto (tgt := 379) X d_Mod_sums_375 (by decide) ?_
                        refine J_ladd X d_Mod_sums_379 ?_
                        obtain ⟨r162, R_values_163, R_valueKinds_164, R_valueNumbers_165, R_given_166, q167, h⟩ := wk_b5 h
                        refine J_afterI0 (ws' := [(ad 0, .inr (10, [.int (zI R_thrown), .ref (ad 1), .ref (ad 2), .ref (ad 3), .ref (ad 4), .ref (ad 5), .ref (ad 6), .int (zI R_used), .ref (ad 7), .int (zI R_many), .ref (ad 8), .ref (ad 9), .ref (ad 10), .ref (ad 11), .ref (ad 12), .ref (ad 13), .ref (ad 14), .ref (ad 15), .ref (ad 16), .int (zI R_values_163), .ref (ad 17), .int (zI R_textEnd), .ref (ad 18), .ref (ad 19), .ref (ad 20), .ref (ad 21), .int (zI R_dataEnd), .ref (ad 22), .int (zI R_rowEnd), .ref (ad 23), .ref (ad 24), .int (zI R_rowMany), .ref (ad 25), .ref (ad 26), .ref (ad 27), .ref (ad 28), .int (zI R_waiting), .int (zI R_mostWaiting), .int (zI R_answer), .int (zI R_steps), .int (zI R_memory), .int (zI R_maxSteps), .int (zI R_maxMemory), .int (zI R_fault), .int (zI R_result), .int (zI R_now), .int (zI R_nowRow), .int (zI R_come), .ref (ad 29), .ref (ad 30), .int (zI R_puts), .ref (ad 31)])), (ad 8, .inl (cI, 3700, .inl (zA R_valueKinds_164))), (ad 9, .inl (cL, 3700, .inr (.inl (zB R_valueNumbers_165)))), (ad 14, .inl (cI, 3700, .inl (zA R_given_166)))]) X (jrunV X (c_Mod_make (ad := ad) q167) jF0_k (fun _ _ _ _ => trivial) (jgV own_Mod_sums (by decide +kernel)) rfl rfl rfl pd_Mod_make (by decide) [0, 1, 2, 3] rfl (by decide) 0 10 rfl rfl rfl rfl (Nat.le_of_ble_eq_true rfl) d_Mod_sums_380 (by decide)) [0, 1, 2, 3] [] [0, 1, 2, 3] rfl rfl (by decide) (by decide) rfl (by decide) ?_
                        cases h
                        exact J_ret E ⟨_, rfl, rfl⟩ d_Mod_sums_383 (Nat.le_refl _) (Nat.le_refl _) rfl
                  · refine J_iconst X d_Mod_sums_353 ?_
                    refine J_goto (tgt := 358) X d_Mod_sums_354 (by decide) ?_
                    refine J_lload X d_Mod_sums_358 4 rfl ?_
                    refine J_lconst (v := 0) X d_Mod_sums_360 (by decide) ?_
                    refine J_lc_ge (tgt := 369) X d_Mod_sums_361 d_Mod_sums_362 (by decide) h (fun c168 h => ?_) (fun c168 h => ?_)
                    · refine J_iconst X d_Mod_sums_369 ?_
                      refine J_icmp_eq (tgt := 378) X d_Mod_sums_370 (by decide) h (fun c169 h => ?_) (fun c169 h => ?_)
                      · refine J_lconst (v := 0) X d_Mod_sums_378 (by decide) ?_
                        refine J_ladd X d_Mod_sums_379 ?_
                        obtain ⟨r170, R_values_171, R_valueKinds_172, R_valueNumbers_173, R_given_174, q175, h⟩ := wk_b5 h
                        refine J_afterI0 (ws' := [(ad 0, .inr (10, [.int (zI R_thrown), .ref (ad 1), .ref (ad 2), .ref (ad 3), .ref (ad 4), .ref (ad 5), .ref (ad 6), .int (zI R_used), .ref (ad 7), .int (zI R_many), .ref (ad 8), .ref (ad 9), .ref (ad 10), .ref (ad 11), .ref (ad 12), .ref (ad 13), .ref (ad 14), .ref (ad 15), .ref (ad 16), .int (zI R_values_171), .ref (ad 17), .int (zI R_textEnd), .ref (ad 18), .ref (ad 19), .ref (ad 20), .ref (ad 21), .int (zI R_dataEnd), .ref (ad 22), .int (zI R_rowEnd), .ref (ad 23), .ref (ad 24), .int (zI R_rowMany), .ref (ad 25), .ref (ad 26), .ref (ad 27), .ref (ad 28), .int (zI R_waiting), .int (zI R_mostWaiting), .int (zI R_answer), .int (zI R_steps), .int (zI R_memory), .int (zI R_maxSteps), .int (zI R_maxMemory), .int (zI R_fault), .int (zI R_result), .int (zI R_now), .int (zI R_nowRow), .int (zI R_come), .ref (ad 29), .ref (ad 30), .int (zI R_puts), .ref (ad 31)])), (ad 8, .inl (cI, 3700, .inl (zA R_valueKinds_172))), (ad 9, .inl (cL, 3700, .inr (.inl (zB R_valueNumbers_173)))), (ad 14, .inl (cI, 3700, .inl (zA R_given_174)))]) X (jrunV X (c_Mod_make (ad := ad) q175) jF0_k (fun _ _ _ _ => trivial) (jgV own_Mod_sums (by decide +kernel)) rfl rfl rfl pd_Mod_make (by decide) [0, 1, 2, 3] rfl (by decide) 0 10 rfl rfl rfl rfl (Nat.le_of_ble_eq_true rfl) d_Mod_sums_380 (by decide)) [0, 1, 2, 3] [] [0, 1, 2, 3] rfl rfl (by decide) (by decide) rfl (by decide) ?_
                        cases h
                        exact J_ret E ⟨_, rfl, rfl⟩ d_Mod_sums_383 (Nat.le_refl _) (Nat.le_refl _) rfl
                      · refine J_lload X d_Mod_sums_373 4 rfl ?_
                        refine J_goto (tgt := 379) X d_Mod_sums_375 (by decide) ?_
                        refine J_ladd X d_Mod_sums_379 ?_
                        obtain ⟨r176, R_values_177, R_valueKinds_178, R_valueNumbers_179, R_given_180, q181, h⟩ := wk_b5 h
                        refine J_afterI0 (ws' := [(ad 0, .inr (10, [.int (zI R_thrown), .ref (ad 1), .ref (ad 2), .ref (ad 3), .ref (ad 4), .ref (ad 5), .ref (ad 6), .int (zI R_used), .ref (ad 7), .int (zI R_many), .ref (ad 8), .ref (ad 9), .ref (ad 10), .ref (ad 11), .ref (ad 12), .ref (ad 13), .ref (ad 14), .ref (ad 15), .ref (ad 16), .int (zI R_values_177), .ref (ad 17), .int (zI R_textEnd), .ref (ad 18), .ref (ad 19), .ref (ad 20), .ref (ad 21), .int (zI R_dataEnd), .ref (ad 22), .int (zI R_rowEnd), .ref (ad 23), .ref (ad 24), .int (zI R_rowMany), .ref (ad 25), .ref (ad 26), .ref (ad 27), .ref (ad 28), .int (zI R_waiting), .int (zI R_mostWaiting), .int (zI R_answer), .int (zI R_steps), .int (zI R_memory), .int (zI R_maxSteps), .int (zI R_maxMemory), .int (zI R_fault), .int (zI R_result), .int (zI R_now), .int (zI R_nowRow), .int (zI R_come), .ref (ad 29), .ref (ad 30), .int (zI R_puts), .ref (ad 31)])), (ad 8, .inl (cI, 3700, .inl (zA R_valueKinds_178))), (ad 9, .inl (cL, 3700, .inr (.inl (zB R_valueNumbers_179)))), (ad 14, .inl (cI, 3700, .inl (zA R_given_180)))]) X (jrunV X (c_Mod_make (ad := ad) q181) jF0_k (fun _ _ _ _ => trivial) (jgV own_Mod_sums (by decide +kernel)) rfl rfl rfl pd_Mod_make (by decide) [0, 1, 2, 3] rfl (by decide) 0 10 rfl rfl rfl rfl (Nat.le_of_ble_eq_true rfl) d_Mod_sums_380 (by decide)) [0, 1, 2, 3] [] [0, 1, 2, 3] rfl rfl (by decide) (by decide) rfl (by decide) ?_
                        cases h
                        exact J_ret E ⟨_, rfl, rfl⟩ d_Mod_sums_383 (Nat.le_refl _) (Nat.le_refl _) rfl
                    · refine J_iconst X d_Mod_sums_365 ?_
                      refine J_goto (tgt := 370) X d_Mod_sums_366 (by decide) ?_
                      refine J_icmp_eq (tgt := 378) X d_Mod_sums_370 (by decide) h (fun c182 h => ?_) (fun c182 h => ?_)
                      · refine J_lconst (v := 0) X d_Mod_sums_378 (by decide) ?_
                        refine J_ladd X d_Mod_sums_379 ?_
                        obtain ⟨r183, R_values_184, R_valueKinds_185, R_valueNumbers_186, R_given_187, q188, h⟩ := wk_b5 h
                        refine J_afterI0 (ws' := [(ad 0, .inr (10, [.int (zI R_thrown), .ref (ad 1), .ref (ad 2), .ref (ad 3), .ref (ad 4), .ref (ad 5), .ref (ad 6), .int (zI R_used), .ref (ad 7), .int (zI R_many), .ref (ad 8), .ref (ad 9), .ref (ad 10), .ref (ad 11), .ref (ad 12), .ref (ad 13), .ref (ad 14), .ref (ad 15), .ref (ad 16), .int (zI R_values_184), .ref (ad 17), .int (zI R_textEnd), .ref (ad 18), .ref (ad 19), .ref (ad 20), .ref (ad 21), .int (zI R_dataEnd), .ref (ad 22), .int (zI R_rowEnd), .ref (ad 23), .ref (ad 24), .int (zI R_rowMany), .ref (ad 25), .ref (ad 26), .ref (ad 27), .ref (ad 28), .int (zI R_waiting), .int (zI R_mostWaiting), .int (zI R_answer), .int (zI R_steps), .int (zI R_memory), .int (zI R_maxSteps), .int (zI R_maxMemory), .int (zI R_fault), .int (zI R_result), .int (zI R_now), .int (zI R_nowRow), .int (zI R_come), .ref (ad 29), .ref (ad 30), .int (zI R_puts), .ref (ad 31)])), (ad 8, .inl (cI, 3700, .inl (zA R_valueKinds_185))), (ad 9, .inl (cL, 3700, .inr (.inl (zB R_valueNumbers_186)))), (ad 14, .inl (cI, 3700, .inl (zA R_given_187)))]) X (jrunV X (c_Mod_make (ad := ad) q188) jF0_k (fun _ _ _ _ => trivial) (jgV own_Mod_sums (by decide +kernel)) rfl rfl rfl pd_Mod_make (by decide) [0, 1, 2, 3] rfl (by decide) 0 10 rfl rfl rfl rfl (Nat.le_of_ble_eq_true rfl) d_Mod_sums_380 (by decide)) [0, 1, 2, 3] [] [0, 1, 2, 3] rfl rfl (by decide) (by decide) rfl (by decide) ?_
                        cases h
                        exact J_ret E ⟨_, rfl, rfl⟩ d_Mod_sums_383 (Nat.le_refl _) (Nat.le_refl _) rfl
                      · refine J_lload X d_Mod_sums_373 4 rfl ?_
                        refine J_goto (tgt := 379) X d_Mod_sums_375 (by decide) ?_
                        refine J_ladd X d_Mod_sums_379 ?_
                        obtain ⟨r189, R_values_190, R_valueKinds_191, R_valueNumbers_192, R_given_193, q194, h⟩ := wk_b5 h
                        refine J_afterI0 (ws' := [(ad 0, .inr (10, [.int (zI R_thrown), .ref (ad 1), .ref (ad 2), .ref (ad 3), .ref (ad 4), .ref (ad 5), .ref (ad 6), .int (zI R_used), .ref (ad 7), .int (zI R_many), .ref (ad 8), .ref (ad 9), .ref (ad 10), .ref (ad 11), .ref (ad 12), .ref (ad 13), .ref (ad 14), .ref (ad 15), .ref (ad 16), .int (zI R_values_190), .ref (ad 17), .int (zI R_textEnd), .ref (ad 18), .ref (ad 19), .ref (ad 20), .ref (ad 21), .int (zI R_dataEnd), .ref (ad 22), .int (zI R_rowEnd), .ref (ad 23), .ref (ad 24), .int (zI R_rowMany), .ref (ad 25), .ref (ad 26), .ref (ad 27), .ref (ad 28), .int (zI R_waiting), .int (zI R_mostWaiting), .int (zI R_answer), .int (zI R_steps), .int (zI R_memory), .int (zI R_maxSteps), .int (zI R_maxMemory), .int (zI R_fault), .int (zI R_result), .int (zI R_now), .int (zI R_nowRow), .int (zI R_come), .ref (ad 29), .ref (ad 30), .int (zI R_puts), .ref (ad 31)])), (ad 8, .inl (cI, 3700, .inl (zA R_valueKinds_191))), (ad 9, .inl (cL, 3700, .inr (.inl (zB R_valueNumbers_192)))), (ad 14, .inl (cI, 3700, .inl (zA R_given_193)))]) X (jrunV X (c_Mod_make (ad := ad) q194) jF0_k (fun _ _ _ _ => trivial) (jgV own_Mod_sums (by decide +kernel)) rfl rfl rfl pd_Mod_make (by decide) [0, 1, 2, 3] rfl (by decide) 0 10 rfl rfl rfl rfl (Nat.le_of_ble_eq_true rfl) d_Mod_sums_380 (by decide)) [0, 1, 2, 3] [] [0, 1, 2, 3] rfl rfl (by decide) (by decide) rfl (by decide) ?_
                        cases h
                        exact J_ret E ⟨_, rfl, rfl⟩ d_Mod_sums_383 (Nat.le_refl _) (Nat.le_refl _) rfl
              · refine J_aload_n X d_Mod_sums_315 rfl 1 rfl ?_
                refine J_iconst X d_Mod_sums_316 ?_
                obtain ⟨r195, R_fault_196, q197, h⟩ := wk_b2 h
                refine J_afterI0 (ws' := [(ad 0, .inr (10, [.int (zI R_thrown), .ref (ad 1), .ref (ad 2), .ref (ad 3), .ref (ad 4), .ref (ad 5), .ref (ad 6), .int (zI R_used), .ref (ad 7), .int (zI R_many), .ref (ad 8), .ref (ad 9), .ref (ad 10), .ref (ad 11), .ref (ad 12), .ref (ad 13), .ref (ad 14), .ref (ad 15), .ref (ad 16), .int (zI R_values), .ref (ad 17), .int (zI R_textEnd), .ref (ad 18), .ref (ad 19), .ref (ad 20), .ref (ad 21), .int (zI R_dataEnd), .ref (ad 22), .int (zI R_rowEnd), .ref (ad 23), .ref (ad 24), .int (zI R_rowMany), .ref (ad 25), .ref (ad 26), .ref (ad 27), .ref (ad 28), .int (zI R_waiting), .int (zI R_mostWaiting), .int (zI R_answer), .int (zI R_steps), .int (zI R_memory), .int (zI R_maxSteps), .int (zI R_maxMemory), .int (zI R_fault_196), .int (zI R_result), .int (zI R_now), .int (zI R_nowRow), .int (zI R_come), .ref (ad 29), .ref (ad 30), .int (zI R_puts), .ref (ad 31)])), (ad 8, .inl (cI, 3700, .inl (zA R_valueKinds))), (ad 9, .inl (cL, 3700, .inr (.inl (zB R_valueNumbers)))), (ad 14, .inl (cI, 3700, .inl (zA R_given)))]) X (jrunV X (c_Mod_fail (ad := ad) q197) jF0_k (fun _ _ _ _ => trivial) (jgV own_Mod_sums (by decide +kernel)) rfl rfl rfl pd_Mod_fail (by decide) [0] rfl (by decide) 0 10 rfl rfl rfl rfl (Nat.le_of_ble_eq_true rfl) d_Mod_sums_317 (by decide)) [0] [1, 2, 3] [3, 0, 1, 2] rfl rfl (by decide) (by decide) rfl (by decide) ?_
                refine J_goto (tgt := 383) X d_Mod_sums_320 (by decide) ?_
                cases h
                exact J_ret E ⟨_, rfl, rfl⟩ d_Mod_sums_383 (Nat.le_refl _) (Nat.le_refl _) rfl
            · rcases wk_c h with ⟨c198, h⟩ | ⟨c198, h⟩
              · refine J_tsIn (tgt := 384) X 5 c198 g2 d_Mod_sums_25 (by decide) (by decide) rfl (by decide) ?_
                refine J_lload X d_Mod_sums_384 4 rfl ?_
                refine J_lconst (v := 0) X d_Mod_sums_386 (by decide) ?_
                refine J_lc_eq (tgt := 396) X d_Mod_sums_387 d_Mod_sums_388 (by decide) h (fun c199 h => ?_) (fun c199 h => ?_)
                · refine J_aload_n X d_Mod_sums_396 rfl 1 rfl ?_
                  refine J_iconst X d_Mod_sums_397 ?_
                  obtain ⟨r200, R_fault_201, q202, h⟩ := wk_b2 h
                  refine J_afterI0 (ws' := [(ad 0, .inr (10, [.int (zI R_thrown), .ref (ad 1), .ref (ad 2), .ref (ad 3), .ref (ad 4), .ref (ad 5), .ref (ad 6), .int (zI R_used), .ref (ad 7), .int (zI R_many), .ref (ad 8), .ref (ad 9), .ref (ad 10), .ref (ad 11), .ref (ad 12), .ref (ad 13), .ref (ad 14), .ref (ad 15), .ref (ad 16), .int (zI R_values), .ref (ad 17), .int (zI R_textEnd), .ref (ad 18), .ref (ad 19), .ref (ad 20), .ref (ad 21), .int (zI R_dataEnd), .ref (ad 22), .int (zI R_rowEnd), .ref (ad 23), .ref (ad 24), .int (zI R_rowMany), .ref (ad 25), .ref (ad 26), .ref (ad 27), .ref (ad 28), .int (zI R_waiting), .int (zI R_mostWaiting), .int (zI R_answer), .int (zI R_steps), .int (zI R_memory), .int (zI R_maxSteps), .int (zI R_maxMemory), .int (zI R_fault_201), .int (zI R_result), .int (zI R_now), .int (zI R_nowRow), .int (zI R_come), .ref (ad 29), .ref (ad 30), .int (zI R_puts), .ref (ad 31)])), (ad 8, .inl (cI, 3700, .inl (zA R_valueKinds))), (ad 9, .inl (cL, 3700, .inr (.inl (zB R_valueNumbers)))), (ad 14, .inl (cI, 3700, .inl (zA R_given)))]) X (jrunV X (c_Mod_fail (ad := ad) q202) jF0_k (fun _ _ _ _ => trivial) (jgV own_Mod_sums (by decide +kernel)) rfl rfl rfl pd_Mod_fail (by decide) [0] rfl (by decide) 0 10 rfl rfl rfl rfl (Nat.le_of_ble_eq_true rfl) d_Mod_sums_398 (by decide)) [0] [1, 2, 3] [3, 0, 1, 2] rfl rfl (by decide) (by decide) rfl (by decide) ?_
                  refine J_goto (tgt := 413) X d_Mod_sums_401 (by decide) ?_
                  cases h
                  exact J_ret E ⟨_, rfl, rfl⟩ d_Mod_sums_413 (Nat.le_refl _) (Nat.le_refl _) rfl
                · refine J_iload X d_Mod_sums_391 0 rfl ?_
                  refine J_if_eq (pa := some ()) (pb := none) (o := ()) (tgt := 404) X d_Mod_sums_393 (by decide) (by decide) (fun _ _ => ?_) (fun _ h => by cases h)
                  refine J_aload_n X d_Mod_sums_404 rfl 1 rfl ?_
                  refine J_iconst X d_Mod_sums_405 ?_
                  refine J_lload_n X d_Mod_sums_406 rfl 3 rfl ?_
                  refine J_lload X d_Mod_sums_407 4 rfl ?_
                  obtain ⟨g203, h⟩ := wk_g h
                  refine J_ldiv X g203 d_Mod_sums_409 ?_
                  obtain ⟨r204, R_values_205, R_valueKinds_206, R_valueNumbers_207, R_given_208, q209, h⟩ := wk_b5 h
                  refine J_afterI0 (ws' := [(ad 0, .inr (10, [.int (zI R_thrown), .ref (ad 1), .ref (ad 2), .ref (ad 3), .ref (ad 4), .ref (ad 5), .ref (ad 6), .int (zI R_used), .ref (ad 7), .int (zI R_many), .ref (ad 8), .ref (ad 9), .ref (ad 10), .ref (ad 11), .ref (ad 12), .ref (ad 13), .ref (ad 14), .ref (ad 15), .ref (ad 16), .int (zI R_values_205), .ref (ad 17), .int (zI R_textEnd), .ref (ad 18), .ref (ad 19), .ref (ad 20), .ref (ad 21), .int (zI R_dataEnd), .ref (ad 22), .int (zI R_rowEnd), .ref (ad 23), .ref (ad 24), .int (zI R_rowMany), .ref (ad 25), .ref (ad 26), .ref (ad 27), .ref (ad 28), .int (zI R_waiting), .int (zI R_mostWaiting), .int (zI R_answer), .int (zI R_steps), .int (zI R_memory), .int (zI R_maxSteps), .int (zI R_maxMemory), .int (zI R_fault), .int (zI R_result), .int (zI R_now), .int (zI R_nowRow), .int (zI R_come), .ref (ad 29), .ref (ad 30), .int (zI R_puts), .ref (ad 31)])), (ad 8, .inl (cI, 3700, .inl (zA R_valueKinds_206))), (ad 9, .inl (cL, 3700, .inr (.inl (zB R_valueNumbers_207)))), (ad 14, .inl (cI, 3700, .inl (zA R_given_208)))]) X (jrunV X (c_Mod_make (ad := ad) q209) jF0_k (fun _ _ _ _ => trivial) (jgV own_Mod_sums (by decide +kernel)) rfl rfl rfl pd_Mod_make (by decide) [0, 1, 2, 3] rfl (by decide) 0 10 rfl rfl rfl rfl (Nat.le_of_ble_eq_true rfl) d_Mod_sums_410 (by decide)) [0, 1, 2, 3] [] [0, 1, 2, 3] rfl rfl (by decide) (by decide) rfl (by decide) ?_
                  cases h
                  exact J_ret E ⟨_, rfl, rfl⟩ d_Mod_sums_413 (Nat.le_refl _) (Nat.le_refl _) rfl
              · rcases wk_c h with ⟨c210, h⟩ | ⟨c210, h⟩
                · refine J_tsIn (tgt := 414) X 6 c210 g2 d_Mod_sums_25 (by decide) (by decide) rfl (by decide) ?_
                  refine J_lload X d_Mod_sums_414 4 rfl ?_
                  refine J_lconst (v := 0) X d_Mod_sums_416 (by decide) ?_
                  refine J_lc_ne (tgt := 429) X d_Mod_sums_417 d_Mod_sums_418 (by decide) h (fun c211 h => ?_) (fun c211 h => ?_)
                  · refine J_aload_n X d_Mod_sums_429 rfl 1 rfl ?_
                    refine J_iconst X d_Mod_sums_430 ?_
                    refine J_iload X d_Mod_sums_431 0 rfl ?_
                    refine J_if_eq (pa := some ()) (pb := none) (o := ()) (tgt := 440) X d_Mod_sums_433 (by decide) (by decide) (fun _ _ => ?_) (fun _ h => by cases h)
                    refine J_lload_n X d_Mod_sums_440 rfl 3 rfl ?_
                    refine J_lload X d_Mod_sums_441 4 rfl ?_
                    obtain ⟨g212, h⟩ := wk_g h
                    refine J_lrem X g212 d_Mod_sums_443 ?_
                    obtain ⟨r213, R_values_214, R_valueKinds_215, R_valueNumbers_216, R_given_217, q218, h⟩ := wk_b5 h
                    refine J_afterI0 (ws' := [(ad 0, .inr (10, [.int (zI R_thrown), .ref (ad 1), .ref (ad 2), .ref (ad 3), .ref (ad 4), .ref (ad 5), .ref (ad 6), .int (zI R_used), .ref (ad 7), .int (zI R_many), .ref (ad 8), .ref (ad 9), .ref (ad 10), .ref (ad 11), .ref (ad 12), .ref (ad 13), .ref (ad 14), .ref (ad 15), .ref (ad 16), .int (zI R_values_214), .ref (ad 17), .int (zI R_textEnd), .ref (ad 18), .ref (ad 19), .ref (ad 20), .ref (ad 21), .int (zI R_dataEnd), .ref (ad 22), .int (zI R_rowEnd), .ref (ad 23), .ref (ad 24), .int (zI R_rowMany), .ref (ad 25), .ref (ad 26), .ref (ad 27), .ref (ad 28), .int (zI R_waiting), .int (zI R_mostWaiting), .int (zI R_answer), .int (zI R_steps), .int (zI R_memory), .int (zI R_maxSteps), .int (zI R_maxMemory), .int (zI R_fault), .int (zI R_result), .int (zI R_now), .int (zI R_nowRow), .int (zI R_come), .ref (ad 29), .ref (ad 30), .int (zI R_puts), .ref (ad 31)])), (ad 8, .inl (cI, 3700, .inl (zA R_valueKinds_215))), (ad 9, .inl (cL, 3700, .inr (.inl (zB R_valueNumbers_216)))), (ad 14, .inl (cI, 3700, .inl (zA R_given_217)))]) X (jrunV X (c_Mod_make (ad := ad) q218) jF0_k (fun _ _ _ _ => trivial) (jgV own_Mod_sums (by decide +kernel)) rfl rfl rfl pd_Mod_make (by decide) [0, 1, 2, 3] rfl (by decide) 0 10 rfl rfl rfl rfl (Nat.le_of_ble_eq_true rfl) d_Mod_sums_444 (by decide)) [0, 1, 2, 3] [] [0, 1, 2, 3] rfl rfl (by decide) (by decide) rfl (by decide) ?_
                    cases h
                    exact J_ret E ⟨_, rfl, rfl⟩ d_Mod_sums_447 (Nat.le_refl _) (Nat.le_refl _) rfl
                  · refine J_aload_n X d_Mod_sums_421 rfl 1 rfl ?_
                    refine J_iconst X d_Mod_sums_422 ?_
                    obtain ⟨r219, R_fault_220, q221, h⟩ := wk_b2 h
                    refine J_afterI0 (ws' := [(ad 0, .inr (10, [.int (zI R_thrown), .ref (ad 1), .ref (ad 2), .ref (ad 3), .ref (ad 4), .ref (ad 5), .ref (ad 6), .int (zI R_used), .ref (ad 7), .int (zI R_many), .ref (ad 8), .ref (ad 9), .ref (ad 10), .ref (ad 11), .ref (ad 12), .ref (ad 13), .ref (ad 14), .ref (ad 15), .ref (ad 16), .int (zI R_values), .ref (ad 17), .int (zI R_textEnd), .ref (ad 18), .ref (ad 19), .ref (ad 20), .ref (ad 21), .int (zI R_dataEnd), .ref (ad 22), .int (zI R_rowEnd), .ref (ad 23), .ref (ad 24), .int (zI R_rowMany), .ref (ad 25), .ref (ad 26), .ref (ad 27), .ref (ad 28), .int (zI R_waiting), .int (zI R_mostWaiting), .int (zI R_answer), .int (zI R_steps), .int (zI R_memory), .int (zI R_maxSteps), .int (zI R_maxMemory), .int (zI R_fault_220), .int (zI R_result), .int (zI R_now), .int (zI R_nowRow), .int (zI R_come), .ref (ad 29), .ref (ad 30), .int (zI R_puts), .ref (ad 31)])), (ad 8, .inl (cI, 3700, .inl (zA R_valueKinds))), (ad 9, .inl (cL, 3700, .inr (.inl (zB R_valueNumbers)))), (ad 14, .inl (cI, 3700, .inl (zA R_given)))]) X (jrunV X (c_Mod_fail (ad := ad) q221) jF0_k (fun _ _ _ _ => trivial) (jgV own_Mod_sums (by decide +kernel)) rfl rfl rfl pd_Mod_fail (by decide) [0] rfl (by decide) 0 10 rfl rfl rfl rfl (Nat.le_of_ble_eq_true rfl) d_Mod_sums_423 (by decide)) [0] [1, 2, 3] [3, 0, 1, 2] rfl rfl (by decide) (by decide) rfl (by decide) ?_
                    refine J_goto (tgt := 447) X d_Mod_sums_426 (by decide) ?_
                    cases h
                    exact J_ret E ⟨_, rfl, rfl⟩ d_Mod_sums_447 (Nat.le_refl _) (Nat.le_refl _) rfl
                · rcases wk_c h with ⟨c222, h⟩ | ⟨c222, h⟩
                  · refine J_tsIn (tgt := 448) X 7 c222 g2 d_Mod_sums_25 (by decide) (by decide) rfl (by decide) ?_
                    refine J_aload_n X d_Mod_sums_448 rfl 1 rfl ?_
                    refine J_lload_n X d_Mod_sums_449 rfl 3 rfl ?_
                    refine J_lload X d_Mod_sums_450 4 rfl ?_
                    refine J_lc_ne (tgt := 460) X d_Mod_sums_452 d_Mod_sums_453 (by decide) h (fun c223 h => ?_) (fun c223 h => ?_)
                    · refine J_iconst X d_Mod_sums_460 ?_
                      obtain ⟨r224, R_values_225, R_valueKinds_226, R_valueNumbers_227, R_given_228, q229, h⟩ := wk_b5 h
                      refine J_afterI0 (ws' := [(ad 0, .inr (10, [.int (zI R_thrown), .ref (ad 1), .ref (ad 2), .ref (ad 3), .ref (ad 4), .ref (ad 5), .ref (ad 6), .int (zI R_used), .ref (ad 7), .int (zI R_many), .ref (ad 8), .ref (ad 9), .ref (ad 10), .ref (ad 11), .ref (ad 12), .ref (ad 13), .ref (ad 14), .ref (ad 15), .ref (ad 16), .int (zI R_values_225), .ref (ad 17), .int (zI R_textEnd), .ref (ad 18), .ref (ad 19), .ref (ad 20), .ref (ad 21), .int (zI R_dataEnd), .ref (ad 22), .int (zI R_rowEnd), .ref (ad 23), .ref (ad 24), .int (zI R_rowMany), .ref (ad 25), .ref (ad 26), .ref (ad 27), .ref (ad 28), .int (zI R_waiting), .int (zI R_mostWaiting), .int (zI R_answer), .int (zI R_steps), .int (zI R_memory), .int (zI R_maxSteps), .int (zI R_maxMemory), .int (zI R_fault), .int (zI R_result), .int (zI R_now), .int (zI R_nowRow), .int (zI R_come), .ref (ad 29), .ref (ad 30), .int (zI R_puts), .ref (ad 31)])), (ad 8, .inl (cI, 3700, .inl (zA R_valueKinds_226))), (ad 9, .inl (cL, 3700, .inr (.inl (zB R_valueNumbers_227)))), (ad 14, .inl (cI, 3700, .inl (zA R_given_228)))]) X (jrunV X (c_Mod_truth (ad := ad) q229) jF0_k (fun _ _ _ _ => trivial) (jgV own_Mod_sums (by decide +kernel)) rfl rfl rfl pd_Mod_truth (by decide) [0, 1, 2, 3] rfl (by decide) 0 10 rfl rfl rfl rfl (Nat.le_of_ble_eq_true rfl) d_Mod_sums_461 (by decide)) [0, 1, 2, 3] [] [0, 1, 2, 3] rfl rfl (by decide) (by decide) rfl (by decide) ?_
                      cases h
                      exact J_ret E ⟨_, rfl, rfl⟩ d_Mod_sums_464 (Nat.le_refl _) (Nat.le_refl _) rfl
                    · refine J_iconst X d_Mod_sums_456 ?_
                      refine J_goto (tgt := 461) X d_Mod_sums_457 (by decide) ?_
                      obtain ⟨r230, R_values_231, R_valueKinds_232, R_valueNumbers_233, R_given_234, q235, h⟩ := wk_b5 h
                      refine J_afterI0 (ws' := [(ad 0, .inr (10, [.int (zI R_thrown), .ref (ad 1), .ref (ad 2), .ref (ad 3), .ref (ad 4), .ref (ad 5), .ref (ad 6), .int (zI R_used), .ref (ad 7), .int (zI R_many), .ref (ad 8), .ref (ad 9), .ref (ad 10), .ref (ad 11), .ref (ad 12), .ref (ad 13), .ref (ad 14), .ref (ad 15), .ref (ad 16), .int (zI R_values_231), .ref (ad 17), .int (zI R_textEnd), .ref (ad 18), .ref (ad 19), .ref (ad 20), .ref (ad 21), .int (zI R_dataEnd), .ref (ad 22), .int (zI R_rowEnd), .ref (ad 23), .ref (ad 24), .int (zI R_rowMany), .ref (ad 25), .ref (ad 26), .ref (ad 27), .ref (ad 28), .int (zI R_waiting), .int (zI R_mostWaiting), .int (zI R_answer), .int (zI R_steps), .int (zI R_memory), .int (zI R_maxSteps), .int (zI R_maxMemory), .int (zI R_fault), .int (zI R_result), .int (zI R_now), .int (zI R_nowRow), .int (zI R_come), .ref (ad 29), .ref (ad 30), .int (zI R_puts), .ref (ad 31)])), (ad 8, .inl (cI, 3700, .inl (zA R_valueKinds_232))), (ad 9, .inl (cL, 3700, .inr (.inl (zB R_valueNumbers_233)))), (ad 14, .inl (cI, 3700, .inl (zA R_given_234)))]) X (jrunV X (c_Mod_truth (ad := ad) q235) jF0_k (fun _ _ _ _ => trivial) (jgV own_Mod_sums (by decide +kernel)) rfl rfl rfl pd_Mod_truth (by decide) [0, 1, 2, 3] rfl (by decide) 0 10 rfl rfl rfl rfl (Nat.le_of_ble_eq_true rfl) d_Mod_sums_461 (by decide)) [0, 1, 2, 3] [] [0, 1, 2, 3] rfl rfl (by decide) (by decide) rfl (by decide) ?_
                      cases h
                      exact J_ret E ⟨_, rfl, rfl⟩ d_Mod_sums_464 (Nat.le_refl _) (Nat.le_refl _) rfl
                  · rcases wk_c h with ⟨c236, h⟩ | ⟨c236, h⟩
                    · refine J_tsIn (tgt := 465) X 8 c236 g2 d_Mod_sums_25 (by decide) (by decide) rfl (by decide) ?_
                      refine J_aload_n X d_Mod_sums_465 rfl 1 rfl ?_
                      refine J_lload_n X d_Mod_sums_466 rfl 3 rfl ?_
                      refine J_lload X d_Mod_sums_467 4 rfl ?_
                      refine J_lc_ge (tgt := 477) X d_Mod_sums_469 d_Mod_sums_470 (by decide) h (fun c237 h => ?_) (fun c237 h => ?_)
                      · refine J_iconst X d_Mod_sums_477 ?_
                        obtain ⟨r238, R_values_239, R_valueKinds_240, R_valueNumbers_241, R_given_242, q243, h⟩ := wk_b5 h
                        refine J_afterI0 (ws' := [(ad 0, .inr (10, [.int (zI R_thrown), .ref (ad 1), .ref (ad 2), .ref (ad 3), .ref (ad 4), .ref (ad 5), .ref (ad 6), .int (zI R_used), .ref (ad 7), .int (zI R_many), .ref (ad 8), .ref (ad 9), .ref (ad 10), .ref (ad 11), .ref (ad 12), .ref (ad 13), .ref (ad 14), .ref (ad 15), .ref (ad 16), .int (zI R_values_239), .ref (ad 17), .int (zI R_textEnd), .ref (ad 18), .ref (ad 19), .ref (ad 20), .ref (ad 21), .int (zI R_dataEnd), .ref (ad 22), .int (zI R_rowEnd), .ref (ad 23), .ref (ad 24), .int (zI R_rowMany), .ref (ad 25), .ref (ad 26), .ref (ad 27), .ref (ad 28), .int (zI R_waiting), .int (zI R_mostWaiting), .int (zI R_answer), .int (zI R_steps), .int (zI R_memory), .int (zI R_maxSteps), .int (zI R_maxMemory), .int (zI R_fault), .int (zI R_result), .int (zI R_now), .int (zI R_nowRow), .int (zI R_come), .ref (ad 29), .ref (ad 30), .int (zI R_puts), .ref (ad 31)])), (ad 8, .inl (cI, 3700, .inl (zA R_valueKinds_240))), (ad 9, .inl (cL, 3700, .inr (.inl (zB R_valueNumbers_241)))), (ad 14, .inl (cI, 3700, .inl (zA R_given_242)))]) X (jrunV X (c_Mod_truth (ad := ad) q243) jF0_k (fun _ _ _ _ => trivial) (jgV own_Mod_sums (by decide +kernel)) rfl rfl rfl pd_Mod_truth (by decide) [0, 1, 2, 3] rfl (by decide) 0 10 rfl rfl rfl rfl (Nat.le_of_ble_eq_true rfl) d_Mod_sums_478 (by decide)) [0, 1, 2, 3] [] [0, 1, 2, 3] rfl rfl (by decide) (by decide) rfl (by decide) ?_
                        cases h
                        exact J_ret E ⟨_, rfl, rfl⟩ d_Mod_sums_481 (Nat.le_refl _) (Nat.le_refl _) rfl
                      · refine J_iconst X d_Mod_sums_473 ?_
                        refine J_goto (tgt := 478) X d_Mod_sums_474 (by decide) ?_
                        obtain ⟨r244, R_values_245, R_valueKinds_246, R_valueNumbers_247, R_given_248, q249, h⟩ := wk_b5 h
                        refine J_afterI0 (ws' := [(ad 0, .inr (10, [.int (zI R_thrown), .ref (ad 1), .ref (ad 2), .ref (ad 3), .ref (ad 4), .ref (ad 5), .ref (ad 6), .int (zI R_used), .ref (ad 7), .int (zI R_many), .ref (ad 8), .ref (ad 9), .ref (ad 10), .ref (ad 11), .ref (ad 12), .ref (ad 13), .ref (ad 14), .ref (ad 15), .ref (ad 16), .int (zI R_values_245), .ref (ad 17), .int (zI R_textEnd), .ref (ad 18), .ref (ad 19), .ref (ad 20), .ref (ad 21), .int (zI R_dataEnd), .ref (ad 22), .int (zI R_rowEnd), .ref (ad 23), .ref (ad 24), .int (zI R_rowMany), .ref (ad 25), .ref (ad 26), .ref (ad 27), .ref (ad 28), .int (zI R_waiting), .int (zI R_mostWaiting), .int (zI R_answer), .int (zI R_steps), .int (zI R_memory), .int (zI R_maxSteps), .int (zI R_maxMemory), .int (zI R_fault), .int (zI R_result), .int (zI R_now), .int (zI R_nowRow), .int (zI R_come), .ref (ad 29), .ref (ad 30), .int (zI R_puts), .ref (ad 31)])), (ad 8, .inl (cI, 3700, .inl (zA R_valueKinds_246))), (ad 9, .inl (cL, 3700, .inr (.inl (zB R_valueNumbers_247)))), (ad 14, .inl (cI, 3700, .inl (zA R_given_248)))]) X (jrunV X (c_Mod_truth (ad := ad) q249) jF0_k (fun _ _ _ _ => trivial) (jgV own_Mod_sums (by decide +kernel)) rfl rfl rfl pd_Mod_truth (by decide) [0, 1, 2, 3] rfl (by decide) 0 10 rfl rfl rfl rfl (Nat.le_of_ble_eq_true rfl) d_Mod_sums_478 (by decide)) [0, 1, 2, 3] [] [0, 1, 2, 3] rfl rfl (by decide) (by decide) rfl (by decide) ?_
                        cases h
                        exact J_ret E ⟨_, rfl, rfl⟩ d_Mod_sums_481 (Nat.le_refl _) (Nat.le_refl _) rfl
                    · refine J_tsOut (tgt := 482) X g2 d_Mod_sums_25 (by omega) (by decide) ?_
                      refine J_aload_n X d_Mod_sums_482 rfl 1 rfl ?_
                      refine J_lload_n X d_Mod_sums_483 rfl 3 rfl ?_
                      refine J_lload X d_Mod_sums_484 4 rfl ?_
                      refine J_lc_gt (tgt := 494) X d_Mod_sums_486 d_Mod_sums_487 (by decide) h (fun c250 h => ?_) (fun c250 h => ?_)
                      · refine J_iconst X d_Mod_sums_494 ?_
                        obtain ⟨r251, R_values_252, R_valueKinds_253, R_valueNumbers_254, R_given_255, q256, h⟩ := wk_b5 h
                        refine J_afterI0 (ws' := [(ad 0, .inr (10, [.int (zI R_thrown), .ref (ad 1), .ref (ad 2), .ref (ad 3), .ref (ad 4), .ref (ad 5), .ref (ad 6), .int (zI R_used), .ref (ad 7), .int (zI R_many), .ref (ad 8), .ref (ad 9), .ref (ad 10), .ref (ad 11), .ref (ad 12), .ref (ad 13), .ref (ad 14), .ref (ad 15), .ref (ad 16), .int (zI R_values_252), .ref (ad 17), .int (zI R_textEnd), .ref (ad 18), .ref (ad 19), .ref (ad 20), .ref (ad 21), .int (zI R_dataEnd), .ref (ad 22), .int (zI R_rowEnd), .ref (ad 23), .ref (ad 24), .int (zI R_rowMany), .ref (ad 25), .ref (ad 26), .ref (ad 27), .ref (ad 28), .int (zI R_waiting), .int (zI R_mostWaiting), .int (zI R_answer), .int (zI R_steps), .int (zI R_memory), .int (zI R_maxSteps), .int (zI R_maxMemory), .int (zI R_fault), .int (zI R_result), .int (zI R_now), .int (zI R_nowRow), .int (zI R_come), .ref (ad 29), .ref (ad 30), .int (zI R_puts), .ref (ad 31)])), (ad 8, .inl (cI, 3700, .inl (zA R_valueKinds_253))), (ad 9, .inl (cL, 3700, .inr (.inl (zB R_valueNumbers_254)))), (ad 14, .inl (cI, 3700, .inl (zA R_given_255)))]) X (jrunV X (c_Mod_truth (ad := ad) q256) jF0_k (fun _ _ _ _ => trivial) (jgV own_Mod_sums (by decide +kernel)) rfl rfl rfl pd_Mod_truth (by decide) [0, 1, 2, 3] rfl (by decide) 0 10 rfl rfl rfl rfl (Nat.le_of_ble_eq_true rfl) d_Mod_sums_495 (by decide)) [0, 1, 2, 3] [] [0, 1, 2, 3] rfl rfl (by decide) (by decide) rfl (by decide) ?_
                        cases h
                        exact J_ret E ⟨_, rfl, rfl⟩ d_Mod_sums_498 (Nat.le_refl _) (Nat.le_refl _) rfl
                      · refine J_iconst X d_Mod_sums_490 ?_
                        refine J_goto (tgt := 495) X d_Mod_sums_491 (by decide) ?_
                        obtain ⟨r257, R_values_258, R_valueKinds_259, R_valueNumbers_260, R_given_261, q262, h⟩ := wk_b5 h
                        refine J_afterI0 (ws' := [(ad 0, .inr (10, [.int (zI R_thrown), .ref (ad 1), .ref (ad 2), .ref (ad 3), .ref (ad 4), .ref (ad 5), .ref (ad 6), .int (zI R_used), .ref (ad 7), .int (zI R_many), .ref (ad 8), .ref (ad 9), .ref (ad 10), .ref (ad 11), .ref (ad 12), .ref (ad 13), .ref (ad 14), .ref (ad 15), .ref (ad 16), .int (zI R_values_258), .ref (ad 17), .int (zI R_textEnd), .ref (ad 18), .ref (ad 19), .ref (ad 20), .ref (ad 21), .int (zI R_dataEnd), .ref (ad 22), .int (zI R_rowEnd), .ref (ad 23), .ref (ad 24), .int (zI R_rowMany), .ref (ad 25), .ref (ad 26), .ref (ad 27), .ref (ad 28), .int (zI R_waiting), .int (zI R_mostWaiting), .int (zI R_answer), .int (zI R_steps), .int (zI R_memory), .int (zI R_maxSteps), .int (zI R_maxMemory), .int (zI R_fault), .int (zI R_result), .int (zI R_now), .int (zI R_nowRow), .int (zI R_come), .ref (ad 29), .ref (ad 30), .int (zI R_puts), .ref (ad 31)])), (ad 8, .inl (cI, 3700, .inl (zA R_valueKinds_259))), (ad 9, .inl (cL, 3700, .inr (.inl (zB R_valueNumbers_260)))), (ad 14, .inl (cI, 3700, .inl (zA R_given_261)))]) X (jrunV X (c_Mod_truth (ad := ad) q262) jF0_k (fun _ _ _ _ => trivial) (jgV own_Mod_sums (by decide +kernel)) rfl rfl rfl pd_Mod_truth (by decide) [0, 1, 2, 3] rfl (by decide) 0 10 rfl rfl rfl rfl (Nat.le_of_ble_eq_true rfl) d_Mod_sums_495 (by decide)) [0, 1, 2, 3] [] [0, 1, 2, 3] rfl rfl (by decide) (by decide) rfl (by decide) ?_
                        cases h
                        exact J_ret E ⟨_, rfl, rfl⟩ d_Mod_sums_498 (Nat.le_refl _) (Nat.le_refl _) rfl
  · refine J_lload_n X d_Mod_sums_9 rfl 2 rfl ?_
    refine J_ldc2 (v := (-9223372036854775808)) (n := (-9223372036854775808)) X (j_m own_Mod_sums (by decide +kernel)) (by decide) d_Mod_sums_10 ?_
    refine J_lc_ne (tgt := 21) X d_Mod_sums_13 d_Mod_sums_14 (by decide) h (fun c263 h => ?_) (fun c263 h => ?_)
    · refine J_iconst X d_Mod_sums_21 ?_
      refine J_istore (lv' := [(6, .int (zI 0)), (0, .ref (ad 0)), (1, .int (zI p1)), (2, .long (zL p2)), (4, .long (zL p4))]) X d_Mod_sums_22 (by decide) rfl ?_
      refine J_iload_n X d_Mod_sums_24 rfl 2 rfl ?_
      obtain ⟨g264, h⟩ := wk_g h
      rcases wk_c h with ⟨c265, h⟩ | ⟨c265, h⟩
      · refine J_tsIn (tgt := 76) X 0 c265 g264 d_Mod_sums_25 (by decide) (by decide) rfl (by decide) ?_
        refine J_lload X d_Mod_sums_76 4 rfl ?_
        refine J_lconst (v := 0) X d_Mod_sums_78 (by decide) ?_
        refine J_lc_le (tgt := 114) X d_Mod_sums_79 d_Mod_sums_80 (by decide) h (fun c266 h => ?_) (fun c266 h => ?_)
        · refine J_lload_n X d_Mod_sums_114 rfl 3 rfl ?_
          refine J_ldc2 (v := (-9223372036854775808)) (n := (-9223372036854775808)) X (j_m own_Mod_sums (by decide +kernel)) (by decide) d_Mod_sums_115 ?_
          refine J_lload X d_Mod_sums_118 4 rfl ?_
          refine J_lsub X d_Mod_sums_120 ?_
          refine J_lc_ge (tgt := 133) X d_Mod_sums_121 d_Mod_sums_122 (by decide) h (fun c267 h => ?_) (fun c267 h => ?_)
          · refine J_aload_n X d_Mod_sums_133 rfl 1 rfl ?_
            refine J_iconst X d_Mod_sums_134 ?_
            refine J_lload_n X d_Mod_sums_135 rfl 3 rfl ?_
            refine J_lload X d_Mod_sums_136 4 rfl ?_
            refine J_ladd X d_Mod_sums_138 ?_
            obtain ⟨r268, R_values_269, R_valueKinds_270, R_valueNumbers_271, R_given_272, q273, h⟩ := wk_b5 h
            refine J_afterI0 (ws' := [(ad 0, .inr (10, [.int (zI R_thrown), .ref (ad 1), .ref (ad 2), .ref (ad 3), .ref (ad 4), .ref (ad 5), .ref (ad 6), .int (zI R_used), .ref (ad 7), .int (zI R_many), .ref (ad 8), .ref (ad 9), .ref (ad 10), .ref (ad 11), .ref (ad 12), .ref (ad 13), .ref (ad 14), .ref (ad 15), .ref (ad 16), .int (zI R_values_269), .ref (ad 17), .int (zI R_textEnd), .ref (ad 18), .ref (ad 19), .ref (ad 20), .ref (ad 21), .int (zI R_dataEnd), .ref (ad 22), .int (zI R_rowEnd), .ref (ad 23), .ref (ad 24), .int (zI R_rowMany), .ref (ad 25), .ref (ad 26), .ref (ad 27), .ref (ad 28), .int (zI R_waiting), .int (zI R_mostWaiting), .int (zI R_answer), .int (zI R_steps), .int (zI R_memory), .int (zI R_maxSteps), .int (zI R_maxMemory), .int (zI R_fault), .int (zI R_result), .int (zI R_now), .int (zI R_nowRow), .int (zI R_come), .ref (ad 29), .ref (ad 30), .int (zI R_puts), .ref (ad 31)])), (ad 8, .inl (cI, 3700, .inl (zA R_valueKinds_270))), (ad 9, .inl (cL, 3700, .inr (.inl (zB R_valueNumbers_271)))), (ad 14, .inl (cI, 3700, .inl (zA R_given_272)))]) X (jrunV X (c_Mod_make (ad := ad) q273) jF0_k (fun _ _ _ _ => trivial) (jgV own_Mod_sums (by decide +kernel)) rfl rfl rfl pd_Mod_make (by decide) [0, 1, 2, 3] rfl (by decide) 0 10 rfl rfl rfl rfl (Nat.le_of_ble_eq_true rfl) d_Mod_sums_139 (by decide)) [0, 1, 2, 3] [] [0, 1, 2, 3] rfl rfl (by decide) (by decide) rfl (by decide) ?_
            cases h
            exact J_ret E ⟨_, rfl, rfl⟩ d_Mod_sums_142 (Nat.le_refl _) (Nat.le_refl _) rfl
          · refine J_aload_n X d_Mod_sums_125 rfl 1 rfl ?_
            refine J_iconst X d_Mod_sums_126 ?_
            obtain ⟨r274, R_fault_275, q276, h⟩ := wk_b2 h
            refine J_afterI0 (ws' := [(ad 0, .inr (10, [.int (zI R_thrown), .ref (ad 1), .ref (ad 2), .ref (ad 3), .ref (ad 4), .ref (ad 5), .ref (ad 6), .int (zI R_used), .ref (ad 7), .int (zI R_many), .ref (ad 8), .ref (ad 9), .ref (ad 10), .ref (ad 11), .ref (ad 12), .ref (ad 13), .ref (ad 14), .ref (ad 15), .ref (ad 16), .int (zI R_values), .ref (ad 17), .int (zI R_textEnd), .ref (ad 18), .ref (ad 19), .ref (ad 20), .ref (ad 21), .int (zI R_dataEnd), .ref (ad 22), .int (zI R_rowEnd), .ref (ad 23), .ref (ad 24), .int (zI R_rowMany), .ref (ad 25), .ref (ad 26), .ref (ad 27), .ref (ad 28), .int (zI R_waiting), .int (zI R_mostWaiting), .int (zI R_answer), .int (zI R_steps), .int (zI R_memory), .int (zI R_maxSteps), .int (zI R_maxMemory), .int (zI R_fault_275), .int (zI R_result), .int (zI R_now), .int (zI R_nowRow), .int (zI R_come), .ref (ad 29), .ref (ad 30), .int (zI R_puts), .ref (ad 31)])), (ad 8, .inl (cI, 3700, .inl (zA R_valueKinds))), (ad 9, .inl (cL, 3700, .inr (.inl (zB R_valueNumbers)))), (ad 14, .inl (cI, 3700, .inl (zA R_given)))]) X (jrunV X (c_Mod_fail (ad := ad) q276) jF0_k (fun _ _ _ _ => trivial) (jgV own_Mod_sums (by decide +kernel)) rfl rfl rfl pd_Mod_fail (by decide) [0] rfl (by decide) 0 10 rfl rfl rfl rfl (Nat.le_of_ble_eq_true rfl) d_Mod_sums_127 (by decide)) [0] [1, 2, 3] [3, 0, 1, 2] rfl rfl (by decide) (by decide) rfl (by decide) ?_
            refine J_goto (tgt := 142) X d_Mod_sums_130 (by decide) ?_
            cases h
            exact J_ret E ⟨_, rfl, rfl⟩ d_Mod_sums_142 (Nat.le_refl _) (Nat.le_refl _) rfl
        · refine J_lload_n X d_Mod_sums_83 rfl 3 rfl ?_
          refine J_ldc2 (v := 9223372036854775807) (n := 9223372036854775807) X (j_m own_Mod_sums (by decide +kernel)) (by decide) d_Mod_sums_84 ?_
          refine J_lload X d_Mod_sums_87 4 rfl ?_
          refine J_lsub X d_Mod_sums_89 ?_
          refine J_lc_le (tgt := 102) X d_Mod_sums_90 d_Mod_sums_91 (by decide) h (fun c277 h => ?_) (fun c277 h => ?_)
          · refine J_aload_n X d_Mod_sums_102 rfl 1 rfl ?_
            refine J_iconst X d_Mod_sums_103 ?_
            refine J_lload_n X d_Mod_sums_104 rfl 3 rfl ?_
            refine J_lload X d_Mod_sums_105 4 rfl ?_
            refine J_ladd X d_Mod_sums_107 ?_
            obtain ⟨r278, R_values_279, R_valueKinds_280, R_valueNumbers_281, R_given_282, q283, h⟩ := wk_b5 h
            refine J_afterI0 (ws' := [(ad 0, .inr (10, [.int (zI R_thrown), .ref (ad 1), .ref (ad 2), .ref (ad 3), .ref (ad 4), .ref (ad 5), .ref (ad 6), .int (zI R_used), .ref (ad 7), .int (zI R_many), .ref (ad 8), .ref (ad 9), .ref (ad 10), .ref (ad 11), .ref (ad 12), .ref (ad 13), .ref (ad 14), .ref (ad 15), .ref (ad 16), .int (zI R_values_279), .ref (ad 17), .int (zI R_textEnd), .ref (ad 18), .ref (ad 19), .ref (ad 20), .ref (ad 21), .int (zI R_dataEnd), .ref (ad 22), .int (zI R_rowEnd), .ref (ad 23), .ref (ad 24), .int (zI R_rowMany), .ref (ad 25), .ref (ad 26), .ref (ad 27), .ref (ad 28), .int (zI R_waiting), .int (zI R_mostWaiting), .int (zI R_answer), .int (zI R_steps), .int (zI R_memory), .int (zI R_maxSteps), .int (zI R_maxMemory), .int (zI R_fault), .int (zI R_result), .int (zI R_now), .int (zI R_nowRow), .int (zI R_come), .ref (ad 29), .ref (ad 30), .int (zI R_puts), .ref (ad 31)])), (ad 8, .inl (cI, 3700, .inl (zA R_valueKinds_280))), (ad 9, .inl (cL, 3700, .inr (.inl (zB R_valueNumbers_281)))), (ad 14, .inl (cI, 3700, .inl (zA R_given_282)))]) X (jrunV X (c_Mod_make (ad := ad) q283) jF0_k (fun _ _ _ _ => trivial) (jgV own_Mod_sums (by decide +kernel)) rfl rfl rfl pd_Mod_make (by decide) [0, 1, 2, 3] rfl (by decide) 0 10 rfl rfl rfl rfl (Nat.le_of_ble_eq_true rfl) d_Mod_sums_108 (by decide)) [0, 1, 2, 3] [] [0, 1, 2, 3] rfl rfl (by decide) (by decide) rfl (by decide) ?_
            refine J_goto (tgt := 142) X d_Mod_sums_111 (by decide) ?_
            cases h
            exact J_ret E ⟨_, rfl, rfl⟩ d_Mod_sums_142 (Nat.le_refl _) (Nat.le_refl _) rfl
          · refine J_aload_n X d_Mod_sums_94 rfl 1 rfl ?_
            refine J_iconst X d_Mod_sums_95 ?_
            obtain ⟨r284, R_fault_285, q286, h⟩ := wk_b2 h
            refine J_afterI0 (ws' := [(ad 0, .inr (10, [.int (zI R_thrown), .ref (ad 1), .ref (ad 2), .ref (ad 3), .ref (ad 4), .ref (ad 5), .ref (ad 6), .int (zI R_used), .ref (ad 7), .int (zI R_many), .ref (ad 8), .ref (ad 9), .ref (ad 10), .ref (ad 11), .ref (ad 12), .ref (ad 13), .ref (ad 14), .ref (ad 15), .ref (ad 16), .int (zI R_values), .ref (ad 17), .int (zI R_textEnd), .ref (ad 18), .ref (ad 19), .ref (ad 20), .ref (ad 21), .int (zI R_dataEnd), .ref (ad 22), .int (zI R_rowEnd), .ref (ad 23), .ref (ad 24), .int (zI R_rowMany), .ref (ad 25), .ref (ad 26), .ref (ad 27), .ref (ad 28), .int (zI R_waiting), .int (zI R_mostWaiting), .int (zI R_answer), .int (zI R_steps), .int (zI R_memory), .int (zI R_maxSteps), .int (zI R_maxMemory), .int (zI R_fault_285), .int (zI R_result), .int (zI R_now), .int (zI R_nowRow), .int (zI R_come), .ref (ad 29), .ref (ad 30), .int (zI R_puts), .ref (ad 31)])), (ad 8, .inl (cI, 3700, .inl (zA R_valueKinds))), (ad 9, .inl (cL, 3700, .inr (.inl (zB R_valueNumbers)))), (ad 14, .inl (cI, 3700, .inl (zA R_given)))]) X (jrunV X (c_Mod_fail (ad := ad) q286) jF0_k (fun _ _ _ _ => trivial) (jgV own_Mod_sums (by decide +kernel)) rfl rfl rfl pd_Mod_fail (by decide) [0] rfl (by decide) 0 10 rfl rfl rfl rfl (Nat.le_of_ble_eq_true rfl) d_Mod_sums_96 (by decide)) [0] [1, 2, 3] [3, 0, 1, 2] rfl rfl (by decide) (by decide) rfl (by decide) ?_
            refine J_goto (tgt := 142) X d_Mod_sums_99 (by decide) ?_
            cases h
            exact J_ret E ⟨_, rfl, rfl⟩ d_Mod_sums_142 (Nat.le_refl _) (Nat.le_refl _) rfl
      · rcases wk_c h with ⟨c287, h⟩ | ⟨c287, h⟩
        · refine J_tsIn (tgt := 143) X 1 c287 g264 d_Mod_sums_25 (by decide) (by decide) rfl (by decide) ?_
          refine J_lload X d_Mod_sums_143 4 rfl ?_
          refine J_lconst (v := 0) X d_Mod_sums_145 (by decide) ?_
          refine J_lc_ge (tgt := 181) X d_Mod_sums_146 d_Mod_sums_147 (by decide) h (fun c288 h => ?_) (fun c288 h => ?_)
          · refine J_lload_n X d_Mod_sums_181 rfl 3 rfl ?_
            refine J_ldc2 (v := (-9223372036854775808)) (n := (-9223372036854775808)) X (j_m own_Mod_sums (by decide +kernel)) (by decide) d_Mod_sums_182 ?_
            refine J_lload X d_Mod_sums_185 4 rfl ?_
            refine J_ladd X d_Mod_sums_187 ?_
            refine J_lc_ge (tgt := 200) X d_Mod_sums_188 d_Mod_sums_189 (by decide) h (fun c289 h => ?_) (fun c289 h => ?_)
            · refine J_aload_n X d_Mod_sums_200 rfl 1 rfl ?_
              refine J_iconst X d_Mod_sums_201 ?_
              refine J_lload_n X d_Mod_sums_202 rfl 3 rfl ?_
              refine J_lload X d_Mod_sums_203 4 rfl ?_
              refine J_lsub X d_Mod_sums_205 ?_
              obtain ⟨r290, R_values_291, R_valueKinds_292, R_valueNumbers_293, R_given_294, q295, h⟩ := wk_b5 h
              refine J_afterI0 (ws' := [(ad 0, .inr (10, [.int (zI R_thrown), .ref (ad 1), .ref (ad 2), .ref (ad 3), .ref (ad 4), .ref (ad 5), .ref (ad 6), .int (zI R_used), .ref (ad 7), .int (zI R_many), .ref (ad 8), .ref (ad 9), .ref (ad 10), .ref (ad 11), .ref (ad 12), .ref (ad 13), .ref (ad 14), .ref (ad 15), .ref (ad 16), .int (zI R_values_291), .ref (ad 17), .int (zI R_textEnd), .ref (ad 18), .ref (ad 19), .ref (ad 20), .ref (ad 21), .int (zI R_dataEnd), .ref (ad 22), .int (zI R_rowEnd), .ref (ad 23), .ref (ad 24), .int (zI R_rowMany), .ref (ad 25), .ref (ad 26), .ref (ad 27), .ref (ad 28), .int (zI R_waiting), .int (zI R_mostWaiting), .int (zI R_answer), .int (zI R_steps), .int (zI R_memory), .int (zI R_maxSteps), .int (zI R_maxMemory), .int (zI R_fault), .int (zI R_result), .int (zI R_now), .int (zI R_nowRow), .int (zI R_come), .ref (ad 29), .ref (ad 30), .int (zI R_puts), .ref (ad 31)])), (ad 8, .inl (cI, 3700, .inl (zA R_valueKinds_292))), (ad 9, .inl (cL, 3700, .inr (.inl (zB R_valueNumbers_293)))), (ad 14, .inl (cI, 3700, .inl (zA R_given_294)))]) X (jrunV X (c_Mod_make (ad := ad) q295) jF0_k (fun _ _ _ _ => trivial) (jgV own_Mod_sums (by decide +kernel)) rfl rfl rfl pd_Mod_make (by decide) [0, 1, 2, 3] rfl (by decide) 0 10 rfl rfl rfl rfl (Nat.le_of_ble_eq_true rfl) d_Mod_sums_206 (by decide)) [0, 1, 2, 3] [] [0, 1, 2, 3] rfl rfl (by decide) (by decide) rfl (by decide) ?_
              cases h
              exact J_ret E ⟨_, rfl, rfl⟩ d_Mod_sums_209 (Nat.le_refl _) (Nat.le_refl _) rfl
            · refine J_aload_n X d_Mod_sums_192 rfl 1 rfl ?_
              refine J_iconst X d_Mod_sums_193 ?_
              obtain ⟨r296, R_fault_297, q298, h⟩ := wk_b2 h
              refine J_afterI0 (ws' := [(ad 0, .inr (10, [.int (zI R_thrown), .ref (ad 1), .ref (ad 2), .ref (ad 3), .ref (ad 4), .ref (ad 5), .ref (ad 6), .int (zI R_used), .ref (ad 7), .int (zI R_many), .ref (ad 8), .ref (ad 9), .ref (ad 10), .ref (ad 11), .ref (ad 12), .ref (ad 13), .ref (ad 14), .ref (ad 15), .ref (ad 16), .int (zI R_values), .ref (ad 17), .int (zI R_textEnd), .ref (ad 18), .ref (ad 19), .ref (ad 20), .ref (ad 21), .int (zI R_dataEnd), .ref (ad 22), .int (zI R_rowEnd), .ref (ad 23), .ref (ad 24), .int (zI R_rowMany), .ref (ad 25), .ref (ad 26), .ref (ad 27), .ref (ad 28), .int (zI R_waiting), .int (zI R_mostWaiting), .int (zI R_answer), .int (zI R_steps), .int (zI R_memory), .int (zI R_maxSteps), .int (zI R_maxMemory), .int (zI R_fault_297), .int (zI R_result), .int (zI R_now), .int (zI R_nowRow), .int (zI R_come), .ref (ad 29), .ref (ad 30), .int (zI R_puts), .ref (ad 31)])), (ad 8, .inl (cI, 3700, .inl (zA R_valueKinds))), (ad 9, .inl (cL, 3700, .inr (.inl (zB R_valueNumbers)))), (ad 14, .inl (cI, 3700, .inl (zA R_given)))]) X (jrunV X (c_Mod_fail (ad := ad) q298) jF0_k (fun _ _ _ _ => trivial) (jgV own_Mod_sums (by decide +kernel)) rfl rfl rfl pd_Mod_fail (by decide) [0] rfl (by decide) 0 10 rfl rfl rfl rfl (Nat.le_of_ble_eq_true rfl) d_Mod_sums_194 (by decide)) [0] [1, 2, 3] [3, 0, 1, 2] rfl rfl (by decide) (by decide) rfl (by decide) ?_
              refine J_goto (tgt := 209) X d_Mod_sums_197 (by decide) ?_
              cases h
              exact J_ret E ⟨_, rfl, rfl⟩ d_Mod_sums_209 (Nat.le_refl _) (Nat.le_refl _) rfl
          · refine J_lload_n X d_Mod_sums_150 rfl 3 rfl ?_
            refine J_ldc2 (v := 9223372036854775807) (n := 9223372036854775807) X (j_m own_Mod_sums (by decide +kernel)) (by decide) d_Mod_sums_151 ?_
            refine J_lload X d_Mod_sums_154 4 rfl ?_
            refine J_ladd X d_Mod_sums_156 ?_
            refine J_lc_le (tgt := 169) X d_Mod_sums_157 d_Mod_sums_158 (by decide) h (fun c299 h => ?_) (fun c299 h => ?_)
            · refine J_aload_n X d_Mod_sums_169 rfl 1 rfl ?_
              refine J_iconst X d_Mod_sums_170 ?_
              refine J_lload_n X d_Mod_sums_171 rfl 3 rfl ?_
              refine J_lload X d_Mod_sums_172 4 rfl ?_
              refine J_lsub X d_Mod_sums_174 ?_
              obtain ⟨r300, R_values_301, R_valueKinds_302, R_valueNumbers_303, R_given_304, q305, h⟩ := wk_b5 h
              refine J_afterI0 (ws' := [(ad 0, .inr (10, [.int (zI R_thrown), .ref (ad 1), .ref (ad 2), .ref (ad 3), .ref (ad 4), .ref (ad 5), .ref (ad 6), .int (zI R_used), .ref (ad 7), .int (zI R_many), .ref (ad 8), .ref (ad 9), .ref (ad 10), .ref (ad 11), .ref (ad 12), .ref (ad 13), .ref (ad 14), .ref (ad 15), .ref (ad 16), .int (zI R_values_301), .ref (ad 17), .int (zI R_textEnd), .ref (ad 18), .ref (ad 19), .ref (ad 20), .ref (ad 21), .int (zI R_dataEnd), .ref (ad 22), .int (zI R_rowEnd), .ref (ad 23), .ref (ad 24), .int (zI R_rowMany), .ref (ad 25), .ref (ad 26), .ref (ad 27), .ref (ad 28), .int (zI R_waiting), .int (zI R_mostWaiting), .int (zI R_answer), .int (zI R_steps), .int (zI R_memory), .int (zI R_maxSteps), .int (zI R_maxMemory), .int (zI R_fault), .int (zI R_result), .int (zI R_now), .int (zI R_nowRow), .int (zI R_come), .ref (ad 29), .ref (ad 30), .int (zI R_puts), .ref (ad 31)])), (ad 8, .inl (cI, 3700, .inl (zA R_valueKinds_302))), (ad 9, .inl (cL, 3700, .inr (.inl (zB R_valueNumbers_303)))), (ad 14, .inl (cI, 3700, .inl (zA R_given_304)))]) X (jrunV X (c_Mod_make (ad := ad) q305) jF0_k (fun _ _ _ _ => trivial) (jgV own_Mod_sums (by decide +kernel)) rfl rfl rfl pd_Mod_make (by decide) [0, 1, 2, 3] rfl (by decide) 0 10 rfl rfl rfl rfl (Nat.le_of_ble_eq_true rfl) d_Mod_sums_175 (by decide)) [0, 1, 2, 3] [] [0, 1, 2, 3] rfl rfl (by decide) (by decide) rfl (by decide) ?_
              refine J_goto (tgt := 209) X d_Mod_sums_178 (by decide) ?_
              cases h
              exact J_ret E ⟨_, rfl, rfl⟩ d_Mod_sums_209 (Nat.le_refl _) (Nat.le_refl _) rfl
            · refine J_aload_n X d_Mod_sums_161 rfl 1 rfl ?_
              refine J_iconst X d_Mod_sums_162 ?_
              obtain ⟨r306, R_fault_307, q308, h⟩ := wk_b2 h
              refine J_afterI0 (ws' := [(ad 0, .inr (10, [.int (zI R_thrown), .ref (ad 1), .ref (ad 2), .ref (ad 3), .ref (ad 4), .ref (ad 5), .ref (ad 6), .int (zI R_used), .ref (ad 7), .int (zI R_many), .ref (ad 8), .ref (ad 9), .ref (ad 10), .ref (ad 11), .ref (ad 12), .ref (ad 13), .ref (ad 14), .ref (ad 15), .ref (ad 16), .int (zI R_values), .ref (ad 17), .int (zI R_textEnd), .ref (ad 18), .ref (ad 19), .ref (ad 20), .ref (ad 21), .int (zI R_dataEnd), .ref (ad 22), .int (zI R_rowEnd), .ref (ad 23), .ref (ad 24), .int (zI R_rowMany), .ref (ad 25), .ref (ad 26), .ref (ad 27), .ref (ad 28), .int (zI R_waiting), .int (zI R_mostWaiting), .int (zI R_answer), .int (zI R_steps), .int (zI R_memory), .int (zI R_maxSteps), .int (zI R_maxMemory), .int (zI R_fault_307), .int (zI R_result), .int (zI R_now), .int (zI R_nowRow), .int (zI R_come), .ref (ad 29), .ref (ad 30), .int (zI R_puts), .ref (ad 31)])), (ad 8, .inl (cI, 3700, .inl (zA R_valueKinds))), (ad 9, .inl (cL, 3700, .inr (.inl (zB R_valueNumbers)))), (ad 14, .inl (cI, 3700, .inl (zA R_given)))]) X (jrunV X (c_Mod_fail (ad := ad) q308) jF0_k (fun _ _ _ _ => trivial) (jgV own_Mod_sums (by decide +kernel)) rfl rfl rfl pd_Mod_fail (by decide) [0] rfl (by decide) 0 10 rfl rfl rfl rfl (Nat.le_of_ble_eq_true rfl) d_Mod_sums_163 (by decide)) [0] [1, 2, 3] [3, 0, 1, 2] rfl rfl (by decide) (by decide) rfl (by decide) ?_
              refine J_goto (tgt := 209) X d_Mod_sums_166 (by decide) ?_
              cases h
              exact J_ret E ⟨_, rfl, rfl⟩ d_Mod_sums_209 (Nat.le_refl _) (Nat.le_refl _) rfl
        · rcases wk_c h with ⟨c309, h⟩ | ⟨c309, h⟩
          · refine J_tsIn (tgt := 210) X 2 c309 g264 d_Mod_sums_25 (by decide) (by decide) rfl (by decide) ?_
            refine J_lload_n X d_Mod_sums_210 rfl 3 rfl ?_
            refine J_lload X d_Mod_sums_211 4 rfl ?_
            obtain ⟨r310, q311, h⟩ := wk_b h
            refine J_afterP (jrunS X (c_Mod_isProduct (ad := ad) q311) jF0_k (fun _ _ _ _ => trivial) (jgS own_Mod_sums (by decide +kernel)) rfl rfl rfl pd_Mod_isProduct (by decide) [] rfl (by decide) rfl rfl (Nat.le_of_ble_eq_true rfl) d_Mod_sums_213 (by decide)) ?_
            refine J_if_eq (tgt := 231) X d_Mod_sums_216 (by decide) h (fun c312 h => ?_) (fun c312 h => ?_)
            · refine J_aload_n X d_Mod_sums_231 rfl 1 rfl ?_
              refine J_iconst X d_Mod_sums_232 ?_
              obtain ⟨r313, R_fault_314, q315, h⟩ := wk_b2 h
              refine J_afterI0 (ws' := [(ad 0, .inr (10, [.int (zI R_thrown), .ref (ad 1), .ref (ad 2), .ref (ad 3), .ref (ad 4), .ref (ad 5), .ref (ad 6), .int (zI R_used), .ref (ad 7), .int (zI R_many), .ref (ad 8), .ref (ad 9), .ref (ad 10), .ref (ad 11), .ref (ad 12), .ref (ad 13), .ref (ad 14), .ref (ad 15), .ref (ad 16), .int (zI R_values), .ref (ad 17), .int (zI R_textEnd), .ref (ad 18), .ref (ad 19), .ref (ad 20), .ref (ad 21), .int (zI R_dataEnd), .ref (ad 22), .int (zI R_rowEnd), .ref (ad 23), .ref (ad 24), .int (zI R_rowMany), .ref (ad 25), .ref (ad 26), .ref (ad 27), .ref (ad 28), .int (zI R_waiting), .int (zI R_mostWaiting), .int (zI R_answer), .int (zI R_steps), .int (zI R_memory), .int (zI R_maxSteps), .int (zI R_maxMemory), .int (zI R_fault_314), .int (zI R_result), .int (zI R_now), .int (zI R_nowRow), .int (zI R_come), .ref (ad 29), .ref (ad 30), .int (zI R_puts), .ref (ad 31)])), (ad 8, .inl (cI, 3700, .inl (zA R_valueKinds))), (ad 9, .inl (cL, 3700, .inr (.inl (zB R_valueNumbers)))), (ad 14, .inl (cI, 3700, .inl (zA R_given)))]) X (jrunV X (c_Mod_fail (ad := ad) q315) jF0_k (fun _ _ _ _ => trivial) (jgV own_Mod_sums (by decide +kernel)) rfl rfl rfl pd_Mod_fail (by decide) [0] rfl (by decide) 0 10 rfl rfl rfl rfl (Nat.le_of_ble_eq_true rfl) d_Mod_sums_233 (by decide)) [0] [1, 2, 3] [3, 0, 1, 2] rfl rfl (by decide) (by decide) rfl (by decide) ?_
              cases h
              exact J_ret E ⟨_, rfl, rfl⟩ d_Mod_sums_236 (Nat.le_refl _) (Nat.le_refl _) rfl
            · refine J_aload_n X d_Mod_sums_219 rfl 1 rfl ?_
              refine J_iconst X d_Mod_sums_220 ?_
              refine J_lload_n X d_Mod_sums_221 rfl 3 rfl ?_
              refine J_lload X d_Mod_sums_222 4 rfl ?_
              refine J_lmul X d_Mod_sums_224 ?_
              obtain ⟨r316, R_values_317, R_valueKinds_318, R_valueNumbers_319, R_given_320, q321, h⟩ := wk_b5 h
              refine J_afterI0 (ws' := [(ad 0, .inr (10, [.int (zI R_thrown), .ref (ad 1), .ref (ad 2), .ref (ad 3), .ref (ad 4), .ref (ad 5), .ref (ad 6), .int (zI R_used), .ref (ad 7), .int (zI R_many), .ref (ad 8), .ref (ad 9), .ref (ad 10), .ref (ad 11), .ref (ad 12), .ref (ad 13), .ref (ad 14), .ref (ad 15), .ref (ad 16), .int (zI R_values_317), .ref (ad 17), .int (zI R_textEnd), .ref (ad 18), .ref (ad 19), .ref (ad 20), .ref (ad 21), .int (zI R_dataEnd), .ref (ad 22), .int (zI R_rowEnd), .ref (ad 23), .ref (ad 24), .int (zI R_rowMany), .ref (ad 25), .ref (ad 26), .ref (ad 27), .ref (ad 28), .int (zI R_waiting), .int (zI R_mostWaiting), .int (zI R_answer), .int (zI R_steps), .int (zI R_memory), .int (zI R_maxSteps), .int (zI R_maxMemory), .int (zI R_fault), .int (zI R_result), .int (zI R_now), .int (zI R_nowRow), .int (zI R_come), .ref (ad 29), .ref (ad 30), .int (zI R_puts), .ref (ad 31)])), (ad 8, .inl (cI, 3700, .inl (zA R_valueKinds_318))), (ad 9, .inl (cL, 3700, .inr (.inl (zB R_valueNumbers_319)))), (ad 14, .inl (cI, 3700, .inl (zA R_given_320)))]) X (jrunV X (c_Mod_make (ad := ad) q321) jF0_k (fun _ _ _ _ => trivial) (jgV own_Mod_sums (by decide +kernel)) rfl rfl rfl pd_Mod_make (by decide) [0, 1, 2, 3] rfl (by decide) 0 10 rfl rfl rfl rfl (Nat.le_of_ble_eq_true rfl) d_Mod_sums_225 (by decide)) [0, 1, 2, 3] [] [0, 1, 2, 3] rfl rfl (by decide) (by decide) rfl (by decide) ?_
              refine J_goto (tgt := 236) X d_Mod_sums_228 (by decide) ?_
              cases h
              exact J_ret E ⟨_, rfl, rfl⟩ d_Mod_sums_236 (Nat.le_refl _) (Nat.le_refl _) rfl
          · rcases wk_c h with ⟨c322, h⟩ | ⟨c322, h⟩
            · refine J_tsIn (tgt := 237) X 3 c322 g264 d_Mod_sums_25 (by decide) (by decide) rfl (by decide) ?_
              refine J_lload X d_Mod_sums_237 4 rfl ?_
              refine J_lconst (v := 0) X d_Mod_sums_239 (by decide) ?_
              refine J_lc_eq (tgt := 249) X d_Mod_sums_240 d_Mod_sums_241 (by decide) h (fun c323 h => ?_) (fun c323 h => ?_)
              · refine J_aload_n X d_Mod_sums_249 rfl 1 rfl ?_
                refine J_iconst X d_Mod_sums_250 ?_
                obtain ⟨r324, R_fault_325, q326, h⟩ := wk_b2 h
                refine J_afterI0 (ws' := [(ad 0, .inr (10, [.int (zI R_thrown), .ref (ad 1), .ref (ad 2), .ref (ad 3), .ref (ad 4), .ref (ad 5), .ref (ad 6), .int (zI R_used), .ref (ad 7), .int (zI R_many), .ref (ad 8), .ref (ad 9), .ref (ad 10), .ref (ad 11), .ref (ad 12), .ref (ad 13), .ref (ad 14), .ref (ad 15), .ref (ad 16), .int (zI R_values), .ref (ad 17), .int (zI R_textEnd), .ref (ad 18), .ref (ad 19), .ref (ad 20), .ref (ad 21), .int (zI R_dataEnd), .ref (ad 22), .int (zI R_rowEnd), .ref (ad 23), .ref (ad 24), .int (zI R_rowMany), .ref (ad 25), .ref (ad 26), .ref (ad 27), .ref (ad 28), .int (zI R_waiting), .int (zI R_mostWaiting), .int (zI R_answer), .int (zI R_steps), .int (zI R_memory), .int (zI R_maxSteps), .int (zI R_maxMemory), .int (zI R_fault_325), .int (zI R_result), .int (zI R_now), .int (zI R_nowRow), .int (zI R_come), .ref (ad 29), .ref (ad 30), .int (zI R_puts), .ref (ad 31)])), (ad 8, .inl (cI, 3700, .inl (zA R_valueKinds))), (ad 9, .inl (cL, 3700, .inr (.inl (zB R_valueNumbers)))), (ad 14, .inl (cI, 3700, .inl (zA R_given)))]) X (jrunV X (c_Mod_fail (ad := ad) q326) jF0_k (fun _ _ _ _ => trivial) (jgV own_Mod_sums (by decide +kernel)) rfl rfl rfl pd_Mod_fail (by decide) [0] rfl (by decide) 0 10 rfl rfl rfl rfl (Nat.le_of_ble_eq_true rfl) d_Mod_sums_251 (by decide)) [0] [1, 2, 3] [3, 0, 1, 2] rfl rfl (by decide) (by decide) rfl (by decide) ?_
                refine J_goto (tgt := 307) X d_Mod_sums_254 (by decide) ?_
                cases h
                exact J_ret E ⟨_, rfl, rfl⟩ d_Mod_sums_307 (Nat.le_refl _) (Nat.le_refl _) rfl
              · refine J_iload X d_Mod_sums_244 0 rfl ?_
                refine J_if_eq (pa := some ()) (pb := none) (o := ()) (tgt := 257) X d_Mod_sums_246 (by decide) (by decide) (fun _ _ => ?_) (fun _ h => by cases h)
                refine J_aload_n X d_Mod_sums_257 rfl 1 rfl ?_
                refine J_iconst X d_Mod_sums_258 ?_
                refine J_lload_n X d_Mod_sums_259 rfl 3 rfl ?_
                refine J_lload X d_Mod_sums_260 4 rfl ?_
                obtain ⟨g327, h⟩ := wk_g h
                refine J_ldiv X g327 d_Mod_sums_262 ?_
                refine J_lload_n X d_Mod_sums_263 rfl 3 rfl ?_
                refine J_lload X d_Mod_sums_264 4 rfl ?_
                obtain ⟨g328, h⟩ := wk_g h
                refine J_lrem X g328 d_Mod_sums_266 ?_
                refine J_lconst (v := 0) X d_Mod_sums_267 (by decide) ?_
                refine J_lc_eq (tgt := 302) X d_Mod_sums_268 d_Mod_sums_269 (by decide) h (fun c329 h => ?_) (fun c329 h => ?_)
                · refine J_lconst (v := 0) X d_Mod_sums_302 (by decide) ?_
                  refine J_lsub X d_Mod_sums_303 ?_
                  obtain ⟨r330, R_values_331, R_valueKinds_332, R_valueNumbers_333, R_given_334, q335, h⟩ := wk_b5 h
                  refine J_afterI0 (ws' := [(ad 0, .inr (10, [.int (zI R_thrown), .ref (ad 1), .ref (ad 2), .ref (ad 3), .ref (ad 4), .ref (ad 5), .ref (ad 6), .int (zI R_used), .ref (ad 7), .int (zI R_many), .ref (ad 8), .ref (ad 9), .ref (ad 10), .ref (ad 11), .ref (ad 12), .ref (ad 13), .ref (ad 14), .ref (ad 15), .ref (ad 16), .int (zI R_values_331), .ref (ad 17), .int (zI R_textEnd), .ref (ad 18), .ref (ad 19), .ref (ad 20), .ref (ad 21), .int (zI R_dataEnd), .ref (ad 22), .int (zI R_rowEnd), .ref (ad 23), .ref (ad 24), .int (zI R_rowMany), .ref (ad 25), .ref (ad 26), .ref (ad 27), .ref (ad 28), .int (zI R_waiting), .int (zI R_mostWaiting), .int (zI R_answer), .int (zI R_steps), .int (zI R_memory), .int (zI R_maxSteps), .int (zI R_maxMemory), .int (zI R_fault), .int (zI R_result), .int (zI R_now), .int (zI R_nowRow), .int (zI R_come), .ref (ad 29), .ref (ad 30), .int (zI R_puts), .ref (ad 31)])), (ad 8, .inl (cI, 3700, .inl (zA R_valueKinds_332))), (ad 9, .inl (cL, 3700, .inr (.inl (zB R_valueNumbers_333)))), (ad 14, .inl (cI, 3700, .inl (zA R_given_334)))]) X (jrunV X (c_Mod_make (ad := ad) q335) jF0_k (fun _ _ _ _ => trivial) (jgV own_Mod_sums (by decide +kernel)) rfl rfl rfl pd_Mod_make (by decide) [0, 1, 2, 3] rfl (by decide) 0 10 rfl rfl rfl rfl (Nat.le_of_ble_eq_true rfl) d_Mod_sums_304 (by decide)) [0, 1, 2, 3] [] [0, 1, 2, 3] rfl rfl (by decide) (by decide) rfl (by decide) ?_
                  cases h
                  exact J_ret E ⟨_, rfl, rfl⟩ d_Mod_sums_307 (Nat.le_refl _) (Nat.le_refl _) rfl
                · refine J_lload_n X d_Mod_sums_272 rfl 3 rfl ?_
                  refine J_lconst (v := 0) X d_Mod_sums_273 (by decide) ?_
                  refine J_lc_ge (tgt := 282) X d_Mod_sums_274 d_Mod_sums_275 (by decide) h (fun c336 h => ?_) (fun c336 h => ?_)
                  · refine J_iconst X d_Mod_sums_282 ?_
                    refine J_lload X d_Mod_sums_283 4 rfl ?_
                    refine J_lconst (v := 0) X d_Mod_sums_285 (by decide) ?_
                    refine J_lc_ge (tgt := 294) X d_Mod_sums_286 d_Mod_sums_287 (by decide) h (fun c337 h => ?_) (fun c337 h => ?_)
                    · refine J_iconst X d_Mod_sums_294 ?_
                      refine J_icmp_eq (tgt := 302) X d_Mod_sums_295 (by decide) h (fun c338 h => ?_) (fun c338 h => ?_)
                      · refine J_lconst (v := 0) X d_Mod_sums_302 (by decide) ?_
                        refine J_lsub X d_Mod_sums_303 ?_
                        obtain ⟨r339, R_values_340, R_valueKinds_341, R_valueNumbers_342, R_given_343, q344, h⟩ := wk_b5 h
                        refine J_afterI0 (ws' := [(ad 0, .inr (10, [.int (zI R_thrown), .ref (ad 1), .ref (ad 2), .ref (ad 3), .ref (ad 4), .ref (ad 5), .ref (ad 6), .int (zI R_used), .ref (ad 7), .int (zI R_many), .ref (ad 8), .ref (ad 9), .ref (ad 10), .ref (ad 11), .ref (ad 12), .ref (ad 13), .ref (ad 14), .ref (ad 15), .ref (ad 16), .int (zI R_values_340), .ref (ad 17), .int (zI R_textEnd), .ref (ad 18), .ref (ad 19), .ref (ad 20), .ref (ad 21), .int (zI R_dataEnd), .ref (ad 22), .int (zI R_rowEnd), .ref (ad 23), .ref (ad 24), .int (zI R_rowMany), .ref (ad 25), .ref (ad 26), .ref (ad 27), .ref (ad 28), .int (zI R_waiting), .int (zI R_mostWaiting), .int (zI R_answer), .int (zI R_steps), .int (zI R_memory), .int (zI R_maxSteps), .int (zI R_maxMemory), .int (zI R_fault), .int (zI R_result), .int (zI R_now), .int (zI R_nowRow), .int (zI R_come), .ref (ad 29), .ref (ad 30), .int (zI R_puts), .ref (ad 31)])), (ad 8, .inl (cI, 3700, .inl (zA R_valueKinds_341))), (ad 9, .inl (cL, 3700, .inr (.inl (zB R_valueNumbers_342)))), (ad 14, .inl (cI, 3700, .inl (zA R_given_343)))]) X (jrunV X (c_Mod_make (ad := ad) q344) jF0_k (fun _ _ _ _ => trivial) (jgV own_Mod_sums (by decide +kernel)) rfl rfl rfl pd_Mod_make (by decide) [0, 1, 2, 3] rfl (by decide) 0 10 rfl rfl rfl rfl (Nat.le_of_ble_eq_true rfl) d_Mod_sums_304 (by decide)) [0, 1, 2, 3] [] [0, 1, 2, 3] rfl rfl (by decide) (by decide) rfl (by decide) ?_
                        cases h
                        exact J_ret E ⟨_, rfl, rfl⟩ d_Mod_sums_307 (Nat.le_refl _) (Nat.le_refl _) rfl
                      · refine J_lconst (v := 1) X d_Mod_sums_298 (by decide) ?_
                        refine J_goto (tgt := 303) X d_Mod_sums_299 (by decide) ?_
                        refine J_lsub X d_Mod_sums_303 ?_
                        obtain ⟨r345, R_values_346, R_valueKinds_347, R_valueNumbers_348, R_given_349, q350, h⟩ := wk_b5 h
                        refine J_afterI0 (ws' := [(ad 0, .inr (10, [.int (zI R_thrown), .ref (ad 1), .ref (ad 2), .ref (ad 3), .ref (ad 4), .ref (ad 5), .ref (ad 6), .int (zI R_used), .ref (ad 7), .int (zI R_many), .ref (ad 8), .ref (ad 9), .ref (ad 10), .ref (ad 11), .ref (ad 12), .ref (ad 13), .ref (ad 14), .ref (ad 15), .ref (ad 16), .int (zI R_values_346), .ref (ad 17), .int (zI R_textEnd), .ref (ad 18), .ref (ad 19), .ref (ad 20), .ref (ad 21), .int (zI R_dataEnd), .ref (ad 22), .int (zI R_rowEnd), .ref (ad 23), .ref (ad 24), .int (zI R_rowMany), .ref (ad 25), .ref (ad 26), .ref (ad 27), .ref (ad 28), .int (zI R_waiting), .int (zI R_mostWaiting), .int (zI R_answer), .int (zI R_steps), .int (zI R_memory), .int (zI R_maxSteps), .int (zI R_maxMemory), .int (zI R_fault), .int (zI R_result), .int (zI R_now), .int (zI R_nowRow), .int (zI R_come), .ref (ad 29), .ref (ad 30), .int (zI R_puts), .ref (ad 31)])), (ad 8, .inl (cI, 3700, .inl (zA R_valueKinds_347))), (ad 9, .inl (cL, 3700, .inr (.inl (zB R_valueNumbers_348)))), (ad 14, .inl (cI, 3700, .inl (zA R_given_349)))]) X (jrunV X (c_Mod_make (ad := ad) q350) jF0_k (fun _ _ _ _ => trivial) (jgV own_Mod_sums (by decide +kernel)) rfl rfl rfl pd_Mod_make (by decide) [0, 1, 2, 3] rfl (by decide) 0 10 rfl rfl rfl rfl (Nat.le_of_ble_eq_true rfl) d_Mod_sums_304 (by decide)) [0, 1, 2, 3] [] [0, 1, 2, 3] rfl rfl (by decide) (by decide) rfl (by decide) ?_
                        cases h
                        exact J_ret E ⟨_, rfl, rfl⟩ d_Mod_sums_307 (Nat.le_refl _) (Nat.le_refl _) rfl
                    · refine J_iconst X d_Mod_sums_290 ?_
                      refine J_goto (tgt := 295) X d_Mod_sums_291 (by decide) ?_
                      refine J_icmp_eq (tgt := 302) X d_Mod_sums_295 (by decide) h (fun c351 h => ?_) (fun c351 h => ?_)
                      · refine J_lconst (v := 0) X d_Mod_sums_302 (by decide) ?_
                        refine J_lsub X d_Mod_sums_303 ?_
                        obtain ⟨r352, R_values_353, R_valueKinds_354, R_valueNumbers_355, R_given_356, q357, h⟩ := wk_b5 h
                        refine J_afterI0 (ws' := [(ad 0, .inr (10, [.int (zI R_thrown), .ref (ad 1), .ref (ad 2), .ref (ad 3), .ref (ad 4), .ref (ad 5), .ref (ad 6), .int (zI R_used), .ref (ad 7), .int (zI R_many), .ref (ad 8), .ref (ad 9), .ref (ad 10), .ref (ad 11), .ref (ad 12), .ref (ad 13), .ref (ad 14), .ref (ad 15), .ref (ad 16), .int (zI R_values_353), .ref (ad 17), .int (zI R_textEnd), .ref (ad 18), .ref (ad 19), .ref (ad 20), .ref (ad 21), .int (zI R_dataEnd), .ref (ad 22), .int (zI R_rowEnd), .ref (ad 23), .ref (ad 24), .int (zI R_rowMany), .ref (ad 25), .ref (ad 26), .ref (ad 27), .ref (ad 28), .int (zI R_waiting), .int (zI R_mostWaiting), .int (zI R_answer), .int (zI R_steps), .int (zI R_memory), .int (zI R_maxSteps), .int (zI R_maxMemory), .int (zI R_fault), .int (zI R_result), .int (zI R_now), .int (zI R_nowRow), .int (zI R_come), .ref (ad 29), .ref (ad 30), .int (zI R_puts), .ref (ad 31)])), (ad 8, .inl (cI, 3700, .inl (zA R_valueKinds_354))), (ad 9, .inl (cL, 3700, .inr (.inl (zB R_valueNumbers_355)))), (ad 14, .inl (cI, 3700, .inl (zA R_given_356)))]) X (jrunV X (c_Mod_make (ad := ad) q357) jF0_k (fun _ _ _ _ => trivial) (jgV own_Mod_sums (by decide +kernel)) rfl rfl rfl pd_Mod_make (by decide) [0, 1, 2, 3] rfl (by decide) 0 10 rfl rfl rfl rfl (Nat.le_of_ble_eq_true rfl) d_Mod_sums_304 (by decide)) [0, 1, 2, 3] [] [0, 1, 2, 3] rfl rfl (by decide) (by decide) rfl (by decide) ?_
                        cases h
                        exact J_ret E ⟨_, rfl, rfl⟩ d_Mod_sums_307 (Nat.le_refl _) (Nat.le_refl _) rfl
                      · refine J_lconst (v := 1) X d_Mod_sums_298 (by decide) ?_
                        refine J_goto (tgt := 303) X d_Mod_sums_299 (by decide) ?_
                        refine J_lsub X d_Mod_sums_303 ?_
                        obtain ⟨r358, R_values_359, R_valueKinds_360, R_valueNumbers_361, R_given_362, q363, h⟩ := wk_b5 h
                        refine J_afterI0 (ws' := [(ad 0, .inr (10, [.int (zI R_thrown), .ref (ad 1), .ref (ad 2), .ref (ad 3), .ref (ad 4), .ref (ad 5), .ref (ad 6), .int (zI R_used), .ref (ad 7), .int (zI R_many), .ref (ad 8), .ref (ad 9), .ref (ad 10), .ref (ad 11), .ref (ad 12), .ref (ad 13), .ref (ad 14), .ref (ad 15), .ref (ad 16), .int (zI R_values_359), .ref (ad 17), .int (zI R_textEnd), .ref (ad 18), .ref (ad 19), .ref (ad 20), .ref (ad 21), .int (zI R_dataEnd), .ref (ad 22), .int (zI R_rowEnd), .ref (ad 23), .ref (ad 24), .int (zI R_rowMany), .ref (ad 25), .ref (ad 26), .ref (ad 27), .ref (ad 28), .int (zI R_waiting), .int (zI R_mostWaiting), .int (zI R_answer), .int (zI R_steps), .int (zI R_memory), .int (zI R_maxSteps), .int (zI R_maxMemory), .int (zI R_fault), .int (zI R_result), .int (zI R_now), .int (zI R_nowRow), .int (zI R_come), .ref (ad 29), .ref (ad 30), .int (zI R_puts), .ref (ad 31)])), (ad 8, .inl (cI, 3700, .inl (zA R_valueKinds_360))), (ad 9, .inl (cL, 3700, .inr (.inl (zB R_valueNumbers_361)))), (ad 14, .inl (cI, 3700, .inl (zA R_given_362)))]) X (jrunV X (c_Mod_make (ad := ad) q363) jF0_k (fun _ _ _ _ => trivial) (jgV own_Mod_sums (by decide +kernel)) rfl rfl rfl pd_Mod_make (by decide) [0, 1, 2, 3] rfl (by decide) 0 10 rfl rfl rfl rfl (Nat.le_of_ble_eq_true rfl) d_Mod_sums_304 (by decide)) [0, 1, 2, 3] [] [0, 1, 2, 3] rfl rfl (by decide) (by decide) rfl (by decide) ?_
                        cases h
                        exact J_ret E ⟨_, rfl, rfl⟩ d_Mod_sums_307 (Nat.le_refl _) (Nat.le_refl _) rfl
                  · refine J_iconst X d_Mod_sums_278 ?_
                    refine J_goto (tgt := 283) X d_Mod_sums_279 (by decide) ?_
                    refine J_lload X d_Mod_sums_283 4 rfl ?_
                    refine J_lconst (v := 0) X d_Mod_sums_285 (by decide) ?_
                    refine J_lc_ge (tgt := 294) X d_Mod_sums_286 d_Mod_sums_287 (by decide) h (fun c364 h => ?_) (fun c364 h => ?_)
                    · refine J_iconst X d_Mod_sums_294 ?_
                      refine J_icmp_eq (tgt := 302) X d_Mod_sums_295 (by decide) h (fun c365 h => ?_) (fun c365 h => ?_)
                      · refine J_lconst (v := 0) X d_Mod_sums_302 (by decide) ?_
                        refine J_lsub X d_Mod_sums_303 ?_
                        obtain ⟨r366, R_values_367, R_valueKinds_368, R_valueNumbers_369, R_given_370, q371, h⟩ := wk_b5 h
                        refine J_afterI0 (ws' := [(ad 0, .inr (10, [.int (zI R_thrown), .ref (ad 1), .ref (ad 2), .ref (ad 3), .ref (ad 4), .ref (ad 5), .ref (ad 6), .int (zI R_used), .ref (ad 7), .int (zI R_many), .ref (ad 8), .ref (ad 9), .ref (ad 10), .ref (ad 11), .ref (ad 12), .ref (ad 13), .ref (ad 14), .ref (ad 15), .ref (ad 16), .int (zI R_values_367), .ref (ad 17), .int (zI R_textEnd), .ref (ad 18), .ref (ad 19), .ref (ad 20), .ref (ad 21), .int (zI R_dataEnd), .ref (ad 22), .int (zI R_rowEnd), .ref (ad 23), .ref (ad 24), .int (zI R_rowMany), .ref (ad 25), .ref (ad 26), .ref (ad 27), .ref (ad 28), .int (zI R_waiting), .int (zI R_mostWaiting), .int (zI R_answer), .int (zI R_steps), .int (zI R_memory), .int (zI R_maxSteps), .int (zI R_maxMemory), .int (zI R_fault), .int (zI R_result), .int (zI R_now), .int (zI R_nowRow), .int (zI R_come), .ref (ad 29), .ref (ad 30), .int (zI R_puts), .ref (ad 31)])), (ad 8, .inl (cI, 3700, .inl (zA R_valueKinds_368))), (ad 9, .inl (cL, 3700, .inr (.inl (zB R_valueNumbers_369)))), (ad 14, .inl (cI, 3700, .inl (zA R_given_370)))]) X (jrunV X (c_Mod_make (ad := ad) q371) jF0_k (fun _ _ _ _ => trivial) (jgV own_Mod_sums (by decide +kernel)) rfl rfl rfl pd_Mod_make (by decide) [0, 1, 2, 3] rfl (by decide) 0 10 rfl rfl rfl rfl (Nat.le_of_ble_eq_true rfl) d_Mod_sums_304 (by decide)) [0, 1, 2, 3] [] [0, 1, 2, 3] rfl rfl (by decide) (by decide) rfl (by decide) ?_
                        cases h
                        exact J_ret E ⟨_, rfl, rfl⟩ d_Mod_sums_307 (Nat.le_refl _) (Nat.le_refl _) rfl
                      · refine J_lconst (v := 1) X d_Mod_sums_298 (by decide) ?_
                        refine J_goto (tgt := 303) X d_Mod_sums_299 (by decide) ?_
                        refine J_lsub X d_Mod_sums_303 ?_
                        obtain ⟨r372, R_values_373, R_valueKinds_374, R_valueNumbers_375, R_given_376, q377, h⟩ := wk_b5 h
                        refine J_afterI0 (ws' := [(ad 0, .inr (10, [.int (zI R_thrown), .ref (ad 1), .ref (ad 2), .ref (ad 3), .ref (ad 4), .ref (ad 5), .ref (ad 6), .int (zI R_used), .ref (ad 7), .int (zI R_many), .ref (ad 8), .ref (ad 9), .ref (ad 10), .ref (ad 11), .ref (ad 12), .ref (ad 13), .ref (ad 14), .ref (ad 15), .ref (ad 16), .int (zI R_values_373), .ref (ad 17), .int (zI R_textEnd), .ref (ad 18), .ref (ad 19), .ref (ad 20), .ref (ad 21), .int (zI R_dataEnd), .ref (ad 22), .int (zI R_rowEnd), .ref (ad 23), .ref (ad 24), .int (zI R_rowMany), .ref (ad 25), .ref (ad 26), .ref (ad 27), .ref (ad 28), .int (zI R_waiting), .int (zI R_mostWaiting), .int (zI R_answer), .int (zI R_steps), .int (zI R_memory), .int (zI R_maxSteps), .int (zI R_maxMemory), .int (zI R_fault), .int (zI R_result), .int (zI R_now), .int (zI R_nowRow), .int (zI R_come), .ref (ad 29), .ref (ad 30), .int (zI R_puts), .ref (ad 31)])), (ad 8, .inl (cI, 3700, .inl (zA R_valueKinds_374))), (ad 9, .inl (cL, 3700, .inr (.inl (zB R_valueNumbers_375)))), (ad 14, .inl (cI, 3700, .inl (zA R_given_376)))]) X (jrunV X (c_Mod_make (ad := ad) q377) jF0_k (fun _ _ _ _ => trivial) (jgV own_Mod_sums (by decide +kernel)) rfl rfl rfl pd_Mod_make (by decide) [0, 1, 2, 3] rfl (by decide) 0 10 rfl rfl rfl rfl (Nat.le_of_ble_eq_true rfl) d_Mod_sums_304 (by decide)) [0, 1, 2, 3] [] [0, 1, 2, 3] rfl rfl (by decide) (by decide) rfl (by decide) ?_
                        cases h
                        exact J_ret E ⟨_, rfl, rfl⟩ d_Mod_sums_307 (Nat.le_refl _) (Nat.le_refl _) rfl
                    · refine J_iconst X d_Mod_sums_290 ?_
                      refine J_goto (tgt := 295) X d_Mod_sums_291 (by decide) ?_
                      refine J_icmp_eq (tgt := 302) X d_Mod_sums_295 (by decide) h (fun c378 h => ?_) (fun c378 h => ?_)
                      · refine J_lconst (v := 0) X d_Mod_sums_302 (by decide) ?_
                        refine J_lsub X d_Mod_sums_303 ?_
                        obtain ⟨r379, R_values_380, R_valueKinds_381, R_valueNumbers_382, R_given_383, q384, h⟩ := wk_b5 h
                        refine J_afterI0 (ws' := [(ad 0, .inr (10, [.int (zI R_thrown), .ref (ad 1), .ref (ad 2), .ref (ad 3), .ref (ad 4), .ref (ad 5), .ref (ad 6), .int (zI R_used), .ref (ad 7), .int (zI R_many), .ref (ad 8), .ref (ad 9), .ref (ad 10), .ref (ad 11), .ref (ad 12), .ref (ad 13), .ref (ad 14), .ref (ad 15), .ref (ad 16), .int (zI R_values_380), .ref (ad 17), .int (zI R_textEnd), .ref (ad 18), .ref (ad 19), .ref (ad 20), .ref (ad 21), .int (zI R_dataEnd), .ref (ad 22), .int (zI R_rowEnd), .ref (ad 23), .ref (ad 24), .int (zI R_rowMany), .ref (ad 25), .ref (ad 26), .ref (ad 27), .ref (ad 28), .int (zI R_waiting), .int (zI R_mostWaiting), .int (zI R_answer), .int (zI R_steps), .int (zI R_memory), .int (zI R_maxSteps), .int (zI R_maxMemory), .int (zI R_fault), .int (zI R_result), .int (zI R_now), .int (zI R_nowRow), .int (zI R_come), .ref (ad 29), .ref (ad 30), .int (zI R_puts), .ref (ad 31)])), (ad 8, .inl (cI, 3700, .inl (zA R_valueKinds_381))), (ad 9, .inl (cL, 3700, .inr (.inl (zB R_valueNumbers_382)))), (ad 14, .inl (cI, 3700, .inl (zA R_given_383)))]) X (jrunV X (c_Mod_make (ad := ad) q384) jF0_k (fun _ _ _ _ => trivial) (jgV own_Mod_sums (by decide +kernel)) rfl rfl rfl pd_Mod_make (by decide) [0, 1, 2, 3] rfl (by decide) 0 10 rfl rfl rfl rfl (Nat.le_of_ble_eq_true rfl) d_Mod_sums_304 (by decide)) [0, 1, 2, 3] [] [0, 1, 2, 3] rfl rfl (by decide) (by decide) rfl (by decide) ?_
                        cases h
                        exact J_ret E ⟨_, rfl, rfl⟩ d_Mod_sums_307 (Nat.le_refl _) (Nat.le_refl _) rfl
                      · refine J_lconst (v := 1) X d_Mod_sums_298 (by decide) ?_
                        refine J_goto (tgt := 303) X d_Mod_sums_299 (by decide) ?_
                        refine J_lsub X d_Mod_sums_303 ?_
                        obtain ⟨r385, R_values_386, R_valueKinds_387, R_valueNumbers_388, R_given_389, q390, h⟩ := wk_b5 h
                        refine J_afterI0 (ws' := [(ad 0, .inr (10, [.int (zI R_thrown), .ref (ad 1), .ref (ad 2), .ref (ad 3), .ref (ad 4), .ref (ad 5), .ref (ad 6), .int (zI R_used), .ref (ad 7), .int (zI R_many), .ref (ad 8), .ref (ad 9), .ref (ad 10), .ref (ad 11), .ref (ad 12), .ref (ad 13), .ref (ad 14), .ref (ad 15), .ref (ad 16), .int (zI R_values_386), .ref (ad 17), .int (zI R_textEnd), .ref (ad 18), .ref (ad 19), .ref (ad 20), .ref (ad 21), .int (zI R_dataEnd), .ref (ad 22), .int (zI R_rowEnd), .ref (ad 23), .ref (ad 24), .int (zI R_rowMany), .ref (ad 25), .ref (ad 26), .ref (ad 27), .ref (ad 28), .int (zI R_waiting), .int (zI R_mostWaiting), .int (zI R_answer), .int (zI R_steps), .int (zI R_memory), .int (zI R_maxSteps), .int (zI R_maxMemory), .int (zI R_fault), .int (zI R_result), .int (zI R_now), .int (zI R_nowRow), .int (zI R_come), .ref (ad 29), .ref (ad 30), .int (zI R_puts), .ref (ad 31)])), (ad 8, .inl (cI, 3700, .inl (zA R_valueKinds_387))), (ad 9, .inl (cL, 3700, .inr (.inl (zB R_valueNumbers_388)))), (ad 14, .inl (cI, 3700, .inl (zA R_given_389)))]) X (jrunV X (c_Mod_make (ad := ad) q390) jF0_k (fun _ _ _ _ => trivial) (jgV own_Mod_sums (by decide +kernel)) rfl rfl rfl pd_Mod_make (by decide) [0, 1, 2, 3] rfl (by decide) 0 10 rfl rfl rfl rfl (Nat.le_of_ble_eq_true rfl) d_Mod_sums_304 (by decide)) [0, 1, 2, 3] [] [0, 1, 2, 3] rfl rfl (by decide) (by decide) rfl (by decide) ?_
                        cases h
                        exact J_ret E ⟨_, rfl, rfl⟩ d_Mod_sums_307 (Nat.le_refl _) (Nat.le_refl _) rfl
            · rcases wk_c h with ⟨c391, h⟩ | ⟨c391, h⟩
              · refine J_tsIn (tgt := 308) X 4 c391 g264 d_Mod_sums_25 (by decide) (by decide) rfl (by decide) ?_
                refine J_lload X d_Mod_sums_308 4 rfl ?_
                refine J_lconst (v := 0) X d_Mod_sums_310 (by decide) ?_
                refine J_lc_ne (tgt := 323) X d_Mod_sums_311 d_Mod_sums_312 (by decide) h (fun c392 h => ?_) (fun c392 h => ?_)
                · refine J_aload_n X d_Mod_sums_323 rfl 1 rfl ?_
                  refine J_iconst X d_Mod_sums_324 ?_
                  refine J_iload X d_Mod_sums_325 0 rfl ?_
                  refine J_if_eq (pa := some ()) (pb := none) (o := ()) (tgt := 334) X d_Mod_sums_327 (by decide) (by decide) (fun _ _ => ?_) (fun _ h => by cases h)
                  refine J_lload_n X d_Mod_sums_334 rfl 3 rfl ?_
                  refine J_lload X d_Mod_sums_335 4 rfl ?_
                  obtain ⟨g393, h⟩ := wk_g h
                  refine J_lrem X g393 d_Mod_sums_337 ?_
                  refine J_lload_n X d_Mod_sums_338 rfl 3 rfl ?_
                  refine J_lload X d_Mod_sums_339 4 rfl ?_
                  obtain ⟨g394, h⟩ := wk_g h
                  refine J_lrem X g394 d_Mod_sums_341 ?_
                  refine J_lconst (v := 0) X d_Mod_sums_342 (by decide) ?_
                  refine J_lc_eq (tgt := 378) X d_Mod_sums_343 d_Mod_sums_344 (by decide) h (fun c395 h => ?_) (fun c395 h => ?_)
                  · refine J_lconst (v := 0) X d_Mod_sums_378 (by decide) ?_
                    refine J_ladd X d_Mod_sums_379 ?_
                    obtain ⟨r396, R_values_397, R_valueKinds_398, R_valueNumbers_399, R_given_400, q401, h⟩ := wk_b5 h
                    refine J_afterI0 (ws' := [(ad 0, .inr (10, [.int (zI R_thrown), .ref (ad 1), .ref (ad 2), .ref (ad 3), .ref (ad 4), .ref (ad 5), .ref (ad 6), .int (zI R_used), .ref (ad 7), .int (zI R_many), .ref (ad 8), .ref (ad 9), .ref (ad 10), .ref (ad 11), .ref (ad 12), .ref (ad 13), .ref (ad 14), .ref (ad 15), .ref (ad 16), .int (zI R_values_397), .ref (ad 17), .int (zI R_textEnd), .ref (ad 18), .ref (ad 19), .ref (ad 20), .ref (ad 21), .int (zI R_dataEnd), .ref (ad 22), .int (zI R_rowEnd), .ref (ad 23), .ref (ad 24), .int (zI R_rowMany), .ref (ad 25), .ref (ad 26), .ref (ad 27), .ref (ad 28), .int (zI R_waiting), .int (zI R_mostWaiting), .int (zI R_answer), .int (zI R_steps), .int (zI R_memory), .int (zI R_maxSteps), .int (zI R_maxMemory), .int (zI R_fault), .int (zI R_result), .int (zI R_now), .int (zI R_nowRow), .int (zI R_come), .ref (ad 29), .ref (ad 30), .int (zI R_puts), .ref (ad 31)])), (ad 8, .inl (cI, 3700, .inl (zA R_valueKinds_398))), (ad 9, .inl (cL, 3700, .inr (.inl (zB R_valueNumbers_399)))), (ad 14, .inl (cI, 3700, .inl (zA R_given_400)))]) X (jrunV X (c_Mod_make (ad := ad) q401) jF0_k (fun _ _ _ _ => trivial) (jgV own_Mod_sums (by decide +kernel)) rfl rfl rfl pd_Mod_make (by decide) [0, 1, 2, 3] rfl (by decide) 0 10 rfl rfl rfl rfl (Nat.le_of_ble_eq_true rfl) d_Mod_sums_380 (by decide)) [0, 1, 2, 3] [] [0, 1, 2, 3] rfl rfl (by decide) (by decide) rfl (by decide) ?_
                    cases h
                    exact J_ret E ⟨_, rfl, rfl⟩ d_Mod_sums_383 (Nat.le_refl _) (Nat.le_refl _) rfl
                  · refine J_lload_n X d_Mod_sums_347 rfl 3 rfl ?_
                    refine J_lconst (v := 0) X d_Mod_sums_348 (by decide) ?_
                    refine J_lc_ge (tgt := 357) X d_Mod_sums_349 d_Mod_sums_350 (by decide) h (fun c402 h => ?_) (fun c402 h => ?_)
                    · refine J_iconst X d_Mod_sums_357 ?_
                      refine J_lload X d_Mod_sums_358 4 rfl ?_
                      refine J_lconst (v := 0) X d_Mod_sums_360 (by decide) ?_
                      refine J_lc_ge (tgt := 369) X d_Mod_sums_361 d_Mod_sums_362 (by decide) h (fun c403 h => ?_) (fun c403 h => ?_)
                      · refine J_iconst X d_Mod_sums_369 ?_
                        refine J_icmp_eq (tgt := 378) X d_Mod_sums_370 (by decide) h (fun c404 h => ?_) (fun c404 h => ?_)
                        · refine J_lconst (v := 0) X d_Mod_sums_378 (by decide) ?_
                          refine J_ladd X d_Mod_sums_379 ?_
                          obtain ⟨r405, R_values_406, R_valueKinds_407, R_valueNumbers_408, R_given_409, q410, h⟩ := wk_b5 h
                          refine J_afterI0 (ws' := [(ad 0, .inr (10, [.int (zI R_thrown), .ref (ad 1), .ref (ad 2), .ref (ad 3), .ref (ad 4), .ref (ad 5), .ref (ad 6), .int (zI R_used), .ref (ad 7), .int (zI R_many), .ref (ad 8), .ref (ad 9), .ref (ad 10), .ref (ad 11), .ref (ad 12), .ref (ad 13), .ref (ad 14), .ref (ad 15), .ref (ad 16), .int (zI R_values_406), .ref (ad 17), .int (zI R_textEnd), .ref (ad 18), .ref (ad 19), .ref (ad 20), .ref (ad 21), .int (zI R_dataEnd), .ref (ad 22), .int (zI R_rowEnd), .ref (ad 23), .ref (ad 24), .int (zI R_rowMany), .ref (ad 25), .ref (ad 26), .ref (ad 27), .ref (ad 28), .int (zI R_waiting), .int (zI R_mostWaiting), .int (zI R_answer), .int (zI R_steps), .int (zI R_memory), .int (zI R_maxSteps), .int (zI R_maxMemory), .int (zI R_fault), .int (zI R_result), .int (zI R_now), .int (zI R_nowRow), .int (zI R_come), .ref (ad 29), .ref (ad 30), .int (zI R_puts), .ref (ad 31)])), (ad 8, .inl (cI, 3700, .inl (zA R_valueKinds_407))), (ad 9, .inl (cL, 3700, .inr (.inl (zB R_valueNumbers_408)))), (ad 14, .inl (cI, 3700, .inl (zA R_given_409)))]) X (jrunV X (c_Mod_make (ad := ad) q410) jF0_k (fun _ _ _ _ => trivial) (jgV own_Mod_sums (by decide +kernel)) rfl rfl rfl pd_Mod_make (by decide) [0, 1, 2, 3] rfl (by decide) 0 10 rfl rfl rfl rfl (Nat.le_of_ble_eq_true rfl) d_Mod_sums_380 (by decide)) [0, 1, 2, 3] [] [0, 1, 2, 3] rfl rfl (by decide) (by decide) rfl (by decide) ?_
                          cases h
                          exact J_ret E ⟨_, rfl, rfl⟩ d_Mod_sums_383 (Nat.le_refl _) (Nat.le_refl _) rfl
                        · refine J_lload X d_Mod_sums_373 4 rfl ?_
                          refine J_goto (tgt := 379) X d_Mod_sums_375 (by decide) ?_
                          refine J_ladd X d_Mod_sums_379 ?_
                          obtain ⟨r411, R_values_412, R_valueKinds_413, R_valueNumbers_414, R_given_415, q416, h⟩ := wk_b5 h
                          refine J_afterI0 (ws' := [(ad 0, .inr (10, [.int (zI R_thrown), .ref (ad 1), .ref (ad 2), .ref (ad 3), .ref (ad 4), .ref (ad 5), .ref (ad 6), .int (zI R_used), .ref (ad 7), .int (zI R_many), .ref (ad 8), .ref (ad 9), .ref (ad 10), .ref (ad 11), .ref (ad 12), .ref (ad 13), .ref (ad 14), .ref (ad 15), .ref (ad 16), .int (zI R_values_412), .ref (ad 17), .int (zI R_textEnd), .ref (ad 18), .ref (ad 19), .ref (ad 20), .ref (ad 21), .int (zI R_dataEnd), .ref (ad 22), .int (zI R_rowEnd), .ref (ad 23), .ref (ad 24), .int (zI R_rowMany), .ref (ad 25), .ref (ad 26), .ref (ad 27), .ref (ad 28), .int (zI R_waiting), .int (zI R_mostWaiting), .int (zI R_answer), .int (zI R_steps), .int (zI R_memory), .int (zI R_maxSteps), .int (zI R_maxMemory), .int (zI R_fault), .int (zI R_result), .int (zI R_now), .int (zI R_nowRow), .int (zI R_come), .ref (ad 29), .ref (ad 30), .int (zI R_puts), .ref (ad 31)])), (ad 8, .inl (cI, 3700, .inl (zA R_valueKinds_413))), (ad 9, .inl (cL, 3700, .inr (.inl (zB R_valueNumbers_414)))), (ad 14, .inl (cI, 3700, .inl (zA R_given_415)))]) X (jrunV X (c_Mod_make (ad := ad) q416) jF0_k (fun _ _ _ _ => trivial) (jgV own_Mod_sums (by decide +kernel)) rfl rfl rfl pd_Mod_make (by decide) [0, 1, 2, 3] rfl (by decide) 0 10 rfl rfl rfl rfl (Nat.le_of_ble_eq_true rfl) d_Mod_sums_380 (by decide)) [0, 1, 2, 3] [] [0, 1, 2, 3] rfl rfl (by decide) (by decide) rfl (by decide) ?_
                          cases h
                          exact J_ret E ⟨_, rfl, rfl⟩ d_Mod_sums_383 (Nat.le_refl _) (Nat.le_refl _) rfl
                      · refine J_iconst X d_Mod_sums_365 ?_
                        refine J_goto (tgt := 370) X d_Mod_sums_366 (by decide) ?_
                        refine J_icmp_eq (tgt := 378) X d_Mod_sums_370 (by decide) h (fun c417 h => ?_) (fun c417 h => ?_)
                        · refine J_lconst (v := 0) X d_Mod_sums_378 (by decide) ?_
                          refine J_ladd X d_Mod_sums_379 ?_
                          obtain ⟨r418, R_values_419, R_valueKinds_420, R_valueNumbers_421, R_given_422, q423, h⟩ := wk_b5 h
                          refine J_afterI0 (ws' := [(ad 0, .inr (10, [.int (zI R_thrown), .ref (ad 1), .ref (ad 2), .ref (ad 3), .ref (ad 4), .ref (ad 5), .ref (ad 6), .int (zI R_used), .ref (ad 7), .int (zI R_many), .ref (ad 8), .ref (ad 9), .ref (ad 10), .ref (ad 11), .ref (ad 12), .ref (ad 13), .ref (ad 14), .ref (ad 15), .ref (ad 16), .int (zI R_values_419), .ref (ad 17), .int (zI R_textEnd), .ref (ad 18), .ref (ad 19), .ref (ad 20), .ref (ad 21), .int (zI R_dataEnd), .ref (ad 22), .int (zI R_rowEnd), .ref (ad 23), .ref (ad 24), .int (zI R_rowMany), .ref (ad 25), .ref (ad 26), .ref (ad 27), .ref (ad 28), .int (zI R_waiting), .int (zI R_mostWaiting), .int (zI R_answer), .int (zI R_steps), .int (zI R_memory), .int (zI R_maxSteps), .int (zI R_maxMemory), .int (zI R_fault), .int (zI R_result), .int (zI R_now), .int (zI R_nowRow), .int (zI R_come), .ref (ad 29), .ref (ad 30), .int (zI R_puts), .ref (ad 31)])), (ad 8, .inl (cI, 3700, .inl (zA R_valueKinds_420))), (ad 9, .inl (cL, 3700, .inr (.inl (zB R_valueNumbers_421)))), (ad 14, .inl (cI, 3700, .inl (zA R_given_422)))]) X (jrunV X (c_Mod_make (ad := ad) q423) jF0_k (fun _ _ _ _ => trivial) (jgV own_Mod_sums (by decide +kernel)) rfl rfl rfl pd_Mod_make (by decide) [0, 1, 2, 3] rfl (by decide) 0 10 rfl rfl rfl rfl (Nat.le_of_ble_eq_true rfl) d_Mod_sums_380 (by decide)) [0, 1, 2, 3] [] [0, 1, 2, 3] rfl rfl (by decide) (by decide) rfl (by decide) ?_
                          cases h
                          exact J_ret E ⟨_, rfl, rfl⟩ d_Mod_sums_383 (Nat.le_refl _) (Nat.le_refl _) rfl
                        · refine J_lload X d_Mod_sums_373 4 rfl ?_
                          refine J_goto (tgt := 379) X d_Mod_sums_375 (by decide) ?_
                          refine J_ladd X d_Mod_sums_379 ?_
                          obtain ⟨r424, R_values_425, R_valueKinds_426, R_valueNumbers_427, R_given_428, q429, h⟩ := wk_b5 h
                          refine J_afterI0 (ws' := [(ad 0, .inr (10, [.int (zI R_thrown), .ref (ad 1), .ref (ad 2), .ref (ad 3), .ref (ad 4), .ref (ad 5), .ref (ad 6), .int (zI R_used), .ref (ad 7), .int (zI R_many), .ref (ad 8), .ref (ad 9), .ref (ad 10), .ref (ad 11), .ref (ad 12), .ref (ad 13), .ref (ad 14), .ref (ad 15), .ref (ad 16), .int (zI R_values_425), .ref (ad 17), .int (zI R_textEnd), .ref (ad 18), .ref (ad 19), .ref (ad 20), .ref (ad 21), .int (zI R_dataEnd), .ref (ad 22), .int (zI R_rowEnd), .ref (ad 23), .ref (ad 24), .int (zI R_rowMany), .ref (ad 25), .ref (ad 26), .ref (ad 27), .ref (ad 28), .int (zI R_waiting), .int (zI R_mostWaiting), .int (zI R_answer), .int (zI R_steps), .int (zI R_memory), .int (zI R_maxSteps), .int (zI R_maxMemory), .int (zI R_fault), .int (zI R_result), .int (zI R_now), .int (zI R_nowRow), .int (zI R_come), .ref (ad 29), .ref (ad 30), .int (zI R_puts), .ref (ad 31)])), (ad 8, .inl (cI, 3700, .inl (zA R_valueKinds_426))), (ad 9, .inl (cL, 3700, .inr (.inl (zB R_valueNumbers_427)))), (ad 14, .inl (cI, 3700, .inl (zA R_given_428)))]) X (jrunV X (c_Mod_make (ad := ad) q429) jF0_k (fun _ _ _ _ => trivial) (jgV own_Mod_sums (by decide +kernel)) rfl rfl rfl pd_Mod_make (by decide) [0, 1, 2, 3] rfl (by decide) 0 10 rfl rfl rfl rfl (Nat.le_of_ble_eq_true rfl) d_Mod_sums_380 (by decide)) [0, 1, 2, 3] [] [0, 1, 2, 3] rfl rfl (by decide) (by decide) rfl (by decide) ?_
                          cases h
                          exact J_ret E ⟨_, rfl, rfl⟩ d_Mod_sums_383 (Nat.le_refl _) (Nat.le_refl _) rfl
                    · refine J_iconst X d_Mod_sums_353 ?_
                      refine J_goto (tgt := 358) X d_Mod_sums_354 (by decide) ?_
                      refine J_lload X d_Mod_sums_358 4 rfl ?_
                      refine J_lconst (v := 0) X d_Mod_sums_360 (by decide) ?_
                      refine J_lc_ge (tgt := 369) X d_Mod_sums_361 d_Mod_sums_362 (by decide) h (fun c430 h => ?_) (fun c430 h => ?_)
                      · refine J_iconst X d_Mod_sums_369 ?_
                        refine J_icmp_eq (tgt := 378) X d_Mod_sums_370 (by decide) h (fun c431 h => ?_) (fun c431 h => ?_)
                        · refine J_lconst (v := 0) X d_Mod_sums_378 (by decide) ?_
                          refine J_ladd X d_Mod_sums_379 ?_
                          obtain ⟨r432, R_values_433, R_valueKinds_434, R_valueNumbers_435, R_given_436, q437, h⟩ := wk_b5 h
                          refine J_afterI0 (ws' := [(ad 0, .inr (10, [.int (zI R_thrown), .ref (ad 1), .ref (ad 2), .ref (ad 3), .ref (ad 4), .ref (ad 5), .ref (ad 6), .int (zI R_used), .ref (ad 7), .int (zI R_many), .ref (ad 8), .ref (ad 9), .ref (ad 10), .ref (ad 11), .ref (ad 12), .ref (ad 13), .ref (ad 14), .ref (ad 15), .ref (ad 16), .int (zI R_values_433), .ref (ad 17), .int (zI R_textEnd), .ref (ad 18), .ref (ad 19), .ref (ad 20), .ref (ad 21), .int (zI R_dataEnd), .ref (ad 22), .int (zI R_rowEnd), .ref (ad 23), .ref (ad 24), .int (zI R_rowMany), .ref (ad 25), .ref (ad 26), .ref (ad 27), .ref (ad 28), .int (zI R_waiting), .int (zI R_mostWaiting), .int (zI R_answer), .int (zI R_steps), .int (zI R_memory), .int (zI R_maxSteps), .int (zI R_maxMemory), .int (zI R_fault), .int (zI R_result), .int (zI R_now), .int (zI R_nowRow), .int (zI R_come), .ref (ad 29), .ref (ad 30), .int (zI R_puts), .ref (ad 31)])), (ad 8, .inl (cI, 3700, .inl (zA R_valueKinds_434))), (ad 9, .inl (cL, 3700, .inr (.inl (zB R_valueNumbers_435)))), (ad 14, .inl (cI, 3700, .inl (zA R_given_436)))]) X (jrunV X (c_Mod_make (ad := ad) q437) jF0_k (fun _ _ _ _ => trivial) (jgV own_Mod_sums (by decide +kernel)) rfl rfl rfl pd_Mod_make (by decide) [0, 1, 2, 3] rfl (by decide) 0 10 rfl rfl rfl rfl (Nat.le_of_ble_eq_true rfl) d_Mod_sums_380 (by decide)) [0, 1, 2, 3] [] [0, 1, 2, 3] rfl rfl (by decide) (by decide) rfl (by decide) ?_
                          cases h
                          exact J_ret E ⟨_, rfl, rfl⟩ d_Mod_sums_383 (Nat.le_refl _) (Nat.le_refl _) rfl
                        · refine J_lload X d_Mod_sums_373 4 rfl ?_
                          refine J_goto (tgt := 379) X d_Mod_sums_375 (by decide) ?_
                          refine J_ladd X d_Mod_sums_379 ?_
                          obtain ⟨r438, R_values_439, R_valueKinds_440, R_valueNumbers_441, R_given_442, q443, h⟩ := wk_b5 h
                          refine J_afterI0 (ws' := [(ad 0, .inr (10, [.int (zI R_thrown), .ref (ad 1), .ref (ad 2), .ref (ad 3), .ref (ad 4), .ref (ad 5), .ref (ad 6), .int (zI R_used), .ref (ad 7), .int (zI R_many), .ref (ad 8), .ref (ad 9), .ref (ad 10), .ref (ad 11), .ref (ad 12), .ref (ad 13), .ref (ad 14), .ref (ad 15), .ref (ad 16), .int (zI R_values_439), .ref (ad 17), .int (zI R_textEnd), .ref (ad 18), .ref (ad 19), .ref (ad 20), .ref (ad 21), .int (zI R_dataEnd), .ref (ad 22), .int (zI R_rowEnd), .ref (ad 23), .ref (ad 24), .int (zI R_rowMany), .ref (ad 25), .ref (ad 26), .ref (ad 27), .ref (ad 28), .int (zI R_waiting), .int (zI R_mostWaiting), .int (zI R_answer), .int (zI R_steps), .int (zI R_memory), .int (zI R_maxSteps), .int (zI R_maxMemory), .int (zI R_fault), .int (zI R_result), .int (zI R_now), .int (zI R_nowRow), .int (zI R_come), .ref (ad 29), .ref (ad 30), .int (zI R_puts), .ref (ad 31)])), (ad 8, .inl (cI, 3700, .inl (zA R_valueKinds_440))), (ad 9, .inl (cL, 3700, .inr (.inl (zB R_valueNumbers_441)))), (ad 14, .inl (cI, 3700, .inl (zA R_given_442)))]) X (jrunV X (c_Mod_make (ad := ad) q443) jF0_k (fun _ _ _ _ => trivial) (jgV own_Mod_sums (by decide +kernel)) rfl rfl rfl pd_Mod_make (by decide) [0, 1, 2, 3] rfl (by decide) 0 10 rfl rfl rfl rfl (Nat.le_of_ble_eq_true rfl) d_Mod_sums_380 (by decide)) [0, 1, 2, 3] [] [0, 1, 2, 3] rfl rfl (by decide) (by decide) rfl (by decide) ?_
                          cases h
                          exact J_ret E ⟨_, rfl, rfl⟩ d_Mod_sums_383 (Nat.le_refl _) (Nat.le_refl _) rfl
                      · refine J_iconst X d_Mod_sums_365 ?_
                        refine J_goto (tgt := 370) X d_Mod_sums_366 (by decide) ?_
                        refine J_icmp_eq (tgt := 378) X d_Mod_sums_370 (by decide) h (fun c444 h => ?_) (fun c444 h => ?_)
                        · refine J_lconst (v := 0) X d_Mod_sums_378 (by decide) ?_
                          refine J_ladd X d_Mod_sums_379 ?_
                          obtain ⟨r445, R_values_446, R_valueKinds_447, R_valueNumbers_448, R_given_449, q450, h⟩ := wk_b5 h
                          refine J_afterI0 (ws' := [(ad 0, .inr (10, [.int (zI R_thrown), .ref (ad 1), .ref (ad 2), .ref (ad 3), .ref (ad 4), .ref (ad 5), .ref (ad 6), .int (zI R_used), .ref (ad 7), .int (zI R_many), .ref (ad 8), .ref (ad 9), .ref (ad 10), .ref (ad 11), .ref (ad 12), .ref (ad 13), .ref (ad 14), .ref (ad 15), .ref (ad 16), .int (zI R_values_446), .ref (ad 17), .int (zI R_textEnd), .ref (ad 18), .ref (ad 19), .ref (ad 20), .ref (ad 21), .int (zI R_dataEnd), .ref (ad 22), .int (zI R_rowEnd), .ref (ad 23), .ref (ad 24), .int (zI R_rowMany), .ref (ad 25), .ref (ad 26), .ref (ad 27), .ref (ad 28), .int (zI R_waiting), .int (zI R_mostWaiting), .int (zI R_answer), .int (zI R_steps), .int (zI R_memory), .int (zI R_maxSteps), .int (zI R_maxMemory), .int (zI R_fault), .int (zI R_result), .int (zI R_now), .int (zI R_nowRow), .int (zI R_come), .ref (ad 29), .ref (ad 30), .int (zI R_puts), .ref (ad 31)])), (ad 8, .inl (cI, 3700, .inl (zA R_valueKinds_447))), (ad 9, .inl (cL, 3700, .inr (.inl (zB R_valueNumbers_448)))), (ad 14, .inl (cI, 3700, .inl (zA R_given_449)))]) X (jrunV X (c_Mod_make (ad := ad) q450) jF0_k (fun _ _ _ _ => trivial) (jgV own_Mod_sums (by decide +kernel)) rfl rfl rfl pd_Mod_make (by decide) [0, 1, 2, 3] rfl (by decide) 0 10 rfl rfl rfl rfl (Nat.le_of_ble_eq_true rfl) d_Mod_sums_380 (by decide)) [0, 1, 2, 3] [] [0, 1, 2, 3] rfl rfl (by decide) (by decide) rfl (by decide) ?_
                          cases h
                          exact J_ret E ⟨_, rfl, rfl⟩ d_Mod_sums_383 (Nat.le_refl _) (Nat.le_refl _) rfl
                        · refine J_lload X d_Mod_sums_373 4 rfl ?_
                          refine J_goto (tgt := 379) X d_Mod_sums_375 (by decide) ?_
                          refine J_ladd X d_Mod_sums_379 ?_
                          obtain ⟨r451, R_values_452, R_valueKinds_453, R_valueNumbers_454, R_given_455, q456, h⟩ := wk_b5 h
                          refine J_afterI0 (ws' := [(ad 0, .inr (10, [.int (zI R_thrown), .ref (ad 1), .ref (ad 2), .ref (ad 3), .ref (ad 4), .ref (ad 5), .ref (ad 6), .int (zI R_used), .ref (ad 7), .int (zI R_many), .ref (ad 8), .ref (ad 9), .ref (ad 10), .ref (ad 11), .ref (ad 12), .ref (ad 13), .ref (ad 14), .ref (ad 15), .ref (ad 16), .int (zI R_values_452), .ref (ad 17), .int (zI R_textEnd), .ref (ad 18), .ref (ad 19), .ref (ad 20), .ref (ad 21), .int (zI R_dataEnd), .ref (ad 22), .int (zI R_rowEnd), .ref (ad 23), .ref (ad 24), .int (zI R_rowMany), .ref (ad 25), .ref (ad 26), .ref (ad 27), .ref (ad 28), .int (zI R_waiting), .int (zI R_mostWaiting), .int (zI R_answer), .int (zI R_steps), .int (zI R_memory), .int (zI R_maxSteps), .int (zI R_maxMemory), .int (zI R_fault), .int (zI R_result), .int (zI R_now), .int (zI R_nowRow), .int (zI R_come), .ref (ad 29), .ref (ad 30), .int (zI R_puts), .ref (ad 31)])), (ad 8, .inl (cI, 3700, .inl (zA R_valueKinds_453))), (ad 9, .inl (cL, 3700, .inr (.inl (zB R_valueNumbers_454)))), (ad 14, .inl (cI, 3700, .inl (zA R_given_455)))]) X (jrunV X (c_Mod_make (ad := ad) q456) jF0_k (fun _ _ _ _ => trivial) (jgV own_Mod_sums (by decide +kernel)) rfl rfl rfl pd_Mod_make (by decide) [0, 1, 2, 3] rfl (by decide) 0 10 rfl rfl rfl rfl (Nat.le_of_ble_eq_true rfl) d_Mod_sums_380 (by decide)) [0, 1, 2, 3] [] [0, 1, 2, 3] rfl rfl (by decide) (by decide) rfl (by decide) ?_
                          cases h
                          exact J_ret E ⟨_, rfl, rfl⟩ d_Mod_sums_383 (Nat.le_refl _) (Nat.le_refl _) rfl
                · refine J_aload_n X d_Mod_sums_315 rfl 1 rfl ?_
                  refine J_iconst X d_Mod_sums_316 ?_
                  obtain ⟨r457, R_fault_458, q459, h⟩ := wk_b2 h
                  refine J_afterI0 (ws' := [(ad 0, .inr (10, [.int (zI R_thrown), .ref (ad 1), .ref (ad 2), .ref (ad 3), .ref (ad 4), .ref (ad 5), .ref (ad 6), .int (zI R_used), .ref (ad 7), .int (zI R_many), .ref (ad 8), .ref (ad 9), .ref (ad 10), .ref (ad 11), .ref (ad 12), .ref (ad 13), .ref (ad 14), .ref (ad 15), .ref (ad 16), .int (zI R_values), .ref (ad 17), .int (zI R_textEnd), .ref (ad 18), .ref (ad 19), .ref (ad 20), .ref (ad 21), .int (zI R_dataEnd), .ref (ad 22), .int (zI R_rowEnd), .ref (ad 23), .ref (ad 24), .int (zI R_rowMany), .ref (ad 25), .ref (ad 26), .ref (ad 27), .ref (ad 28), .int (zI R_waiting), .int (zI R_mostWaiting), .int (zI R_answer), .int (zI R_steps), .int (zI R_memory), .int (zI R_maxSteps), .int (zI R_maxMemory), .int (zI R_fault_458), .int (zI R_result), .int (zI R_now), .int (zI R_nowRow), .int (zI R_come), .ref (ad 29), .ref (ad 30), .int (zI R_puts), .ref (ad 31)])), (ad 8, .inl (cI, 3700, .inl (zA R_valueKinds))), (ad 9, .inl (cL, 3700, .inr (.inl (zB R_valueNumbers)))), (ad 14, .inl (cI, 3700, .inl (zA R_given)))]) X (jrunV X (c_Mod_fail (ad := ad) q459) jF0_k (fun _ _ _ _ => trivial) (jgV own_Mod_sums (by decide +kernel)) rfl rfl rfl pd_Mod_fail (by decide) [0] rfl (by decide) 0 10 rfl rfl rfl rfl (Nat.le_of_ble_eq_true rfl) d_Mod_sums_317 (by decide)) [0] [1, 2, 3] [3, 0, 1, 2] rfl rfl (by decide) (by decide) rfl (by decide) ?_
                  refine J_goto (tgt := 383) X d_Mod_sums_320 (by decide) ?_
                  cases h
                  exact J_ret E ⟨_, rfl, rfl⟩ d_Mod_sums_383 (Nat.le_refl _) (Nat.le_refl _) rfl
              · rcases wk_c h with ⟨c460, h⟩ | ⟨c460, h⟩
                · refine J_tsIn (tgt := 384) X 5 c460 g264 d_Mod_sums_25 (by decide) (by decide) rfl (by decide) ?_
                  refine J_lload X d_Mod_sums_384 4 rfl ?_
                  refine J_lconst (v := 0) X d_Mod_sums_386 (by decide) ?_
                  refine J_lc_eq (tgt := 396) X d_Mod_sums_387 d_Mod_sums_388 (by decide) h (fun c461 h => ?_) (fun c461 h => ?_)
                  · refine J_aload_n X d_Mod_sums_396 rfl 1 rfl ?_
                    refine J_iconst X d_Mod_sums_397 ?_
                    obtain ⟨r462, R_fault_463, q464, h⟩ := wk_b2 h
                    refine J_afterI0 (ws' := [(ad 0, .inr (10, [.int (zI R_thrown), .ref (ad 1), .ref (ad 2), .ref (ad 3), .ref (ad 4), .ref (ad 5), .ref (ad 6), .int (zI R_used), .ref (ad 7), .int (zI R_many), .ref (ad 8), .ref (ad 9), .ref (ad 10), .ref (ad 11), .ref (ad 12), .ref (ad 13), .ref (ad 14), .ref (ad 15), .ref (ad 16), .int (zI R_values), .ref (ad 17), .int (zI R_textEnd), .ref (ad 18), .ref (ad 19), .ref (ad 20), .ref (ad 21), .int (zI R_dataEnd), .ref (ad 22), .int (zI R_rowEnd), .ref (ad 23), .ref (ad 24), .int (zI R_rowMany), .ref (ad 25), .ref (ad 26), .ref (ad 27), .ref (ad 28), .int (zI R_waiting), .int (zI R_mostWaiting), .int (zI R_answer), .int (zI R_steps), .int (zI R_memory), .int (zI R_maxSteps), .int (zI R_maxMemory), .int (zI R_fault_463), .int (zI R_result), .int (zI R_now), .int (zI R_nowRow), .int (zI R_come), .ref (ad 29), .ref (ad 30), .int (zI R_puts), .ref (ad 31)])), (ad 8, .inl (cI, 3700, .inl (zA R_valueKinds))), (ad 9, .inl (cL, 3700, .inr (.inl (zB R_valueNumbers)))), (ad 14, .inl (cI, 3700, .inl (zA R_given)))]) X (jrunV X (c_Mod_fail (ad := ad) q464) jF0_k (fun _ _ _ _ => trivial) (jgV own_Mod_sums (by decide +kernel)) rfl rfl rfl pd_Mod_fail (by decide) [0] rfl (by decide) 0 10 rfl rfl rfl rfl (Nat.le_of_ble_eq_true rfl) d_Mod_sums_398 (by decide)) [0] [1, 2, 3] [3, 0, 1, 2] rfl rfl (by decide) (by decide) rfl (by decide) ?_
                    refine J_goto (tgt := 413) X d_Mod_sums_401 (by decide) ?_
                    cases h
                    exact J_ret E ⟨_, rfl, rfl⟩ d_Mod_sums_413 (Nat.le_refl _) (Nat.le_refl _) rfl
                  · refine J_iload X d_Mod_sums_391 0 rfl ?_
                    refine J_if_eq (pa := some ()) (pb := none) (o := ()) (tgt := 404) X d_Mod_sums_393 (by decide) (by decide) (fun _ _ => ?_) (fun _ h => by cases h)
                    refine J_aload_n X d_Mod_sums_404 rfl 1 rfl ?_
                    refine J_iconst X d_Mod_sums_405 ?_
                    refine J_lload_n X d_Mod_sums_406 rfl 3 rfl ?_
                    refine J_lload X d_Mod_sums_407 4 rfl ?_
                    obtain ⟨g465, h⟩ := wk_g h
                    refine J_ldiv X g465 d_Mod_sums_409 ?_
                    obtain ⟨r466, R_values_467, R_valueKinds_468, R_valueNumbers_469, R_given_470, q471, h⟩ := wk_b5 h
                    refine J_afterI0 (ws' := [(ad 0, .inr (10, [.int (zI R_thrown), .ref (ad 1), .ref (ad 2), .ref (ad 3), .ref (ad 4), .ref (ad 5), .ref (ad 6), .int (zI R_used), .ref (ad 7), .int (zI R_many), .ref (ad 8), .ref (ad 9), .ref (ad 10), .ref (ad 11), .ref (ad 12), .ref (ad 13), .ref (ad 14), .ref (ad 15), .ref (ad 16), .int (zI R_values_467), .ref (ad 17), .int (zI R_textEnd), .ref (ad 18), .ref (ad 19), .ref (ad 20), .ref (ad 21), .int (zI R_dataEnd), .ref (ad 22), .int (zI R_rowEnd), .ref (ad 23), .ref (ad 24), .int (zI R_rowMany), .ref (ad 25), .ref (ad 26), .ref (ad 27), .ref (ad 28), .int (zI R_waiting), .int (zI R_mostWaiting), .int (zI R_answer), .int (zI R_steps), .int (zI R_memory), .int (zI R_maxSteps), .int (zI R_maxMemory), .int (zI R_fault), .int (zI R_result), .int (zI R_now), .int (zI R_nowRow), .int (zI R_come), .ref (ad 29), .ref (ad 30), .int (zI R_puts), .ref (ad 31)])), (ad 8, .inl (cI, 3700, .inl (zA R_valueKinds_468))), (ad 9, .inl (cL, 3700, .inr (.inl (zB R_valueNumbers_469)))), (ad 14, .inl (cI, 3700, .inl (zA R_given_470)))]) X (jrunV X (c_Mod_make (ad := ad) q471) jF0_k (fun _ _ _ _ => trivial) (jgV own_Mod_sums (by decide +kernel)) rfl rfl rfl pd_Mod_make (by decide) [0, 1, 2, 3] rfl (by decide) 0 10 rfl rfl rfl rfl (Nat.le_of_ble_eq_true rfl) d_Mod_sums_410 (by decide)) [0, 1, 2, 3] [] [0, 1, 2, 3] rfl rfl (by decide) (by decide) rfl (by decide) ?_
                    cases h
                    exact J_ret E ⟨_, rfl, rfl⟩ d_Mod_sums_413 (Nat.le_refl _) (Nat.le_refl _) rfl
                · rcases wk_c h with ⟨c472, h⟩ | ⟨c472, h⟩
                  · refine J_tsIn (tgt := 414) X 6 c472 g264 d_Mod_sums_25 (by decide) (by decide) rfl (by decide) ?_
                    refine J_lload X d_Mod_sums_414 4 rfl ?_
                    refine J_lconst (v := 0) X d_Mod_sums_416 (by decide) ?_
                    refine J_lc_ne (tgt := 429) X d_Mod_sums_417 d_Mod_sums_418 (by decide) h (fun c473 h => ?_) (fun c473 h => ?_)
                    · refine J_aload_n X d_Mod_sums_429 rfl 1 rfl ?_
                      refine J_iconst X d_Mod_sums_430 ?_
                      refine J_iload X d_Mod_sums_431 0 rfl ?_
                      refine J_if_eq (pa := some ()) (pb := none) (o := ()) (tgt := 440) X d_Mod_sums_433 (by decide) (by decide) (fun _ _ => ?_) (fun _ h => by cases h)
                      refine J_lload_n X d_Mod_sums_440 rfl 3 rfl ?_
                      refine J_lload X d_Mod_sums_441 4 rfl ?_
                      obtain ⟨g474, h⟩ := wk_g h
                      refine J_lrem X g474 d_Mod_sums_443 ?_
                      obtain ⟨r475, R_values_476, R_valueKinds_477, R_valueNumbers_478, R_given_479, q480, h⟩ := wk_b5 h
                      refine J_afterI0 (ws' := [(ad 0, .inr (10, [.int (zI R_thrown), .ref (ad 1), .ref (ad 2), .ref (ad 3), .ref (ad 4), .ref (ad 5), .ref (ad 6), .int (zI R_used), .ref (ad 7), .int (zI R_many), .ref (ad 8), .ref (ad 9), .ref (ad 10), .ref (ad 11), .ref (ad 12), .ref (ad 13), .ref (ad 14), .ref (ad 15), .ref (ad 16), .int (zI R_values_476), .ref (ad 17), .int (zI R_textEnd), .ref (ad 18), .ref (ad 19), .ref (ad 20), .ref (ad 21), .int (zI R_dataEnd), .ref (ad 22), .int (zI R_rowEnd), .ref (ad 23), .ref (ad 24), .int (zI R_rowMany), .ref (ad 25), .ref (ad 26), .ref (ad 27), .ref (ad 28), .int (zI R_waiting), .int (zI R_mostWaiting), .int (zI R_answer), .int (zI R_steps), .int (zI R_memory), .int (zI R_maxSteps), .int (zI R_maxMemory), .int (zI R_fault), .int (zI R_result), .int (zI R_now), .int (zI R_nowRow), .int (zI R_come), .ref (ad 29), .ref (ad 30), .int (zI R_puts), .ref (ad 31)])), (ad 8, .inl (cI, 3700, .inl (zA R_valueKinds_477))), (ad 9, .inl (cL, 3700, .inr (.inl (zB R_valueNumbers_478)))), (ad 14, .inl (cI, 3700, .inl (zA R_given_479)))]) X (jrunV X (c_Mod_make (ad := ad) q480) jF0_k (fun _ _ _ _ => trivial) (jgV own_Mod_sums (by decide +kernel)) rfl rfl rfl pd_Mod_make (by decide) [0, 1, 2, 3] rfl (by decide) 0 10 rfl rfl rfl rfl (Nat.le_of_ble_eq_true rfl) d_Mod_sums_444 (by decide)) [0, 1, 2, 3] [] [0, 1, 2, 3] rfl rfl (by decide) (by decide) rfl (by decide) ?_
                      cases h
                      exact J_ret E ⟨_, rfl, rfl⟩ d_Mod_sums_447 (Nat.le_refl _) (Nat.le_refl _) rfl
                    · refine J_aload_n X d_Mod_sums_421 rfl 1 rfl ?_
                      refine J_iconst X d_Mod_sums_422 ?_
                      obtain ⟨r481, R_fault_482, q483, h⟩ := wk_b2 h
                      refine J_afterI0 (ws' := [(ad 0, .inr (10, [.int (zI R_thrown), .ref (ad 1), .ref (ad 2), .ref (ad 3), .ref (ad 4), .ref (ad 5), .ref (ad 6), .int (zI R_used), .ref (ad 7), .int (zI R_many), .ref (ad 8), .ref (ad 9), .ref (ad 10), .ref (ad 11), .ref (ad 12), .ref (ad 13), .ref (ad 14), .ref (ad 15), .ref (ad 16), .int (zI R_values), .ref (ad 17), .int (zI R_textEnd), .ref (ad 18), .ref (ad 19), .ref (ad 20), .ref (ad 21), .int (zI R_dataEnd), .ref (ad 22), .int (zI R_rowEnd), .ref (ad 23), .ref (ad 24), .int (zI R_rowMany), .ref (ad 25), .ref (ad 26), .ref (ad 27), .ref (ad 28), .int (zI R_waiting), .int (zI R_mostWaiting), .int (zI R_answer), .int (zI R_steps), .int (zI R_memory), .int (zI R_maxSteps), .int (zI R_maxMemory), .int (zI R_fault_482), .int (zI R_result), .int (zI R_now), .int (zI R_nowRow), .int (zI R_come), .ref (ad 29), .ref (ad 30), .int (zI R_puts), .ref (ad 31)])), (ad 8, .inl (cI, 3700, .inl (zA R_valueKinds))), (ad 9, .inl (cL, 3700, .inr (.inl (zB R_valueNumbers)))), (ad 14, .inl (cI, 3700, .inl (zA R_given)))]) X (jrunV X (c_Mod_fail (ad := ad) q483) jF0_k (fun _ _ _ _ => trivial) (jgV own_Mod_sums (by decide +kernel)) rfl rfl rfl pd_Mod_fail (by decide) [0] rfl (by decide) 0 10 rfl rfl rfl rfl (Nat.le_of_ble_eq_true rfl) d_Mod_sums_423 (by decide)) [0] [1, 2, 3] [3, 0, 1, 2] rfl rfl (by decide) (by decide) rfl (by decide) ?_
                      refine J_goto (tgt := 447) X d_Mod_sums_426 (by decide) ?_
                      cases h
                      exact J_ret E ⟨_, rfl, rfl⟩ d_Mod_sums_447 (Nat.le_refl _) (Nat.le_refl _) rfl
                  · rcases wk_c h with ⟨c484, h⟩ | ⟨c484, h⟩
                    · refine J_tsIn (tgt := 448) X 7 c484 g264 d_Mod_sums_25 (by decide) (by decide) rfl (by decide) ?_
                      refine J_aload_n X d_Mod_sums_448 rfl 1 rfl ?_
                      refine J_lload_n X d_Mod_sums_449 rfl 3 rfl ?_
                      refine J_lload X d_Mod_sums_450 4 rfl ?_
                      refine J_lc_ne (tgt := 460) X d_Mod_sums_452 d_Mod_sums_453 (by decide) h (fun c485 h => ?_) (fun c485 h => ?_)
                      · refine J_iconst X d_Mod_sums_460 ?_
                        obtain ⟨r486, R_values_487, R_valueKinds_488, R_valueNumbers_489, R_given_490, q491, h⟩ := wk_b5 h
                        refine J_afterI0 (ws' := [(ad 0, .inr (10, [.int (zI R_thrown), .ref (ad 1), .ref (ad 2), .ref (ad 3), .ref (ad 4), .ref (ad 5), .ref (ad 6), .int (zI R_used), .ref (ad 7), .int (zI R_many), .ref (ad 8), .ref (ad 9), .ref (ad 10), .ref (ad 11), .ref (ad 12), .ref (ad 13), .ref (ad 14), .ref (ad 15), .ref (ad 16), .int (zI R_values_487), .ref (ad 17), .int (zI R_textEnd), .ref (ad 18), .ref (ad 19), .ref (ad 20), .ref (ad 21), .int (zI R_dataEnd), .ref (ad 22), .int (zI R_rowEnd), .ref (ad 23), .ref (ad 24), .int (zI R_rowMany), .ref (ad 25), .ref (ad 26), .ref (ad 27), .ref (ad 28), .int (zI R_waiting), .int (zI R_mostWaiting), .int (zI R_answer), .int (zI R_steps), .int (zI R_memory), .int (zI R_maxSteps), .int (zI R_maxMemory), .int (zI R_fault), .int (zI R_result), .int (zI R_now), .int (zI R_nowRow), .int (zI R_come), .ref (ad 29), .ref (ad 30), .int (zI R_puts), .ref (ad 31)])), (ad 8, .inl (cI, 3700, .inl (zA R_valueKinds_488))), (ad 9, .inl (cL, 3700, .inr (.inl (zB R_valueNumbers_489)))), (ad 14, .inl (cI, 3700, .inl (zA R_given_490)))]) X (jrunV X (c_Mod_truth (ad := ad) q491) jF0_k (fun _ _ _ _ => trivial) (jgV own_Mod_sums (by decide +kernel)) rfl rfl rfl pd_Mod_truth (by decide) [0, 1, 2, 3] rfl (by decide) 0 10 rfl rfl rfl rfl (Nat.le_of_ble_eq_true rfl) d_Mod_sums_461 (by decide)) [0, 1, 2, 3] [] [0, 1, 2, 3] rfl rfl (by decide) (by decide) rfl (by decide) ?_
                        cases h
                        exact J_ret E ⟨_, rfl, rfl⟩ d_Mod_sums_464 (Nat.le_refl _) (Nat.le_refl _) rfl
                      · refine J_iconst X d_Mod_sums_456 ?_
                        refine J_goto (tgt := 461) X d_Mod_sums_457 (by decide) ?_
                        obtain ⟨r492, R_values_493, R_valueKinds_494, R_valueNumbers_495, R_given_496, q497, h⟩ := wk_b5 h
                        refine J_afterI0 (ws' := [(ad 0, .inr (10, [.int (zI R_thrown), .ref (ad 1), .ref (ad 2), .ref (ad 3), .ref (ad 4), .ref (ad 5), .ref (ad 6), .int (zI R_used), .ref (ad 7), .int (zI R_many), .ref (ad 8), .ref (ad 9), .ref (ad 10), .ref (ad 11), .ref (ad 12), .ref (ad 13), .ref (ad 14), .ref (ad 15), .ref (ad 16), .int (zI R_values_493), .ref (ad 17), .int (zI R_textEnd), .ref (ad 18), .ref (ad 19), .ref (ad 20), .ref (ad 21), .int (zI R_dataEnd), .ref (ad 22), .int (zI R_rowEnd), .ref (ad 23), .ref (ad 24), .int (zI R_rowMany), .ref (ad 25), .ref (ad 26), .ref (ad 27), .ref (ad 28), .int (zI R_waiting), .int (zI R_mostWaiting), .int (zI R_answer), .int (zI R_steps), .int (zI R_memory), .int (zI R_maxSteps), .int (zI R_maxMemory), .int (zI R_fault), .int (zI R_result), .int (zI R_now), .int (zI R_nowRow), .int (zI R_come), .ref (ad 29), .ref (ad 30), .int (zI R_puts), .ref (ad 31)])), (ad 8, .inl (cI, 3700, .inl (zA R_valueKinds_494))), (ad 9, .inl (cL, 3700, .inr (.inl (zB R_valueNumbers_495)))), (ad 14, .inl (cI, 3700, .inl (zA R_given_496)))]) X (jrunV X (c_Mod_truth (ad := ad) q497) jF0_k (fun _ _ _ _ => trivial) (jgV own_Mod_sums (by decide +kernel)) rfl rfl rfl pd_Mod_truth (by decide) [0, 1, 2, 3] rfl (by decide) 0 10 rfl rfl rfl rfl (Nat.le_of_ble_eq_true rfl) d_Mod_sums_461 (by decide)) [0, 1, 2, 3] [] [0, 1, 2, 3] rfl rfl (by decide) (by decide) rfl (by decide) ?_
                        cases h
                        exact J_ret E ⟨_, rfl, rfl⟩ d_Mod_sums_464 (Nat.le_refl _) (Nat.le_refl _) rfl
                    · rcases wk_c h with ⟨c498, h⟩ | ⟨c498, h⟩
                      · refine J_tsIn (tgt := 465) X 8 c498 g264 d_Mod_sums_25 (by decide) (by decide) rfl (by decide) ?_
                        refine J_aload_n X d_Mod_sums_465 rfl 1 rfl ?_
                        refine J_lload_n X d_Mod_sums_466 rfl 3 rfl ?_
                        refine J_lload X d_Mod_sums_467 4 rfl ?_
                        refine J_lc_ge (tgt := 477) X d_Mod_sums_469 d_Mod_sums_470 (by decide) h (fun c499 h => ?_) (fun c499 h => ?_)
                        · refine J_iconst X d_Mod_sums_477 ?_
                          obtain ⟨r500, R_values_501, R_valueKinds_502, R_valueNumbers_503, R_given_504, q505, h⟩ := wk_b5 h
                          refine J_afterI0 (ws' := [(ad 0, .inr (10, [.int (zI R_thrown), .ref (ad 1), .ref (ad 2), .ref (ad 3), .ref (ad 4), .ref (ad 5), .ref (ad 6), .int (zI R_used), .ref (ad 7), .int (zI R_many), .ref (ad 8), .ref (ad 9), .ref (ad 10), .ref (ad 11), .ref (ad 12), .ref (ad 13), .ref (ad 14), .ref (ad 15), .ref (ad 16), .int (zI R_values_501), .ref (ad 17), .int (zI R_textEnd), .ref (ad 18), .ref (ad 19), .ref (ad 20), .ref (ad 21), .int (zI R_dataEnd), .ref (ad 22), .int (zI R_rowEnd), .ref (ad 23), .ref (ad 24), .int (zI R_rowMany), .ref (ad 25), .ref (ad 26), .ref (ad 27), .ref (ad 28), .int (zI R_waiting), .int (zI R_mostWaiting), .int (zI R_answer), .int (zI R_steps), .int (zI R_memory), .int (zI R_maxSteps), .int (zI R_maxMemory), .int (zI R_fault), .int (zI R_result), .int (zI R_now), .int (zI R_nowRow), .int (zI R_come), .ref (ad 29), .ref (ad 30), .int (zI R_puts), .ref (ad 31)])), (ad 8, .inl (cI, 3700, .inl (zA R_valueKinds_502))), (ad 9, .inl (cL, 3700, .inr (.inl (zB R_valueNumbers_503)))), (ad 14, .inl (cI, 3700, .inl (zA R_given_504)))]) X (jrunV X (c_Mod_truth (ad := ad) q505) jF0_k (fun _ _ _ _ => trivial) (jgV own_Mod_sums (by decide +kernel)) rfl rfl rfl pd_Mod_truth (by decide) [0, 1, 2, 3] rfl (by decide) 0 10 rfl rfl rfl rfl (Nat.le_of_ble_eq_true rfl) d_Mod_sums_478 (by decide)) [0, 1, 2, 3] [] [0, 1, 2, 3] rfl rfl (by decide) (by decide) rfl (by decide) ?_
                          cases h
                          exact J_ret E ⟨_, rfl, rfl⟩ d_Mod_sums_481 (Nat.le_refl _) (Nat.le_refl _) rfl
                        · refine J_iconst X d_Mod_sums_473 ?_
                          refine J_goto (tgt := 478) X d_Mod_sums_474 (by decide) ?_
                          obtain ⟨r506, R_values_507, R_valueKinds_508, R_valueNumbers_509, R_given_510, q511, h⟩ := wk_b5 h
                          refine J_afterI0 (ws' := [(ad 0, .inr (10, [.int (zI R_thrown), .ref (ad 1), .ref (ad 2), .ref (ad 3), .ref (ad 4), .ref (ad 5), .ref (ad 6), .int (zI R_used), .ref (ad 7), .int (zI R_many), .ref (ad 8), .ref (ad 9), .ref (ad 10), .ref (ad 11), .ref (ad 12), .ref (ad 13), .ref (ad 14), .ref (ad 15), .ref (ad 16), .int (zI R_values_507), .ref (ad 17), .int (zI R_textEnd), .ref (ad 18), .ref (ad 19), .ref (ad 20), .ref (ad 21), .int (zI R_dataEnd), .ref (ad 22), .int (zI R_rowEnd), .ref (ad 23), .ref (ad 24), .int (zI R_rowMany), .ref (ad 25), .ref (ad 26), .ref (ad 27), .ref (ad 28), .int (zI R_waiting), .int (zI R_mostWaiting), .int (zI R_answer), .int (zI R_steps), .int (zI R_memory), .int (zI R_maxSteps), .int (zI R_maxMemory), .int (zI R_fault), .int (zI R_result), .int (zI R_now), .int (zI R_nowRow), .int (zI R_come), .ref (ad 29), .ref (ad 30), .int (zI R_puts), .ref (ad 31)])), (ad 8, .inl (cI, 3700, .inl (zA R_valueKinds_508))), (ad 9, .inl (cL, 3700, .inr (.inl (zB R_valueNumbers_509)))), (ad 14, .inl (cI, 3700, .inl (zA R_given_510)))]) X (jrunV X (c_Mod_truth (ad := ad) q511) jF0_k (fun _ _ _ _ => trivial) (jgV own_Mod_sums (by decide +kernel)) rfl rfl rfl pd_Mod_truth (by decide) [0, 1, 2, 3] rfl (by decide) 0 10 rfl rfl rfl rfl (Nat.le_of_ble_eq_true rfl) d_Mod_sums_478 (by decide)) [0, 1, 2, 3] [] [0, 1, 2, 3] rfl rfl (by decide) (by decide) rfl (by decide) ?_
                          cases h
                          exact J_ret E ⟨_, rfl, rfl⟩ d_Mod_sums_481 (Nat.le_refl _) (Nat.le_refl _) rfl
                      · refine J_tsOut (tgt := 482) X g264 d_Mod_sums_25 (by omega) (by decide) ?_
                        refine J_aload_n X d_Mod_sums_482 rfl 1 rfl ?_
                        refine J_lload_n X d_Mod_sums_483 rfl 3 rfl ?_
                        refine J_lload X d_Mod_sums_484 4 rfl ?_
                        refine J_lc_gt (tgt := 494) X d_Mod_sums_486 d_Mod_sums_487 (by decide) h (fun c512 h => ?_) (fun c512 h => ?_)
                        · refine J_iconst X d_Mod_sums_494 ?_
                          obtain ⟨r513, R_values_514, R_valueKinds_515, R_valueNumbers_516, R_given_517, q518, h⟩ := wk_b5 h
                          refine J_afterI0 (ws' := [(ad 0, .inr (10, [.int (zI R_thrown), .ref (ad 1), .ref (ad 2), .ref (ad 3), .ref (ad 4), .ref (ad 5), .ref (ad 6), .int (zI R_used), .ref (ad 7), .int (zI R_many), .ref (ad 8), .ref (ad 9), .ref (ad 10), .ref (ad 11), .ref (ad 12), .ref (ad 13), .ref (ad 14), .ref (ad 15), .ref (ad 16), .int (zI R_values_514), .ref (ad 17), .int (zI R_textEnd), .ref (ad 18), .ref (ad 19), .ref (ad 20), .ref (ad 21), .int (zI R_dataEnd), .ref (ad 22), .int (zI R_rowEnd), .ref (ad 23), .ref (ad 24), .int (zI R_rowMany), .ref (ad 25), .ref (ad 26), .ref (ad 27), .ref (ad 28), .int (zI R_waiting), .int (zI R_mostWaiting), .int (zI R_answer), .int (zI R_steps), .int (zI R_memory), .int (zI R_maxSteps), .int (zI R_maxMemory), .int (zI R_fault), .int (zI R_result), .int (zI R_now), .int (zI R_nowRow), .int (zI R_come), .ref (ad 29), .ref (ad 30), .int (zI R_puts), .ref (ad 31)])), (ad 8, .inl (cI, 3700, .inl (zA R_valueKinds_515))), (ad 9, .inl (cL, 3700, .inr (.inl (zB R_valueNumbers_516)))), (ad 14, .inl (cI, 3700, .inl (zA R_given_517)))]) X (jrunV X (c_Mod_truth (ad := ad) q518) jF0_k (fun _ _ _ _ => trivial) (jgV own_Mod_sums (by decide +kernel)) rfl rfl rfl pd_Mod_truth (by decide) [0, 1, 2, 3] rfl (by decide) 0 10 rfl rfl rfl rfl (Nat.le_of_ble_eq_true rfl) d_Mod_sums_495 (by decide)) [0, 1, 2, 3] [] [0, 1, 2, 3] rfl rfl (by decide) (by decide) rfl (by decide) ?_
                          cases h
                          exact J_ret E ⟨_, rfl, rfl⟩ d_Mod_sums_498 (Nat.le_refl _) (Nat.le_refl _) rfl
                        · refine J_iconst X d_Mod_sums_490 ?_
                          refine J_goto (tgt := 495) X d_Mod_sums_491 (by decide) ?_
                          obtain ⟨r519, R_values_520, R_valueKinds_521, R_valueNumbers_522, R_given_523, q524, h⟩ := wk_b5 h
                          refine J_afterI0 (ws' := [(ad 0, .inr (10, [.int (zI R_thrown), .ref (ad 1), .ref (ad 2), .ref (ad 3), .ref (ad 4), .ref (ad 5), .ref (ad 6), .int (zI R_used), .ref (ad 7), .int (zI R_many), .ref (ad 8), .ref (ad 9), .ref (ad 10), .ref (ad 11), .ref (ad 12), .ref (ad 13), .ref (ad 14), .ref (ad 15), .ref (ad 16), .int (zI R_values_520), .ref (ad 17), .int (zI R_textEnd), .ref (ad 18), .ref (ad 19), .ref (ad 20), .ref (ad 21), .int (zI R_dataEnd), .ref (ad 22), .int (zI R_rowEnd), .ref (ad 23), .ref (ad 24), .int (zI R_rowMany), .ref (ad 25), .ref (ad 26), .ref (ad 27), .ref (ad 28), .int (zI R_waiting), .int (zI R_mostWaiting), .int (zI R_answer), .int (zI R_steps), .int (zI R_memory), .int (zI R_maxSteps), .int (zI R_maxMemory), .int (zI R_fault), .int (zI R_result), .int (zI R_now), .int (zI R_nowRow), .int (zI R_come), .ref (ad 29), .ref (ad 30), .int (zI R_puts), .ref (ad 31)])), (ad 8, .inl (cI, 3700, .inl (zA R_valueKinds_521))), (ad 9, .inl (cL, 3700, .inr (.inl (zB R_valueNumbers_522)))), (ad 14, .inl (cI, 3700, .inl (zA R_given_523)))]) X (jrunV X (c_Mod_truth (ad := ad) q524) jF0_k (fun _ _ _ _ => trivial) (jgV own_Mod_sums (by decide +kernel)) rfl rfl rfl pd_Mod_truth (by decide) [0, 1, 2, 3] rfl (by decide) 0 10 rfl rfl rfl rfl (Nat.le_of_ble_eq_true rfl) d_Mod_sums_495 (by decide)) [0, 1, 2, 3] [] [0, 1, 2, 3] rfl rfl (by decide) (by decide) rfl (by decide) ?_
                          cases h
                          exact J_ret E ⟨_, rfl, rfl⟩ d_Mod_sums_498 (Nat.le_refl _) (Nat.le_refl _) rfl
    · refine J_iconst X d_Mod_sums_17 ?_
      refine J_goto (tgt := 22) X d_Mod_sums_18 (by decide) ?_
      refine J_istore (lv' := [(6, .int (zI 1)), (0, .ref (ad 0)), (1, .int (zI p1)), (2, .long (zL p2)), (4, .long (zL p4))]) X d_Mod_sums_22 (by decide) rfl ?_
      refine J_iload_n X d_Mod_sums_24 rfl 2 rfl ?_
      obtain ⟨g525, h⟩ := wk_g h
      rcases wk_c h with ⟨c526, h⟩ | ⟨c526, h⟩
      · refine J_tsIn (tgt := 76) X 0 c526 g525 d_Mod_sums_25 (by decide) (by decide) rfl (by decide) ?_
        refine J_lload X d_Mod_sums_76 4 rfl ?_
        refine J_lconst (v := 0) X d_Mod_sums_78 (by decide) ?_
        refine J_lc_le (tgt := 114) X d_Mod_sums_79 d_Mod_sums_80 (by decide) h (fun c527 h => ?_) (fun c527 h => ?_)
        · refine J_lload_n X d_Mod_sums_114 rfl 3 rfl ?_
          refine J_ldc2 (v := (-9223372036854775808)) (n := (-9223372036854775808)) X (j_m own_Mod_sums (by decide +kernel)) (by decide) d_Mod_sums_115 ?_
          refine J_lload X d_Mod_sums_118 4 rfl ?_
          refine J_lsub X d_Mod_sums_120 ?_
          refine J_lc_ge (tgt := 133) X d_Mod_sums_121 d_Mod_sums_122 (by decide) h (fun c528 h => ?_) (fun c528 h => ?_)
          · refine J_aload_n X d_Mod_sums_133 rfl 1 rfl ?_
            refine J_iconst X d_Mod_sums_134 ?_
            refine J_lload_n X d_Mod_sums_135 rfl 3 rfl ?_
            refine J_lload X d_Mod_sums_136 4 rfl ?_
            refine J_ladd X d_Mod_sums_138 ?_
            obtain ⟨r529, R_values_530, R_valueKinds_531, R_valueNumbers_532, R_given_533, q534, h⟩ := wk_b5 h
            refine J_afterI0 (ws' := [(ad 0, .inr (10, [.int (zI R_thrown), .ref (ad 1), .ref (ad 2), .ref (ad 3), .ref (ad 4), .ref (ad 5), .ref (ad 6), .int (zI R_used), .ref (ad 7), .int (zI R_many), .ref (ad 8), .ref (ad 9), .ref (ad 10), .ref (ad 11), .ref (ad 12), .ref (ad 13), .ref (ad 14), .ref (ad 15), .ref (ad 16), .int (zI R_values_530), .ref (ad 17), .int (zI R_textEnd), .ref (ad 18), .ref (ad 19), .ref (ad 20), .ref (ad 21), .int (zI R_dataEnd), .ref (ad 22), .int (zI R_rowEnd), .ref (ad 23), .ref (ad 24), .int (zI R_rowMany), .ref (ad 25), .ref (ad 26), .ref (ad 27), .ref (ad 28), .int (zI R_waiting), .int (zI R_mostWaiting), .int (zI R_answer), .int (zI R_steps), .int (zI R_memory), .int (zI R_maxSteps), .int (zI R_maxMemory), .int (zI R_fault), .int (zI R_result), .int (zI R_now), .int (zI R_nowRow), .int (zI R_come), .ref (ad 29), .ref (ad 30), .int (zI R_puts), .ref (ad 31)])), (ad 8, .inl (cI, 3700, .inl (zA R_valueKinds_531))), (ad 9, .inl (cL, 3700, .inr (.inl (zB R_valueNumbers_532)))), (ad 14, .inl (cI, 3700, .inl (zA R_given_533)))]) X (jrunV X (c_Mod_make (ad := ad) q534) jF0_k (fun _ _ _ _ => trivial) (jgV own_Mod_sums (by decide +kernel)) rfl rfl rfl pd_Mod_make (by decide) [0, 1, 2, 3] rfl (by decide) 0 10 rfl rfl rfl rfl (Nat.le_of_ble_eq_true rfl) d_Mod_sums_139 (by decide)) [0, 1, 2, 3] [] [0, 1, 2, 3] rfl rfl (by decide) (by decide) rfl (by decide) ?_
            cases h
            exact J_ret E ⟨_, rfl, rfl⟩ d_Mod_sums_142 (Nat.le_refl _) (Nat.le_refl _) rfl
          · refine J_aload_n X d_Mod_sums_125 rfl 1 rfl ?_
            refine J_iconst X d_Mod_sums_126 ?_
            obtain ⟨r535, R_fault_536, q537, h⟩ := wk_b2 h
            refine J_afterI0 (ws' := [(ad 0, .inr (10, [.int (zI R_thrown), .ref (ad 1), .ref (ad 2), .ref (ad 3), .ref (ad 4), .ref (ad 5), .ref (ad 6), .int (zI R_used), .ref (ad 7), .int (zI R_many), .ref (ad 8), .ref (ad 9), .ref (ad 10), .ref (ad 11), .ref (ad 12), .ref (ad 13), .ref (ad 14), .ref (ad 15), .ref (ad 16), .int (zI R_values), .ref (ad 17), .int (zI R_textEnd), .ref (ad 18), .ref (ad 19), .ref (ad 20), .ref (ad 21), .int (zI R_dataEnd), .ref (ad 22), .int (zI R_rowEnd), .ref (ad 23), .ref (ad 24), .int (zI R_rowMany), .ref (ad 25), .ref (ad 26), .ref (ad 27), .ref (ad 28), .int (zI R_waiting), .int (zI R_mostWaiting), .int (zI R_answer), .int (zI R_steps), .int (zI R_memory), .int (zI R_maxSteps), .int (zI R_maxMemory), .int (zI R_fault_536), .int (zI R_result), .int (zI R_now), .int (zI R_nowRow), .int (zI R_come), .ref (ad 29), .ref (ad 30), .int (zI R_puts), .ref (ad 31)])), (ad 8, .inl (cI, 3700, .inl (zA R_valueKinds))), (ad 9, .inl (cL, 3700, .inr (.inl (zB R_valueNumbers)))), (ad 14, .inl (cI, 3700, .inl (zA R_given)))]) X (jrunV X (c_Mod_fail (ad := ad) q537) jF0_k (fun _ _ _ _ => trivial) (jgV own_Mod_sums (by decide +kernel)) rfl rfl rfl pd_Mod_fail (by decide) [0] rfl (by decide) 0 10 rfl rfl rfl rfl (Nat.le_of_ble_eq_true rfl) d_Mod_sums_127 (by decide)) [0] [1, 2, 3] [3, 0, 1, 2] rfl rfl (by decide) (by decide) rfl (by decide) ?_
            refine J_goto (tgt := 142) X d_Mod_sums_130 (by decide) ?_
            cases h
            exact J_ret E ⟨_, rfl, rfl⟩ d_Mod_sums_142 (Nat.le_refl _) (Nat.le_refl _) rfl
        · refine J_lload_n X d_Mod_sums_83 rfl 3 rfl ?_
          refine J_ldc2 (v := 9223372036854775807) (n := 9223372036854775807) X (j_m own_Mod_sums (by decide +kernel)) (by decide) d_Mod_sums_84 ?_
          refine J_lload X d_Mod_sums_87 4 rfl ?_
          refine J_lsub X d_Mod_sums_89 ?_
          refine J_lc_le (tgt := 102) X d_Mod_sums_90 d_Mod_sums_91 (by decide) h (fun c538 h => ?_) (fun c538 h => ?_)
          · refine J_aload_n X d_Mod_sums_102 rfl 1 rfl ?_
            refine J_iconst X d_Mod_sums_103 ?_
            refine J_lload_n X d_Mod_sums_104 rfl 3 rfl ?_
            refine J_lload X d_Mod_sums_105 4 rfl ?_
            refine J_ladd X d_Mod_sums_107 ?_
            obtain ⟨r539, R_values_540, R_valueKinds_541, R_valueNumbers_542, R_given_543, q544, h⟩ := wk_b5 h
            refine J_afterI0 (ws' := [(ad 0, .inr (10, [.int (zI R_thrown), .ref (ad 1), .ref (ad 2), .ref (ad 3), .ref (ad 4), .ref (ad 5), .ref (ad 6), .int (zI R_used), .ref (ad 7), .int (zI R_many), .ref (ad 8), .ref (ad 9), .ref (ad 10), .ref (ad 11), .ref (ad 12), .ref (ad 13), .ref (ad 14), .ref (ad 15), .ref (ad 16), .int (zI R_values_540), .ref (ad 17), .int (zI R_textEnd), .ref (ad 18), .ref (ad 19), .ref (ad 20), .ref (ad 21), .int (zI R_dataEnd), .ref (ad 22), .int (zI R_rowEnd), .ref (ad 23), .ref (ad 24), .int (zI R_rowMany), .ref (ad 25), .ref (ad 26), .ref (ad 27), .ref (ad 28), .int (zI R_waiting), .int (zI R_mostWaiting), .int (zI R_answer), .int (zI R_steps), .int (zI R_memory), .int (zI R_maxSteps), .int (zI R_maxMemory), .int (zI R_fault), .int (zI R_result), .int (zI R_now), .int (zI R_nowRow), .int (zI R_come), .ref (ad 29), .ref (ad 30), .int (zI R_puts), .ref (ad 31)])), (ad 8, .inl (cI, 3700, .inl (zA R_valueKinds_541))), (ad 9, .inl (cL, 3700, .inr (.inl (zB R_valueNumbers_542)))), (ad 14, .inl (cI, 3700, .inl (zA R_given_543)))]) X (jrunV X (c_Mod_make (ad := ad) q544) jF0_k (fun _ _ _ _ => trivial) (jgV own_Mod_sums (by decide +kernel)) rfl rfl rfl pd_Mod_make (by decide) [0, 1, 2, 3] rfl (by decide) 0 10 rfl rfl rfl rfl (Nat.le_of_ble_eq_true rfl) d_Mod_sums_108 (by decide)) [0, 1, 2, 3] [] [0, 1, 2, 3] rfl rfl (by decide) (by decide) rfl (by decide) ?_
            refine J_goto (tgt := 142) X d_Mod_sums_111 (by decide) ?_
            cases h
            exact J_ret E ⟨_, rfl, rfl⟩ d_Mod_sums_142 (Nat.le_refl _) (Nat.le_refl _) rfl
          · refine J_aload_n X d_Mod_sums_94 rfl 1 rfl ?_
            refine J_iconst X d_Mod_sums_95 ?_
            obtain ⟨r545, R_fault_546, q547, h⟩ := wk_b2 h
            refine J_afterI0 (ws' := [(ad 0, .inr (10, [.int (zI R_thrown), .ref (ad 1), .ref (ad 2), .ref (ad 3), .ref (ad 4), .ref (ad 5), .ref (ad 6), .int (zI R_used), .ref (ad 7), .int (zI R_many), .ref (ad 8), .ref (ad 9), .ref (ad 10), .ref (ad 11), .ref (ad 12), .ref (ad 13), .ref (ad 14), .ref (ad 15), .ref (ad 16), .int (zI R_values), .ref (ad 17), .int (zI R_textEnd), .ref (ad 18), .ref (ad 19), .ref (ad 20), .ref (ad 21), .int (zI R_dataEnd), .ref (ad 22), .int (zI R_rowEnd), .ref (ad 23), .ref (ad 24), .int (zI R_rowMany), .ref (ad 25), .ref (ad 26), .ref (ad 27), .ref (ad 28), .int (zI R_waiting), .int (zI R_mostWaiting), .int (zI R_answer), .int (zI R_steps), .int (zI R_memory), .int (zI R_maxSteps), .int (zI R_maxMemory), .int (zI R_fault_546), .int (zI R_result), .int (zI R_now), .int (zI R_nowRow), .int (zI R_come), .ref (ad 29), .ref (ad 30), .int (zI R_puts), .ref (ad 31)])), (ad 8, .inl (cI, 3700, .inl (zA R_valueKinds))), (ad 9, .inl (cL, 3700, .inr (.inl (zB R_valueNumbers)))), (ad 14, .inl (cI, 3700, .inl (zA R_given)))]) X (jrunV X (c_Mod_fail (ad := ad) q547) jF0_k (fun _ _ _ _ => trivial) (jgV own_Mod_sums (by decide +kernel)) rfl rfl rfl pd_Mod_fail (by decide) [0] rfl (by decide) 0 10 rfl rfl rfl rfl (Nat.le_of_ble_eq_true rfl) d_Mod_sums_96 (by decide)) [0] [1, 2, 3] [3, 0, 1, 2] rfl rfl (by decide) (by decide) rfl (by decide) ?_
            refine J_goto (tgt := 142) X d_Mod_sums_99 (by decide) ?_
            cases h
            exact J_ret E ⟨_, rfl, rfl⟩ d_Mod_sums_142 (Nat.le_refl _) (Nat.le_refl _) rfl
      · rcases wk_c h with ⟨c548, h⟩ | ⟨c548, h⟩
        · refine J_tsIn (tgt := 143) X 1 c548 g525 d_Mod_sums_25 (by decide) (by decide) rfl (by decide) ?_
          refine J_lload X d_Mod_sums_143 4 rfl ?_
          refine J_lconst (v := 0) X d_Mod_sums_145 (by decide) ?_
          refine J_lc_ge (tgt := 181) X d_Mod_sums_146 d_Mod_sums_147 (by decide) h (fun c549 h => ?_) (fun c549 h => ?_)
          · refine J_lload_n X d_Mod_sums_181 rfl 3 rfl ?_
            refine J_ldc2 (v := (-9223372036854775808)) (n := (-9223372036854775808)) X (j_m own_Mod_sums (by decide +kernel)) (by decide) d_Mod_sums_182 ?_
            refine J_lload X d_Mod_sums_185 4 rfl ?_
            refine J_ladd X d_Mod_sums_187 ?_
            refine J_lc_ge (tgt := 200) X d_Mod_sums_188 d_Mod_sums_189 (by decide) h (fun c550 h => ?_) (fun c550 h => ?_)
            · refine J_aload_n X d_Mod_sums_200 rfl 1 rfl ?_
              refine J_iconst X d_Mod_sums_201 ?_
              refine J_lload_n X d_Mod_sums_202 rfl 3 rfl ?_
              refine J_lload X d_Mod_sums_203 4 rfl ?_
              refine J_lsub X d_Mod_sums_205 ?_
              obtain ⟨r551, R_values_552, R_valueKinds_553, R_valueNumbers_554, R_given_555, q556, h⟩ := wk_b5 h
              refine J_afterI0 (ws' := [(ad 0, .inr (10, [.int (zI R_thrown), .ref (ad 1), .ref (ad 2), .ref (ad 3), .ref (ad 4), .ref (ad 5), .ref (ad 6), .int (zI R_used), .ref (ad 7), .int (zI R_many), .ref (ad 8), .ref (ad 9), .ref (ad 10), .ref (ad 11), .ref (ad 12), .ref (ad 13), .ref (ad 14), .ref (ad 15), .ref (ad 16), .int (zI R_values_552), .ref (ad 17), .int (zI R_textEnd), .ref (ad 18), .ref (ad 19), .ref (ad 20), .ref (ad 21), .int (zI R_dataEnd), .ref (ad 22), .int (zI R_rowEnd), .ref (ad 23), .ref (ad 24), .int (zI R_rowMany), .ref (ad 25), .ref (ad 26), .ref (ad 27), .ref (ad 28), .int (zI R_waiting), .int (zI R_mostWaiting), .int (zI R_answer), .int (zI R_steps), .int (zI R_memory), .int (zI R_maxSteps), .int (zI R_maxMemory), .int (zI R_fault), .int (zI R_result), .int (zI R_now), .int (zI R_nowRow), .int (zI R_come), .ref (ad 29), .ref (ad 30), .int (zI R_puts), .ref (ad 31)])), (ad 8, .inl (cI, 3700, .inl (zA R_valueKinds_553))), (ad 9, .inl (cL, 3700, .inr (.inl (zB R_valueNumbers_554)))), (ad 14, .inl (cI, 3700, .inl (zA R_given_555)))]) X (jrunV X (c_Mod_make (ad := ad) q556) jF0_k (fun _ _ _ _ => trivial) (jgV own_Mod_sums (by decide +kernel)) rfl rfl rfl pd_Mod_make (by decide) [0, 1, 2, 3] rfl (by decide) 0 10 rfl rfl rfl rfl (Nat.le_of_ble_eq_true rfl) d_Mod_sums_206 (by decide)) [0, 1, 2, 3] [] [0, 1, 2, 3] rfl rfl (by decide) (by decide) rfl (by decide) ?_
              cases h
              exact J_ret E ⟨_, rfl, rfl⟩ d_Mod_sums_209 (Nat.le_refl _) (Nat.le_refl _) rfl
            · refine J_aload_n X d_Mod_sums_192 rfl 1 rfl ?_
              refine J_iconst X d_Mod_sums_193 ?_
              obtain ⟨r557, R_fault_558, q559, h⟩ := wk_b2 h
              refine J_afterI0 (ws' := [(ad 0, .inr (10, [.int (zI R_thrown), .ref (ad 1), .ref (ad 2), .ref (ad 3), .ref (ad 4), .ref (ad 5), .ref (ad 6), .int (zI R_used), .ref (ad 7), .int (zI R_many), .ref (ad 8), .ref (ad 9), .ref (ad 10), .ref (ad 11), .ref (ad 12), .ref (ad 13), .ref (ad 14), .ref (ad 15), .ref (ad 16), .int (zI R_values), .ref (ad 17), .int (zI R_textEnd), .ref (ad 18), .ref (ad 19), .ref (ad 20), .ref (ad 21), .int (zI R_dataEnd), .ref (ad 22), .int (zI R_rowEnd), .ref (ad 23), .ref (ad 24), .int (zI R_rowMany), .ref (ad 25), .ref (ad 26), .ref (ad 27), .ref (ad 28), .int (zI R_waiting), .int (zI R_mostWaiting), .int (zI R_answer), .int (zI R_steps), .int (zI R_memory), .int (zI R_maxSteps), .int (zI R_maxMemory), .int (zI R_fault_558), .int (zI R_result), .int (zI R_now), .int (zI R_nowRow), .int (zI R_come), .ref (ad 29), .ref (ad 30), .int (zI R_puts), .ref (ad 31)])), (ad 8, .inl (cI, 3700, .inl (zA R_valueKinds))), (ad 9, .inl (cL, 3700, .inr (.inl (zB R_valueNumbers)))), (ad 14, .inl (cI, 3700, .inl (zA R_given)))]) X (jrunV X (c_Mod_fail (ad := ad) q559) jF0_k (fun _ _ _ _ => trivial) (jgV own_Mod_sums (by decide +kernel)) rfl rfl rfl pd_Mod_fail (by decide) [0] rfl (by decide) 0 10 rfl rfl rfl rfl (Nat.le_of_ble_eq_true rfl) d_Mod_sums_194 (by decide)) [0] [1, 2, 3] [3, 0, 1, 2] rfl rfl (by decide) (by decide) rfl (by decide) ?_
              refine J_goto (tgt := 209) X d_Mod_sums_197 (by decide) ?_
              cases h
              exact J_ret E ⟨_, rfl, rfl⟩ d_Mod_sums_209 (Nat.le_refl _) (Nat.le_refl _) rfl
          · refine J_lload_n X d_Mod_sums_150 rfl 3 rfl ?_
            refine J_ldc2 (v := 9223372036854775807) (n := 9223372036854775807) X (j_m own_Mod_sums (by decide +kernel)) (by decide) d_Mod_sums_151 ?_
            refine J_lload X d_Mod_sums_154 4 rfl ?_
            refine J_ladd X d_Mod_sums_156 ?_
            refine J_lc_le (tgt := 169) X d_Mod_sums_157 d_Mod_sums_158 (by decide) h (fun c560 h => ?_) (fun c560 h => ?_)
            · refine J_aload_n X d_Mod_sums_169 rfl 1 rfl ?_
              refine J_iconst X d_Mod_sums_170 ?_
              refine J_lload_n X d_Mod_sums_171 rfl 3 rfl ?_
              refine J_lload X d_Mod_sums_172 4 rfl ?_
              refine J_lsub X d_Mod_sums_174 ?_
              obtain ⟨r561, R_values_562, R_valueKinds_563, R_valueNumbers_564, R_given_565, q566, h⟩ := wk_b5 h
              refine J_afterI0 (ws' := [(ad 0, .inr (10, [.int (zI R_thrown), .ref (ad 1), .ref (ad 2), .ref (ad 3), .ref (ad 4), .ref (ad 5), .ref (ad 6), .int (zI R_used), .ref (ad 7), .int (zI R_many), .ref (ad 8), .ref (ad 9), .ref (ad 10), .ref (ad 11), .ref (ad 12), .ref (ad 13), .ref (ad 14), .ref (ad 15), .ref (ad 16), .int (zI R_values_562), .ref (ad 17), .int (zI R_textEnd), .ref (ad 18), .ref (ad 19), .ref (ad 20), .ref (ad 21), .int (zI R_dataEnd), .ref (ad 22), .int (zI R_rowEnd), .ref (ad 23), .ref (ad 24), .int (zI R_rowMany), .ref (ad 25), .ref (ad 26), .ref (ad 27), .ref (ad 28), .int (zI R_waiting), .int (zI R_mostWaiting), .int (zI R_answer), .int (zI R_steps), .int (zI R_memory), .int (zI R_maxSteps), .int (zI R_maxMemory), .int (zI R_fault), .int (zI R_result), .int (zI R_now), .int (zI R_nowRow), .int (zI R_come), .ref (ad 29), .ref (ad 30), .int (zI R_puts), .ref (ad 31)])), (ad 8, .inl (cI, 3700, .inl (zA R_valueKinds_563))), (ad 9, .inl (cL, 3700, .inr (.inl (zB R_valueNumbers_564)))), (ad 14, .inl (cI, 3700, .inl (zA R_given_565)))]) X (jrunV X (c_Mod_make (ad := ad) q566) jF0_k (fun _ _ _ _ => trivial) (jgV own_Mod_sums (by decide +kernel)) rfl rfl rfl pd_Mod_make (by decide) [0, 1, 2, 3] rfl (by decide) 0 10 rfl rfl rfl rfl (Nat.le_of_ble_eq_true rfl) d_Mod_sums_175 (by decide)) [0, 1, 2, 3] [] [0, 1, 2, 3] rfl rfl (by decide) (by decide) rfl (by decide) ?_
              refine J_goto (tgt := 209) X d_Mod_sums_178 (by decide) ?_
              cases h
              exact J_ret E ⟨_, rfl, rfl⟩ d_Mod_sums_209 (Nat.le_refl _) (Nat.le_refl _) rfl
            · refine J_aload_n X d_Mod_sums_161 rfl 1 rfl ?_
              refine J_iconst X d_Mod_sums_162 ?_
              obtain ⟨r567, R_fault_568, q569, h⟩ := wk_b2 h
              refine J_afterI0 (ws' := [(ad 0, .inr (10, [.int (zI R_thrown), .ref (ad 1), .ref (ad 2), .ref (ad 3), .ref (ad 4), .ref (ad 5), .ref (ad 6), .int (zI R_used), .ref (ad 7), .int (zI R_many), .ref (ad 8), .ref (ad 9), .ref (ad 10), .ref (ad 11), .ref (ad 12), .ref (ad 13), .ref (ad 14), .ref (ad 15), .ref (ad 16), .int (zI R_values), .ref (ad 17), .int (zI R_textEnd), .ref (ad 18), .ref (ad 19), .ref (ad 20), .ref (ad 21), .int (zI R_dataEnd), .ref (ad 22), .int (zI R_rowEnd), .ref (ad 23), .ref (ad 24), .int (zI R_rowMany), .ref (ad 25), .ref (ad 26), .ref (ad 27), .ref (ad 28), .int (zI R_waiting), .int (zI R_mostWaiting), .int (zI R_answer), .int (zI R_steps), .int (zI R_memory), .int (zI R_maxSteps), .int (zI R_maxMemory), .int (zI R_fault_568), .int (zI R_result), .int (zI R_now), .int (zI R_nowRow), .int (zI R_come), .ref (ad 29), .ref (ad 30), .int (zI R_puts), .ref (ad 31)])), (ad 8, .inl (cI, 3700, .inl (zA R_valueKinds))), (ad 9, .inl (cL, 3700, .inr (.inl (zB R_valueNumbers)))), (ad 14, .inl (cI, 3700, .inl (zA R_given)))]) X (jrunV X (c_Mod_fail (ad := ad) q569) jF0_k (fun _ _ _ _ => trivial) (jgV own_Mod_sums (by decide +kernel)) rfl rfl rfl pd_Mod_fail (by decide) [0] rfl (by decide) 0 10 rfl rfl rfl rfl (Nat.le_of_ble_eq_true rfl) d_Mod_sums_163 (by decide)) [0] [1, 2, 3] [3, 0, 1, 2] rfl rfl (by decide) (by decide) rfl (by decide) ?_
              refine J_goto (tgt := 209) X d_Mod_sums_166 (by decide) ?_
              cases h
              exact J_ret E ⟨_, rfl, rfl⟩ d_Mod_sums_209 (Nat.le_refl _) (Nat.le_refl _) rfl
        · rcases wk_c h with ⟨c570, h⟩ | ⟨c570, h⟩
          · refine J_tsIn (tgt := 210) X 2 c570 g525 d_Mod_sums_25 (by decide) (by decide) rfl (by decide) ?_
            refine J_lload_n X d_Mod_sums_210 rfl 3 rfl ?_
            refine J_lload X d_Mod_sums_211 4 rfl ?_
            obtain ⟨r571, q572, h⟩ := wk_b h
            refine J_afterP (jrunS X (c_Mod_isProduct (ad := ad) q572) jF0_k (fun _ _ _ _ => trivial) (jgS own_Mod_sums (by decide +kernel)) rfl rfl rfl pd_Mod_isProduct (by decide) [] rfl (by decide) rfl rfl (Nat.le_of_ble_eq_true rfl) d_Mod_sums_213 (by decide)) ?_
            refine J_if_eq (tgt := 231) X d_Mod_sums_216 (by decide) h (fun c573 h => ?_) (fun c573 h => ?_)
            · refine J_aload_n X d_Mod_sums_231 rfl 1 rfl ?_
              refine J_iconst X d_Mod_sums_232 ?_
              obtain ⟨r574, R_fault_575, q576, h⟩ := wk_b2 h
              refine J_afterI0 (ws' := [(ad 0, .inr (10, [.int (zI R_thrown), .ref (ad 1), .ref (ad 2), .ref (ad 3), .ref (ad 4), .ref (ad 5), .ref (ad 6), .int (zI R_used), .ref (ad 7), .int (zI R_many), .ref (ad 8), .ref (ad 9), .ref (ad 10), .ref (ad 11), .ref (ad 12), .ref (ad 13), .ref (ad 14), .ref (ad 15), .ref (ad 16), .int (zI R_values), .ref (ad 17), .int (zI R_textEnd), .ref (ad 18), .ref (ad 19), .ref (ad 20), .ref (ad 21), .int (zI R_dataEnd), .ref (ad 22), .int (zI R_rowEnd), .ref (ad 23), .ref (ad 24), .int (zI R_rowMany), .ref (ad 25), .ref (ad 26), .ref (ad 27), .ref (ad 28), .int (zI R_waiting), .int (zI R_mostWaiting), .int (zI R_answer), .int (zI R_steps), .int (zI R_memory), .int (zI R_maxSteps), .int (zI R_maxMemory), .int (zI R_fault_575), .int (zI R_result), .int (zI R_now), .int (zI R_nowRow), .int (zI R_come), .ref (ad 29), .ref (ad 30), .int (zI R_puts), .ref (ad 31)])), (ad 8, .inl (cI, 3700, .inl (zA R_valueKinds))), (ad 9, .inl (cL, 3700, .inr (.inl (zB R_valueNumbers)))), (ad 14, .inl (cI, 3700, .inl (zA R_given)))]) X (jrunV X (c_Mod_fail (ad := ad) q576) jF0_k (fun _ _ _ _ => trivial) (jgV own_Mod_sums (by decide +kernel)) rfl rfl rfl pd_Mod_fail (by decide) [0] rfl (by decide) 0 10 rfl rfl rfl rfl (Nat.le_of_ble_eq_true rfl) d_Mod_sums_233 (by decide)) [0] [1, 2, 3] [3, 0, 1, 2] rfl rfl (by decide) (by decide) rfl (by decide) ?_
              cases h
              exact J_ret E ⟨_, rfl, rfl⟩ d_Mod_sums_236 (Nat.le_refl _) (Nat.le_refl _) rfl
            · refine J_aload_n X d_Mod_sums_219 rfl 1 rfl ?_
              refine J_iconst X d_Mod_sums_220 ?_
              refine J_lload_n X d_Mod_sums_221 rfl 3 rfl ?_
              refine J_lload X d_Mod_sums_222 4 rfl ?_
              refine J_lmul X d_Mod_sums_224 ?_
              obtain ⟨r577, R_values_578, R_valueKinds_579, R_valueNumbers_580, R_given_581, q582, h⟩ := wk_b5 h
              refine J_afterI0 (ws' := [(ad 0, .inr (10, [.int (zI R_thrown), .ref (ad 1), .ref (ad 2), .ref (ad 3), .ref (ad 4), .ref (ad 5), .ref (ad 6), .int (zI R_used), .ref (ad 7), .int (zI R_many), .ref (ad 8), .ref (ad 9), .ref (ad 10), .ref (ad 11), .ref (ad 12), .ref (ad 13), .ref (ad 14), .ref (ad 15), .ref (ad 16), .int (zI R_values_578), .ref (ad 17), .int (zI R_textEnd), .ref (ad 18), .ref (ad 19), .ref (ad 20), .ref (ad 21), .int (zI R_dataEnd), .ref (ad 22), .int (zI R_rowEnd), .ref (ad 23), .ref (ad 24), .int (zI R_rowMany), .ref (ad 25), .ref (ad 26), .ref (ad 27), .ref (ad 28), .int (zI R_waiting), .int (zI R_mostWaiting), .int (zI R_answer), .int (zI R_steps), .int (zI R_memory), .int (zI R_maxSteps), .int (zI R_maxMemory), .int (zI R_fault), .int (zI R_result), .int (zI R_now), .int (zI R_nowRow), .int (zI R_come), .ref (ad 29), .ref (ad 30), .int (zI R_puts), .ref (ad 31)])), (ad 8, .inl (cI, 3700, .inl (zA R_valueKinds_579))), (ad 9, .inl (cL, 3700, .inr (.inl (zB R_valueNumbers_580)))), (ad 14, .inl (cI, 3700, .inl (zA R_given_581)))]) X (jrunV X (c_Mod_make (ad := ad) q582) jF0_k (fun _ _ _ _ => trivial) (jgV own_Mod_sums (by decide +kernel)) rfl rfl rfl pd_Mod_make (by decide) [0, 1, 2, 3] rfl (by decide) 0 10 rfl rfl rfl rfl (Nat.le_of_ble_eq_true rfl) d_Mod_sums_225 (by decide)) [0, 1, 2, 3] [] [0, 1, 2, 3] rfl rfl (by decide) (by decide) rfl (by decide) ?_
              refine J_goto (tgt := 236) X d_Mod_sums_228 (by decide) ?_
              cases h
              exact J_ret E ⟨_, rfl, rfl⟩ d_Mod_sums_236 (Nat.le_refl _) (Nat.le_refl _) rfl
          · rcases wk_c h with ⟨c583, h⟩ | ⟨c583, h⟩
            · refine J_tsIn (tgt := 237) X 3 c583 g525 d_Mod_sums_25 (by decide) (by decide) rfl (by decide) ?_
              refine J_lload X d_Mod_sums_237 4 rfl ?_
              refine J_lconst (v := 0) X d_Mod_sums_239 (by decide) ?_
              refine J_lc_eq (tgt := 249) X d_Mod_sums_240 d_Mod_sums_241 (by decide) h (fun c584 h => ?_) (fun c584 h => ?_)
              · refine J_aload_n X d_Mod_sums_249 rfl 1 rfl ?_
                refine J_iconst X d_Mod_sums_250 ?_
                obtain ⟨r585, R_fault_586, q587, h⟩ := wk_b2 h
                refine J_afterI0 (ws' := [(ad 0, .inr (10, [.int (zI R_thrown), .ref (ad 1), .ref (ad 2), .ref (ad 3), .ref (ad 4), .ref (ad 5), .ref (ad 6), .int (zI R_used), .ref (ad 7), .int (zI R_many), .ref (ad 8), .ref (ad 9), .ref (ad 10), .ref (ad 11), .ref (ad 12), .ref (ad 13), .ref (ad 14), .ref (ad 15), .ref (ad 16), .int (zI R_values), .ref (ad 17), .int (zI R_textEnd), .ref (ad 18), .ref (ad 19), .ref (ad 20), .ref (ad 21), .int (zI R_dataEnd), .ref (ad 22), .int (zI R_rowEnd), .ref (ad 23), .ref (ad 24), .int (zI R_rowMany), .ref (ad 25), .ref (ad 26), .ref (ad 27), .ref (ad 28), .int (zI R_waiting), .int (zI R_mostWaiting), .int (zI R_answer), .int (zI R_steps), .int (zI R_memory), .int (zI R_maxSteps), .int (zI R_maxMemory), .int (zI R_fault_586), .int (zI R_result), .int (zI R_now), .int (zI R_nowRow), .int (zI R_come), .ref (ad 29), .ref (ad 30), .int (zI R_puts), .ref (ad 31)])), (ad 8, .inl (cI, 3700, .inl (zA R_valueKinds))), (ad 9, .inl (cL, 3700, .inr (.inl (zB R_valueNumbers)))), (ad 14, .inl (cI, 3700, .inl (zA R_given)))]) X (jrunV X (c_Mod_fail (ad := ad) q587) jF0_k (fun _ _ _ _ => trivial) (jgV own_Mod_sums (by decide +kernel)) rfl rfl rfl pd_Mod_fail (by decide) [0] rfl (by decide) 0 10 rfl rfl rfl rfl (Nat.le_of_ble_eq_true rfl) d_Mod_sums_251 (by decide)) [0] [1, 2, 3] [3, 0, 1, 2] rfl rfl (by decide) (by decide) rfl (by decide) ?_
                refine J_goto (tgt := 307) X d_Mod_sums_254 (by decide) ?_
                cases h
                exact J_ret E ⟨_, rfl, rfl⟩ d_Mod_sums_307 (Nat.le_refl _) (Nat.le_refl _) rfl
              · refine J_iload X d_Mod_sums_244 0 rfl ?_
                refine J_if_eq (pa := none) (pb := some ()) (o := ()) (tgt := 257) X d_Mod_sums_246 (by decide) (by decide) (fun _ h => by cases h) (fun _ _ => ?_)
                refine J_aload_n X d_Mod_sums_249 rfl 1 rfl ?_
                refine J_iconst X d_Mod_sums_250 ?_
                obtain ⟨r588, R_fault_589, q590, h⟩ := wk_b2 h
                refine J_afterI0 (ws' := [(ad 0, .inr (10, [.int (zI R_thrown), .ref (ad 1), .ref (ad 2), .ref (ad 3), .ref (ad 4), .ref (ad 5), .ref (ad 6), .int (zI R_used), .ref (ad 7), .int (zI R_many), .ref (ad 8), .ref (ad 9), .ref (ad 10), .ref (ad 11), .ref (ad 12), .ref (ad 13), .ref (ad 14), .ref (ad 15), .ref (ad 16), .int (zI R_values), .ref (ad 17), .int (zI R_textEnd), .ref (ad 18), .ref (ad 19), .ref (ad 20), .ref (ad 21), .int (zI R_dataEnd), .ref (ad 22), .int (zI R_rowEnd), .ref (ad 23), .ref (ad 24), .int (zI R_rowMany), .ref (ad 25), .ref (ad 26), .ref (ad 27), .ref (ad 28), .int (zI R_waiting), .int (zI R_mostWaiting), .int (zI R_answer), .int (zI R_steps), .int (zI R_memory), .int (zI R_maxSteps), .int (zI R_maxMemory), .int (zI R_fault_589), .int (zI R_result), .int (zI R_now), .int (zI R_nowRow), .int (zI R_come), .ref (ad 29), .ref (ad 30), .int (zI R_puts), .ref (ad 31)])), (ad 8, .inl (cI, 3700, .inl (zA R_valueKinds))), (ad 9, .inl (cL, 3700, .inr (.inl (zB R_valueNumbers)))), (ad 14, .inl (cI, 3700, .inl (zA R_given)))]) X (jrunV X (c_Mod_fail (ad := ad) q590) jF0_k (fun _ _ _ _ => trivial) (jgV own_Mod_sums (by decide +kernel)) rfl rfl rfl pd_Mod_fail (by decide) [0] rfl (by decide) 0 10 rfl rfl rfl rfl (Nat.le_of_ble_eq_true rfl) d_Mod_sums_251 (by decide)) [0] [1, 2, 3] [3, 0, 1, 2] rfl rfl (by decide) (by decide) rfl (by decide) ?_
                refine J_goto (tgt := 307) X d_Mod_sums_254 (by decide) ?_
                cases h
                exact J_ret E ⟨_, rfl, rfl⟩ d_Mod_sums_307 (Nat.le_refl _) (Nat.le_refl _) rfl
            · rcases wk_c h with ⟨c591, h⟩ | ⟨c591, h⟩
              · refine J_tsIn (tgt := 308) X 4 c591 g525 d_Mod_sums_25 (by decide) (by decide) rfl (by decide) ?_
                refine J_lload X d_Mod_sums_308 4 rfl ?_
                refine J_lconst (v := 0) X d_Mod_sums_310 (by decide) ?_
                refine J_lc_ne (tgt := 323) X d_Mod_sums_311 d_Mod_sums_312 (by decide) h (fun c592 h => ?_) (fun c592 h => ?_)
                · refine J_aload_n X d_Mod_sums_323 rfl 1 rfl ?_
                  refine J_iconst X d_Mod_sums_324 ?_
                  refine J_iload X d_Mod_sums_325 0 rfl ?_
                  refine J_if_eq (pa := none) (pb := some ()) (o := ()) (tgt := 334) X d_Mod_sums_327 (by decide) (by decide) (fun _ h => by cases h) (fun _ _ => ?_)
                  refine J_lconst (v := 0) X d_Mod_sums_330 (by decide) ?_
                  refine J_goto (tgt := 380) X d_Mod_sums_331 (by decide) ?_
                  obtain ⟨r593, R_values_594, R_valueKinds_595, R_valueNumbers_596, R_given_597, q598, h⟩ := wk_b5 h
                  refine J_afterI0 (ws' := [(ad 0, .inr (10, [.int (zI R_thrown), .ref (ad 1), .ref (ad 2), .ref (ad 3), .ref (ad 4), .ref (ad 5), .ref (ad 6), .int (zI R_used), .ref (ad 7), .int (zI R_many), .ref (ad 8), .ref (ad 9), .ref (ad 10), .ref (ad 11), .ref (ad 12), .ref (ad 13), .ref (ad 14), .ref (ad 15), .ref (ad 16), .int (zI R_values_594), .ref (ad 17), .int (zI R_textEnd), .ref (ad 18), .ref (ad 19), .ref (ad 20), .ref (ad 21), .int (zI R_dataEnd), .ref (ad 22), .int (zI R_rowEnd), .ref (ad 23), .ref (ad 24), .int (zI R_rowMany), .ref (ad 25), .ref (ad 26), .ref (ad 27), .ref (ad 28), .int (zI R_waiting), .int (zI R_mostWaiting), .int (zI R_answer), .int (zI R_steps), .int (zI R_memory), .int (zI R_maxSteps), .int (zI R_maxMemory), .int (zI R_fault), .int (zI R_result), .int (zI R_now), .int (zI R_nowRow), .int (zI R_come), .ref (ad 29), .ref (ad 30), .int (zI R_puts), .ref (ad 31)])), (ad 8, .inl (cI, 3700, .inl (zA R_valueKinds_595))), (ad 9, .inl (cL, 3700, .inr (.inl (zB R_valueNumbers_596)))), (ad 14, .inl (cI, 3700, .inl (zA R_given_597)))]) X (jrunV X (c_Mod_make (ad := ad) q598) jF0_k (fun _ _ _ _ => trivial) (jgV own_Mod_sums (by decide +kernel)) rfl rfl rfl pd_Mod_make (by decide) [0, 1, 2, 3] rfl (by decide) 0 10 rfl rfl rfl rfl (Nat.le_of_ble_eq_true rfl) d_Mod_sums_380 (by decide)) [0, 1, 2, 3] [] [0, 1, 2, 3] rfl rfl (by decide) (by decide) rfl (by decide) ?_
                  cases h
                  exact J_ret E ⟨_, rfl, rfl⟩ d_Mod_sums_383 (Nat.le_refl _) (Nat.le_refl _) rfl
                · refine J_aload_n X d_Mod_sums_315 rfl 1 rfl ?_
                  refine J_iconst X d_Mod_sums_316 ?_
                  obtain ⟨r599, R_fault_600, q601, h⟩ := wk_b2 h
                  refine J_afterI0 (ws' := [(ad 0, .inr (10, [.int (zI R_thrown), .ref (ad 1), .ref (ad 2), .ref (ad 3), .ref (ad 4), .ref (ad 5), .ref (ad 6), .int (zI R_used), .ref (ad 7), .int (zI R_many), .ref (ad 8), .ref (ad 9), .ref (ad 10), .ref (ad 11), .ref (ad 12), .ref (ad 13), .ref (ad 14), .ref (ad 15), .ref (ad 16), .int (zI R_values), .ref (ad 17), .int (zI R_textEnd), .ref (ad 18), .ref (ad 19), .ref (ad 20), .ref (ad 21), .int (zI R_dataEnd), .ref (ad 22), .int (zI R_rowEnd), .ref (ad 23), .ref (ad 24), .int (zI R_rowMany), .ref (ad 25), .ref (ad 26), .ref (ad 27), .ref (ad 28), .int (zI R_waiting), .int (zI R_mostWaiting), .int (zI R_answer), .int (zI R_steps), .int (zI R_memory), .int (zI R_maxSteps), .int (zI R_maxMemory), .int (zI R_fault_600), .int (zI R_result), .int (zI R_now), .int (zI R_nowRow), .int (zI R_come), .ref (ad 29), .ref (ad 30), .int (zI R_puts), .ref (ad 31)])), (ad 8, .inl (cI, 3700, .inl (zA R_valueKinds))), (ad 9, .inl (cL, 3700, .inr (.inl (zB R_valueNumbers)))), (ad 14, .inl (cI, 3700, .inl (zA R_given)))]) X (jrunV X (c_Mod_fail (ad := ad) q601) jF0_k (fun _ _ _ _ => trivial) (jgV own_Mod_sums (by decide +kernel)) rfl rfl rfl pd_Mod_fail (by decide) [0] rfl (by decide) 0 10 rfl rfl rfl rfl (Nat.le_of_ble_eq_true rfl) d_Mod_sums_317 (by decide)) [0] [1, 2, 3] [3, 0, 1, 2] rfl rfl (by decide) (by decide) rfl (by decide) ?_
                  refine J_goto (tgt := 383) X d_Mod_sums_320 (by decide) ?_
                  cases h
                  exact J_ret E ⟨_, rfl, rfl⟩ d_Mod_sums_383 (Nat.le_refl _) (Nat.le_refl _) rfl
              · rcases wk_c h with ⟨c602, h⟩ | ⟨c602, h⟩
                · refine J_tsIn (tgt := 384) X 5 c602 g525 d_Mod_sums_25 (by decide) (by decide) rfl (by decide) ?_
                  refine J_lload X d_Mod_sums_384 4 rfl ?_
                  refine J_lconst (v := 0) X d_Mod_sums_386 (by decide) ?_
                  refine J_lc_eq (tgt := 396) X d_Mod_sums_387 d_Mod_sums_388 (by decide) h (fun c603 h => ?_) (fun c603 h => ?_)
                  · refine J_aload_n X d_Mod_sums_396 rfl 1 rfl ?_
                    refine J_iconst X d_Mod_sums_397 ?_
                    obtain ⟨r604, R_fault_605, q606, h⟩ := wk_b2 h
                    refine J_afterI0 (ws' := [(ad 0, .inr (10, [.int (zI R_thrown), .ref (ad 1), .ref (ad 2), .ref (ad 3), .ref (ad 4), .ref (ad 5), .ref (ad 6), .int (zI R_used), .ref (ad 7), .int (zI R_many), .ref (ad 8), .ref (ad 9), .ref (ad 10), .ref (ad 11), .ref (ad 12), .ref (ad 13), .ref (ad 14), .ref (ad 15), .ref (ad 16), .int (zI R_values), .ref (ad 17), .int (zI R_textEnd), .ref (ad 18), .ref (ad 19), .ref (ad 20), .ref (ad 21), .int (zI R_dataEnd), .ref (ad 22), .int (zI R_rowEnd), .ref (ad 23), .ref (ad 24), .int (zI R_rowMany), .ref (ad 25), .ref (ad 26), .ref (ad 27), .ref (ad 28), .int (zI R_waiting), .int (zI R_mostWaiting), .int (zI R_answer), .int (zI R_steps), .int (zI R_memory), .int (zI R_maxSteps), .int (zI R_maxMemory), .int (zI R_fault_605), .int (zI R_result), .int (zI R_now), .int (zI R_nowRow), .int (zI R_come), .ref (ad 29), .ref (ad 30), .int (zI R_puts), .ref (ad 31)])), (ad 8, .inl (cI, 3700, .inl (zA R_valueKinds))), (ad 9, .inl (cL, 3700, .inr (.inl (zB R_valueNumbers)))), (ad 14, .inl (cI, 3700, .inl (zA R_given)))]) X (jrunV X (c_Mod_fail (ad := ad) q606) jF0_k (fun _ _ _ _ => trivial) (jgV own_Mod_sums (by decide +kernel)) rfl rfl rfl pd_Mod_fail (by decide) [0] rfl (by decide) 0 10 rfl rfl rfl rfl (Nat.le_of_ble_eq_true rfl) d_Mod_sums_398 (by decide)) [0] [1, 2, 3] [3, 0, 1, 2] rfl rfl (by decide) (by decide) rfl (by decide) ?_
                    refine J_goto (tgt := 413) X d_Mod_sums_401 (by decide) ?_
                    cases h
                    exact J_ret E ⟨_, rfl, rfl⟩ d_Mod_sums_413 (Nat.le_refl _) (Nat.le_refl _) rfl
                  · refine J_iload X d_Mod_sums_391 0 rfl ?_
                    refine J_if_eq (pa := none) (pb := some ()) (o := ()) (tgt := 404) X d_Mod_sums_393 (by decide) (by decide) (fun _ h => by cases h) (fun _ _ => ?_)
                    refine J_aload_n X d_Mod_sums_396 rfl 1 rfl ?_
                    refine J_iconst X d_Mod_sums_397 ?_
                    obtain ⟨r607, R_fault_608, q609, h⟩ := wk_b2 h
                    refine J_afterI0 (ws' := [(ad 0, .inr (10, [.int (zI R_thrown), .ref (ad 1), .ref (ad 2), .ref (ad 3), .ref (ad 4), .ref (ad 5), .ref (ad 6), .int (zI R_used), .ref (ad 7), .int (zI R_many), .ref (ad 8), .ref (ad 9), .ref (ad 10), .ref (ad 11), .ref (ad 12), .ref (ad 13), .ref (ad 14), .ref (ad 15), .ref (ad 16), .int (zI R_values), .ref (ad 17), .int (zI R_textEnd), .ref (ad 18), .ref (ad 19), .ref (ad 20), .ref (ad 21), .int (zI R_dataEnd), .ref (ad 22), .int (zI R_rowEnd), .ref (ad 23), .ref (ad 24), .int (zI R_rowMany), .ref (ad 25), .ref (ad 26), .ref (ad 27), .ref (ad 28), .int (zI R_waiting), .int (zI R_mostWaiting), .int (zI R_answer), .int (zI R_steps), .int (zI R_memory), .int (zI R_maxSteps), .int (zI R_maxMemory), .int (zI R_fault_608), .int (zI R_result), .int (zI R_now), .int (zI R_nowRow), .int (zI R_come), .ref (ad 29), .ref (ad 30), .int (zI R_puts), .ref (ad 31)])), (ad 8, .inl (cI, 3700, .inl (zA R_valueKinds))), (ad 9, .inl (cL, 3700, .inr (.inl (zB R_valueNumbers)))), (ad 14, .inl (cI, 3700, .inl (zA R_given)))]) X (jrunV X (c_Mod_fail (ad := ad) q609) jF0_k (fun _ _ _ _ => trivial) (jgV own_Mod_sums (by decide +kernel)) rfl rfl rfl pd_Mod_fail (by decide) [0] rfl (by decide) 0 10 rfl rfl rfl rfl (Nat.le_of_ble_eq_true rfl) d_Mod_sums_398 (by decide)) [0] [1, 2, 3] [3, 0, 1, 2] rfl rfl (by decide) (by decide) rfl (by decide) ?_
                    refine J_goto (tgt := 413) X d_Mod_sums_401 (by decide) ?_
                    cases h
                    exact J_ret E ⟨_, rfl, rfl⟩ d_Mod_sums_413 (Nat.le_refl _) (Nat.le_refl _) rfl
                · rcases wk_c h with ⟨c610, h⟩ | ⟨c610, h⟩
                  · refine J_tsIn (tgt := 414) X 6 c610 g525 d_Mod_sums_25 (by decide) (by decide) rfl (by decide) ?_
                    refine J_lload X d_Mod_sums_414 4 rfl ?_
                    refine J_lconst (v := 0) X d_Mod_sums_416 (by decide) ?_
                    refine J_lc_ne (tgt := 429) X d_Mod_sums_417 d_Mod_sums_418 (by decide) h (fun c611 h => ?_) (fun c611 h => ?_)
                    · refine J_aload_n X d_Mod_sums_429 rfl 1 rfl ?_
                      refine J_iconst X d_Mod_sums_430 ?_
                      refine J_iload X d_Mod_sums_431 0 rfl ?_
                      refine J_if_eq (pa := none) (pb := some ()) (o := ()) (tgt := 440) X d_Mod_sums_433 (by decide) (by decide) (fun _ h => by cases h) (fun _ _ => ?_)
                      refine J_lconst (v := 0) X d_Mod_sums_436 (by decide) ?_
                      refine J_goto (tgt := 444) X d_Mod_sums_437 (by decide) ?_
                      obtain ⟨r612, R_values_613, R_valueKinds_614, R_valueNumbers_615, R_given_616, q617, h⟩ := wk_b5 h
                      refine J_afterI0 (ws' := [(ad 0, .inr (10, [.int (zI R_thrown), .ref (ad 1), .ref (ad 2), .ref (ad 3), .ref (ad 4), .ref (ad 5), .ref (ad 6), .int (zI R_used), .ref (ad 7), .int (zI R_many), .ref (ad 8), .ref (ad 9), .ref (ad 10), .ref (ad 11), .ref (ad 12), .ref (ad 13), .ref (ad 14), .ref (ad 15), .ref (ad 16), .int (zI R_values_613), .ref (ad 17), .int (zI R_textEnd), .ref (ad 18), .ref (ad 19), .ref (ad 20), .ref (ad 21), .int (zI R_dataEnd), .ref (ad 22), .int (zI R_rowEnd), .ref (ad 23), .ref (ad 24), .int (zI R_rowMany), .ref (ad 25), .ref (ad 26), .ref (ad 27), .ref (ad 28), .int (zI R_waiting), .int (zI R_mostWaiting), .int (zI R_answer), .int (zI R_steps), .int (zI R_memory), .int (zI R_maxSteps), .int (zI R_maxMemory), .int (zI R_fault), .int (zI R_result), .int (zI R_now), .int (zI R_nowRow), .int (zI R_come), .ref (ad 29), .ref (ad 30), .int (zI R_puts), .ref (ad 31)])), (ad 8, .inl (cI, 3700, .inl (zA R_valueKinds_614))), (ad 9, .inl (cL, 3700, .inr (.inl (zB R_valueNumbers_615)))), (ad 14, .inl (cI, 3700, .inl (zA R_given_616)))]) X (jrunV X (c_Mod_make (ad := ad) q617) jF0_k (fun _ _ _ _ => trivial) (jgV own_Mod_sums (by decide +kernel)) rfl rfl rfl pd_Mod_make (by decide) [0, 1, 2, 3] rfl (by decide) 0 10 rfl rfl rfl rfl (Nat.le_of_ble_eq_true rfl) d_Mod_sums_444 (by decide)) [0, 1, 2, 3] [] [0, 1, 2, 3] rfl rfl (by decide) (by decide) rfl (by decide) ?_
                      cases h
                      exact J_ret E ⟨_, rfl, rfl⟩ d_Mod_sums_447 (Nat.le_refl _) (Nat.le_refl _) rfl
                    · refine J_aload_n X d_Mod_sums_421 rfl 1 rfl ?_
                      refine J_iconst X d_Mod_sums_422 ?_
                      obtain ⟨r618, R_fault_619, q620, h⟩ := wk_b2 h
                      refine J_afterI0 (ws' := [(ad 0, .inr (10, [.int (zI R_thrown), .ref (ad 1), .ref (ad 2), .ref (ad 3), .ref (ad 4), .ref (ad 5), .ref (ad 6), .int (zI R_used), .ref (ad 7), .int (zI R_many), .ref (ad 8), .ref (ad 9), .ref (ad 10), .ref (ad 11), .ref (ad 12), .ref (ad 13), .ref (ad 14), .ref (ad 15), .ref (ad 16), .int (zI R_values), .ref (ad 17), .int (zI R_textEnd), .ref (ad 18), .ref (ad 19), .ref (ad 20), .ref (ad 21), .int (zI R_dataEnd), .ref (ad 22), .int (zI R_rowEnd), .ref (ad 23), .ref (ad 24), .int (zI R_rowMany), .ref (ad 25), .ref (ad 26), .ref (ad 27), .ref (ad 28), .int (zI R_waiting), .int (zI R_mostWaiting), .int (zI R_answer), .int (zI R_steps), .int (zI R_memory), .int (zI R_maxSteps), .int (zI R_maxMemory), .int (zI R_fault_619), .int (zI R_result), .int (zI R_now), .int (zI R_nowRow), .int (zI R_come), .ref (ad 29), .ref (ad 30), .int (zI R_puts), .ref (ad 31)])), (ad 8, .inl (cI, 3700, .inl (zA R_valueKinds))), (ad 9, .inl (cL, 3700, .inr (.inl (zB R_valueNumbers)))), (ad 14, .inl (cI, 3700, .inl (zA R_given)))]) X (jrunV X (c_Mod_fail (ad := ad) q620) jF0_k (fun _ _ _ _ => trivial) (jgV own_Mod_sums (by decide +kernel)) rfl rfl rfl pd_Mod_fail (by decide) [0] rfl (by decide) 0 10 rfl rfl rfl rfl (Nat.le_of_ble_eq_true rfl) d_Mod_sums_423 (by decide)) [0] [1, 2, 3] [3, 0, 1, 2] rfl rfl (by decide) (by decide) rfl (by decide) ?_
                      refine J_goto (tgt := 447) X d_Mod_sums_426 (by decide) ?_
                      cases h
                      exact J_ret E ⟨_, rfl, rfl⟩ d_Mod_sums_447 (Nat.le_refl _) (Nat.le_refl _) rfl
                  · rcases wk_c h with ⟨c621, h⟩ | ⟨c621, h⟩
                    · refine J_tsIn (tgt := 448) X 7 c621 g525 d_Mod_sums_25 (by decide) (by decide) rfl (by decide) ?_
                      refine J_aload_n X d_Mod_sums_448 rfl 1 rfl ?_
                      refine J_lload_n X d_Mod_sums_449 rfl 3 rfl ?_
                      refine J_lload X d_Mod_sums_450 4 rfl ?_
                      refine J_lc_ne (tgt := 460) X d_Mod_sums_452 d_Mod_sums_453 (by decide) h (fun c622 h => ?_) (fun c622 h => ?_)
                      · refine J_iconst X d_Mod_sums_460 ?_
                        obtain ⟨r623, R_values_624, R_valueKinds_625, R_valueNumbers_626, R_given_627, q628, h⟩ := wk_b5 h
                        refine J_afterI0 (ws' := [(ad 0, .inr (10, [.int (zI R_thrown), .ref (ad 1), .ref (ad 2), .ref (ad 3), .ref (ad 4), .ref (ad 5), .ref (ad 6), .int (zI R_used), .ref (ad 7), .int (zI R_many), .ref (ad 8), .ref (ad 9), .ref (ad 10), .ref (ad 11), .ref (ad 12), .ref (ad 13), .ref (ad 14), .ref (ad 15), .ref (ad 16), .int (zI R_values_624), .ref (ad 17), .int (zI R_textEnd), .ref (ad 18), .ref (ad 19), .ref (ad 20), .ref (ad 21), .int (zI R_dataEnd), .ref (ad 22), .int (zI R_rowEnd), .ref (ad 23), .ref (ad 24), .int (zI R_rowMany), .ref (ad 25), .ref (ad 26), .ref (ad 27), .ref (ad 28), .int (zI R_waiting), .int (zI R_mostWaiting), .int (zI R_answer), .int (zI R_steps), .int (zI R_memory), .int (zI R_maxSteps), .int (zI R_maxMemory), .int (zI R_fault), .int (zI R_result), .int (zI R_now), .int (zI R_nowRow), .int (zI R_come), .ref (ad 29), .ref (ad 30), .int (zI R_puts), .ref (ad 31)])), (ad 8, .inl (cI, 3700, .inl (zA R_valueKinds_625))), (ad 9, .inl (cL, 3700, .inr (.inl (zB R_valueNumbers_626)))), (ad 14, .inl (cI, 3700, .inl (zA R_given_627)))]) X (jrunV X (c_Mod_truth (ad := ad) q628) jF0_k (fun _ _ _ _ => trivial) (jgV own_Mod_sums (by decide +kernel)) rfl rfl rfl pd_Mod_truth (by decide) [0, 1, 2, 3] rfl (by decide) 0 10 rfl rfl rfl rfl (Nat.le_of_ble_eq_true rfl) d_Mod_sums_461 (by decide)) [0, 1, 2, 3] [] [0, 1, 2, 3] rfl rfl (by decide) (by decide) rfl (by decide) ?_
                        cases h
                        exact J_ret E ⟨_, rfl, rfl⟩ d_Mod_sums_464 (Nat.le_refl _) (Nat.le_refl _) rfl
                      · refine J_iconst X d_Mod_sums_456 ?_
                        refine J_goto (tgt := 461) X d_Mod_sums_457 (by decide) ?_
                        obtain ⟨r629, R_values_630, R_valueKinds_631, R_valueNumbers_632, R_given_633, q634, h⟩ := wk_b5 h
                        refine J_afterI0 (ws' := [(ad 0, .inr (10, [.int (zI R_thrown), .ref (ad 1), .ref (ad 2), .ref (ad 3), .ref (ad 4), .ref (ad 5), .ref (ad 6), .int (zI R_used), .ref (ad 7), .int (zI R_many), .ref (ad 8), .ref (ad 9), .ref (ad 10), .ref (ad 11), .ref (ad 12), .ref (ad 13), .ref (ad 14), .ref (ad 15), .ref (ad 16), .int (zI R_values_630), .ref (ad 17), .int (zI R_textEnd), .ref (ad 18), .ref (ad 19), .ref (ad 20), .ref (ad 21), .int (zI R_dataEnd), .ref (ad 22), .int (zI R_rowEnd), .ref (ad 23), .ref (ad 24), .int (zI R_rowMany), .ref (ad 25), .ref (ad 26), .ref (ad 27), .ref (ad 28), .int (zI R_waiting), .int (zI R_mostWaiting), .int (zI R_answer), .int (zI R_steps), .int (zI R_memory), .int (zI R_maxSteps), .int (zI R_maxMemory), .int (zI R_fault), .int (zI R_result), .int (zI R_now), .int (zI R_nowRow), .int (zI R_come), .ref (ad 29), .ref (ad 30), .int (zI R_puts), .ref (ad 31)])), (ad 8, .inl (cI, 3700, .inl (zA R_valueKinds_631))), (ad 9, .inl (cL, 3700, .inr (.inl (zB R_valueNumbers_632)))), (ad 14, .inl (cI, 3700, .inl (zA R_given_633)))]) X (jrunV X (c_Mod_truth (ad := ad) q634) jF0_k (fun _ _ _ _ => trivial) (jgV own_Mod_sums (by decide +kernel)) rfl rfl rfl pd_Mod_truth (by decide) [0, 1, 2, 3] rfl (by decide) 0 10 rfl rfl rfl rfl (Nat.le_of_ble_eq_true rfl) d_Mod_sums_461 (by decide)) [0, 1, 2, 3] [] [0, 1, 2, 3] rfl rfl (by decide) (by decide) rfl (by decide) ?_
                        cases h
                        exact J_ret E ⟨_, rfl, rfl⟩ d_Mod_sums_464 (Nat.le_refl _) (Nat.le_refl _) rfl
                    · rcases wk_c h with ⟨c635, h⟩ | ⟨c635, h⟩
                      · refine J_tsIn (tgt := 465) X 8 c635 g525 d_Mod_sums_25 (by decide) (by decide) rfl (by decide) ?_
                        refine J_aload_n X d_Mod_sums_465 rfl 1 rfl ?_
                        refine J_lload_n X d_Mod_sums_466 rfl 3 rfl ?_
                        refine J_lload X d_Mod_sums_467 4 rfl ?_
                        refine J_lc_ge (tgt := 477) X d_Mod_sums_469 d_Mod_sums_470 (by decide) h (fun c636 h => ?_) (fun c636 h => ?_)
                        · refine J_iconst X d_Mod_sums_477 ?_
                          obtain ⟨r637, R_values_638, R_valueKinds_639, R_valueNumbers_640, R_given_641, q642, h⟩ := wk_b5 h
                          refine J_afterI0 (ws' := [(ad 0, .inr (10, [.int (zI R_thrown), .ref (ad 1), .ref (ad 2), .ref (ad 3), .ref (ad 4), .ref (ad 5), .ref (ad 6), .int (zI R_used), .ref (ad 7), .int (zI R_many), .ref (ad 8), .ref (ad 9), .ref (ad 10), .ref (ad 11), .ref (ad 12), .ref (ad 13), .ref (ad 14), .ref (ad 15), .ref (ad 16), .int (zI R_values_638), .ref (ad 17), .int (zI R_textEnd), .ref (ad 18), .ref (ad 19), .ref (ad 20), .ref (ad 21), .int (zI R_dataEnd), .ref (ad 22), .int (zI R_rowEnd), .ref (ad 23), .ref (ad 24), .int (zI R_rowMany), .ref (ad 25), .ref (ad 26), .ref (ad 27), .ref (ad 28), .int (zI R_waiting), .int (zI R_mostWaiting), .int (zI R_answer), .int (zI R_steps), .int (zI R_memory), .int (zI R_maxSteps), .int (zI R_maxMemory), .int (zI R_fault), .int (zI R_result), .int (zI R_now), .int (zI R_nowRow), .int (zI R_come), .ref (ad 29), .ref (ad 30), .int (zI R_puts), .ref (ad 31)])), (ad 8, .inl (cI, 3700, .inl (zA R_valueKinds_639))), (ad 9, .inl (cL, 3700, .inr (.inl (zB R_valueNumbers_640)))), (ad 14, .inl (cI, 3700, .inl (zA R_given_641)))]) X (jrunV X (c_Mod_truth (ad := ad) q642) jF0_k (fun _ _ _ _ => trivial) (jgV own_Mod_sums (by decide +kernel)) rfl rfl rfl pd_Mod_truth (by decide) [0, 1, 2, 3] rfl (by decide) 0 10 rfl rfl rfl rfl (Nat.le_of_ble_eq_true rfl) d_Mod_sums_478 (by decide)) [0, 1, 2, 3] [] [0, 1, 2, 3] rfl rfl (by decide) (by decide) rfl (by decide) ?_
                          cases h
                          exact J_ret E ⟨_, rfl, rfl⟩ d_Mod_sums_481 (Nat.le_refl _) (Nat.le_refl _) rfl
                        · refine J_iconst X d_Mod_sums_473 ?_
                          refine J_goto (tgt := 478) X d_Mod_sums_474 (by decide) ?_
                          obtain ⟨r643, R_values_644, R_valueKinds_645, R_valueNumbers_646, R_given_647, q648, h⟩ := wk_b5 h
                          refine J_afterI0 (ws' := [(ad 0, .inr (10, [.int (zI R_thrown), .ref (ad 1), .ref (ad 2), .ref (ad 3), .ref (ad 4), .ref (ad 5), .ref (ad 6), .int (zI R_used), .ref (ad 7), .int (zI R_many), .ref (ad 8), .ref (ad 9), .ref (ad 10), .ref (ad 11), .ref (ad 12), .ref (ad 13), .ref (ad 14), .ref (ad 15), .ref (ad 16), .int (zI R_values_644), .ref (ad 17), .int (zI R_textEnd), .ref (ad 18), .ref (ad 19), .ref (ad 20), .ref (ad 21), .int (zI R_dataEnd), .ref (ad 22), .int (zI R_rowEnd), .ref (ad 23), .ref (ad 24), .int (zI R_rowMany), .ref (ad 25), .ref (ad 26), .ref (ad 27), .ref (ad 28), .int (zI R_waiting), .int (zI R_mostWaiting), .int (zI R_answer), .int (zI R_steps), .int (zI R_memory), .int (zI R_maxSteps), .int (zI R_maxMemory), .int (zI R_fault), .int (zI R_result), .int (zI R_now), .int (zI R_nowRow), .int (zI R_come), .ref (ad 29), .ref (ad 30), .int (zI R_puts), .ref (ad 31)])), (ad 8, .inl (cI, 3700, .inl (zA R_valueKinds_645))), (ad 9, .inl (cL, 3700, .inr (.inl (zB R_valueNumbers_646)))), (ad 14, .inl (cI, 3700, .inl (zA R_given_647)))]) X (jrunV X (c_Mod_truth (ad := ad) q648) jF0_k (fun _ _ _ _ => trivial) (jgV own_Mod_sums (by decide +kernel)) rfl rfl rfl pd_Mod_truth (by decide) [0, 1, 2, 3] rfl (by decide) 0 10 rfl rfl rfl rfl (Nat.le_of_ble_eq_true rfl) d_Mod_sums_478 (by decide)) [0, 1, 2, 3] [] [0, 1, 2, 3] rfl rfl (by decide) (by decide) rfl (by decide) ?_
                          cases h
                          exact J_ret E ⟨_, rfl, rfl⟩ d_Mod_sums_481 (Nat.le_refl _) (Nat.le_refl _) rfl
                      · refine J_tsOut (tgt := 482) X g525 d_Mod_sums_25 (by omega) (by decide) ?_
                        refine J_aload_n X d_Mod_sums_482 rfl 1 rfl ?_
                        refine J_lload_n X d_Mod_sums_483 rfl 3 rfl ?_
                        refine J_lload X d_Mod_sums_484 4 rfl ?_
                        refine J_lc_gt (tgt := 494) X d_Mod_sums_486 d_Mod_sums_487 (by decide) h (fun c649 h => ?_) (fun c649 h => ?_)
                        · refine J_iconst X d_Mod_sums_494 ?_
                          obtain ⟨r650, R_values_651, R_valueKinds_652, R_valueNumbers_653, R_given_654, q655, h⟩ := wk_b5 h
                          refine J_afterI0 (ws' := [(ad 0, .inr (10, [.int (zI R_thrown), .ref (ad 1), .ref (ad 2), .ref (ad 3), .ref (ad 4), .ref (ad 5), .ref (ad 6), .int (zI R_used), .ref (ad 7), .int (zI R_many), .ref (ad 8), .ref (ad 9), .ref (ad 10), .ref (ad 11), .ref (ad 12), .ref (ad 13), .ref (ad 14), .ref (ad 15), .ref (ad 16), .int (zI R_values_651), .ref (ad 17), .int (zI R_textEnd), .ref (ad 18), .ref (ad 19), .ref (ad 20), .ref (ad 21), .int (zI R_dataEnd), .ref (ad 22), .int (zI R_rowEnd), .ref (ad 23), .ref (ad 24), .int (zI R_rowMany), .ref (ad 25), .ref (ad 26), .ref (ad 27), .ref (ad 28), .int (zI R_waiting), .int (zI R_mostWaiting), .int (zI R_answer), .int (zI R_steps), .int (zI R_memory), .int (zI R_maxSteps), .int (zI R_maxMemory), .int (zI R_fault), .int (zI R_result), .int (zI R_now), .int (zI R_nowRow), .int (zI R_come), .ref (ad 29), .ref (ad 30), .int (zI R_puts), .ref (ad 31)])), (ad 8, .inl (cI, 3700, .inl (zA R_valueKinds_652))), (ad 9, .inl (cL, 3700, .inr (.inl (zB R_valueNumbers_653)))), (ad 14, .inl (cI, 3700, .inl (zA R_given_654)))]) X (jrunV X (c_Mod_truth (ad := ad) q655) jF0_k (fun _ _ _ _ => trivial) (jgV own_Mod_sums (by decide +kernel)) rfl rfl rfl pd_Mod_truth (by decide) [0, 1, 2, 3] rfl (by decide) 0 10 rfl rfl rfl rfl (Nat.le_of_ble_eq_true rfl) d_Mod_sums_495 (by decide)) [0, 1, 2, 3] [] [0, 1, 2, 3] rfl rfl (by decide) (by decide) rfl (by decide) ?_
                          cases h
                          exact J_ret E ⟨_, rfl, rfl⟩ d_Mod_sums_498 (Nat.le_refl _) (Nat.le_refl _) rfl
                        · refine J_iconst X d_Mod_sums_490 ?_
                          refine J_goto (tgt := 495) X d_Mod_sums_491 (by decide) ?_
                          obtain ⟨r656, R_values_657, R_valueKinds_658, R_valueNumbers_659, R_given_660, q661, h⟩ := wk_b5 h
                          refine J_afterI0 (ws' := [(ad 0, .inr (10, [.int (zI R_thrown), .ref (ad 1), .ref (ad 2), .ref (ad 3), .ref (ad 4), .ref (ad 5), .ref (ad 6), .int (zI R_used), .ref (ad 7), .int (zI R_many), .ref (ad 8), .ref (ad 9), .ref (ad 10), .ref (ad 11), .ref (ad 12), .ref (ad 13), .ref (ad 14), .ref (ad 15), .ref (ad 16), .int (zI R_values_657), .ref (ad 17), .int (zI R_textEnd), .ref (ad 18), .ref (ad 19), .ref (ad 20), .ref (ad 21), .int (zI R_dataEnd), .ref (ad 22), .int (zI R_rowEnd), .ref (ad 23), .ref (ad 24), .int (zI R_rowMany), .ref (ad 25), .ref (ad 26), .ref (ad 27), .ref (ad 28), .int (zI R_waiting), .int (zI R_mostWaiting), .int (zI R_answer), .int (zI R_steps), .int (zI R_memory), .int (zI R_maxSteps), .int (zI R_maxMemory), .int (zI R_fault), .int (zI R_result), .int (zI R_now), .int (zI R_nowRow), .int (zI R_come), .ref (ad 29), .ref (ad 30), .int (zI R_puts), .ref (ad 31)])), (ad 8, .inl (cI, 3700, .inl (zA R_valueKinds_658))), (ad 9, .inl (cL, 3700, .inr (.inl (zB R_valueNumbers_659)))), (ad 14, .inl (cI, 3700, .inl (zA R_given_660)))]) X (jrunV X (c_Mod_truth (ad := ad) q661) jF0_k (fun _ _ _ _ => trivial) (jgV own_Mod_sums (by decide +kernel)) rfl rfl rfl pd_Mod_truth (by decide) [0, 1, 2, 3] rfl (by decide) 0 10 rfl rfl rfl rfl (Nat.le_of_ble_eq_true rfl) d_Mod_sums_495 (by decide)) [0, 1, 2, 3] [] [0, 1, 2, 3] rfl rfl (by decide) (by decide) rfl (by decide) ?_
                          cases h
                          exact J_ret E ⟨_, rfl, rfl⟩ d_Mod_sums_498 (Nat.le_refl _) (Nat.le_refl _) rfl

