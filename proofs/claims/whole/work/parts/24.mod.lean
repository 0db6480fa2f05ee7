theorem d_Mod_sums_0 : decode b_Mod_sums 0 = .ok (.lload 4, 2) := by decide +kernel
theorem d_Mod_sums_2 : decode b_Mod_sums 2 = .ok (.ldc2_w 175, 3) := by decide +kernel
theorem d_Mod_sums_5 : decode b_Mod_sums 5 = .ok (.lcmp, 1) := by decide +kernel
theorem d_Mod_sums_6 : decode b_Mod_sums 6 = .ok (.ifCond .ne 15, 3) := by decide +kernel
theorem d_Mod_sums_9 : decode b_Mod_sums 9 = .ok (.lload_n 2, 1) := by decide +kernel
theorem d_Mod_sums_10 : decode b_Mod_sums 10 = .ok (.ldc2_w 179, 3) := by decide +kernel
theorem d_Mod_sums_13 : decode b_Mod_sums 13 = .ok (.lcmp, 1) := by decide +kernel
theorem d_Mod_sums_14 : decode b_Mod_sums 14 = .ok (.ifCond .ne 7, 3) := by decide +kernel
theorem d_Mod_sums_17 : decode b_Mod_sums 17 = .ok (.iconst 1, 1) := by decide +kernel
theorem d_Mod_sums_18 : decode b_Mod_sums 18 = .ok (.goto 4, 3) := by decide +kernel
theorem d_Mod_sums_21 : decode b_Mod_sums 21 = .ok (.iconst 0, 1) := by decide +kernel
theorem d_Mod_sums_22 : decode b_Mod_sums 22 = .ok (.istore 6, 2) := by decide +kernel
theorem d_Mod_sums_24 : decode b_Mod_sums 24 = .ok (.iload_n 1, 1) := by decide +kernel
theorem d_Mod_sums_25 : decode b_Mod_sums 25 = .ok (.tableswitch 457 0 8 #[51, 118, 185, 212, 283, 359, 389, 423, 440], 51) := by decide +kernel
theorem d_Mod_sums_76 : decode b_Mod_sums 76 = .ok (.lload 4, 2) := by decide +kernel
theorem d_Mod_sums_78 : decode b_Mod_sums 78 = .ok (.lconst 0, 1) := by decide +kernel
theorem d_Mod_sums_79 : decode b_Mod_sums 79 = .ok (.lcmp, 1) := by decide +kernel
theorem d_Mod_sums_80 : decode b_Mod_sums 80 = .ok (.ifCond .le 34, 3) := by decide +kernel
theorem d_Mod_sums_83 : decode b_Mod_sums 83 = .ok (.lload_n 2, 1) := by decide +kernel
theorem d_Mod_sums_84 : decode b_Mod_sums 84 = .ok (.ldc2_w 181, 3) := by decide +kernel
theorem d_Mod_sums_87 : decode b_Mod_sums 87 = .ok (.lload 4, 2) := by decide +kernel
theorem d_Mod_sums_89 : decode b_Mod_sums 89 = .ok (.lsub, 1) := by decide +kernel
theorem d_Mod_sums_90 : decode b_Mod_sums 90 = .ok (.lcmp, 1) := by decide +kernel
theorem d_Mod_sums_91 : decode b_Mod_sums 91 = .ok (.ifCond .le 11, 3) := by decide +kernel
theorem d_Mod_sums_94 : decode b_Mod_sums 94 = .ok (.aload_n 0, 1) := by decide +kernel
theorem d_Mod_sums_95 : decode b_Mod_sums 95 = .ok (.iconst 3, 1) := by decide +kernel
theorem d_Mod_sums_96 : decode b_Mod_sums 96 = .ok (.invokevirtual 183, 3) := by decide +kernel
theorem d_Mod_sums_99 : decode b_Mod_sums 99 = .ok (.goto 43, 3) := by decide +kernel
theorem d_Mod_sums_102 : decode b_Mod_sums 102 = .ok (.aload_n 0, 1) := by decide +kernel
theorem d_Mod_sums_103 : decode b_Mod_sums 103 = .ok (.iconst 0, 1) := by decide +kernel
theorem d_Mod_sums_104 : decode b_Mod_sums 104 = .ok (.lload_n 2, 1) := by decide +kernel
theorem d_Mod_sums_105 : decode b_Mod_sums 105 = .ok (.lload 4, 2) := by decide +kernel
theorem d_Mod_sums_107 : decode b_Mod_sums 107 = .ok (.ladd, 1) := by decide +kernel
theorem d_Mod_sums_108 : decode b_Mod_sums 108 = .ok (.invokevirtual 141, 3) := by decide +kernel
theorem d_Mod_sums_111 : decode b_Mod_sums 111 = .ok (.goto 31, 3) := by decide +kernel
theorem d_Mod_sums_114 : decode b_Mod_sums 114 = .ok (.lload_n 2, 1) := by decide +kernel
theorem d_Mod_sums_115 : decode b_Mod_sums 115 = .ok (.ldc2_w 179, 3) := by decide +kernel
theorem d_Mod_sums_118 : decode b_Mod_sums 118 = .ok (.lload 4, 2) := by decide +kernel
theorem d_Mod_sums_120 : decode b_Mod_sums 120 = .ok (.lsub, 1) := by decide +kernel
theorem d_Mod_sums_121 : decode b_Mod_sums 121 = .ok (.lcmp, 1) := by decide +kernel
theorem d_Mod_sums_122 : decode b_Mod_sums 122 = .ok (.ifCond .ge 11, 3) := by decide +kernel
theorem d_Mod_sums_125 : decode b_Mod_sums 125 = .ok (.aload_n 0, 1) := by decide +kernel
theorem d_Mod_sums_126 : decode b_Mod_sums 126 = .ok (.iconst 3, 1) := by decide +kernel
theorem d_Mod_sums_127 : decode b_Mod_sums 127 = .ok (.invokevirtual 183, 3) := by decide +kernel
theorem d_Mod_sums_130 : decode b_Mod_sums 130 = .ok (.goto 12, 3) := by decide +kernel
theorem d_Mod_sums_133 : decode b_Mod_sums 133 = .ok (.aload_n 0, 1) := by decide +kernel
theorem d_Mod_sums_134 : decode b_Mod_sums 134 = .ok (.iconst 0, 1) := by decide +kernel
theorem d_Mod_sums_135 : decode b_Mod_sums 135 = .ok (.lload_n 2, 1) := by decide +kernel
theorem d_Mod_sums_136 : decode b_Mod_sums 136 = .ok (.lload 4, 2) := by decide +kernel
theorem d_Mod_sums_138 : decode b_Mod_sums 138 = .ok (.ladd, 1) := by decide +kernel
theorem d_Mod_sums_139 : decode b_Mod_sums 139 = .ok (.invokevirtual 141, 3) := by decide +kernel
theorem d_Mod_sums_142 : decode b_Mod_sums 142 = .ok (.ireturn, 1) := by decide +kernel
theorem d_Mod_sums_143 : decode b_Mod_sums 143 = .ok (.lload 4, 2) := by decide +kernel
theorem d_Mod_sums_145 : decode b_Mod_sums 145 = .ok (.lconst 0, 1) := by decide +kernel
theorem d_Mod_sums_146 : decode b_Mod_sums 146 = .ok (.lcmp, 1) := by decide +kernel
theorem d_Mod_sums_147 : decode b_Mod_sums 147 = .ok (.ifCond .ge 34, 3) := by decide +kernel
theorem d_Mod_sums_150 : decode b_Mod_sums 150 = .ok (.lload_n 2, 1) := by decide +kernel
theorem d_Mod_sums_151 : decode b_Mod_sums 151 = .ok (.ldc2_w 181, 3) := by decide +kernel
theorem d_Mod_sums_154 : decode b_Mod_sums 154 = .ok (.lload 4, 2) := by decide +kernel
theorem d_Mod_sums_156 : decode b_Mod_sums 156 = .ok (.ladd, 1) := by decide +kernel
theorem d_Mod_sums_157 : decode b_Mod_sums 157 = .ok (.lcmp, 1) := by decide +kernel
theorem d_Mod_sums_158 : decode b_Mod_sums 158 = .ok (.ifCond .le 11, 3) := by decide +kernel
theorem d_Mod_sums_161 : decode b_Mod_sums 161 = .ok (.aload_n 0, 1) := by decide +kernel
theorem d_Mod_sums_162 : decode b_Mod_sums 162 = .ok (.iconst 3, 1) := by decide +kernel
theorem d_Mod_sums_163 : decode b_Mod_sums 163 = .ok (.invokevirtual 183, 3) := by decide +kernel
theorem d_Mod_sums_166 : decode b_Mod_sums 166 = .ok (.goto 43, 3) := by decide +kernel
theorem d_Mod_sums_169 : decode b_Mod_sums 169 = .ok (.aload_n 0, 1) := by decide +kernel
theorem d_Mod_sums_170 : decode b_Mod_sums 170 = .ok (.iconst 0, 1) := by decide +kernel
theorem d_Mod_sums_171 : decode b_Mod_sums 171 = .ok (.lload_n 2, 1) := by decide +kernel
theorem d_Mod_sums_172 : decode b_Mod_sums 172 = .ok (.lload 4, 2) := by decide +kernel
theorem d_Mod_sums_174 : decode b_Mod_sums 174 = .ok (.lsub, 1) := by decide +kernel
theorem d_Mod_sums_175 : decode b_Mod_sums 175 = .ok (.invokevirtual 141, 3) := by decide +kernel
theorem d_Mod_sums_178 : decode b_Mod_sums 178 = .ok (.goto 31, 3) := by decide +kernel
theorem d_Mod_sums_181 : decode b_Mod_sums 181 = .ok (.lload_n 2, 1) := by decide +kernel
theorem d_Mod_sums_182 : decode b_Mod_sums 182 = .ok (.ldc2_w 179, 3) := by decide +kernel
theorem d_Mod_sums_185 : decode b_Mod_sums 185 = .ok (.lload 4, 2) := by decide +kernel
theorem d_Mod_sums_187 : decode b_Mod_sums 187 = .ok (.ladd, 1) := by decide +kernel
theorem d_Mod_sums_188 : decode b_Mod_sums 188 = .ok (.lcmp, 1) := by decide +kernel
theorem d_Mod_sums_189 : decode b_Mod_sums 189 = .ok (.ifCond .ge 11, 3) := by decide +kernel
theorem d_Mod_sums_192 : decode b_Mod_sums 192 = .ok (.aload_n 0, 1) := by decide +kernel
theorem d_Mod_sums_193 : decode b_Mod_sums 193 = .ok (.iconst 3, 1) := by decide +kernel
theorem d_Mod_sums_194 : decode b_Mod_sums 194 = .ok (.invokevirtual 183, 3) := by decide +kernel
theorem d_Mod_sums_197 : decode b_Mod_sums 197 = .ok (.goto 12, 3) := by decide +kernel
theorem d_Mod_sums_200 : decode b_Mod_sums 200 = .ok (.aload_n 0, 1) := by decide +kernel
theorem d_Mod_sums_201 : decode b_Mod_sums 201 = .ok (.iconst 0, 1) := by decide +kernel
theorem d_Mod_sums_202 : decode b_Mod_sums 202 = .ok (.lload_n 2, 1) := by decide +kernel
theorem d_Mod_sums_203 : decode b_Mod_sums 203 = .ok (.lload 4, 2) := by decide +kernel
theorem d_Mod_sums_205 : decode b_Mod_sums 205 = .ok (.lsub, 1) := by decide +kernel
theorem d_Mod_sums_206 : decode b_Mod_sums 206 = .ok (.invokevirtual 141, 3) := by decide +kernel
theorem d_Mod_sums_209 : decode b_Mod_sums 209 = .ok (.ireturn, 1) := by decide +kernel
theorem d_Mod_sums_210 : decode b_Mod_sums 210 = .ok (.lload_n 2, 1) := by decide +kernel
theorem d_Mod_sums_211 : decode b_Mod_sums 211 = .ok (.lload 4, 2) := by decide +kernel
theorem d_Mod_sums_213 : decode b_Mod_sums 213 = .ok (.invokestatic 186, 3) := by decide +kernel
theorem d_Mod_sums_216 : decode b_Mod_sums 216 = .ok (.ifCond .eq 15, 3) := by decide +kernel
theorem d_Mod_sums_219 : decode b_Mod_sums 219 = .ok (.aload_n 0, 1) := by decide +kernel
theorem d_Mod_sums_220 : decode b_Mod_sums 220 = .ok (.iconst 0, 1) := by decide +kernel
theorem d_Mod_sums_221 : decode b_Mod_sums 221 = .ok (.lload_n 2, 1) := by decide +kernel
theorem d_Mod_sums_222 : decode b_Mod_sums 222 = .ok (.lload 4, 2) := by decide +kernel
theorem d_Mod_sums_224 : decode b_Mod_sums 224 = .ok (.lmul, 1) := by decide +kernel
theorem d_Mod_sums_225 : decode b_Mod_sums 225 = .ok (.invokevirtual 141, 3) := by decide +kernel
theorem d_Mod_sums_228 : decode b_Mod_sums 228 = .ok (.goto 8, 3) := by decide +kernel
theorem d_Mod_sums_231 : decode b_Mod_sums 231 = .ok (.aload_n 0, 1) := by decide +kernel
theorem d_Mod_sums_232 : decode b_Mod_sums 232 = .ok (.iconst 3, 1) := by decide +kernel
theorem d_Mod_sums_233 : decode b_Mod_sums 233 = .ok (.invokevirtual 183, 3) := by decide +kernel
theorem d_Mod_sums_236 : decode b_Mod_sums 236 = .ok (.ireturn, 1) := by decide +kernel
theorem d_Mod_sums_237 : decode b_Mod_sums 237 = .ok (.lload 4, 2) := by decide +kernel
theorem d_Mod_sums_239 : decode b_Mod_sums 239 = .ok (.lconst 0, 1) := by decide +kernel
theorem d_Mod_sums_240 : decode b_Mod_sums 240 = .ok (.lcmp, 1) := by decide +kernel
theorem d_Mod_sums_241 : decode b_Mod_sums 241 = .ok (.ifCond .eq 8, 3) := by decide +kernel
theorem d_Mod_sums_244 : decode b_Mod_sums 244 = .ok (.iload 6, 2) := by decide +kernel
theorem d_Mod_sums_246 : decode b_Mod_sums 246 = .ok (.ifCond .eq 11, 3) := by decide +kernel
theorem d_Mod_sums_249 : decode b_Mod_sums 249 = .ok (.aload_n 0, 1) := by decide +kernel
theorem d_Mod_sums_250 : decode b_Mod_sums 250 = .ok (.iconst 3, 1) := by decide +kernel
theorem d_Mod_sums_251 : decode b_Mod_sums 251 = .ok (.invokevirtual 183, 3) := by decide +kernel
theorem d_Mod_sums_254 : decode b_Mod_sums 254 = .ok (.goto 53, 3) := by decide +kernel
theorem d_Mod_sums_257 : decode b_Mod_sums 257 = .ok (.aload_n 0, 1) := by decide +kernel
theorem d_Mod_sums_258 : decode b_Mod_sums 258 = .ok (.iconst 0, 1) := by decide +kernel
theorem d_Mod_sums_259 : decode b_Mod_sums 259 = .ok (.lload_n 2, 1) := by decide +kernel
theorem d_Mod_sums_260 : decode b_Mod_sums 260 = .ok (.lload 4, 2) := by decide +kernel
theorem d_Mod_sums_262 : decode b_Mod_sums 262 = .ok (.ldiv, 1) := by decide +kernel
theorem d_Mod_sums_263 : decode b_Mod_sums 263 = .ok (.lload_n 2, 1) := by decide +kernel
theorem d_Mod_sums_264 : decode b_Mod_sums 264 = .ok (.lload 4, 2) := by decide +kernel
theorem d_Mod_sums_266 : decode b_Mod_sums 266 = .ok (.lrem, 1) := by decide +kernel
theorem d_Mod_sums_267 : decode b_Mod_sums 267 = .ok (.lconst 0, 1) := by decide +kernel
theorem d_Mod_sums_268 : decode b_Mod_sums 268 = .ok (.lcmp, 1) := by decide +kernel
theorem d_Mod_sums_269 : decode b_Mod_sums 269 = .ok (.ifCond .eq 33, 3) := by decide +kernel
theorem d_Mod_sums_272 : decode b_Mod_sums 272 = .ok (.lload_n 2, 1) := by decide +kernel
theorem d_Mod_sums_273 : decode b_Mod_sums 273 = .ok (.lconst 0, 1) := by decide +kernel
theorem d_Mod_sums_274 : decode b_Mod_sums 274 = .ok (.lcmp, 1) := by decide +kernel
theorem d_Mod_sums_275 : decode b_Mod_sums 275 = .ok (.ifCond .ge 7, 3) := by decide +kernel
theorem d_Mod_sums_278 : decode b_Mod_sums 278 = .ok (.iconst 1, 1) := by decide +kernel
theorem d_Mod_sums_279 : decode b_Mod_sums 279 = .ok (.goto 4, 3) := by decide +kernel
theorem d_Mod_sums_282 : decode b_Mod_sums 282 = .ok (.iconst 0, 1) := by decide +kernel
theorem d_Mod_sums_283 : decode b_Mod_sums 283 = .ok (.lload 4, 2) := by decide +kernel
theorem d_Mod_sums_285 : decode b_Mod_sums 285 = .ok (.lconst 0, 1) := by decide +kernel
theorem d_Mod_sums_286 : decode b_Mod_sums 286 = .ok (.lcmp, 1) := by decide +kernel
theorem d_Mod_sums_287 : decode b_Mod_sums 287 = .ok (.ifCond .ge 7, 3) := by decide +kernel
theorem d_Mod_sums_290 : decode b_Mod_sums 290 = .ok (.iconst 1, 1) := by decide +kernel
theorem d_Mod_sums_291 : decode b_Mod_sums 291 = .ok (.goto 4, 3) := by decide +kernel
theorem d_Mod_sums_294 : decode b_Mod_sums 294 = .ok (.iconst 0, 1) := by decide +kernel
theorem d_Mod_sums_295 : decode b_Mod_sums 295 = .ok (.if_icmp .eq 7, 3) := by decide +kernel
theorem d_Mod_sums_298 : decode b_Mod_sums 298 = .ok (.lconst 1, 1) := by decide +kernel
theorem d_Mod_sums_299 : decode b_Mod_sums 299 = .ok (.goto 4, 3) := by decide +kernel
theorem d_Mod_sums_302 : decode b_Mod_sums 302 = .ok (.lconst 0, 1) := by decide +kernel
theorem d_Mod_sums_303 : decode b_Mod_sums 303 = .ok (.lsub, 1) := by decide +kernel
theorem d_Mod_sums_304 : decode b_Mod_sums 304 = .ok (.invokevirtual 141, 3) := by decide +kernel
theorem d_Mod_sums_307 : decode b_Mod_sums 307 = .ok (.ireturn, 1) := by decide +kernel
theorem d_Mod_sums_308 : decode b_Mod_sums 308 = .ok (.lload 4, 2) := by decide +kernel
theorem d_Mod_sums_310 : decode b_Mod_sums 310 = .ok (.lconst 0, 1) := by decide +kernel
theorem d_Mod_sums_311 : decode b_Mod_sums 311 = .ok (.lcmp, 1) := by decide +kernel
theorem d_Mod_sums_312 : decode b_Mod_sums 312 = .ok (.ifCond .ne 11, 3) := by decide +kernel
theorem d_Mod_sums_315 : decode b_Mod_sums 315 = .ok (.aload_n 0, 1) := by decide +kernel
theorem d_Mod_sums_316 : decode b_Mod_sums 316 = .ok (.iconst 3, 1) := by decide +kernel
theorem d_Mod_sums_317 : decode b_Mod_sums 317 = .ok (.invokevirtual 183, 3) := by decide +kernel
theorem d_Mod_sums_320 : decode b_Mod_sums 320 = .ok (.goto 63, 3) := by decide +kernel
theorem d_Mod_sums_323 : decode b_Mod_sums 323 = .ok (.aload_n 0, 1) := by decide +kernel
theorem d_Mod_sums_324 : decode b_Mod_sums 324 = .ok (.iconst 0, 1) := by decide +kernel
theorem d_Mod_sums_325 : decode b_Mod_sums 325 = .ok (.iload 6, 2) := by decide +kernel
theorem d_Mod_sums_327 : decode b_Mod_sums 327 = .ok (.ifCond .eq 7, 3) := by decide +kernel
theorem d_Mod_sums_330 : decode b_Mod_sums 330 = .ok (.lconst 0, 1) := by decide +kernel
theorem d_Mod_sums_331 : decode b_Mod_sums 331 = .ok (.goto 49, 3) := by decide +kernel
theorem d_Mod_sums_334 : decode b_Mod_sums 334 = .ok (.lload_n 2, 1) := by decide +kernel
theorem d_Mod_sums_335 : decode b_Mod_sums 335 = .ok (.lload 4, 2) := by decide +kernel
theorem d_Mod_sums_337 : decode b_Mod_sums 337 = .ok (.lrem, 1) := by decide +kernel
theorem d_Mod_sums_338 : decode b_Mod_sums 338 = .ok (.lload_n 2, 1) := by decide +kernel
theorem d_Mod_sums_339 : decode b_Mod_sums 339 = .ok (.lload 4, 2) := by decide +kernel
theorem d_Mod_sums_341 : decode b_Mod_sums 341 = .ok (.lrem, 1) := by decide +kernel
theorem d_Mod_sums_342 : decode b_Mod_sums 342 = .ok (.lconst 0, 1) := by decide +kernel
theorem d_Mod_sums_343 : decode b_Mod_sums 343 = .ok (.lcmp, 1) := by decide +kernel
theorem d_Mod_sums_344 : decode b_Mod_sums 344 = .ok (.ifCond .eq 34, 3) := by decide +kernel
theorem d_Mod_sums_347 : decode b_Mod_sums 347 = .ok (.lload_n 2, 1) := by decide +kernel
theorem d_Mod_sums_348 : decode b_Mod_sums 348 = .ok (.lconst 0, 1) := by decide +kernel
theorem d_Mod_sums_349 : decode b_Mod_sums 349 = .ok (.lcmp, 1) := by decide +kernel
theorem d_Mod_sums_350 : decode b_Mod_sums 350 = .ok (.ifCond .ge 7, 3) := by decide +kernel
theorem d_Mod_sums_353 : decode b_Mod_sums 353 = .ok (.iconst 1, 1) := by decide +kernel
theorem d_Mod_sums_354 : decode b_Mod_sums 354 = .ok (.goto 4, 3) := by decide +kernel
theorem d_Mod_sums_357 : decode b_Mod_sums 357 = .ok (.iconst 0, 1) := by decide +kernel
theorem d_Mod_sums_358 : decode b_Mod_sums 358 = .ok (.lload 4, 2) := by decide +kernel
theorem d_Mod_sums_360 : decode b_Mod_sums 360 = .ok (.lconst 0, 1) := by decide +kernel
theorem d_Mod_sums_361 : decode b_Mod_sums 361 = .ok (.lcmp, 1) := by decide +kernel
theorem d_Mod_sums_362 : decode b_Mod_sums 362 = .ok (.ifCond .ge 7, 3) := by decide +kernel
theorem d_Mod_sums_365 : decode b_Mod_sums 365 = .ok (.iconst 1, 1) := by decide +kernel
theorem d_Mod_sums_366 : decode b_Mod_sums 366 = .ok (.goto 4, 3) := by decide +kernel
theorem d_Mod_sums_369 : decode b_Mod_sums 369 = .ok (.iconst 0, 1) := by decide +kernel
theorem d_Mod_sums_370 : decode b_Mod_sums 370 = .ok (.if_icmp .eq 8, 3) := by decide +kernel
theorem d_Mod_sums_373 : decode b_Mod_sums 373 = .ok (.lload 4, 2) := by decide +kernel
theorem d_Mod_sums_375 : decode b_Mod_sums 375 = .ok (.goto 4, 3) := by decide +kernel
theorem d_Mod_sums_378 : decode b_Mod_sums 378 = .ok (.lconst 0, 1) := by decide +kernel
theorem d_Mod_sums_379 : decode b_Mod_sums 379 = .ok (.ladd, 1) := by decide +kernel
theorem d_Mod_sums_380 : decode b_Mod_sums 380 = .ok (.invokevirtual 141, 3) := by decide +kernel
theorem d_Mod_sums_383 : decode b_Mod_sums 383 = .ok (.ireturn, 1) := by decide +kernel
theorem d_Mod_sums_384 : decode b_Mod_sums 384 = .ok (.lload 4, 2) := by decide +kernel
theorem d_Mod_sums_386 : decode b_Mod_sums 386 = .ok (.lconst 0, 1) := by decide +kernel
theorem d_Mod_sums_387 : decode b_Mod_sums 387 = .ok (.lcmp, 1) := by decide +kernel
theorem d_Mod_sums_388 : decode b_Mod_sums 388 = .ok (.ifCond .eq 8, 3) := by decide +kernel
theorem d_Mod_sums_391 : decode b_Mod_sums 391 = .ok (.iload 6, 2) := by decide +kernel
theorem d_Mod_sums_393 : decode b_Mod_sums 393 = .ok (.ifCond .eq 11, 3) := by decide +kernel
theorem d_Mod_sums_396 : decode b_Mod_sums 396 = .ok (.aload_n 0, 1) := by decide +kernel
theorem d_Mod_sums_397 : decode b_Mod_sums 397 = .ok (.iconst 3, 1) := by decide +kernel
theorem d_Mod_sums_398 : decode b_Mod_sums 398 = .ok (.invokevirtual 183, 3) := by decide +kernel
theorem d_Mod_sums_401 : decode b_Mod_sums 401 = .ok (.goto 12, 3) := by decide +kernel
theorem d_Mod_sums_404 : decode b_Mod_sums 404 = .ok (.aload_n 0, 1) := by decide +kernel
theorem d_Mod_sums_405 : decode b_Mod_sums 405 = .ok (.iconst 0, 1) := by decide +kernel
theorem d_Mod_sums_406 : decode b_Mod_sums 406 = .ok (.lload_n 2, 1) := by decide +kernel
theorem d_Mod_sums_407 : decode b_Mod_sums 407 = .ok (.lload 4, 2) := by decide +kernel
theorem d_Mod_sums_409 : decode b_Mod_sums 409 = .ok (.ldiv, 1) := by decide +kernel
theorem d_Mod_sums_410 : decode b_Mod_sums 410 = .ok (.invokevirtual 141, 3) := by decide +kernel
theorem d_Mod_sums_413 : decode b_Mod_sums 413 = .ok (.ireturn, 1) := by decide +kernel
theorem d_Mod_sums_414 : decode b_Mod_sums 414 = .ok (.lload 4, 2) := by decide +kernel
theorem d_Mod_sums_416 : decode b_Mod_sums 416 = .ok (.lconst 0, 1) := by decide +kernel
theorem d_Mod_sums_417 : decode b_Mod_sums 417 = .ok (.lcmp, 1) := by decide +kernel
theorem d_Mod_sums_418 : decode b_Mod_sums 418 = .ok (.ifCond .ne 11, 3) := by decide +kernel
theorem d_Mod_sums_421 : decode b_Mod_sums 421 = .ok (.aload_n 0, 1) := by decide +kernel
theorem d_Mod_sums_422 : decode b_Mod_sums 422 = .ok (.iconst 3, 1) := by decide +kernel
theorem d_Mod_sums_423 : decode b_Mod_sums 423 = .ok (.invokevirtual 183, 3) := by decide +kernel
theorem d_Mod_sums_426 : decode b_Mod_sums 426 = .ok (.goto 21, 3) := by decide +kernel
theorem d_Mod_sums_429 : decode b_Mod_sums 429 = .ok (.aload_n 0, 1) := by decide +kernel
theorem d_Mod_sums_430 : decode b_Mod_sums 430 = .ok (.iconst 0, 1) := by decide +kernel
theorem d_Mod_sums_431 : decode b_Mod_sums 431 = .ok (.iload 6, 2) := by decide +kernel
theorem d_Mod_sums_433 : decode b_Mod_sums 433 = .ok (.ifCond .eq 7, 3) := by decide +kernel
theorem d_Mod_sums_436 : decode b_Mod_sums 436 = .ok (.lconst 0, 1) := by decide +kernel
theorem d_Mod_sums_437 : decode b_Mod_sums 437 = .ok (.goto 7, 3) := by decide +kernel
theorem d_Mod_sums_440 : decode b_Mod_sums 440 = .ok (.lload_n 2, 1) := by decide +kernel
theorem d_Mod_sums_441 : decode b_Mod_sums 441 = .ok (.lload 4, 2) := by decide +kernel
theorem d_Mod_sums_443 : decode b_Mod_sums 443 = .ok (.lrem, 1) := by decide +kernel
theorem d_Mod_sums_444 : decode b_Mod_sums 444 = .ok (.invokevirtual 141, 3) := by decide +kernel
theorem d_Mod_sums_447 : decode b_Mod_sums 447 = .ok (.ireturn, 1) := by decide +kernel
theorem d_Mod_sums_448 : decode b_Mod_sums 448 = .ok (.aload_n 0, 1) := by decide +kernel
theorem d_Mod_sums_449 : decode b_Mod_sums 449 = .ok (.lload_n 2, 1) := by decide +kernel
theorem d_Mod_sums_450 : decode b_Mod_sums 450 = .ok (.lload 4, 2) := by decide +kernel
theorem d_Mod_sums_452 : decode b_Mod_sums 452 = .ok (.lcmp, 1) := by decide +kernel
theorem d_Mod_sums_453 : decode b_Mod_sums 453 = .ok (.ifCond .ne 7, 3) := by decide +kernel
theorem d_Mod_sums_456 : decode b_Mod_sums 456 = .ok (.iconst 1, 1) := by decide +kernel
theorem d_Mod_sums_457 : decode b_Mod_sums 457 = .ok (.goto 4, 3) := by decide +kernel
theorem d_Mod_sums_460 : decode b_Mod_sums 460 = .ok (.iconst 0, 1) := by decide +kernel
theorem d_Mod_sums_461 : decode b_Mod_sums 461 = .ok (.invokevirtual 190, 3) := by decide +kernel
theorem d_Mod_sums_464 : decode b_Mod_sums 464 = .ok (.ireturn, 1) := by decide +kernel
theorem d_Mod_sums_465 : decode b_Mod_sums 465 = .ok (.aload_n 0, 1) := by decide +kernel
theorem d_Mod_sums_466 : decode b_Mod_sums 466 = .ok (.lload_n 2, 1) := by decide +kernel
theorem d_Mod_sums_467 : decode b_Mod_sums 467 = .ok (.lload 4, 2) := by decide +kernel
theorem d_Mod_sums_469 : decode b_Mod_sums 469 = .ok (.lcmp, 1) := by decide +kernel
theorem d_Mod_sums_470 : decode b_Mod_sums 470 = .ok (.ifCond .ge 7, 3) := by decide +kernel
theorem d_Mod_sums_473 : decode b_Mod_sums 473 = .ok (.iconst 1, 1) := by decide +kernel
theorem d_Mod_sums_474 : decode b_Mod_sums 474 = .ok (.goto 4, 3) := by decide +kernel
theorem d_Mod_sums_477 : decode b_Mod_sums 477 = .ok (.iconst 0, 1) := by decide +kernel
theorem d_Mod_sums_478 : decode b_Mod_sums 478 = .ok (.invokevirtual 190, 3) := by decide +kernel
theorem d_Mod_sums_481 : decode b_Mod_sums 481 = .ok (.ireturn, 1) := by decide +kernel
theorem d_Mod_sums_482 : decode b_Mod_sums 482 = .ok (.aload_n 0, 1) := by decide +kernel
theorem d_Mod_sums_483 : decode b_Mod_sums 483 = .ok (.lload_n 2, 1) := by decide +kernel
theorem d_Mod_sums_484 : decode b_Mod_sums 484 = .ok (.lload 4, 2) := by decide +kernel
theorem d_Mod_sums_486 : decode b_Mod_sums 486 = .ok (.lcmp, 1) := by decide +kernel
theorem d_Mod_sums_487 : decode b_Mod_sums 487 = .ok (.ifCond .gt 7, 3) := by decide +kernel
theorem d_Mod_sums_490 : decode b_Mod_sums 490 = .ok (.iconst 1, 1) := by decide +kernel
theorem d_Mod_sums_491 : decode b_Mod_sums 491 = .ok (.goto 4, 3) := by decide +kernel
theorem d_Mod_sums_494 : decode b_Mod_sums 494 = .ok (.iconst 0, 1) := by decide +kernel
theorem d_Mod_sums_495 : decode b_Mod_sums 495 = .ok (.invokevirtual 190, 3) := by decide +kernel
theorem d_Mod_sums_498 : decode b_Mod_sums 498 = .ok (.ireturn, 1) := by decide +kernel
def f_Mod_sums (R_values : Int) (R_fault : Int) (R_valueKinds : Int → Int) (R_valueNumbers : Int → Int) (R_given : Int → Int) (p1 : Int) (p2 : Int) (p4 : Int) : Option (Int × Int × Int × (Int → Int) × (Int → Int) × (Int → Int)) :=
  if jl2 p4 (-1) = true then (if p4 = (-1) then (
   if jl2 p2 (-9223372036854775808) = true then (if p2 = (-9223372036854775808) then (
    if rI p1 = true then (
     if p1 = 0 then (
      if jl2 p4 0 = true then (if p4 ≤ 0 then (
       if jl2 p2 ((-9223372036854775808) - p4) = true then (if ((-9223372036854775808) - p4) ≤ p2 then (
        ob5 (f_Mod_make R_values R_valueKinds R_valueNumbers R_given 0 (p2 + p4)) (fun r417 R_values_418 R_valueKinds_419 R_valueNumbers_420 R_given_421 =>
         some (r417, R_values_418, R_fault, R_valueKinds_419, R_valueNumbers_420, R_given_421))) else (
        ob2 (f_Mod_fail R_fault 3) (fun r423 R_fault_424 =>
         some (r423, R_values, R_fault_424, R_valueKinds, R_valueNumbers, R_given)))) else none) else (
       if jl2 p2 (9223372036854775807 - p4) = true then (if p2 ≤ (9223372036854775807 - p4) then (
        ob5 (f_Mod_make R_values R_valueKinds R_valueNumbers R_given 0 (p2 + p4)) (fun r427 R_values_428 R_valueKinds_429 R_valueNumbers_430 R_given_431 =>
         some (r427, R_values_428, R_fault, R_valueKinds_429, R_valueNumbers_430, R_given_431))) else (
        ob2 (f_Mod_fail R_fault 3) (fun r433 R_fault_434 =>
         some (r433, R_values, R_fault_434, R_valueKinds, R_valueNumbers, R_given)))) else none)) else none) else (
      if p1 = 1 then (
       if jl2 p4 0 = true then (if 0 ≤ p4 then (
        if jl2 p2 ((-9223372036854775808) + p4) = true then (if ((-9223372036854775808) + p4) ≤ p2 then (
         ob5 (f_Mod_make R_values R_valueKinds R_valueNumbers R_given 0 (p2 - p4)) (fun r439 R_values_440 R_valueKinds_441 R_valueNumbers_442 R_given_443 =>
          some (r439, R_values_440, R_fault, R_valueKinds_441, R_valueNumbers_442, R_given_443))) else (
         ob2 (f_Mod_fail R_fault 3) (fun r445 R_fault_446 =>
          some (r445, R_values, R_fault_446, R_valueKinds, R_valueNumbers, R_given)))) else none) else (
        if jl2 p2 (9223372036854775807 + p4) = true then (if p2 ≤ (9223372036854775807 + p4) then (
         ob5 (f_Mod_make R_values R_valueKinds R_valueNumbers R_given 0 (p2 - p4)) (fun r449 R_values_450 R_valueKinds_451 R_valueNumbers_452 R_given_453 =>
          some (r449, R_values_450, R_fault, R_valueKinds_451, R_valueNumbers_452, R_given_453))) else (
         ob2 (f_Mod_fail R_fault 3) (fun r455 R_fault_456 =>
          some (r455, R_values, R_fault_456, R_valueKinds, R_valueNumbers, R_given)))) else none)) else none) else (
       if p1 = 2 then (
        Option.bind (f_Mod_isProduct p2 p4) (fun r459 =>
         if rI r459 = true then (if r459 = 0 then (
          ob2 (f_Mod_fail R_fault 3) (fun r462 R_fault_463 =>
           some (r462, R_values, R_fault_463, R_valueKinds, R_valueNumbers, R_given))) else (
          ob5 (f_Mod_make R_values R_valueKinds R_valueNumbers R_given 0 (p2 * p4)) (fun r465 R_values_466 R_valueKinds_467 R_valueNumbers_468 R_given_469 =>
           some (r465, R_values_466, R_fault, R_valueKinds_467, R_valueNumbers_468, R_given_469)))) else none)) else (
        if p1 = 3 then (
         if jl2 p4 0 = true then (if p4 = 0 then (
          ob2 (f_Mod_fail R_fault 3) (fun r473 R_fault_474 =>
           some (r473, R_values, R_fault_474, R_valueKinds, R_valueNumbers, R_given))) else (
          ob2 (f_Mod_fail R_fault 3) (fun r476 R_fault_477 =>
           some (r476, R_values, R_fault_477, R_valueKinds, R_valueNumbers, R_given)))) else none) else (
         if p1 = 4 then (
          if jl2 p4 0 = true then (if p4 = 0 then (
           ob2 (f_Mod_fail R_fault 3) (fun r487 R_fault_488 =>
            some (r487, R_values, R_fault_488, R_valueKinds, R_valueNumbers, R_given))) else (
           ob5 (f_Mod_make R_values R_valueKinds R_valueNumbers R_given 0 0) (fun r481 R_values_482 R_valueKinds_483 R_valueNumbers_484 R_given_485 =>
            some (r481, R_values_482, R_fault, R_valueKinds_483, R_valueNumbers_484, R_given_485)))) else none) else (
          if p1 = 5 then (
           if jl2 p4 0 = true then (if p4 = 0 then (
            ob2 (f_Mod_fail R_fault 3) (fun r492 R_fault_493 =>
             some (r492, R_values, R_fault_493, R_valueKinds, R_valueNumbers, R_given))) else (
            ob2 (f_Mod_fail R_fault 3) (fun r495 R_fault_496 =>
             some (r495, R_values, R_fault_496, R_valueKinds, R_valueNumbers, R_given)))) else none) else (
           if p1 = 6 then (
            if jl2 p4 0 = true then (if p4 = 0 then (
             ob2 (f_Mod_fail R_fault 3) (fun r506 R_fault_507 =>
              some (r506, R_values, R_fault_507, R_valueKinds, R_valueNumbers, R_given))) else (
             ob5 (f_Mod_make R_values R_valueKinds R_valueNumbers R_given 0 0) (fun r500 R_values_501 R_valueKinds_502 R_valueNumbers_503 R_given_504 =>
              some (r500, R_values_501, R_fault, R_valueKinds_502, R_valueNumbers_503, R_given_504)))) else none) else (
            if p1 = 7 then (
             if jl2 p2 p4 = true then (if p2 = p4 then (
              ob5 (f_Mod_truth R_values R_valueKinds R_valueNumbers R_given 1) (fun r517 R_values_518 R_valueKinds_519 R_valueNumbers_520 R_given_521 =>
               some (r517, R_values_518, R_fault, R_valueKinds_519, R_valueNumbers_520, R_given_521))) else (
              ob5 (f_Mod_truth R_values R_valueKinds R_valueNumbers R_given 0) (fun r511 R_values_512 R_valueKinds_513 R_valueNumbers_514 R_given_515 =>
               some (r511, R_values_512, R_fault, R_valueKinds_513, R_valueNumbers_514, R_given_515)))) else none) else (
             if p1 = 8 then (
              if jl2 p2 p4 = true then (if p4 ≤ p2 then (
               ob5 (f_Mod_truth R_values R_valueKinds R_valueNumbers R_given 0) (fun r525 R_values_526 R_valueKinds_527 R_valueNumbers_528 R_given_529 =>
                some (r525, R_values_526, R_fault, R_valueKinds_527, R_valueNumbers_528, R_given_529))) else (
               ob5 (f_Mod_truth R_values R_valueKinds R_valueNumbers R_given 1) (fun r531 R_values_532 R_valueKinds_533 R_valueNumbers_534 R_given_535 =>
                some (r531, R_values_532, R_fault, R_valueKinds_533, R_valueNumbers_534, R_given_535)))) else none) else (
              if jl2 p2 p4 = true then (if p4 < p2 then (
               ob5 (f_Mod_truth R_values R_valueKinds R_valueNumbers R_given 0) (fun r538 R_values_539 R_valueKinds_540 R_valueNumbers_541 R_given_542 =>
                some (r538, R_values_539, R_fault, R_valueKinds_540, R_valueNumbers_541, R_given_542))) else (
               ob5 (f_Mod_truth R_values R_valueKinds R_valueNumbers R_given 1) (fun r544 R_values_545 R_valueKinds_546 R_valueNumbers_547 R_given_548 =>
                some (r544, R_values_545, R_fault, R_valueKinds_546, R_valueNumbers_547, R_given_548)))) else none)))))))))) else none) else (
    if rI p1 = true then (
     if p1 = 0 then (
      if jl2 p4 0 = true then (if p4 ≤ 0 then (
       if jl2 p2 ((-9223372036854775808) - p4) = true then (if ((-9223372036854775808) - p4) ≤ p2 then (
        ob5 (f_Mod_make R_values R_valueKinds R_valueNumbers R_given 0 (p2 + p4)) (fun r212 R_values_213 R_valueKinds_214 R_valueNumbers_215 R_given_216 =>
         some (r212, R_values_213, R_fault, R_valueKinds_214, R_valueNumbers_215, R_given_216))) else (
        ob2 (f_Mod_fail R_fault 3) (fun r218 R_fault_219 =>
         some (r218, R_values, R_fault_219, R_valueKinds, R_valueNumbers, R_given)))) else none) else (
       if jl2 p2 (9223372036854775807 - p4) = true then (if p2 ≤ (9223372036854775807 - p4) then (
        ob5 (f_Mod_make R_values R_valueKinds R_valueNumbers R_given 0 (p2 + p4)) (fun r222 R_values_223 R_valueKinds_224 R_valueNumbers_225 R_given_226 =>
         some (r222, R_values_223, R_fault, R_valueKinds_224, R_valueNumbers_225, R_given_226))) else (
        ob2 (f_Mod_fail R_fault 3) (fun r228 R_fault_229 =>
         some (r228, R_values, R_fault_229, R_valueKinds, R_valueNumbers, R_given)))) else none)) else none) else (
      if p1 = 1 then (
       if jl2 p4 0 = true then (if 0 ≤ p4 then (
        if jl2 p2 ((-9223372036854775808) + p4) = true then (if ((-9223372036854775808) + p4) ≤ p2 then (
         ob5 (f_Mod_make R_values R_valueKinds R_valueNumbers R_given 0 (p2 - p4)) (fun r234 R_values_235 R_valueKinds_236 R_valueNumbers_237 R_given_238 =>
          some (r234, R_values_235, R_fault, R_valueKinds_236, R_valueNumbers_237, R_given_238))) else (
         ob2 (f_Mod_fail R_fault 3) (fun r240 R_fault_241 =>
          some (r240, R_values, R_fault_241, R_valueKinds, R_valueNumbers, R_given)))) else none) else (
        if jl2 p2 (9223372036854775807 + p4) = true then (if p2 ≤ (9223372036854775807 + p4) then (
         ob5 (f_Mod_make R_values R_valueKinds R_valueNumbers R_given 0 (p2 - p4)) (fun r244 R_values_245 R_valueKinds_246 R_valueNumbers_247 R_given_248 =>
          some (r244, R_values_245, R_fault, R_valueKinds_246, R_valueNumbers_247, R_given_248))) else (
         ob2 (f_Mod_fail R_fault 3) (fun r250 R_fault_251 =>
          some (r250, R_values, R_fault_251, R_valueKinds, R_valueNumbers, R_given)))) else none)) else none) else (
       if p1 = 2 then (
        Option.bind (f_Mod_isProduct p2 p4) (fun r254 =>
         if rI r254 = true then (if r254 = 0 then (
          ob2 (f_Mod_fail R_fault 3) (fun r257 R_fault_258 =>
           some (r257, R_values, R_fault_258, R_valueKinds, R_valueNumbers, R_given))) else (
          ob5 (f_Mod_make R_values R_valueKinds R_valueNumbers R_given 0 (p2 * p4)) (fun r260 R_values_261 R_valueKinds_262 R_valueNumbers_263 R_given_264 =>
           some (r260, R_values_261, R_fault, R_valueKinds_262, R_valueNumbers_263, R_given_264)))) else none)) else (
        if p1 = 3 then (
         if jl2 p4 0 = true then (if p4 = 0 then (
          ob2 (f_Mod_fail R_fault 3) (fun r268 R_fault_269 =>
           some (r268, R_values, R_fault_269, R_valueKinds, R_valueNumbers, R_given))) else (
          if jdl p2 p4 = true then (
           if jdl p2 p4 = true then (
            if jl2 (p2 - (Int.tdiv p2 p4) * p4) 0 = true then (if (p2 - (Int.tdiv p2 p4) * p4) = 0 then (
             ob5 (f_Mod_make R_values R_valueKinds R_valueNumbers R_given 0 ((Int.tdiv p2 p4) - 0)) (fun r274 R_values_275 R_valueKinds_276 R_valueNumbers_277 R_given_278 =>
              some (r274, R_values_275, R_fault, R_valueKinds_276, R_valueNumbers_277, R_given_278))) else (
             if jl2 p2 0 = true then (if 0 ≤ p2 then (
              if jl2 p4 0 = true then (if 0 ≤ p4 then (
               ob5 (f_Mod_make R_values R_valueKinds R_valueNumbers R_given 0 ((Int.tdiv p2 p4) - 0)) (fun r282 R_values_283 R_valueKinds_284 R_valueNumbers_285 R_given_286 =>
                some (r282, R_values_283, R_fault, R_valueKinds_284, R_valueNumbers_285, R_given_286))) else (
               ob5 (f_Mod_make R_values R_valueKinds R_valueNumbers R_given 0 ((Int.tdiv p2 p4) - 1)) (fun r288 R_values_289 R_valueKinds_290 R_valueNumbers_291 R_given_292 =>
                some (r288, R_values_289, R_fault, R_valueKinds_290, R_valueNumbers_291, R_given_292)))) else none) else (
              if jl2 p4 0 = true then (if 0 ≤ p4 then (
               ob5 (f_Mod_make R_values R_valueKinds R_valueNumbers R_given 0 ((Int.tdiv p2 p4) - 1)) (fun r295 R_values_296 R_valueKinds_297 R_valueNumbers_298 R_given_299 =>
                some (r295, R_values_296, R_fault, R_valueKinds_297, R_valueNumbers_298, R_given_299))) else (
               ob5 (f_Mod_make R_values R_valueKinds R_valueNumbers R_given 0 ((Int.tdiv p2 p4) - 0)) (fun r301 R_values_302 R_valueKinds_303 R_valueNumbers_304 R_given_305 =>
                some (r301, R_values_302, R_fault, R_valueKinds_303, R_valueNumbers_304, R_given_305)))) else none)) else none)) else none) else none) else none)) else none) else (
         if p1 = 4 then (
          if jl2 p4 0 = true then (if p4 = 0 then (
           ob2 (f_Mod_fail R_fault 3) (fun r345 R_fault_346 =>
            some (r345, R_values, R_fault_346, R_valueKinds, R_valueNumbers, R_given))) else (
           if jdl p2 p4 = true then (
            if jdl p2 p4 = true then (
             if jl2 (p2 - (Int.tdiv p2 p4) * p4) 0 = true then (if (p2 - (Int.tdiv p2 p4) * p4) = 0 then (
              ob5 (f_Mod_make R_values R_valueKinds R_valueNumbers R_given 0 ((p2 - (Int.tdiv p2 p4) * p4) + 0)) (fun r312 R_values_313 R_valueKinds_314 R_valueNumbers_315 R_given_316 =>
               some (r312, R_values_313, R_fault, R_valueKinds_314, R_valueNumbers_315, R_given_316))) else (
              if jl2 p2 0 = true then (if 0 ≤ p2 then (
               if jl2 p4 0 = true then (if 0 ≤ p4 then (
                ob5 (f_Mod_make R_values R_valueKinds R_valueNumbers R_given 0 ((p2 - (Int.tdiv p2 p4) * p4) + 0)) (fun r320 R_values_321 R_valueKinds_322 R_valueNumbers_323 R_given_324 =>
                 some (r320, R_values_321, R_fault, R_valueKinds_322, R_valueNumbers_323, R_given_324))) else (
                ob5 (f_Mod_make R_values R_valueKinds R_valueNumbers R_given 0 ((p2 - (Int.tdiv p2 p4) * p4) + p4)) (fun r326 R_values_327 R_valueKinds_328 R_valueNumbers_329 R_given_330 =>
                 some (r326, R_values_327, R_fault, R_valueKinds_328, R_valueNumbers_329, R_given_330)))) else none) else (
               if jl2 p4 0 = true then (if 0 ≤ p4 then (
                ob5 (f_Mod_make R_values R_valueKinds R_valueNumbers R_given 0 ((p2 - (Int.tdiv p2 p4) * p4) + p4)) (fun r333 R_values_334 R_valueKinds_335 R_valueNumbers_336 R_given_337 =>
                 some (r333, R_values_334, R_fault, R_valueKinds_335, R_valueNumbers_336, R_given_337))) else (
                ob5 (f_Mod_make R_values R_valueKinds R_valueNumbers R_given 0 ((p2 - (Int.tdiv p2 p4) * p4) + 0)) (fun r339 R_values_340 R_valueKinds_341 R_valueNumbers_342 R_given_343 =>
                 some (r339, R_values_340, R_fault, R_valueKinds_341, R_valueNumbers_342, R_given_343)))) else none)) else none)) else none) else none) else none)) else none) else (
          if p1 = 5 then (
           if jl2 p4 0 = true then (if p4 = 0 then (
            ob2 (f_Mod_fail R_fault 3) (fun r350 R_fault_351 =>
             some (r350, R_values, R_fault_351, R_valueKinds, R_valueNumbers, R_given))) else (
            if jdl p2 p4 = true then (
             ob5 (f_Mod_make R_values R_valueKinds R_valueNumbers R_given 0 (Int.tdiv p2 p4)) (fun r354 R_values_355 R_valueKinds_356 R_valueNumbers_357 R_given_358 =>
              some (r354, R_values_355, R_fault, R_valueKinds_356, R_valueNumbers_357, R_given_358))) else none)) else none) else (
           if p1 = 6 then (
            if jl2 p4 0 = true then (if p4 = 0 then (
             ob2 (f_Mod_fail R_fault 3) (fun r369 R_fault_370 =>
              some (r369, R_values, R_fault_370, R_valueKinds, R_valueNumbers, R_given))) else (
             if jdl p2 p4 = true then (
              ob5 (f_Mod_make R_values R_valueKinds R_valueNumbers R_given 0 (p2 - (Int.tdiv p2 p4) * p4)) (fun r363 R_values_364 R_valueKinds_365 R_valueNumbers_366 R_given_367 =>
               some (r363, R_values_364, R_fault, R_valueKinds_365, R_valueNumbers_366, R_given_367))) else none)) else none) else (
            if p1 = 7 then (
             if jl2 p2 p4 = true then (if p2 = p4 then (
              ob5 (f_Mod_truth R_values R_valueKinds R_valueNumbers R_given 1) (fun r380 R_values_381 R_valueKinds_382 R_valueNumbers_383 R_given_384 =>
               some (r380, R_values_381, R_fault, R_valueKinds_382, R_valueNumbers_383, R_given_384))) else (
              ob5 (f_Mod_truth R_values R_valueKinds R_valueNumbers R_given 0) (fun r374 R_values_375 R_valueKinds_376 R_valueNumbers_377 R_given_378 =>
               some (r374, R_values_375, R_fault, R_valueKinds_376, R_valueNumbers_377, R_given_378)))) else none) else (
             if p1 = 8 then (
              if jl2 p2 p4 = true then (if p4 ≤ p2 then (
               ob5 (f_Mod_truth R_values R_valueKinds R_valueNumbers R_given 0) (fun r388 R_values_389 R_valueKinds_390 R_valueNumbers_391 R_given_392 =>
                some (r388, R_values_389, R_fault, R_valueKinds_390, R_valueNumbers_391, R_given_392))) else (
               ob5 (f_Mod_truth R_values R_valueKinds R_valueNumbers R_given 1) (fun r394 R_values_395 R_valueKinds_396 R_valueNumbers_397 R_given_398 =>
                some (r394, R_values_395, R_fault, R_valueKinds_396, R_valueNumbers_397, R_given_398)))) else none) else (
              if jl2 p2 p4 = true then (if p4 < p2 then (
               ob5 (f_Mod_truth R_values R_valueKinds R_valueNumbers R_given 0) (fun r401 R_values_402 R_valueKinds_403 R_valueNumbers_404 R_given_405 =>
                some (r401, R_values_402, R_fault, R_valueKinds_403, R_valueNumbers_404, R_given_405))) else (
               ob5 (f_Mod_truth R_values R_valueKinds R_valueNumbers R_given 1) (fun r407 R_values_408 R_valueKinds_409 R_valueNumbers_410 R_given_411 =>
                some (r407, R_values_408, R_fault, R_valueKinds_409, R_valueNumbers_410, R_given_411)))) else none)))))))))) else none)) else none) else (
   if rI p1 = true then (
    if p1 = 0 then (
     if jl2 p4 0 = true then (if p4 ≤ 0 then (
      if jl2 p2 ((-9223372036854775808) - p4) = true then (if ((-9223372036854775808) - p4) ≤ p2 then (
       ob5 (f_Mod_make R_values R_valueKinds R_valueNumbers R_given 0 (p2 + p4)) (fun r6 R_values_7 R_valueKinds_8 R_valueNumbers_9 R_given_10 =>
        some (r6, R_values_7, R_fault, R_valueKinds_8, R_valueNumbers_9, R_given_10))) else (
       ob2 (f_Mod_fail R_fault 3) (fun r12 R_fault_13 =>
        some (r12, R_values, R_fault_13, R_valueKinds, R_valueNumbers, R_given)))) else none) else (
      if jl2 p2 (9223372036854775807 - p4) = true then (if p2 ≤ (9223372036854775807 - p4) then (
       ob5 (f_Mod_make R_values R_valueKinds R_valueNumbers R_given 0 (p2 + p4)) (fun r16 R_values_17 R_valueKinds_18 R_valueNumbers_19 R_given_20 =>
        some (r16, R_values_17, R_fault, R_valueKinds_18, R_valueNumbers_19, R_given_20))) else (
       ob2 (f_Mod_fail R_fault 3) (fun r22 R_fault_23 =>
        some (r22, R_values, R_fault_23, R_valueKinds, R_valueNumbers, R_given)))) else none)) else none) else (
     if p1 = 1 then (
      if jl2 p4 0 = true then (if 0 ≤ p4 then (
       if jl2 p2 ((-9223372036854775808) + p4) = true then (if ((-9223372036854775808) + p4) ≤ p2 then (
        ob5 (f_Mod_make R_values R_valueKinds R_valueNumbers R_given 0 (p2 - p4)) (fun r28 R_values_29 R_valueKinds_30 R_valueNumbers_31 R_given_32 =>
         some (r28, R_values_29, R_fault, R_valueKinds_30, R_valueNumbers_31, R_given_32))) else (
        ob2 (f_Mod_fail R_fault 3) (fun r34 R_fault_35 =>
         some (r34, R_values, R_fault_35, R_valueKinds, R_valueNumbers, R_given)))) else none) else (
       if jl2 p2 (9223372036854775807 + p4) = true then (if p2 ≤ (9223372036854775807 + p4) then (
        ob5 (f_Mod_make R_values R_valueKinds R_valueNumbers R_given 0 (p2 - p4)) (fun r38 R_values_39 R_valueKinds_40 R_valueNumbers_41 R_given_42 =>
         some (r38, R_values_39, R_fault, R_valueKinds_40, R_valueNumbers_41, R_given_42))) else (
        ob2 (f_Mod_fail R_fault 3) (fun r44 R_fault_45 =>
         some (r44, R_values, R_fault_45, R_valueKinds, R_valueNumbers, R_given)))) else none)) else none) else (
      if p1 = 2 then (
       Option.bind (f_Mod_isProduct p2 p4) (fun r48 =>
        if rI r48 = true then (if r48 = 0 then (
         ob2 (f_Mod_fail R_fault 3) (fun r51 R_fault_52 =>
          some (r51, R_values, R_fault_52, R_valueKinds, R_valueNumbers, R_given))) else (
         ob5 (f_Mod_make R_values R_valueKinds R_valueNumbers R_given 0 (p2 * p4)) (fun r54 R_values_55 R_valueKinds_56 R_valueNumbers_57 R_given_58 =>
          some (r54, R_values_55, R_fault, R_valueKinds_56, R_valueNumbers_57, R_given_58)))) else none)) else (
       if p1 = 3 then (
        if jl2 p4 0 = true then (if p4 = 0 then (
         ob2 (f_Mod_fail R_fault 3) (fun r62 R_fault_63 =>
          some (r62, R_values, R_fault_63, R_valueKinds, R_valueNumbers, R_given))) else (
         if jdl p2 p4 = true then (
          if jdl p2 p4 = true then (
           if jl2 (p2 - (Int.tdiv p2 p4) * p4) 0 = true then (if (p2 - (Int.tdiv p2 p4) * p4) = 0 then (
            ob5 (f_Mod_make R_values R_valueKinds R_valueNumbers R_given 0 ((Int.tdiv p2 p4) - 0)) (fun r68 R_values_69 R_valueKinds_70 R_valueNumbers_71 R_given_72 =>
             some (r68, R_values_69, R_fault, R_valueKinds_70, R_valueNumbers_71, R_given_72))) else (
            if jl2 p2 0 = true then (if 0 ≤ p2 then (
             if jl2 p4 0 = true then (if 0 ≤ p4 then (
              ob5 (f_Mod_make R_values R_valueKinds R_valueNumbers R_given 0 ((Int.tdiv p2 p4) - 0)) (fun r76 R_values_77 R_valueKinds_78 R_valueNumbers_79 R_given_80 =>
               some (r76, R_values_77, R_fault, R_valueKinds_78, R_valueNumbers_79, R_given_80))) else (
              ob5 (f_Mod_make R_values R_valueKinds R_valueNumbers R_given 0 ((Int.tdiv p2 p4) - 1)) (fun r82 R_values_83 R_valueKinds_84 R_valueNumbers_85 R_given_86 =>
               some (r82, R_values_83, R_fault, R_valueKinds_84, R_valueNumbers_85, R_given_86)))) else none) else (
             if jl2 p4 0 = true then (if 0 ≤ p4 then (
              ob5 (f_Mod_make R_values R_valueKinds R_valueNumbers R_given 0 ((Int.tdiv p2 p4) - 1)) (fun r89 R_values_90 R_valueKinds_91 R_valueNumbers_92 R_given_93 =>
               some (r89, R_values_90, R_fault, R_valueKinds_91, R_valueNumbers_92, R_given_93))) else (
              ob5 (f_Mod_make R_values R_valueKinds R_valueNumbers R_given 0 ((Int.tdiv p2 p4) - 0)) (fun r95 R_values_96 R_valueKinds_97 R_valueNumbers_98 R_given_99 =>
               some (r95, R_values_96, R_fault, R_valueKinds_97, R_valueNumbers_98, R_given_99)))) else none)) else none)) else none) else none) else none)) else none) else (
        if p1 = 4 then (
         if jl2 p4 0 = true then (if p4 = 0 then (
          ob2 (f_Mod_fail R_fault 3) (fun r139 R_fault_140 =>
           some (r139, R_values, R_fault_140, R_valueKinds, R_valueNumbers, R_given))) else (
          if jdl p2 p4 = true then (
           if jdl p2 p4 = true then (
            if jl2 (p2 - (Int.tdiv p2 p4) * p4) 0 = true then (if (p2 - (Int.tdiv p2 p4) * p4) = 0 then (
             ob5 (f_Mod_make R_values R_valueKinds R_valueNumbers R_given 0 ((p2 - (Int.tdiv p2 p4) * p4) + 0)) (fun r106 R_values_107 R_valueKinds_108 R_valueNumbers_109 R_given_110 =>
              some (r106, R_values_107, R_fault, R_valueKinds_108, R_valueNumbers_109, R_given_110))) else (
             if jl2 p2 0 = true then (if 0 ≤ p2 then (
              if jl2 p4 0 = true then (if 0 ≤ p4 then (
               ob5 (f_Mod_make R_values R_valueKinds R_valueNumbers R_given 0 ((p2 - (Int.tdiv p2 p4) * p4) + 0)) (fun r114 R_values_115 R_valueKinds_116 R_valueNumbers_117 R_given_118 =>
                some (r114, R_values_115, R_fault, R_valueKinds_116, R_valueNumbers_117, R_given_118))) else (
               ob5 (f_Mod_make R_values R_valueKinds R_valueNumbers R_given 0 ((p2 - (Int.tdiv p2 p4) * p4) + p4)) (fun r120 R_values_121 R_valueKinds_122 R_valueNumbers_123 R_given_124 =>
                some (r120, R_values_121, R_fault, R_valueKinds_122, R_valueNumbers_123, R_given_124)))) else none) else (
              if jl2 p4 0 = true then (if 0 ≤ p4 then (
               ob5 (f_Mod_make R_values R_valueKinds R_valueNumbers R_given 0 ((p2 - (Int.tdiv p2 p4) * p4) + p4)) (fun r127 R_values_128 R_valueKinds_129 R_valueNumbers_130 R_given_131 =>
                some (r127, R_values_128, R_fault, R_valueKinds_129, R_valueNumbers_130, R_given_131))) else (
               ob5 (f_Mod_make R_values R_valueKinds R_valueNumbers R_given 0 ((p2 - (Int.tdiv p2 p4) * p4) + 0)) (fun r133 R_values_134 R_valueKinds_135 R_valueNumbers_136 R_given_137 =>
                some (r133, R_values_134, R_fault, R_valueKinds_135, R_valueNumbers_136, R_given_137)))) else none)) else none)) else none) else none) else none)) else none) else (
         if p1 = 5 then (
          if jl2 p4 0 = true then (if p4 = 0 then (
           ob2 (f_Mod_fail R_fault 3) (fun r144 R_fault_145 =>
            some (r144, R_values, R_fault_145, R_valueKinds, R_valueNumbers, R_given))) else (
           if jdl p2 p4 = true then (
            ob5 (f_Mod_make R_values R_valueKinds R_valueNumbers R_given 0 (Int.tdiv p2 p4)) (fun r148 R_values_149 R_valueKinds_150 R_valueNumbers_151 R_given_152 =>
             some (r148, R_values_149, R_fault, R_valueKinds_150, R_valueNumbers_151, R_given_152))) else none)) else none) else (
          if p1 = 6 then (
           if jl2 p4 0 = true then (if p4 = 0 then (
            ob2 (f_Mod_fail R_fault 3) (fun r163 R_fault_164 =>
             some (r163, R_values, R_fault_164, R_valueKinds, R_valueNumbers, R_given))) else (
            if jdl p2 p4 = true then (
             ob5 (f_Mod_make R_values R_valueKinds R_valueNumbers R_given 0 (p2 - (Int.tdiv p2 p4) * p4)) (fun r157 R_values_158 R_valueKinds_159 R_valueNumbers_160 R_given_161 =>
              some (r157, R_values_158, R_fault, R_valueKinds_159, R_valueNumbers_160, R_given_161))) else none)) else none) else (
           if p1 = 7 then (
            if jl2 p2 p4 = true then (if p2 = p4 then (
             ob5 (f_Mod_truth R_values R_valueKinds R_valueNumbers R_given 1) (fun r174 R_values_175 R_valueKinds_176 R_valueNumbers_177 R_given_178 =>
              some (r174, R_values_175, R_fault, R_valueKinds_176, R_valueNumbers_177, R_given_178))) else (
             ob5 (f_Mod_truth R_values R_valueKinds R_valueNumbers R_given 0) (fun r168 R_values_169 R_valueKinds_170 R_valueNumbers_171 R_given_172 =>
              some (r168, R_values_169, R_fault, R_valueKinds_170, R_valueNumbers_171, R_given_172)))) else none) else (
            if p1 = 8 then (
             if jl2 p2 p4 = true then (if p4 ≤ p2 then (
              ob5 (f_Mod_truth R_values R_valueKinds R_valueNumbers R_given 0) (fun r182 R_values_183 R_valueKinds_184 R_valueNumbers_185 R_given_186 =>
               some (r182, R_values_183, R_fault, R_valueKinds_184, R_valueNumbers_185, R_given_186))) else (
              ob5 (f_Mod_truth R_values R_valueKinds R_valueNumbers R_given 1) (fun r188 R_values_189 R_valueKinds_190 R_valueNumbers_191 R_given_192 =>
               some (r188, R_values_189, R_fault, R_valueKinds_190, R_valueNumbers_191, R_given_192)))) else none) else (
             if jl2 p2 p4 = true then (if p4 < p2 then (
              ob5 (f_Mod_truth R_values R_valueKinds R_valueNumbers R_given 0) (fun r195 R_values_196 R_valueKinds_197 R_valueNumbers_198 R_given_199 =>
               some (r195, R_values_196, R_fault, R_valueKinds_197, R_valueNumbers_198, R_given_199))) else (
              ob5 (f_Mod_truth R_values R_valueKinds R_valueNumbers R_given 1) (fun r201 R_values_202 R_valueKinds_203 R_valueNumbers_204 R_given_205 =>
               some (r201, R_values_202, R_fault, R_valueKinds_203, R_valueNumbers_204, R_given_205)))) else none)))))))))) else none)) else none
set_option maxHeartbeats 4000000 in
set_option maxRecDepth 100000 in
theorem c_Mod_sums {l : Launch} {D : va_G} {cI cL cB : ClassId} {ad : Nat → Nat} {R_thrown : Int} {R_used : Int} {R_many : Int} {R_values : Int} {R_textEnd : Int} {R_dataEnd : Int} {R_rowEnd : Int} {R_rowMany : Int} {R_waiting : Int} {R_mostWaiting : Int} {R_answer : Int} {R_steps : Int} {R_memory : Int} {R_maxSteps : Int} {R_maxMemory : Int} {R_fault : Int} {R_result : Int} {R_now : Int} {R_nowRow : Int} {R_come : Int} {R_puts : Int} {R_valueKinds : Int → Int} {R_valueNumbers : Int → Int} {R_given : Int → Int} {p1 : Int} {p2 : Int} {p4 : Int} {out : Int × Int × Int × (Int → Int) × (Int → Int) × (Int → Int)} (h : f_Mod_sums R_values R_fault R_valueKinds R_valueNumbers R_given p1 p2 p4 = some out) : CT jF0 false l D [(cI, .int), (cL, .long), (cB, .byte)] y_Mod_sums w_Mod_sums ({ frames := 2, cells := 0, slots := 0, locals := 44 } : Room) [.ref (ad 0), .int (zI p1), .long (zL p2), .long (zL p4)] [(ad 0, .inr (10, [.int (zI R_thrown), .ref (ad 1), .ref (ad 2), .ref (ad 3), .ref (ad 4), .ref (ad 5), .ref (ad 6), .int (zI R_used), .ref (ad 7), .int (zI R_many), .ref (ad 8), .ref (ad 9), .ref (ad 10), .ref (ad 11), .ref (ad 12), .ref (ad 13), .ref (ad 14), .ref (ad 15), .ref (ad 16), .int (zI R_values), .ref (ad 17), .int (zI R_textEnd), .ref (ad 18), .ref (ad 19), .ref (ad 20), .ref (ad 21), .int (zI R_dataEnd), .ref (ad 22), .int (zI R_rowEnd), .ref (ad 23), .ref (ad 24), .int (zI R_rowMany), .ref (ad 25), .ref (ad 26), .ref (ad 27), .ref (ad 28), .int (zI R_waiting), .int (zI R_mostWaiting), .int (zI R_answer), .int (zI R_steps), .int (zI R_memory), .int (zI R_maxSteps), .int (zI R_maxMemory), .int (zI R_fault), .int (zI R_result), .int (zI R_now), .int (zI R_nowRow), .int (zI R_come), .ref (ad 29), .ref (ad 30), .int (zI R_puts), .ref (ad 31)])), (ad 8, .inl (cI, 3700, .inl (zA R_valueKinds))), (ad 9, .inl (cL, 3700, .inr (.inl (zB R_valueNumbers)))), (ad 14, .inl (cI, 3700, .inl (zA R_given)))] (some (.int (zI out.1))) [(ad 0, .inr (10, [.int (zI R_thrown), .ref (ad 1), .ref (ad 2), .ref (ad 3), .ref (ad 4), .ref (ad 5), .ref (ad 6), .int (zI R_used), .ref (ad 7), .int (zI R_many), .ref (ad 8), .ref (ad 9), .ref (ad 10), .ref (ad 11), .ref (ad 12), .ref (ad 13), .ref (ad 14), .ref (ad 15), .ref (ad 16), .int (zI (out.2.1)), .ref (ad 17), .int (zI R_textEnd), .ref (ad 18), .ref (ad 19), .ref (ad 20), .ref (ad 21), .int (zI R_dataEnd), .ref (ad 22), .int (zI R_rowEnd), .ref (ad 23), .ref (ad 24), .int (zI R_rowMany), .ref (ad 25), .ref (ad 26), .ref (ad 27), .ref (ad 28), .int (zI R_waiting), .int (zI R_mostWaiting), .int (zI R_answer), .int (zI R_steps), .int (zI R_memory), .int (zI R_maxSteps), .int (zI R_maxMemory), .int (zI (out.2.2.1)), .int (zI R_result), .int (zI R_now), .int (zI R_nowRow), .int (zI R_come), .ref (ad 29), .ref (ad 30), .int (zI R_puts), .ref (ad 31)])), (ad 8, .inl (cI, 3700, .inl (zA (out.2.2.2.1)))), (ad 9, .inl (cL, 3700, .inr (.inl (zB (out.2.2.2.2.1))))), (ad 14, .inl (cI, 3700, .inl (zA (out.2.2.2.2.2))))] 0 0 := by
  refine CT_of_J (cc := b_Mod_sums) (maxL := 7) (ret := (some .int)) jF0_k (plainFor_of_name (by decide)) rfl (Nat.le_of_ble_eq_true rfl) ?_
  intro K hKl hKD X E
  subst hKl; subst hKD
  unfold f_Mod_sums at h
  refine J_lload X d_Mod_sums_0 3 rfl ?_
  refine J_ldc2 (v := (-1)) (n := (-1)) X (j_m own_Mod_sums (by decide +kernel)) (by decide) d_Mod_sums_2 ?_
  refine J_lc_ne (tgt := 21) X d_Mod_sums_5 d_Mod_sums_6 (by decide) h (fun c1 h => ?_) (fun c1 h => ?_)
  · refine J_iconst X d_Mod_sums_21 ?_
    refine J_istore (lv' := [(6, .int (zI 0)), (0, .ref (ad 0)), (1, .int (zI p1)), (2, .long (zL p2)), (4, .long (zL p4))]) X d_Mod_sums_22 (by decide) rfl ?_
    refine J_iload_n X d_Mod_sums_24 rfl 2 rfl ?_
    obtain ⟨g2, h⟩ := wk_g h
    rcases wk_c h with ⟨c3, h⟩ | ⟨c3, h⟩
    · refine J_tsIn (tgt := 76) X 0 c3 g2 d_Mod_sums_25 (by decide) (by decide) rfl (by decide) ?_
      refine J_lload X d_Mod_sums_76 4 rfl ?_
      refine J_lconst (v := 0) X d_Mod_sums_78 (by decide) ?_
      refine J_lc_le (tgt := 114) X d_Mod_sums_79 d_Mod_sums_80 (by decide) h (fun c4 h => ?_) (fun c4 h => ?_)
      · refine J_lload_n X d_Mod_sums_114 rfl 3 rfl ?_
        refine J_ldc2 (v := (-9223372036854775808)) (n := (-9223372036854775808)) X (j_m own_Mod_sums (by decide +kernel)) (by decide) d_Mod_sums_115 ?_
        refine J_lload X d_Mod_sums_118 4 rfl ?_
        refine J_lsub X d_Mod_sums_120 ?_
        refine J_lc_ge (tgt := 133) X d_Mod_sums_121 d_Mod_sums_122 (by decide) h (fun c5 h => ?_) (fun c5 h => ?_)
        · refine J_aload_n X d_Mod_sums_133 rfl 1 rfl ?_
          refine J_iconst X d_Mod_sums_134 ?_
          refine J_lload_n X d_Mod_sums_135 rfl 3 rfl ?_
          refine J_lload X d_Mod_sums_136 4 rfl ?_
          refine J_ladd X d_Mod_sums_138 ?_
          obtain ⟨r6, R_values_7, R_valueKinds_8, R_valueNumbers_9, R_given_10, q11, h⟩ := wk_b5 h
          refine J_afterI0 (ws' := [(ad 0, .inr (10, [.int (zI R_thrown), .ref (ad 1), .ref (ad 2), .ref (ad 3), .ref (ad 4), .ref (ad 5), .ref (ad 6), .int (zI R_used), .ref (ad 7), .int (zI R_many), .ref (ad 8), .ref (ad 9), .ref (ad 10), .ref (ad 11), .ref (ad 12), .ref (ad 13), .ref (ad 14), .ref (ad 15), .ref (ad 16), .int (zI R_values_7), .ref (ad 17), .int (zI R_textEnd), .ref (ad 18), .ref (ad 19), .ref (ad 20), .ref (ad 21), .int (zI R_dataEnd), .ref (ad 22), .int (zI R_rowEnd), .ref (ad 23), .ref (ad 24), .int (zI R_rowMany), .ref (ad 25), .ref (ad 26), .ref (ad 27), .ref (ad 28), .int (zI R_waiting), .int (zI R_mostWaiting), .int (zI R_answer), .int (zI R_steps), .int (zI R_memory), .int (zI R_maxSteps), .int (zI R_maxMemory), .int (zI R_fault), .int (zI R_result), .int (zI R_now), .int (zI R_nowRow), .int (zI R_come), .ref (ad 29), .ref (ad 30), .int (zI R_puts), .ref (ad 31)])), (ad 8, .inl (cI, 3700, .inl (zA R_valueKinds_8))), (ad 9, .inl (cL, 3700, .inr (.inl (zB R_valueNumbers_9)))), (ad 14, .inl (cI, 3700, .inl (zA R_given_10)))]) X (jrunV X (c_Mod_make (ad := ad) q11) jF0_k (fun _ _ _ _ => trivial) (jgV own_Mod_sums (by decide +kernel)) rfl rfl rfl pd_Mod_make (by decide) [0, 1, 2, 3] rfl (by decide) 0 10 rfl rfl rfl rfl (Nat.le_of_ble_eq_true rfl) d_Mod_sums_139 (by decide)) [0, 1, 2, 3] [] [0, 1, 2, 3] rfl rfl (by decide) (by decide) rfl (by decide) ?_
          cases h
          exact J_ret E ⟨_, rfl, rfl⟩ d_Mod_sums_142 (Nat.le_refl _) (Nat.le_refl _) rfl
        · refine J_aload_n X d_Mod_sums_125 rfl 1 rfl ?_
          refine J_iconst X d_Mod_sums_126 ?_
          obtain ⟨r12, R_fault_13, q14, h⟩ := wk_b2 h
          refine J_afterI0 (ws' := [(ad 0, .inr (10, [.int (zI R_thrown), .ref (ad 1), .ref (ad 2), .ref (ad 3), .ref (ad 4), .ref (ad 5), .ref (ad 6), .int (zI R_used), .ref (ad 7), .int (zI R_many), .ref (ad 8), .ref (ad 9), .ref (ad 10), .ref (ad 11), .ref (ad 12), .ref (ad 13), .ref (ad 14), .ref (ad 15), .ref (ad 16), .int (zI R_values), .ref (ad 17), .int (zI R_textEnd), .ref (ad 18), .ref (ad 19), .ref (ad 20), .ref (ad 21), .int (zI R_dataEnd), .ref (ad 22), .int (zI R_rowEnd), .ref (ad 23), .ref (ad 24), .int (zI R_rowMany), .ref (ad 25), .ref (ad 26), .ref (ad 27), .ref (ad 28), .int (zI R_waiting), .int (zI R_mostWaiting), .int (zI R_answer), .int (zI R_steps), .int (zI R_memory), .int (zI R_maxSteps), .int (zI R_maxMemory), .int (zI R_fault_13), .int (zI R_result), .int (zI R_now), .int (zI R_nowRow), .int (zI R_come), .ref (ad 29), .ref (ad 30), .int (zI R_puts), .ref (ad 31)])), (ad 8, .inl (cI, 3700, .inl (zA R_valueKinds))), (ad 9, .inl (cL, 3700, .inr (.inl (zB R_valueNumbers)))), (ad 14, .inl (cI, 3700, .inl (zA R_given)))]) X (jrunV X (c_Mod_fail (ad := ad) q14) jF0_k (fun _ _ _ _ => trivial) (jgV own_Mod_sums (by decide +kernel)) rfl rfl rfl pd_Mod_fail (by decide) [0] rfl (by decide) 0 10 rfl rfl rfl rfl (Nat.le_of_ble_eq_true rfl) d_Mod_sums_127 (by decide)) [0] [1, 2, 3] [3, 0, 1, 2] rfl rfl (by decide) (by decide) rfl (by decide) ?_
          refine J_goto (tgt := 142) X d_Mod_sums_130 (by decide) ?_
          cases h
          exact J_ret E ⟨_, rfl, rfl⟩ d_Mod_sums_142 (Nat.le_refl _) (Nat.le_refl _) rfl
      · refine J_lload_n X d_Mod_sums_83 rfl 3 rfl ?_
        refine J_ldc2 (v := 9223372036854775807) (n := 9223372036854775807) X (j_m own_Mod_sums (by decide +kernel)) (by decide) d_Mod_sums_84 ?_
        refine J_lload X d_Mod_sums_87 4 rfl ?_
        refine J_lsub X d_Mod_sums_89 ?_
        refine J_lc_le (tgt := 102) X d_Mod_sums_90 d_Mod_sums_91 (by decide) h (fun c15 h => ?_) (fun c15 h => ?_)
        · refine J_aload_n X d_Mod_sums_102 rfl 1 rfl ?_
          refine J_iconst X d_Mod_sums_103 ?_
          refine J_lload_n X d_Mod_sums_104 rfl 3 rfl ?_
          refine J_lload X d_Mod_sums_105 4 rfl ?_
          refine J_ladd X d_Mod_sums_107 ?_
          obtain ⟨r16, R_values_17, R_valueKinds_18, R_valueNumbers_19, R_given_20, q21, h⟩ := wk_b5 h
          refine J_afterI0 (ws' := [(ad 0, .inr (10, [.int (zI R_thrown), .ref (ad 1), .ref (ad 2), .ref (ad 3), .ref (ad 4), .ref (ad 5), .ref (ad 6), .int (zI R_used), .ref (ad 7), .int (zI R_many), .ref (ad 8), .ref (ad 9), .ref (ad 10), .ref (ad 11), .ref (ad 12), .ref (ad 13), .ref (ad 14), .ref (ad 15), .ref (ad 16), .int (zI R_values_17), .ref (ad 17), .int (zI R_textEnd), .ref (ad 18), .ref (ad 19), .ref (ad 20), .ref (ad 21), .int (zI R_dataEnd), .ref (ad 22), .int (zI R_rowEnd), .ref (ad 23), .ref (ad 24), .int (zI R_rowMany), .ref (ad 25), .ref (ad 26), .ref (ad 27), .ref (ad 28), .int (zI R_waiting), .int (zI R_mostWaiting), .int (zI R_answer), .int (zI R_steps), .int (zI R_memory), .int (zI R_maxSteps), .int (zI R_maxMemory), .int (zI R_fault), .int (zI R_result), .int (zI R_now), .int (zI R_nowRow), .int (zI R_come), .ref (ad 29), .ref (ad 30), .int (zI R_puts), .ref (ad 31)])), (ad 8, .inl (cI, 3700, .inl (zA R_valueKinds_18))), (ad 9, .inl (cL, 3700, .inr (.inl (zB R_valueNumbers_19)))), (ad 14, .inl (cI, 3700, .inl (zA R_given_20)))]) X (jrunV X (c_Mod_make (ad := ad) q21) jF0_k (fun _ _ _ _ => trivial) (jgV own_Mod_sums (by decide +kernel)) rfl rfl rfl pd_Mod_make (by decide) [0, 1, 2, 3] rfl (by decide) 0 10 rfl rfl rfl rfl (Nat.le_of_ble_eq_true rfl) d_Mod_sums_108 (by decide)) [0, 1, 2, 3] [] [0, 1, 2, 3] rfl rfl (by decide) (by decide) rfl (by decide) ?_
          refine J_goto (tgt := 142) X d_Mod_sums_111 (by decide) ?_
          cases h
          exact J_ret E ⟨_, rfl, rfl⟩ d_Mod_sums_142 (Nat.le_refl _) (Nat.le_refl _) rfl
        · refine J_aload_n X d_Mod_sums_94 rfl 1 rfl ?_
          refine J_iconst X d_Mod_sums_95 ?_
          obtain ⟨r22, R_fault_23, q24, h⟩ := wk_b2 h
          refine J_afterI0 (ws' := [(ad 0, .inr (10, [.int (zI R_thrown), .ref (ad 1), .ref (ad 2), .ref (ad 3), .ref (ad 4), .ref (ad 5), .ref (ad 6), .int (zI R_used), .ref (ad 7), .int (zI R_many), .ref (ad 8), .ref (ad 9), .ref (ad 10), .ref (ad 11), .ref (ad 12), .ref (ad 13), .ref (ad 14), .ref (ad 15), .ref (ad 16), .int (zI R_values), .ref (ad 17), .int (zI R_textEnd), .ref (ad 18), .ref (ad 19), .ref (ad 20), .ref (ad 21), .int (zI R_dataEnd), .ref (ad 22), .int (zI R_rowEnd), .ref (ad 23), .ref (ad 24), .int (zI R_rowMany), .ref (ad 25), .ref (ad 26), .ref (ad 27), .ref (ad 28), .int (zI R_waiting), .int (zI R_mostWaiting), .int (zI R_answer), .int (zI R_steps), .int (zI R_memory), .int (zI R_maxSteps), .int (zI R_maxMemory), .int (zI R_fault_23), .int (zI R_result), .int (zI R_now), .int (zI R_nowRow), .int (zI R_come), .ref (ad 29), .ref (ad 30), .int (zI R_puts), .ref (ad 31)])), (ad 8, .inl (cI, 3700, .inl (zA R_valueKinds))), (ad 9, .inl (cL, 3700, .inr (.inl (zB R_valueNumbers)))), (ad 14, .inl (cI, 3700, .inl (zA R_given)))]) X (jrunV X (c_Mod_fail (ad := ad) q24) jF0_k (fun _ _ _ _ => trivial) (jgV own_Mod_sums (by decide +kernel)) rfl rfl rfl pd_Mod_fail (by decide) [0] rfl (by decide) 0 10 rfl rfl rfl rfl (Nat.le_of_ble_eq_true rfl) d_Mod_sums_96 (by decide)) [0] [1, 2, 3] [3, 0, 1, 2] rfl rfl (by decide) (by decide) rfl (by decide) ?_
          refine J_goto (tgt := 142) X d_Mod_sums_99 (by decide) ?_
          cases h
          exact J_ret E ⟨_, rfl, rfl⟩ d_Mod_sums_142 (Nat.le_refl _) (Nat.le_refl _) rfl
    · rcases wk_c h with ⟨c25, h⟩ | ⟨c25, h⟩
      · refine J_tsIn (tgt := 143) X 1 c25 g2 d_Mod_sums_25 (by decide) (by decide) rfl (by decide) ?_
        refine J_lload X d_Mod_sums_143 4 rfl ?_
        refine J_lconst (v := 0) X d_Mod_sums_145 (by decide) ?_
        refine J_lc_ge (tgt := 181) X d_Mod_sums_146 d_Mod_sums_147 (by decide) h (fun c26 h => ?_) (fun c26 h => ?_)
        · refine J_lload_n X d_Mod_sums_181 rfl 3 rfl ?_
          refine J_ldc2 (v := (-9223372036854775808)) (n := (-9223372036854775808)) X (j_m own_Mod_sums (by decide +kernel)) (by decide) d_Mod_sums_182 ?_
          refine J_lload X d_Mod_sums_185 4 rfl ?_
          refine J_ladd X d_Mod_sums_187 ?_
          refine J_lc_ge (tgt := 200) X d_Mod_sums_188 d_Mod_sums_189 (by decide) h (fun c27 h => ?_) (fun c27 h => ?_)
          · refine J_aload_n X d_Mod_sums_200 rfl 1 rfl ?_
            refine J_iconst X d_Mod_sums_201 ?_
            refine J_lload_n X d_Mod_sums_202 rfl 3 rfl ?_
            refine J_lload X d_Mod_sums_203 4 rfl ?_
            refine J_lsub X d_Mod_sums_205 ?_
            obtain ⟨r28, R_values_29, R_valueKinds_30, R_valueNumbers_31, R_given_32, q33, h⟩ := wk_b5 h
            refine J_afterI0 (ws' := [(ad 0, .inr (10, [.int (zI R_thrown), .ref (ad 1), .ref (ad 2), .ref (ad 3), .ref (ad 4), .ref (ad 5), .ref (ad 6), .int (zI R_used), .ref (ad 7), .int (zI R_many), .ref (ad 8), .ref (ad 9), .ref (ad 10), .ref (ad 11), .ref (ad 12), .ref (ad 13), .ref (ad 14), .ref (ad 15), .ref (ad 16), .int (zI R_values_29), .ref (ad 17), .int (zI R_textEnd), .ref (ad 18), .ref (ad 19), .ref (ad 20), .ref (ad 21), .int (zI R_dataEnd), .ref (ad 22), .int (zI R_rowEnd), .ref (ad 23), .ref (ad 24), .int (zI R_rowMany), .ref (ad 25), .ref (ad 26), .ref (ad 27), .ref (ad 28), .int (zI R_waiting), .int (zI R_mostWaiting), .int (zI R_answer), .int (zI R_steps), .int (zI R_memory), .int (zI R_maxSteps), .int (zI R_maxMemory), .int (zI R_fault), .int (zI R_result), .int (zI R_now), .int (zI R_nowRow), .int (zI R_come), .ref (ad 29), .ref (ad 30), .int (zI R_puts), .ref (ad 31)])), (ad 8, .inl (cI, 3700, .inl (zA R_valueKinds_30))), (ad 9, .inl (cL, 3700, .inr (.inl (zB R_valueNumbers_31)))), (ad 14, .inl (cI, 3700, .inl (zA R_given_32)))]) X (jrunV X (c_Mod_make (ad := ad) q33) jF0_k (fun _ _ _ _ => trivial) (jgV own_Mod_sums (by decide +kernel)) rfl rfl rfl pd_Mod_make (by decide) [0, 1, 2, 3] rfl (by decide) 0 10 rfl rfl rfl rfl (Nat.le_of_ble_eq_true rfl) d_Mod_sums_206 (by decide)) [0, 1, 2, 3] [] [0, 1, 2, 3] rfl rfl (by decide) (by decide) rfl (by decide) ?_
            cases h
            exact J_ret E ⟨_, rfl, rfl⟩ d_Mod_sums_209 (Nat.le_refl _) (Nat.le_refl _) rfl
          · refine J_aload_n X d_Mod_sums_192 rfl 1 rfl ?_
            refine J_iconst X d_Mod_sums_193 ?_
            obtain ⟨r34, R_fault_35, q36, h⟩ := wk_b2 h
            refine J_afterI0 (ws' := [(ad 0, .inr (10, [.int (zI R_thrown), .ref (ad 1), .ref (ad 2), .ref (ad 3), .ref (ad 4), .ref (ad 5), .ref (ad 6), .int (zI R_used), .ref (ad 7), .int (zI R_many), .ref (ad 8), .ref (ad 9), .ref (ad 10), .ref (ad 11), .ref (ad 12), .ref (ad 13), .ref (ad 14), .ref (ad 15), .ref (ad 16), .int (zI R_values), .ref (ad 17), .int (zI R_textEnd), .ref (ad 18), .ref (ad 19), .ref (ad 20), .ref (ad 21), .int (zI R_dataEnd), .ref (ad 22), .int (zI R_rowEnd), .ref (ad 23), .ref (ad 24), .int (zI R_rowMany), .ref (ad 25), .ref (ad 26), .ref (ad 27), .ref (ad 28), .int (zI R_waiting), .int (zI R_mostWaiting), .int (zI R_answer), .int (zI R_steps), .int (zI R_memory), .int (zI R_maxSteps), .int (zI R_maxMemory), .int (zI R_fault_35), .int (zI R_result), .int (zI R_now), .int (zI R_nowRow), .int (zI R_come), .ref (ad 29), .ref (ad 30), .int (zI R_puts), .ref (ad 31)])), (ad 8, .inl (cI, 3700, .inl (zA R_valueKinds))), (ad 9, .inl (cL, 3700, .inr (.inl (zB R_valueNumbers)))), (ad 14, .inl (cI, 3700, .inl (zA R_given)))]) X (jrunV X (c_Mod_fail (ad := ad) q36) jF0_k (fun _ _ _ _ => trivial) (jgV own_Mod_sums (by decide +kernel)) rfl rfl rfl pd_Mod_fail (by decide) [0] rfl (by decide) 0 10 rfl rfl rfl rfl (Nat.le_of_ble_eq_true rfl) d_Mod_sums_194 (by decide)) [0] [1, 2, 3] [3, 0, 1, 2] rfl rfl (by decide) (by decide) rfl (by decide) ?_
            refine J_goto (tgt := 209) X d_Mod_sums_197 (by decide) ?_
            cases h
            exact J_ret E ⟨_, rfl, rfl⟩ d_Mod_sums_209 (Nat.le_refl _) (Nat.le_refl _) rfl
        · refine J_lload_n X d_Mod_sums_150 rfl 3 rfl ?_
          refine J_ldc2 (v := 9223372036854775807) (n := 9223372036854775807) X (j_m own_Mod_sums (by decide +kernel)) (by decide) d_Mod_sums_151 ?_
          refine J_lload X d_Mod_sums_154 4 rfl ?_
          refine J_ladd X d_Mod_sums_156 ?_
          refine J_lc_le (tgt := 169) X d_Mod_sums_157 d_Mod_sums_158 (by decide) h (fun c37 h => ?_) (fun c37 h => ?_)
          · refine J_aload_n X d_Mod_sums_169 rfl 1 rfl ?_
            refine J_iconst X d_Mod_sums_170 ?_
            refine J_lload_n X d_Mod_sums_171 rfl 3 rfl ?_
            refine J_lload X d_Mod_sums_172 4 rfl ?_
            refine J_lsub X d_Mod_sums_174 ?_
            obtain ⟨r38, R_values_39, R_valueKinds_40, R_valueNumbers_41, R_given_42, q43, h⟩ := wk_b5 h
            refine J_afterI0 (ws' := [(ad 0, .inr (10, [.int (zI R_thrown), .ref (ad 1), .ref (ad 2), .ref (ad 3), .ref (ad 4), .ref (ad 5), .ref (ad 6), .int (zI R_used), .ref (ad 7), .int (zI R_many), .ref (ad 8), .ref (ad 9), .ref (ad 10), .ref (ad 11), .ref (ad 12), .ref (ad 13), .ref (ad 14), .ref (ad 15), .ref (ad 16), .int (zI R_values_39), .ref (ad 17), .int (zI R_textEnd), .ref (ad 18), .ref (ad 19), .ref (ad 20), .ref (ad 21), .int (zI R_dataEnd), .ref (ad 22), .int (zI R_rowEnd), .ref (ad 23), .ref (ad 24), .int (zI R_rowMany), .ref (ad 25), .ref (ad 26), .ref (ad 27), .ref (ad 28), .int (zI R_waiting), .int (zI R_mostWaiting), .int (zI R_answer), .int (zI R_steps), .int (zI R_memory), .int (zI R_maxSteps), .int (zI R_maxMemory), .int (zI R_fault), .int (zI R_result), .int (zI R_now), .int (zI R_nowRow), .int (zI R_come), .ref (ad 29), .ref (ad 30), .int (zI R_puts), .ref (ad 31)])), (ad 8, .inl (cI, 3700, .inl (zA R_valueKinds_40))), (ad 9, .inl (cL, 3700, .inr (.inl (zB R_valueNumbers_41)))), (ad 14, .inl (cI, 3700, .inl (zA R_given_42)))]) X (jrunV X (c_Mod_make (ad := ad) q43) jF0_k (fun _ _ _ _ => trivial) (jgV own_Mod_sums (by decide +kernel)) rfl rfl rfl pd_Mod_make (by decide) [0, 1, 2, 3] rfl (by decide) 0 10 rfl rfl rfl rfl (Nat.le_of_ble_eq_true rfl) d_Mod_sums_175 (by decide)) [0, 1, 2, 3] [] [0, 1, 2, 3] rfl rfl (by decide) (by decide) rfl (by decide) ?_
            refine J_goto (tgt := 209) X d_Mod_sums_178 (by decide) ?_
            cases h
            exact J_ret E ⟨_, rfl, rfl⟩ d_Mod_sums_209 (Nat.le_refl _) (Nat.le_refl _) rfl
          · refine J_aload_n X d_Mod_sums_161 rfl 1 rfl ?_
            refine J_iconst X d_Mod_sums_162 ?_
            obtain ⟨r44, R_fault_45, q46, h⟩ := wk_b2 h
            refine J_afterI0 (ws' := [(ad 0, .inr (10, [.int (zI R_thrown), .ref (ad 1), .ref (ad 2), .ref (ad 3), .ref (ad 4), .ref (ad 5), .ref (ad 6), .int (zI R_used), .ref (ad 7), .int (zI R_many), .ref (ad 8), .ref (ad 9), .ref (ad 10), .ref (ad 11), .ref (ad 12), .ref (ad 13), .ref (ad 14), .ref (ad 15), .ref (ad 16), .int (zI R_values), .ref (ad 17), .int (zI R_textEnd), .ref (ad 18), .ref (ad 19), .ref (ad 20), .ref (ad 21), .int (zI R_dataEnd), .ref (ad 22), .int (zI R_rowEnd), .ref (ad 23), .ref (ad 24), .int (zI R_rowMany), .ref (ad 25), .ref (ad 26), .ref (ad 27), .ref (ad 28), .int (zI R_waiting), .int (zI R_mostWaiting), .int (zI R_answer), .int (zI R_steps), .int (zI R_memory), .int (zI R_maxSteps), .int (zI R_maxMemory), .int (zI R_fault_45), .int (zI R_result), .int (zI R_now), .int (zI R_nowRow), .int (zI R_come), .ref (ad 29), .ref (ad 30), .int (zI R_puts), .ref (ad 31)])), (ad 8, .inl (cI, 3700, .inl (zA R_valueKinds))), (ad 9, .inl (cL, 3700, .inr (.inl (zB R_valueNumbers)))), (ad 14, .inl (cI, 3700, .inl (zA R_given)))]) X (jrunV X (c_Mod_fail (ad := ad) q46) jF0_k (fun _ _ _ _ => trivial) (jgV own_Mod_sums (by decide +kernel)) rfl rfl rfl pd_Mod_fail (by decide) [0] rfl (by decide) 0 10 rfl rfl rfl rfl (Nat.le_of_ble_eq_true rfl) d_Mod_sums_163 (by decide)) [0] [1, 2, 3] [3, 0, 1, 2] rfl rfl (by decide) (by decide) rfl (by decide) ?_
            refine J_goto (tgt := 209) X d_Mod_sums_166 (by decide) ?_
            cases h
            exact J_ret E ⟨_, rfl, rfl⟩ d_Mod_sums_209 (Nat.le_refl _) (Nat.le_refl _) rfl
      · rcases wk_c h with ⟨c47, h⟩ | ⟨c47, h⟩
        · refine J_tsIn (tgt := 210) X 2 c47 g2 d_Mod_sums_25 (by decide) (by decide) rfl (by decide) ?_
          refine J_lload_n X d_Mod_sums_210 rfl 3 rfl ?_
          refine J_lload X d_Mod_sums_211 4 rfl ?_
          obtain ⟨r48, q49, h⟩ := wk_b h
          refine J_afterP (jrunS X (c_Mod_isProduct (ad := ad) q49) jF0_k (fun _ _ _ _ => trivial) (jgS own_Mod_sums (by decide +kernel)) rfl rfl rfl pd_Mod_isProduct (by decide) [] rfl (by decide) rfl rfl (Nat.le_of_ble_eq_true rfl) d_Mod_sums_213 (by decide)) ?_
          refine J_if_eq (tgt := 231) X d_Mod_sums_216 (by decide) h (fun c50 h => ?_) (fun c50 h => ?_)
          · refine J_aload_n X d_Mod_sums_231 rfl 1 rfl ?_
            refine J_iconst X d_Mod_sums_232 ?_
            obtain ⟨r51, R_fault_52, q53, h⟩ := wk_b2 h
            refine J_afterI0 (ws' := [(ad 0, .inr (10, [.int (zI R_thrown), .ref (ad 1), .ref (ad 2), .ref (ad 3), .ref (ad 4), .ref (ad 5), .ref (ad 6), .int (zI R_used), .ref (ad 7), .int (zI R_many), .ref (ad 8), .ref (ad 9), .ref (ad 10), .ref (ad 11), .ref (ad 12), .ref (ad 13), .ref (ad 14), .ref (ad 15), .ref (ad 16), .int (zI R_values), .ref (ad 17), .int (zI R_textEnd), .ref (ad 18), .ref (ad 19), .ref (ad 20), .ref (ad 21), .int (zI R_dataEnd), .ref (ad 22), .int (zI R_rowEnd), .ref (ad 23), .ref (ad 24), .int (zI R_rowMany), .ref (ad 25), .ref (ad 26), .ref (ad 27), .ref (ad 28), .int (zI R_waiting), .int (zI R_mostWaiting), .int (zI R_answer), .int (zI R_steps), .int (zI R_memory), .int (zI R_maxSteps), .int (zI R_maxMemory), .int (zI R_fault_52), .int (zI R_result), .int (zI R_now), .int (zI R_nowRow), .int (zI R_come), .ref (ad 29), .ref (ad 30), .int (zI R_puts), .ref (ad 31)])), (ad 8, .inl (cI, 3700, .inl (zA R_valueKinds))), (ad 9, .inl (cL, 3700, .inr (.inl (zB R_valueNumbers)))), (ad 14, .inl (cI, 3700, .inl (zA R_given)))]) X (jrunV X (c_Mod_fail (ad := ad) q53) jF0_k (fun _ _ _ _ => trivial) (jgV own_Mod_sums (by decide +kernel)) rfl rfl rfl pd_Mod_fail (by decide) [0] rfl (by decide) 0 10 rfl rfl rfl rfl (Nat.le_of_ble_eq_true rfl) d_Mod_sums_233 (by decide)) [0] [1, 2, 3] [3, 0, 1, 2] rfl rfl (by decide) (by decide) rfl (by decide) ?_
            cases h
            exact J_ret E ⟨_, rfl, rfl⟩ d_Mod_sums_236 (Nat.le_refl _) (Nat.le_refl _) rfl
          · refine J_aload_n X d_Mod_sums_219 rfl 1 rfl ?_
            refine J_iconst X d_Mod_sums_220 ?_
            refine J_lload_n X d_Mod_sums_221 rfl 3 rfl ?_
            refine J_lload X d_Mod_sums_222 4 rfl ?_
            refine J_lmul X d_Mod_sums_224 ?_
            obtain ⟨r54, R_values_55, R_valueKinds_56, R_valueNumbers_57, R_given_58, q59, h⟩ := wk_b5 h
            refine J_afterI0 (ws' := [(ad 0, .inr (10, [.int (zI R_thrown), .ref (ad 1), .ref (ad 2), .ref (ad 3), .ref (ad 4), .ref (ad 5), .ref (ad 6), .int (zI R_used), .ref (ad 7), .int (zI R_many), .ref (ad 8), .ref (ad 9), .ref (ad 10), .ref (ad 11), .ref (ad 12), .ref (ad 13), .ref (ad 14), .ref (ad 15), .ref (ad 16), .int (zI R_values_55), .ref (ad 17), .int (zI R_textEnd), .ref (ad 18), .ref (ad 19), .ref (ad 20), .ref (ad 21), .int (zI R_dataEnd), .ref (ad 22), .int (zI R_rowEnd), .ref (ad 23), .ref (ad 24), .int (zI R_rowMany), .ref (ad 25), .ref (ad 26), .ref (ad 27), .ref (ad 28), .int (zI R_waiting), .int (zI R_mostWaiting), .int (zI R_answer), .int (zI R_steps), .int (zI R_memory), .int (zI R_maxSteps), .int (zI R_maxMemory), .int (zI R_fault), .int (zI R_result), .int (zI R_now), .int (zI R_nowRow), .int (zI R_come), .ref (ad 29), .ref (ad 30), .int (zI R_puts), .ref (ad 31)])), (ad 8, .inl (cI, 3700, .inl (zA R_valueKinds_56))), (ad 9, .inl (cL, 3700, .inr (.inl (zB R_valueNumbers_57)))), (ad 14, .inl (cI, 3700, .inl (zA R_given_58)))]) X (jrunV X (c_Mod_make (ad := ad) q59) jF0_k (fun _ _ _ _ => trivial) (jgV own_Mod_sums (by decide +kernel)) rfl rfl rfl pd_Mod_make (by decide) [0, 1, 2, 3] rfl (by decide) 0 10 rfl rfl rfl rfl (Nat.le_of_ble_eq_true rfl) d_Mod_sums_225 (by decide)) [0, 1, 2, 3] [] [0, 1, 2, 3] rfl rfl (by decide) (by decide) rfl (by decide) ?_
            refine J_goto (tgt := 236) X d_Mod_sums_228 (by decide) ?_
            cases h
            exact J_ret E ⟨_, rfl, rfl⟩ d_Mod_sums_236 (Nat.le_refl _) (Nat.le_refl _) rfl
        · rcases wk_c h with ⟨c60, h⟩ | ⟨c60, h⟩
          · refine J_tsIn (tgt := 237) X 3 c60 g2 d_Mod_sums_25 (by decide) (by decide) rfl (by decide) ?_
            refine J_lload X d_Mod_sums_237 4 rfl ?_
            refine J_lconst (v := 0) X d_Mod_sums_239 (by decide) ?_
            refine J_lc_eq (tgt := 249) X d_Mod_sums_240 d_Mod_sums_241 (by decide) h (fun c61 h => ?_) (fun c61 h => ?_)
            · refine J_aload_n X d_Mod_sums_249 rfl 1 rfl ?_
              refine J_iconst X d_Mod_sums_250 ?_
              obtain ⟨r62, R_fault_63, q64, h⟩ := wk_b2 h
              refine J_afterI0 (ws' := [(ad 0, .inr (10, [.int (zI R_thrown), .ref (ad 1), .ref (ad 2), .ref (ad 3), .ref (ad 4), .ref (ad 5), .ref (ad 6), .int (zI R_used), .ref (ad 7), .int (zI R_many), .ref (ad 8), .ref (ad 9), .ref (ad 10), .ref (ad 11), .ref (ad 12), .ref (ad 13), .ref (ad 14), .ref (ad 15), .ref (ad 16), .int (zI R_values), .ref (ad 17), .int (zI R_textEnd), .ref (ad 18), .ref (ad 19), .ref (ad 20), .ref (ad 21), .int (zI R_dataEnd), .ref (ad 22), .int (zI R_rowEnd), .ref (ad 23), .ref (ad 24), .int (zI R_rowMany), .ref (ad 25), .ref (ad 26), .ref (ad 27), .ref (ad 28), .int (zI R_waiting), .int (zI R_mostWaiting), .int (zI R_answer), .int (zI R_steps), .int (zI R_memory), .int (zI R_maxSteps), .int (zI R_maxMemory), .int (zI R_fault_63), .int (zI R_result), .int (zI R_now), .int (zI R_nowRow), .int (zI R_come), .ref (ad 29), .ref (ad 30), .int (zI R_puts), .ref (ad 31)])), (ad 8, .inl (cI, 3700, .inl (zA R_valueKinds))), (ad 9, .inl (cL, 3700, .inr (.inl (zB R_valueNumbers)))), (ad 14, .inl (cI, 3700, .inl (zA R_given)))]) X (jrunV X (c_Mod_fail (ad := ad) q64) jF0_k (fun _ _ _ _ => trivial) (jgV own_Mod_sums (by decide +kernel)) rfl rfl rfl pd_Mod_fail (by decide) [0] rfl (by decide) 0 10 rfl rfl rfl rfl (Nat.le_of_ble_eq_true rfl) d_Mod_sums_251 (by decide)) [0] [1, 2, 3] [3, 0, 1, 2] rfl rfl (by decide) (by decide) rfl (by decide) ?_
              refine J_goto (tgt := 307) X d_Mod_sums_254 (by decide) ?_
              cases h
              exact J_ret E ⟨_, rfl, rfl⟩ d_Mod_sums_307 (Nat.le_refl _) (Nat.le_refl _) rfl
            · refine J_iload X d_Mod_sums_244 0 rfl ?_
              refine J_if_eq (pa := some ()) (pb := none) (o := ()) (tgt := 257) X d_Mod_sums_246 (by decide) (by decide) (fun _ _ => ?_) (fun _ h => by cases h)
              refine J_aload_n X d_Mod_sums_257 rfl 1 rfl ?_
              refine J_iconst X d_Mod_sums_258 ?_
              refine J_lload_n X d_Mod_sums_259 rfl 3 rfl ?_
              refine J_lload X d_Mod_sums_260 4 rfl ?_
              obtain ⟨g65, h⟩ := wk_g h
              refine J_ldiv X g65 d_Mod_sums_262 ?_
              refine J_lload_n X d_Mod_sums_263 rfl 3 rfl ?_
              refine J_lload X d_Mod_sums_264 4 rfl ?_
              obtain ⟨g66, h⟩ := wk_g h
              refine J_lrem X g66 d_Mod_sums_266 ?_
              refine J_lconst (v := 0) X d_Mod_sums_267 (by decide) ?_
              refine J_lc_eq (tgt := 302) X d_Mod_sums_268 d_Mod_sums_269 (by decide) h (fun c67 h => ?_) (fun c67 h => ?_)
              · refine J_lconst (v := 0) X d_Mod_sums_302 (by decide) ?_
                refine J_lsub X d_Mod_sums_303 ?_
                obtain ⟨r68, R_values_69, R_valueKinds_70, R_valueNumbers_71, R_given_72, q73, h⟩ := wk_b5 h
                refine J_afterI0 (ws' := [(ad 0, .inr (10, [.int (zI R_thrown), .ref (ad 1), .ref (ad 2), .ref (ad 3), .ref (ad 4), .ref (ad 5), .ref (ad 6), .int (zI R_used), .ref (ad 7), .int (zI R_many), .ref (ad 8), .ref (ad 9), .ref (ad 10), .ref (ad 11), .ref (ad 12), .ref (ad 13), .ref (ad 14), .ref (ad 15), .ref (ad 16), .int (zI R_values_69), .ref (ad 17), .int (zI R_textEnd), .ref (ad 18), .ref (ad 19), .ref (ad 20), .ref (ad 21), .int (zI R_dataEnd), .ref (ad 22), .int (zI R_rowEnd), .ref (ad 23), .ref (ad 24), .int (zI R_rowMany), .ref (ad 25), .ref (ad 26), .ref (ad 27), .ref (ad 28), .int (zI R_waiting), .int (zI R_mostWaiting), .int (zI R_answer), .int (zI R_steps), .int (zI R_memory), .int (zI R_maxSteps), .int (zI R_maxMemory), .int (zI R_fault), .int (zI R_result), .int (zI R_now), .int (zI R_nowRow), .int (zI R_come), .ref (ad 29), .ref (ad 30), .int (zI R_puts), .ref (ad 31)])), (ad 8, .inl (cI, 3700, .inl (zA R_valueKinds_70))), (ad 9, .inl (cL, 3700, .inr (.inl (zB R_valueNumbers_71)))), (ad 14, .inl (cI, 3700, .inl (zA R_given_72)))]) X (jrunV X (c_Mod_make (ad := ad) q73) jF0_k (fun _ _ _ _ => trivial) (jgV own_Mod_sums (by decide +kernel)) rfl rfl rfl pd_Mod_make (by decide) [0, 1, 2, 3] rfl (by decide) 0 10 rfl rfl rfl rfl (Nat.le_of_ble_eq_true rfl) d_Mod_sums_304 (by decide)) [0, 1, 2, 3] [] [0, 1, 2, 3] rfl rfl (by decide) (by decide) rfl (by decide) ?_
                cases h
                exact J_ret E ⟨_, rfl, rfl⟩ d_Mod_sums_307 (Nat.le_refl _) (Nat.le_refl _) rfl
              · refine J_lload_n X d_Mod_sums_272 rfl 3 rfl ?_
                refine J_lconst (v := 0) X d_Mod_sums_273 (by decide) ?_
                refine J_lc_ge (tgt := 282) X d_Mod_sums_274 d_Mod_sums_275 (by decide) h (fun c74 h => ?_) (fun c74 h => ?_)
                · refine J_iconst X d_Mod_sums_282 ?_
                  refine J_lload X d_Mod_sums_283 4 rfl ?_
                  refine J_lconst (v := 0) X d_Mod_sums_285 (by decide) ?_
                  refine J_lc_ge (tgt := 294) X d_Mod_sums_286 d_Mod_sums_287 (by decide) h (fun c75 h => ?_) (fun c75 h => ?_)
                  · refine J_iconst X d_Mod_sums_294 ?_
                    refine J_icmp_eq (pa := some ()) (pb := none) (o := ()) (tgt := 302) X d_Mod_sums_295 (by decide) (by decide) (fun _ _ => ?_) (fun _ h => by cases h)
                    refine J_lconst (v := 0) X d_Mod_sums_302 (by decide) ?_
                    refine J_lsub X d_Mod_sums_303 ?_
                    obtain ⟨r76, R_values_77, R_valueKinds_78, R_valueNumbers_79, R_given_80, q81, h⟩ := wk_b5 h
                    refine J_afterI0 (ws' := [(ad 0, .inr (10, [.int (zI R_thrown), .ref (ad 1), .ref (ad 2), .ref (ad 3), .ref (ad 4), .ref (ad 5), .ref (ad 6), .int (zI R_used), .ref (ad 7), .int (zI R_many), .ref (ad 8), .ref (ad 9), .ref (ad 10), .ref (ad 11), .ref (ad 12), .ref (ad 13), .ref (ad 14), .ref (ad 15), .ref (ad 16), .int (zI R_values_77), .ref (ad 17), .int (zI R_textEnd), .ref (ad 18), .ref (ad 19), .ref (ad 20), .ref (ad 21), .int (zI R_dataEnd), .ref (ad 22), .int (zI R_rowEnd), .ref (ad 23), .ref (ad 24), .int (zI R_rowMany), .ref (ad 25), .ref (ad 26), .ref (ad 27), .ref (ad 28), .int (zI R_waiting), .int (zI R_mostWaiting), .int (zI R_answer), .int (zI R_steps), .int (zI R_memory), .int (zI R_maxSteps), .int (zI R_maxMemory), .int (zI R_fault), .int (zI R_result), .int (zI R_now), .int (zI R_nowRow), .int (zI R_come), .ref (ad 29), .ref (ad 30), .int (zI R_puts), .ref (ad 31)])), (ad 8, .inl (cI, 3700, .inl (zA R_valueKinds_78))), (ad 9, .inl (cL, 3700, .inr (.inl (zB R_valueNumbers_79)))), (ad 14, .inl (cI, 3700, .inl (zA R_given_80)))]) X (jrunV X (c_Mod_make (ad := ad) q81) jF0_k (fun _ _ _ _ => trivial) (jgV own_Mod_sums (by decide +kernel)) rfl rfl rfl pd_Mod_make (by decide) [0, 1, 2, 3] rfl (by decide) 0 10 rfl rfl rfl rfl (Nat.le_of_ble_eq_true rfl) d_Mod_sums_304 (by decide)) [0, 1, 2, 3] [] [0, 1, 2, 3] rfl rfl (by decide) (by decide) rfl (by decide) ?_
                    cases h
                    exact J_ret E ⟨_, rfl, rfl⟩ d_Mod_sums_307 (Nat.le_refl _) (Nat.le_refl _) rfl
                  · refine J_iconst X d_Mod_sums_290 ?_
                    refine J_goto (tgt := 295) X d_Mod_sums_291 (by decide) ?_
                    refine J_icmp_eq (pa := none) (pb := some ()) (o := ()) (tgt := 302) X d_Mod_sums_295 (by decide) (by decide) (fun _ h => by cases h) (fun _ _ => ?_)
                    refine J_lconst (v := 1) X d_Mod_sums_298 (by decide) ?_
                    refine J_goto (tgt := 303) X d_Mod_sums_299 (by decide) ?_
                    refine J_lsub X d_Mod_sums_303 ?_
                    obtain ⟨r82, R_values_83, R_valueKinds_84, R_valueNumbers_85, R_given_86, q87, h⟩ := wk_b5 h
                    refine J_afterI0 (ws' := [(ad 0, .inr (10, [.int (zI R_thrown), .ref (ad 1), .ref (ad 2), .ref (ad 3), .ref (ad 4), .ref (ad 5), .ref (ad 6), .int (zI R_used), .ref (ad 7), .int (zI R_many), .ref (ad 8), .ref (ad 9), .ref (ad 10), .ref (ad 11), .ref (ad 12), .ref (ad 13), .ref (ad 14), .ref (ad 15), .ref (ad 16), .int (zI R_values_83), .ref (ad 17), .int (zI R_textEnd), .ref (ad 18), .ref (ad 19), .ref (ad 20), .ref (ad 21), .int (zI R_dataEnd), .ref (ad 22), .int (zI R_rowEnd), .ref (ad 23), .ref (ad 24), .int (zI R_rowMany), .ref (ad 25), .ref (ad 26), .ref (ad 27), .ref (ad 28), .int (zI R_waiting), .int (zI R_mostWaiting), .int (zI R_answer), .int (zI R_steps), .int (zI R_memory), .int (zI R_maxSteps), .int (zI R_maxMemory), .int (zI R_fault), .int (zI R_result), .int (zI R_now), .int (zI R_nowRow), .int (zI R_come), .ref (ad 29), .ref (ad 30), .int (zI R_puts), .ref (ad 31)])), (ad 8, .inl (cI, 3700, .inl (zA R_valueKinds_84))), (ad 9, .inl (cL, 3700, .inr (.inl (zB R_valueNumbers_85)))), (ad 14, .inl (cI, 3700, .inl (zA R_given_86)))]) X (jrunV X (c_Mod_make (ad := ad) q87) jF0_k (fun _ _ _ _ => trivial) (jgV own_Mod_sums (by decide +kernel)) rfl rfl rfl pd_Mod_make (by decide) [0, 1, 2, 3] rfl (by decide) 0 10 rfl rfl rfl rfl (Nat.le_of_ble_eq_true rfl) d_Mod_sums_304 (by decide)) [0, 1, 2, 3] [] [0, 1, 2, 3] rfl rfl (by decide) (by decide) rfl (by decide) ?_
                    cases h
                    exact J_ret E ⟨_, rfl, rfl⟩ d_Mod_sums_307 (Nat.le_refl _) (Nat.le_refl _) rfl
                · refine J_iconst X d_Mod_sums_278 ?_
                  refine J_goto (tgt := 283) X d_Mod_sums_279 (by decide) ?_
                  refine J_lload X d_Mod_sums_283 4 rfl ?_
                  refine J_lconst (v := 0) X d_Mod_sums_285 (by decide) ?_
                  refine J_lc_ge (tgt := 294) X d_Mod_sums_286 d_Mod_sums_287 (by decide) h (fun c88 h => ?_) (fun c88 h => ?_)
                  · refine J_iconst X d_Mod_sums_294 ?_
                    refine J_icmp_eq (pa := none) (pb := some ()) (o := ()) (tgt := 302) X d_Mod_sums_295 (by decide) (by decide) (fun _ h => by cases h) (fun _ _ => ?_)
                    refine J_lconst (v := 1) X d_Mod_sums_298 (by decide) ?_
                    refine J_goto (tgt := 303) X d_Mod_sums_299 (by decide) ?_
                    refine J_lsub X d_Mod_sums_303 ?_
                    obtain ⟨r89, R_values_90, R_valueKinds_91, R_valueNumbers_92, R_given_93, q94, h⟩ := wk_b5 h
                    refine J_afterI0 (ws' := [(ad 0, .inr (10, [.int (zI R_thrown), .ref (ad 1), .ref (ad 2), .ref (ad 3), .ref (ad 4), .ref (ad 5), .ref (ad 6), .int (zI R_used), .ref (ad 7), .int (zI R_many), .ref (ad 8), .ref (ad 9), .ref (ad 10), .ref (ad 11), .ref (ad 12), .ref (ad 13), .ref (ad 14), .ref (ad 15), .ref (ad 16), .int (zI R_values_90), .ref (ad 17), .int (zI R_textEnd), .ref (ad 18), .ref (ad 19), .ref (ad 20), .ref (ad 21), .int (zI R_dataEnd), .ref (ad 22), .int (zI R_rowEnd), .ref (ad 23), .ref (ad 24), .int (zI R_rowMany), .ref (ad 25), .ref (ad 26), .ref (ad 27), .ref (ad 28), .int (zI R_waiting), .int (zI R_mostWaiting), .int (zI R_answer), .int (zI R_steps), .int (zI R_memory), .int (zI R_maxSteps), .int (zI R_maxMemory), .int (zI R_fault), .int (zI R_result), .int (zI R_now), .int (zI R_nowRow), .int (zI R_come), .ref (ad 29), .ref (ad 30), .int (zI R_puts), .ref (ad 31)])), (ad 8, .inl (cI, 3700, .inl (zA R_valueKinds_91))), (ad 9, .inl (cL, 3700, .inr (.inl (zB R_valueNumbers_92)))), (ad 14, .inl (cI, 3700, .inl (zA R_given_93)))]) X (jrunV X (c_Mod_make (ad := ad) q94) jF0_k (fun _ _ _ _ => trivial) (jgV own_Mod_sums (by decide +kernel)) rfl rfl rfl pd_Mod_make (by decide) [0, 1, 2, 3] rfl (by decide) 0 10 rfl rfl rfl rfl (Nat.le_of_ble_eq_true rfl) d_Mod_sums_304 (by decide)) [0, 1, 2, 3] [] [0, 1, 2, 3] rfl rfl (by decide) (by decide) rfl (by decide) ?_
                    cases h
                    exact J_ret E ⟨_, rfl, rfl⟩ d_Mod_sums_307 (Nat.le_refl _) (Nat.le_refl _) rfl
                  · refine J_iconst X d_Mod_sums_290 ?_
                    refine J_goto (tgt := 295) X d_Mod_sums_291 (by decide) ?_
                    refine J_icmp_eq (pa := some ()) (pb := none) (o := ()) (tgt := 302) X d_Mod_sums_295 (by decide) (by decide) (fun _ _ => ?_) (fun _ h => by cases h)
                    refine J_lconst (v := 0) X d_Mod_sums_302 (by decide) ?_
                    refine J_lsub X d_Mod_sums_303 ?_
                    obtain ⟨r95, R_values_96, R_valueKinds_97, R_valueNumbers_98, R_given_99, q100, h⟩ := wk_b5 h
                    refine J_afterI0 (ws' := [(ad 0, .inr (10, [.int (zI R_thrown), .ref (ad 1), .ref (ad 2), .ref (ad 3), .ref (ad 4), .ref (ad 5), .ref (ad 6), .int (zI R_used), .ref (ad 7), .int (zI R_many), .ref (ad 8), .ref (ad 9), .ref (ad 10), .ref (ad 11), .ref (ad 12), .ref (ad 13), .ref (ad 14), .ref (ad 15), .ref (ad 16), .int (zI R_values_96), .ref (ad 17), .int (zI R_textEnd), .ref (ad 18), .ref (ad 19), .ref (ad 20), .ref (ad 21), .int (zI R_dataEnd), .ref (ad 22), .int (zI R_rowEnd), .ref (ad 23), .ref (ad 24), .int (zI R_rowMany), .ref (ad 25), .ref (ad 26), .ref (ad 27), .ref (ad 28), .int (zI R_waiting), .int (zI R_mostWaiting), .int (zI R_answer), .int (zI R_steps), .int (zI R_memory), .int (zI R_maxSteps), .int (zI R_maxMemory), .int (zI R_fault), .int (zI R_result), .int (zI R_now), .int (zI R_nowRow), .int (zI R_come), .ref (ad 29), .ref (ad 30), .int (zI R_puts), .ref (ad 31)])), (ad 8, .inl (cI, 3700, .inl (zA R_valueKinds_97))), (ad 9, .inl (cL, 3700, .inr (.inl (zB R_valueNumbers_98)))), (ad 14, .inl (cI, 3700, .inl (zA R_given_99)))]) X (jrunV X (c_Mod_make (ad := ad) q100) jF0_k (fun _ _ _ _ => trivial) (jgV own_Mod_sums (by decide +kernel)) rfl rfl rfl pd_Mod_make (by decide) [0, 1, 2, 3] rfl (by decide) 0 10 rfl rfl rfl rfl (Nat.le_of_ble_eq_true rfl) d_Mod_sums_304 (by decide)) [0, 1, 2, 3] [] [0, 1, 2, 3] rfl rfl (by decide) (by decide) rfl (by decide) ?_
                    cases h
                    exact J_ret E ⟨_, rfl, rfl⟩ d_Mod_sums_307 (Nat.le_refl _) (Nat.le_refl _) rfl
          · rcases wk_c h with ⟨c101, h⟩ | ⟨c101, h⟩
            · refine J_tsIn (tgt := 308) X 4 c101 g2 d_Mod_sums_25 (by decide) (by decide) rfl (by decide) ?_
              refine J_lload X d_Mod_sums_308 4 rfl ?_
              refine J_lconst (v := 0) X d_Mod_sums_310 (by decide) ?_
              refine J_lc_ne (tgt := 323) X d_Mod_sums_311 d_Mod_sums_312 (by decide) h (fun c102 h => ?_) (fun c102 h => ?_)
              · refine J_aload_n X d_Mod_sums_323 rfl 1 rfl ?_
                refine J_iconst X d_Mod_sums_324 ?_
                refine J_iload X d_Mod_sums_325 0 rfl ?_
                refine J_if_eq (pa := some ()) (pb := none) (o := ()) (tgt := 334) X d_Mod_sums_327 (by decide) (by decide) (fun _ _ => ?_) (fun _ h => by cases h)
                refine J_lload_n X d_Mod_sums_334 rfl 3 rfl ?_
                refine J_lload X d_Mod_sums_335 4 rfl ?_
                obtain ⟨g103, h⟩ := wk_g h
                refine J_lrem X g103 d_Mod_sums_337 ?_
                refine J_lload_n X d_Mod_sums_338 rfl 3 rfl ?_
                refine J_lload X d_Mod_sums_339 4 rfl ?_
                obtain ⟨g104, h⟩ := wk_g h
                refine J_lrem X g104 d_Mod_sums_341 ?_
                refine J_lconst (v := 0) X d_Mod_sums_342 (by decide) ?_
                refine J_lc_eq (tgt := 378) X d_Mod_sums_343 d_Mod_sums_344 (by decide) h (fun c105 h => ?_) (fun c105 h => ?_)
                · refine J_lconst (v := 0) X d_Mod_sums_378 (by decide) ?_
                  refine J_ladd X d_Mod_sums_379 ?_
                  obtain ⟨r106, R_values_107, R_valueKinds_108, R_valueNumbers_109, R_given_110, q111, h⟩ := wk_b5 h
                  refine J_afterI0 (ws' := [(ad 0, .inr (10, [.int (zI R_thrown), .ref (ad 1), .ref (ad 2), .ref (ad 3), .ref (ad 4), .ref (ad 5), .ref (ad 6), .int (zI R_used), .ref (ad 7), .int (zI R_many), .ref (ad 8), .ref (ad 9), .ref (ad 10), .ref (ad 11), .ref (ad 12), .ref (ad 13), .ref (ad 14), .ref (ad 15), .ref (ad 16), .int (zI R_values_107), .ref (ad 17), .int (zI R_textEnd), .ref (ad 18), .ref (ad 19), .ref (ad 20), .ref (ad 21), .int (zI R_dataEnd), .ref (ad 22), .int (zI R_rowEnd), .ref (ad 23), .ref (ad 24), .int (zI R_rowMany), .ref (ad 25), .ref (ad 26), .ref (ad 27), .ref (ad 28), .int (zI R_waiting), .int (zI R_mostWaiting), .int (zI R_answer), .int (zI R_steps), .int (zI R_memory), .int (zI R_maxSteps), .int (zI R_maxMemory), .int (zI R_fault), .int (zI R_result), .int (zI R_now), .int (zI R_nowRow), .int (zI R_come), .ref (ad 29), .ref (ad 30), .int (zI R_puts), .ref (ad 31)])), (ad 8, .inl (cI, 3700, .inl (zA R_valueKinds_108))), (ad 9, .inl (cL, 3700, .inr (.inl (zB R_valueNumbers_109)))), (ad 14, .inl (cI, 3700, .inl (zA R_given_110)))]) X (jrunV X (c_Mod_make (ad := ad) q111) jF0_k (fun _ _ _ _ => trivial) (jgV own_Mod_sums (by decide +kernel)) rfl rfl rfl pd_Mod_make (by decide) [0, 1, 2, 3] rfl (by decide) 0 10 rfl rfl rfl rfl (Nat.le_of_ble_eq_true rfl) d_Mod_sums_380 (by decide)) [0, 1, 2, 3] [] [0, 1, 2, 3] rfl rfl (by decide) (by decide) rfl (by decide) ?_
                  cases h
                  exact J_ret E ⟨_, rfl, rfl⟩ d_Mod_sums_383 (Nat.le_refl _) (Nat.le_refl _) rfl
                · refine J_lload_n X d_Mod_sums_347 rfl 3 rfl ?_
                  refine J_lconst (v := 0) X d_Mod_sums_348 (by decide) ?_
                  refine J_lc_ge (tgt := 357) X d_Mod_sums_349 d_Mod_sums_350 (by decide) h (fun c112 h => ?_) (fun c112 h => ?_)
                  · refine J_iconst X d_Mod_sums_357 ?_
                    refine J_lload X d_Mod_sums_358 4 rfl ?_
                    refine J_lconst (v := 0) X d_Mod_sums_360 (by decide) ?_
                    refine J_lc_ge (tgt := 369) X d_Mod_sums_361 d_Mod_sums_362 (by decide) h (fun c113 h => ?_) (fun c113 h => ?_)
                    · refine J_iconst X d_Mod_sums_369 ?_
                      refine J_icmp_eq (pa := some ()) (pb := none) (o := ()) (tgt := 378) X d_Mod_sums_370 (by decide) (by decide) (fun _ _ => ?_) (fun _ h => by cases h)
                      refine J_lconst (v := 0) X d_Mod_sums_378 (by decide) ?_
                      refine J_ladd X d_Mod_sums_379 ?_
                      obtain ⟨r114, R_values_115, R_valueKinds_116, R_valueNumbers_117, R_given_118, q119, h⟩ := wk_b5 h
                      refine J_afterI0 (ws' := [(ad 0, .inr (10, [.int (zI R_thrown), .ref (ad 1), .ref (ad 2), .ref (ad 3), .ref (ad 4), .ref (ad 5), .ref (ad 6), .int (zI R_used), .ref (ad 7), .int (zI R_many), .ref (ad 8), .ref (ad 9), .ref (ad 10), .ref (ad 11), .ref (ad 12), .ref (ad 13), .ref (ad 14), .ref (ad 15), .ref (ad 16), .int (zI R_values_115), .ref (ad 17), .int (zI R_textEnd), .ref (ad 18), .ref (ad 19), .ref (ad 20), .ref (ad 21), .int (zI R_dataEnd), .ref (ad 22), .int (zI R_rowEnd), .ref (ad 23), .ref (ad 24), .int (zI R_rowMany), .ref (ad 25), .ref (ad 26), .ref (ad 27), .ref (ad 28), .int (zI R_waiting), .int (zI R_mostWaiting), .int (zI R_answer), .int (zI R_steps), .int (zI R_memory), .int (zI R_maxSteps), .int (zI R_maxMemory), .int (zI R_fault), .int (zI R_result), .int (zI R_now), .int (zI R_nowRow), .int (zI R_come), .ref (ad 29), .ref (ad 30), .int (zI R_puts), .ref (ad 31)])), (ad 8, .inl (cI, 3700, .inl (zA R_valueKinds_116))), (ad 9, .inl (cL, 3700, .inr (.inl (zB R_valueNumbers_117)))), (ad 14, .inl (cI, 3700, .inl (zA R_given_118)))]) X (jrunV X (c_Mod_make (ad := ad) q119) jF0_k (fun _ _ _ _ => trivial) (jgV own_Mod_sums (by decide +kernel)) rfl rfl rfl pd_Mod_make (by decide) [0, 1, 2, 3] rfl (by decide) 0 10 rfl rfl rfl rfl (Nat.le_of_ble_eq_true rfl) d_Mod_sums_380 (by decide)) [0, 1, 2, 3] [] [0, 1, 2, 3] rfl rfl (by decide) (by decide) rfl (by decide) ?_
                      cases h
                      exact J_ret E ⟨_, rfl, rfl⟩ d_Mod_sums_383 (Nat.le_refl _) (Nat.le_refl _) rfl
                    · refine J_iconst X d_Mod_sums_365 ?_
                      refine J_goto (tgt := 370) X d_Mod_sums_366 (by decide) ?_
                      refine J_icmp_eq (pa := none) (pb := some ()) (o := ()) (tgt := 378) X d_Mod_sums_370 (by decide) (by decide) (fun _ h => by cases h) (fun _ _ => ?_)
                      refine J_lload X d_Mod_sums_373 4 rfl ?_
                      refine J_goto (tgt := 379) X d_Mod_sums_375 (by decide) ?_
                      refine J_ladd X d_Mod_sums_379 ?_
                      obtain ⟨r120, R_values_121, R_valueKinds_122, R_valueNumbers_123, R_given_124, q125, h⟩ := wk_b5 h
                      refine J_afterI0 (ws' := [(ad 0, .inr (10, [.int (zI R_thrown), .ref (ad 1), .ref (ad 2), .ref (ad 3), .ref (ad 4), .ref (ad 5), .ref (ad 6), .int (zI R_used), .ref (ad 7), .int (zI R_many), .ref (ad 8), .ref (ad 9), .ref (ad 10), .ref (ad 11), .ref (ad 12), .ref (ad 13), .ref (ad 14), .ref (ad 15), .ref (ad 16), .int (zI R_values_121), .ref (ad 17), .int (zI R_textEnd), .ref (ad 18), .ref (ad 19), .ref (ad 20), .ref (ad 21), .int (zI R_dataEnd), .ref (ad 22), .int (zI R_rowEnd), .ref (ad 23), .ref (ad 24), .int (zI R_rowMany), .ref (ad 25), .ref (ad 26), .ref (ad 27), .ref (ad 28), .int (zI R_waiting), .int (zI R_mostWaiting), .int (zI R_answer), .int (zI R_steps), .int (zI R_memory), .int (zI R_maxSteps), .int (zI R_maxMemory), .int (zI R_fault), .int (zI R_result), .int (zI R_now), .int (zI R_nowRow), .int (zI R_come), .ref (ad 29), .ref (ad 30), .int (zI R_puts), .ref (ad 31)])), (ad 8, .inl (cI, 3700, .inl (zA R_valueKinds_122))), (ad 9, .inl (cL, 3700, .inr (.inl (zB R_valueNumbers_123)))), (ad 14, .inl (cI, 3700, .inl (zA R_given_124)))]) X (jrunV X (c_Mod_make (ad := ad) q125) jF0_k (fun _ _ _ _ => trivial) (jgV own_Mod_sums (by decide +kernel)) rfl rfl rfl pd_Mod_make (by decide) [0, 1, 2, 3] rfl (by decide) 0 10 rfl rfl rfl rfl (Nat.le_of_ble_eq_true rfl) d_Mod_sums_380 (by decide)) [0, 1, 2, 3] [] [0, 1, 2, 3] rfl rfl (by decide) (by decide) rfl (by decide) ?_
                      cases h
                      exact J_ret E ⟨_, rfl, rfl⟩ d_Mod_sums_383 (Nat.le_refl _) (Nat.le_refl _) rfl
                  · refine J_iconst X d_Mod_sums_353 ?_
                    refine J_goto (tgt := 358) X d_Mod_sums_354 (by decide) ?_
                    refine J_lload X d_Mod_sums_358 4 rfl ?_
                    refine J_lconst (v := 0) X d_Mod_sums_360 (by decide) ?_
                    refine J_lc_ge (tgt := 369) X d_Mod_sums_361 d_Mod_sums_362 (by decide) h (fun c126 h => ?_) (fun c126 h => ?_)
                    · refine J_iconst X d_Mod_sums_369 ?_
                      refine J_icmp_eq (pa := none) (pb := some ()) (o := ()) (tgt := 378) X d_Mod_sums_370 (by decide) (by decide) (fun _ h => by cases h) (fun _ _ => ?_)
                      refine J_lload X d_Mod_sums_373 4 rfl ?_
                      refine J_goto (tgt := 379) X d_Mod_sums_375 (by decide) ?_
                      refine J_ladd X d_Mod_sums_379 ?_
                      obtain ⟨r127, R_values_128, R_valueKinds_129, R_valueNumbers_130, R_given_131, q132, h⟩ := wk_b5 h
                      refine J_afterI0 (ws' := [(ad 0, .inr (10, [.int (zI R_thrown), .ref (ad 1), .ref (ad 2), .ref (ad 3), .ref (ad 4), .ref (ad 5), .ref (ad 6), .int (zI R_used), .ref (ad 7), .int (zI R_many), .ref (ad 8), .ref (ad 9), .ref (ad 10), .ref (ad 11), .ref (ad 12), .ref (ad 13), .ref (ad 14), .ref (ad 15), .ref (ad 16), .int (zI R_values_128), .ref (ad 17), .int (zI R_textEnd), .ref (ad 18), .ref (ad 19), .ref (ad 20), .ref (ad 21), .int (zI R_dataEnd), .ref (ad 22), .int (zI R_rowEnd), .ref (ad 23), .ref (ad 24), .int (zI R_rowMany), .ref (ad 25), .ref (ad 26), .ref (ad 27), .ref (ad 28), .int (zI R_waiting), .int (zI R_mostWaiting), .int (zI R_answer), .int (zI R_steps), .int (zI R_memory), .int (zI R_maxSteps), .int (zI R_maxMemory), .int (zI R_fault), .int (zI R_result), .int (zI R_now), .int (zI R_nowRow), .int (zI R_come), .ref (ad 29), .ref (ad 30), .int (zI R_puts), .ref (ad 31)])), (ad 8, .inl (cI, 3700, .inl (zA R_valueKinds_129))), (ad 9, .inl (cL, 3700, .inr (.inl (zB R_valueNumbers_130)))), (ad 14, .inl (cI, 3700, .inl (zA R_given_131)))]) X (jrunV X (c_Mod_make (ad := ad) q132) jF0_k (fun _ _ _ _ => trivial) (jgV own_Mod_sums (by decide +kernel)) rfl rfl rfl pd_Mod_make (by decide) [0, 1, 2, 3] rfl (by decide) 0 10 rfl rfl rfl rfl (Nat.le_of_ble_eq_true rfl) d_Mod_sums_380 (by decide)) [0, 1, 2, 3] [] [0, 1, 2, 3] rfl rfl (by decide) (by decide) rfl (by decide) ?_
                      cases h
                      exact J_ret E ⟨_, rfl, rfl⟩ d_Mod_sums_383 (Nat.le_refl _) (Nat.le_refl _) rfl
                    · refine J_iconst X d_Mod_sums_365 ?_
                      refine J_goto (tgt := 370) X d_Mod_sums_366 (by decide) ?_
                      refine J_icmp_eq (pa := some ()) (pb := none) (o := ()) (tgt := 378) X d_Mod_sums_370 (by decide) (by decide) (fun _ _ => ?_) (fun _ h => by cases h)
                      refine J_lconst (v := 0) X d_Mod_sums_378 (by decide) ?_
                      refine J_ladd X d_Mod_sums_379 ?_
                      obtain ⟨r133, R_values_134, R_valueKinds_135, R_valueNumbers_136, R_given_137, q138, h⟩ := wk_b5 h
                      refine J_afterI0 (ws' := [(ad 0, .inr (10, [.int (zI R_thrown), .ref (ad 1), .ref (ad 2), .ref (ad 3), .ref (ad 4), .ref (ad 5), .ref (ad 6), .int (zI R_used), .ref (ad 7), .int (zI R_many), .ref (ad 8), .ref (ad 9), .ref (ad 10), .ref (ad 11), .ref (ad 12), .ref (ad 13), .ref (ad 14), .ref (ad 15), .ref (ad 16), .int (zI R_values_134), .ref (ad 17), .int (zI R_textEnd), .ref (ad 18), .ref (ad 19), .ref (ad 20), .ref (ad 21), .int (zI R_dataEnd), .ref (ad 22), .int (zI R_rowEnd), .ref (ad 23), .ref (ad 24), .int (zI R_rowMany), .ref (ad 25), .ref (ad 26), .ref (ad 27), .ref (ad 28), .int (zI R_waiting), .int (zI R_mostWaiting), .int (zI R_answer), .int (zI R_steps), .int (zI R_memory), .int (zI R_maxSteps), .int (zI R_maxMemory), .int (zI R_fault), .int (zI R_result), .int (zI R_now), .int (zI R_nowRow), .int (zI R_come), .ref (ad 29), .ref (ad 30), .int (zI R_puts), .ref (ad 31)])), (ad 8, .inl (cI, 3700, .inl (zA R_valueKinds_135))), (ad 9, .inl (cL, 3700, .inr (.inl (zB R_valueNumbers_136)))), (ad 14, .inl (cI, 3700, .inl (zA R_given_137)))]) X (jrunV X (c_Mod_make (ad := ad) q138) jF0_k (fun _ _ _ _ => trivial) (jgV own_Mod_sums (by decide +kernel)) rfl rfl rfl pd_Mod_make (by decide) [0, 1, 2, 3] rfl (by decide) 0 10 rfl rfl rfl rfl (Nat.le_of_ble_eq_true rfl) d_Mod_sums_380 (by decide)) [0, 1, 2, 3] [] [0, 1, 2, 3] rfl rfl (by decide) (by decide) rfl (by decide) ?_
                      cases h
                      exact J_ret E ⟨_, rfl, rfl⟩ d_Mod_sums_383 (Nat.le_refl _) (Nat.le_refl _) rfl
              · refine J_aload_n X d_Mod_sums_315 rfl 1 rfl ?_
                refine J_iconst X d_Mod_sums_316 ?_
                obtain ⟨r139, R_fault_140, q141, h⟩ := wk_b2 h
                refine J_afterI0 (ws' := [(ad 0, .inr (10, [.int (zI R_thrown), .ref (ad 1), .ref (ad 2), .ref (ad 3), .ref (ad 4), .ref (ad 5), .ref (ad 6), .int (zI R_used), .ref (ad 7), .int (zI R_many), .ref (ad 8), .ref (ad 9), .ref (ad 10), .ref (ad 11), .ref (ad 12), .ref (ad 13), .ref (ad 14), .ref (ad 15), .ref (ad 16), .int (zI R_values), .ref (ad 17), .int (zI R_textEnd), .ref (ad 18), .ref (ad 19), .ref (ad 20), .ref (ad 21), .int (zI R_dataEnd), .ref (ad 22), .int (zI R_rowEnd), .ref (ad 23), .ref (ad 24), .int (zI R_rowMany), .ref (ad 25), .ref (ad 26), .ref (ad 27), .ref (ad 28), .int (zI R_waiting), .int (zI R_mostWaiting), .int (zI R_answer), .int (zI R_steps), .int (zI R_memory), .int (zI R_maxSteps), .int (zI R_maxMemory), .int (zI R_fault_140), .int (zI R_result), .int (zI R_now), .int (zI R_nowRow), .int (zI R_come), .ref (ad 29), .ref (ad 30), .int (zI R_puts), .ref (ad 31)])), (ad 8, .inl (cI, 3700, .inl (zA R_valueKinds))), (ad 9, .inl (cL, 3700, .inr (.inl (zB R_valueNumbers)))), (ad 14, .inl (cI, 3700, .inl (zA R_given)))]) X (jrunV X (c_Mod_fail (ad := ad) q141) jF0_k (fun _ _ _ _ => trivial) (jgV own_Mod_sums (by decide +kernel)) rfl rfl rfl pd_Mod_fail (by decide) [0] rfl (by decide) 0 10 rfl rfl rfl rfl (Nat.le_of_ble_eq_true rfl) d_Mod_sums_317 (by decide)) [0] [1, 2, 3] [3, 0, 1, 2] rfl rfl (by decide) (by decide) rfl (by decide) ?_
                refine J_goto (tgt := 383) X d_Mod_sums_320 (by decide) ?_
                cases h
                exact J_ret E ⟨_, rfl, rfl⟩ d_Mod_sums_383 (Nat.le_refl _) (Nat.le_refl _) rfl
            · rcases wk_c h with ⟨c142, h⟩ | ⟨c142, h⟩
              · refine J_tsIn (tgt := 384) X 5 c142 g2 d_Mod_sums_25 (by decide) (by decide) rfl (by decide) ?_
                refine J_lload X d_Mod_sums_384 4 rfl ?_
                refine J_lconst (v := 0) X d_Mod_sums_386 (by decide) ?_
                refine J_lc_eq (tgt := 396) X d_Mod_sums_387 d_Mod_sums_388 (by decide) h (fun c143 h => ?_) (fun c143 h => ?_)
                · refine J_aload_n X d_Mod_sums_396 rfl 1 rfl ?_
                  refine J_iconst X d_Mod_sums_397 ?_
                  obtain ⟨r144, R_fault_145, q146, h⟩ := wk_b2 h
                  refine J_afterI0 (ws' := [(ad 0, .inr (10, [.int (zI R_thrown), .ref (ad 1), .ref (ad 2), .ref (ad 3), .ref (ad 4), .ref (ad 5), .ref (ad 6), .int (zI R_used), .ref (ad 7), .int (zI R_many), .ref (ad 8), .ref (ad 9), .ref (ad 10), .ref (ad 11), .ref (ad 12), .ref (ad 13), .ref (ad 14), .ref (ad 15), .ref (ad 16), .int (zI R_values), .ref (ad 17), .int (zI R_textEnd), .ref (ad 18), .ref (ad 19), .ref (ad 20), .ref (ad 21), .int (zI R_dataEnd), .ref (ad 22), .int (zI R_rowEnd), .ref (ad 23), .ref (ad 24), .int (zI R_rowMany), .ref (ad 25), .ref (ad 26), .ref (ad 27), .ref (ad 28), .int (zI R_waiting), .int (zI R_mostWaiting), .int (zI R_answer), .int (zI R_steps), .int (zI R_memory), .int (zI R_maxSteps), .int (zI R_maxMemory), .int (zI R_fault_145), .int (zI R_result), .int (zI R_now), .int (zI R_nowRow), .int (zI R_come), .ref (ad 29), .ref (ad 30), .int (zI R_puts), .ref (ad 31)])), (ad 8, .inl (cI, 3700, .inl (zA R_valueKinds))), (ad 9, .inl (cL, 3700, .inr (.inl (zB R_valueNumbers)))), (ad 14, .inl (cI, 3700, .inl (zA R_given)))]) X (jrunV X (c_Mod_fail (ad := ad) q146) jF0_k (fun _ _ _ _ => trivial) (jgV own_Mod_sums (by decide +kernel)) rfl rfl rfl pd_Mod_fail (by decide) [0] rfl (by decide) 0 10 rfl rfl rfl rfl (Nat.le_of_ble_eq_true rfl) d_Mod_sums_398 (by decide)) [0] [1, 2, 3] [3, 0, 1, 2] rfl rfl (by decide) (by decide) rfl (by decide) ?_
                  refine J_goto (tgt := 413) X d_Mod_sums_401 (by decide) ?_
                  cases h
                  exact J_ret E ⟨_, rfl, rfl⟩ d_Mod_sums_413 (Nat.le_refl _) (Nat.le_refl _) rfl
                · refine J_iload X d_Mod_sums_391 0 rfl ?_
                  refine J_if_eq (pa := some ()) (pb := none) (o := ()) (tgt := 404) X d_Mod_sums_393 (by decide) (by decide) (fun _ _ => ?_) (fun _ h => by cases h)
                  refine J_aload_n X d_Mod_sums_404 rfl 1 rfl ?_
                  refine J_iconst X d_Mod_sums_405 ?_
                  refine J_lload_n X d_Mod_sums_406 rfl 3 rfl ?_
                  refine J_lload X d_Mod_sums_407 4 rfl ?_
                  obtain ⟨g147, h⟩ := wk_g h
                  refine J_ldiv X g147 d_Mod_sums_409 ?_
                  obtain ⟨r148, R_values_149, R_valueKinds_150, R_valueNumbers_151, R_given_152, q153, h⟩ := wk_b5 h
                  refine J_afterI0 (ws' := [(ad 0, .inr (10, [.int (zI R_thrown), .ref (ad 1), .ref (ad 2), .ref (ad 3), .ref (ad 4), .ref (ad 5), .ref (ad 6), .int (zI R_used), .ref (ad 7), .int (zI R_many), .ref (ad 8), .ref (ad 9), .ref (ad 10), .ref (ad 11), .ref (ad 12), .ref (ad 13), .ref (ad 14), .ref (ad 15), .ref (ad 16), .int (zI R_values_149), .ref (ad 17), .int (zI R_textEnd), .ref (ad 18), .ref (ad 19), .ref (ad 20), .ref (ad 21), .int (zI R_dataEnd), .ref (ad 22), .int (zI R_rowEnd), .ref (ad 23), .ref (ad 24), .int (zI R_rowMany), .ref (ad 25), .ref (ad 26), .ref (ad 27), .ref (ad 28), .int (zI R_waiting), .int (zI R_mostWaiting), .int (zI R_answer), .int (zI R_steps), .int (zI R_memory), .int (zI R_maxSteps), .int (zI R_maxMemory), .int (zI R_fault), .int (zI R_result), .int (zI R_now), .int (zI R_nowRow), .int (zI R_come), .ref (ad 29), .ref (ad 30), .int (zI R_puts), .ref (ad 31)])), (ad 8, .inl (cI, 3700, .inl (zA R_valueKinds_150))), (ad 9, .inl (cL, 3700, .inr (.inl (zB R_valueNumbers_151)))), (ad 14, .inl (cI, 3700, .inl (zA R_given_152)))]) X (jrunV X (c_Mod_make (ad := ad) q153) jF0_k (fun _ _ _ _ => trivial) (jgV own_Mod_sums (by decide +kernel)) rfl rfl rfl pd_Mod_make (by decide) [0, 1, 2, 3] rfl (by decide) 0 10 rfl rfl rfl rfl (Nat.le_of_ble_eq_true rfl) d_Mod_sums_410 (by decide)) [0, 1, 2, 3] [] [0, 1, 2, 3] rfl rfl (by decide) (by decide) rfl (by decide) ?_
                  cases h
                  exact J_ret E ⟨_, rfl, rfl⟩ d_Mod_sums_413 (Nat.le_refl _) (Nat.le_refl _) rfl
              · rcases wk_c h with ⟨c154, h⟩ | ⟨c154, h⟩
                · refine J_tsIn (tgt := 414) X 6 c154 g2 d_Mod_sums_25 (by decide) (by decide) rfl (by decide) ?_
                  refine J_lload X d_Mod_sums_414 4 rfl ?_
                  refine J_lconst (v := 0) X d_Mod_sums_416 (by decide) ?_
                  refine J_lc_ne (tgt := 429) X d_Mod_sums_417 d_Mod_sums_418 (by decide) h (fun c155 h => ?_) (fun c155 h => ?_)
                  · refine J_aload_n X d_Mod_sums_429 rfl 1 rfl ?_
                    refine J_iconst X d_Mod_sums_430 ?_
                    refine J_iload X d_Mod_sums_431 0 rfl ?_
                    refine J_if_eq (pa := some ()) (pb := none) (o := ()) (tgt := 440) X d_Mod_sums_433 (by decide) (by decide) (fun _ _ => ?_) (fun _ h => by cases h)
                    refine J_lload_n X d_Mod_sums_440 rfl 3 rfl ?_
                    refine J_lload X d_Mod_sums_441 4 rfl ?_
                    obtain ⟨g156, h⟩ := wk_g h
                    refine J_lrem X g156 d_Mod_sums_443 ?_
                    obtain ⟨r157, R_values_158, R_valueKinds_159, R_valueNumbers_160, R_given_161, q162, h⟩ := wk_b5 h
                    refine J_afterI0 (ws' := [(ad 0, .inr (10, [.int (zI R_thrown), .ref (ad 1), .ref (ad 2), .ref (ad 3), .ref (ad 4), .ref (ad 5), .ref (ad 6), .int (zI R_used), .ref (ad 7), .int (zI R_many), .ref (ad 8), .ref (ad 9), .ref (ad 10), .ref (ad 11), .ref (ad 12), .ref (ad 13), .ref (ad 14), .ref (ad 15), .ref (ad 16), .int (zI R_values_158), .ref (ad 17), .int (zI R_textEnd), .ref (ad 18), .ref (ad 19), .ref (ad 20), .ref (ad 21), .int (zI R_dataEnd), .ref (ad 22), .int (zI R_rowEnd), .ref (ad 23), .ref (ad 24), .int (zI R_rowMany), .ref (ad 25), .ref (ad 26), .ref (ad 27), .ref (ad 28), .int (zI R_waiting), .int (zI R_mostWaiting), .int (zI R_answer), .int (zI R_steps), .int (zI R_memory), .int (zI R_maxSteps), .int (zI R_maxMemory), .int (zI R_fault), .int (zI R_result), .int (zI R_now), .int (zI R_nowRow), .int (zI R_come), .ref (ad 29), .ref (ad 30), .int (zI R_puts), .ref (ad 31)])), (ad 8, .inl (cI, 3700, .inl (zA R_valueKinds_159))), (ad 9, .inl (cL, 3700, .inr (.inl (zB R_valueNumbers_160)))), (ad 14, .inl (cI, 3700, .inl (zA R_given_161)))]) X (jrunV X (c_Mod_make (ad := ad) q162) jF0_k (fun _ _ _ _ => trivial) (jgV own_Mod_sums (by decide +kernel)) rfl rfl rfl pd_Mod_make (by decide) [0, 1, 2, 3] rfl (by decide) 0 10 rfl rfl rfl rfl (Nat.le_of_ble_eq_true rfl) d_Mod_sums_444 (by decide)) [0, 1, 2, 3] [] [0, 1, 2, 3] rfl rfl (by decide) (by decide) rfl (by decide) ?_
                    cases h
                    exact J_ret E ⟨_, rfl, rfl⟩ d_Mod_sums_447 (Nat.le_refl _) (Nat.le_refl _) rfl
                  · refine J_aload_n X d_Mod_sums_421 rfl 1 rfl ?_
                    refine J_iconst X d_Mod_sums_422 ?_
                    obtain ⟨r163, R_fault_164, q165, h⟩ := wk_b2 h
                    refine J_afterI0 (ws' := [(ad 0, .inr (10, [.int (zI R_thrown), .ref (ad 1), .ref (ad 2), .ref (ad 3), .ref (ad 4), .ref (ad 5), .ref (ad 6), .int (zI R_used), .ref (ad 7), .int (zI R_many), .ref (ad 8), .ref (ad 9), .ref (ad 10), .ref (ad 11), .ref (ad 12), .ref (ad 13), .ref (ad 14), .ref (ad 15), .ref (ad 16), .int (zI R_values), .ref (ad 17), .int (zI R_textEnd), .ref (ad 18), .ref (ad 19), .ref (ad 20), .ref (ad 21), .int (zI R_dataEnd), .ref (ad 22), .int (zI R_rowEnd), .ref (ad 23), .ref (ad 24), .int (zI R_rowMany), .ref (ad 25), .ref (ad 26), .ref (ad 27), .ref (ad 28), .int (zI R_waiting), .int (zI R_mostWaiting), .int (zI R_answer), .int (zI R_steps), .int (zI R_memory), .int (zI R_maxSteps), .int (zI R_maxMemory), .int (zI R_fault_164), .int (zI R_result), .int (zI R_now), .int (zI R_nowRow), .int (zI R_come), .ref (ad 29), .ref (ad 30), .int (zI R_puts), .ref (ad 31)])), (ad 8, .inl (cI, 3700, .inl (zA R_valueKinds))), (ad 9, .inl (cL, 3700, .inr (.inl (zB R_valueNumbers)))), (ad 14, .inl (cI, 3700, .inl (zA R_given)))]) X (jrunV X (c_Mod_fail (ad := ad) q165) jF0_k (fun _ _ _ _ => trivial) (jgV own_Mod_sums (by decide +kernel)) rfl rfl rfl pd_Mod_fail (by decide) [0] rfl (by decide) 0 10 rfl rfl rfl rfl (Nat.le_of_ble_eq_true rfl) d_Mod_sums_423 (by decide)) [0] [1, 2, 3] [3, 0, 1, 2] rfl rfl (by decide) (by decide) rfl (by decide) ?_
                    refine J_goto (tgt := 447) X d_Mod_sums_426 (by decide) ?_
                    cases h
                    exact J_ret E ⟨_, rfl, rfl⟩ d_Mod_sums_447 (Nat.le_refl _) (Nat.le_refl _) rfl
                · rcases wk_c h with ⟨c166, h⟩ | ⟨c166, h⟩
                  · refine J_tsIn (tgt := 448) X 7 c166 g2 d_Mod_sums_25 (by decide) (by decide) rfl (by decide) ?_
                    refine J_aload_n X d_Mod_sums_448 rfl 1 rfl ?_
                    refine J_lload_n X d_Mod_sums_449 rfl 3 rfl ?_
                    refine J_lload X d_Mod_sums_450 4 rfl ?_
                    refine J_lc_ne (tgt := 460) X d_Mod_sums_452 d_Mod_sums_453 (by decide) h (fun c167 h => ?_) (fun c167 h => ?_)
                    · refine J_iconst X d_Mod_sums_460 ?_
                      obtain ⟨r168, R_values_169, R_valueKinds_170, R_valueNumbers_171, R_given_172, q173, h⟩ := wk_b5 h
                      refine J_afterI0 (ws' := [(ad 0, .inr (10, [.int (zI R_thrown), .ref (ad 1), .ref (ad 2), .ref (ad 3), .ref (ad 4), .ref (ad 5), .ref (ad 6), .int (zI R_used), .ref (ad 7), .int (zI R_many), .ref (ad 8), .ref (ad 9), .ref (ad 10), .ref (ad 11), .ref (ad 12), .ref (ad 13), .ref (ad 14), .ref (ad 15), .ref (ad 16), .int (zI R_values_169), .ref (ad 17), .int (zI R_textEnd), .ref (ad 18), .ref (ad 19), .ref (ad 20), .ref (ad 21), .int (zI R_dataEnd), .ref (ad 22), .int (zI R_rowEnd), .ref (ad 23), .ref (ad 24), .int (zI R_rowMany), .ref (ad 25), .ref (ad 26), .ref (ad 27), .ref (ad 28), .int (zI R_waiting), .int (zI R_mostWaiting), .int (zI R_answer), .int (zI R_steps), .int (zI R_memory), .int (zI R_maxSteps), .int (zI R_maxMemory), .int (zI R_fault), .int (zI R_result), .int (zI R_now), .int (zI R_nowRow), .int (zI R_come), .ref (ad 29), .ref (ad 30), .int (zI R_puts), .ref (ad 31)])), (ad 8, .inl (cI, 3700, .inl (zA R_valueKinds_170))), (ad 9, .inl (cL, 3700, .inr (.inl (zB R_valueNumbers_171)))), (ad 14, .inl (cI, 3700, .inl (zA R_given_172)))]) X (jrunV X (c_Mod_truth (ad := ad) q173) jF0_k (fun _ _ _ _ => trivial) (jgV own_Mod_sums (by decide +kernel)) rfl rfl rfl pd_Mod_truth (by decide) [0, 1, 2, 3] rfl (by decide) 0 10 rfl rfl rfl rfl (Nat.le_of_ble_eq_true rfl) d_Mod_sums_461 (by decide)) [0, 1, 2, 3] [] [0, 1, 2, 3] rfl rfl (by decide) (by decide) rfl (by decide) ?_
                      cases h
                      exact J_ret E ⟨_, rfl, rfl⟩ d_Mod_sums_464 (Nat.le_refl _) (Nat.le_refl _) rfl
                    · refine J_iconst X d_Mod_sums_456 ?_
                      refine J_goto (tgt := 461) X d_Mod_sums_457 (by decide) ?_
                      obtain ⟨r174, R_values_175, R_valueKinds_176, R_valueNumbers_177, R_given_178, q179, h⟩ := wk_b5 h
                      refine J_afterI0 (ws' := [(ad 0, .inr (10, [.int (zI R_thrown), .ref (ad 1), .ref (ad 2), .ref (ad 3), .ref (ad 4), .ref (ad 5), .ref (ad 6), .int (zI R_used), .ref (ad 7), .int (zI R_many), .ref (ad 8), .ref (ad 9), .ref (ad 10), .ref (ad 11), .ref (ad 12), .ref (ad 13), .ref (ad 14), .ref (ad 15), .ref (ad 16), .int (zI R_values_175), .ref (ad 17), .int (zI R_textEnd), .ref (ad 18), .ref (ad 19), .ref (ad 20), .ref (ad 21), .int (zI R_dataEnd), .ref (ad 22), .int (zI R_rowEnd), .ref (ad 23), .ref (ad 24), .int (zI R_rowMany), .ref (ad 25), .ref (ad 26), .ref (ad 27), .ref (ad 28), .int (zI R_waiting), .int (zI R_mostWaiting), .int (zI R_answer), .int (zI R_steps), .int (zI R_memory), .int (zI R_maxSteps), .int (zI R_maxMemory), .int (zI R_fault), .int (zI R_result), .int (zI R_now), .int (zI R_nowRow), .int (zI R_come), .ref (ad 29), .ref (ad 30), .int (zI R_puts), .ref (ad 31)])), (ad 8, .inl (cI, 3700, .inl (zA R_valueKinds_176))), (ad 9, .inl (cL, 3700, .inr (.inl (zB R_valueNumbers_177)))), (ad 14, .inl (cI, 3700, .inl (zA R_given_178)))]) X (jrunV X (c_Mod_truth (ad := ad) q179) jF0_k (fun _ _ _ _ => trivial) (jgV own_Mod_sums (by decide +kernel)) rfl rfl rfl pd_Mod_truth (by decide) [0, 1, 2, 3] rfl (by decide) 0 10 rfl rfl rfl rfl (Nat.le_of_ble_eq_true rfl) d_Mod_sums_461 (by decide)) [0, 1, 2, 3] [] [0, 1, 2, 3] rfl rfl (by decide) (by decide) rfl (by decide) ?_
                      cases h
                      exact J_ret E ⟨_, rfl, rfl⟩ d_Mod_sums_464 (Nat.le_refl _) (Nat.le_refl _) rfl
                  · rcases wk_c h with ⟨c180, h⟩ | ⟨c180, h⟩
                    · refine J_tsIn (tgt := 465) X 8 c180 g2 d_Mod_sums_25 (by decide) (by decide) rfl (by decide) ?_
                      refine J_aload_n X d_Mod_sums_465 rfl 1 rfl ?_
                      refine J_lload_n X d_Mod_sums_466 rfl 3 rfl ?_
                      refine J_lload X d_Mod_sums_467 4 rfl ?_
                      refine J_lc_ge (tgt := 477) X d_Mod_sums_469 d_Mod_sums_470 (by decide) h (fun c181 h => ?_) (fun c181 h => ?_)
                      · refine J_iconst X d_Mod_sums_477 ?_
                        obtain ⟨r182, R_values_183, R_valueKinds_184, R_valueNumbers_185, R_given_186, q187, h⟩ := wk_b5 h
                        refine J_afterI0 (ws' := [(ad 0, .inr (10, [.int (zI R_thrown), .ref (ad 1), .ref (ad 2), .ref (ad 3), .ref (ad 4), .ref (ad 5), .ref (ad 6), .int (zI R_used), .ref (ad 7), .int (zI R_many), .ref (ad 8), .ref (ad 9), .ref (ad 10), .ref (ad 11), .ref (ad 12), .ref (ad 13), .ref (ad 14), .ref (ad 15), .ref (ad 16), .int (zI R_values_183), .ref (ad 17), .int (zI R_textEnd), .ref (ad 18), .ref (ad 19), .ref (ad 20), .ref (ad 21), .int (zI R_dataEnd), .ref (ad 22), .int (zI R_rowEnd), .ref (ad 23), .ref (ad 24), .int (zI R_rowMany), .ref (ad 25), .ref (ad 26), .ref (ad 27), .ref (ad 28), .int (zI R_waiting), .int (zI R_mostWaiting), .int (zI R_answer), .int (zI R_steps), .int (zI R_memory), .int (zI R_maxSteps), .int (zI R_maxMemory), .int (zI R_fault), .int (zI R_result), .int (zI R_now), .int (zI R_nowRow), .int (zI R_come), .ref (ad 29), .ref (ad 30), .int (zI R_puts), .ref (ad 31)])), (ad 8, .inl (cI, 3700, .inl (zA R_valueKinds_184))), (ad 9, .inl (cL, 3700, .inr (.inl (zB R_valueNumbers_185)))), (ad 14, .inl (cI, 3700, .inl (zA R_given_186)))]) X (jrunV X (c_Mod_truth (ad := ad) q187) jF0_k (fun _ _ _ _ => trivial) (jgV own_Mod_sums (by decide +kernel)) rfl rfl rfl pd_Mod_truth (by decide) [0, 1, 2, 3] rfl (by decide) 0 10 rfl rfl rfl rfl (Nat.le_of_ble_eq_true rfl) d_Mod_sums_478 (by decide)) [0, 1, 2, 3] [] [0, 1, 2, 3] rfl rfl (by decide) (by decide) rfl (by decide) ?_
                        cases h
                        exact J_ret E ⟨_, rfl, rfl⟩ d_Mod_sums_481 (Nat.le_refl _) (Nat.le_refl _) rfl
                      · refine J_iconst X d_Mod_sums_473 ?_
                        refine J_goto (tgt := 478) X d_Mod_sums_474 (by decide) ?_
                        obtain ⟨r188, R_values_189, R_valueKinds_190, R_valueNumbers_191, R_given_192, q193, h⟩ := wk_b5 h
                        refine J_afterI0 (ws' := [(ad 0, .inr (10, [.int (zI R_thrown), .ref (ad 1), .ref (ad 2), .ref (ad 3), .ref (ad 4), .ref (ad 5), .ref (ad 6), .int (zI R_used), .ref (ad 7), .int (zI R_many), .ref (ad 8), .ref (ad 9), .ref (ad 10), .ref (ad 11), .ref (ad 12), .ref (ad 13), .ref (ad 14), .ref (ad 15), .ref (ad 16), .int (zI R_values_189), .ref (ad 17), .int (zI R_textEnd), .ref (ad 18), .ref (ad 19), .ref (ad 20), .ref (ad 21), .int (zI R_dataEnd), .ref (ad 22), .int (zI R_rowEnd), .ref (ad 23), .ref (ad 24), .int (zI R_rowMany), .ref (ad 25), .ref (ad 26), .ref (ad 27), .ref (ad 28), .int (zI R_waiting), .int (zI R_mostWaiting), .int (zI R_answer), .int (zI R_steps), .int (zI R_memory), .int (zI R_maxSteps), .int (zI R_maxMemory), .int (zI R_fault), .int (zI R_result), .int (zI R_now), .int (zI R_nowRow), .int (zI R_come), .ref (ad 29), .ref (ad 30), .int (zI R_puts), .ref (ad 31)])), (ad 8, .inl (cI, 3700, .inl (zA R_valueKinds_190))), (ad 9, .inl (cL, 3700, .inr (.inl (zB R_valueNumbers_191)))), (ad 14, .inl (cI, 3700, .inl (zA R_given_192)))]) X (jrunV X (c_Mod_truth (ad := ad) q193) jF0_k (fun _ _ _ _ => trivial) (jgV own_Mod_sums (by decide +kernel)) rfl rfl rfl pd_Mod_truth (by decide) [0, 1, 2, 3] rfl (by decide) 0 10 rfl rfl rfl rfl (Nat.le_of_ble_eq_true rfl) d_Mod_sums_478 (by decide)) [0, 1, 2, 3] [] [0, 1, 2, 3] rfl rfl (by decide) (by decide) rfl (by decide) ?_
                        cases h
                        exact J_ret E ⟨_, rfl, rfl⟩ d_Mod_sums_481 (Nat.le_refl _) (Nat.le_refl _) rfl
                    · refine J_tsOut (tgt := 482) X g2 d_Mod_sums_25 (by omega) (by decide) ?_
                      refine J_aload_n X d_Mod_sums_482 rfl 1 rfl ?_
                      refine J_lload_n X d_Mod_sums_483 rfl 3 rfl ?_
                      refine J_lload X d_Mod_sums_484 4 rfl ?_
                      refine J_lc_gt (tgt := 494) X d_Mod_sums_486 d_Mod_sums_487 (by decide) h (fun c194 h => ?_) (fun c194 h => ?_)
                      · refine J_iconst X d_Mod_sums_494 ?_
                        obtain ⟨r195, R_values_196, R_valueKinds_197, R_valueNumbers_198, R_given_199, q200, h⟩ := wk_b5 h
                        refine J_afterI0 (ws' := [(ad 0, .inr (10, [.int (zI R_thrown), .ref (ad 1), .ref (ad 2), .ref (ad 3), .ref (ad 4), .ref (ad 5), .ref (ad 6), .int (zI R_used), .ref (ad 7), .int (zI R_many), .ref (ad 8), .ref (ad 9), .ref (ad 10), .ref (ad 11), .ref (ad 12), .ref (ad 13), .ref (ad 14), .ref (ad 15), .ref (ad 16), .int (zI R_values_196), .ref (ad 17), .int (zI R_textEnd), .ref (ad 18), .ref (ad 19), .ref (ad 20), .ref (ad 21), .int (zI R_dataEnd), .ref (ad 22), .int (zI R_rowEnd), .ref (ad 23), .ref (ad 24), .int (zI R_rowMany), .ref (ad 25), .ref (ad 26), .ref (ad 27), .ref (ad 28), .int (zI R_waiting), .int (zI R_mostWaiting), .int (zI R_answer), .int (zI R_steps), .int (zI R_memory), .int (zI R_maxSteps), .int (zI R_maxMemory), .int (zI R_fault), .int (zI R_result), .int (zI R_now), .int (zI R_nowRow), .int (zI R_come), .ref (ad 29), .ref (ad 30), .int (zI R_puts), .ref (ad 31)])), (ad 8, .inl (cI, 3700, .inl (zA R_valueKinds_197))), (ad 9, .inl (cL, 3700, .inr (.inl (zB R_valueNumbers_198)))), (ad 14, .inl (cI, 3700, .inl (zA R_given_199)))]) X (jrunV X (c_Mod_truth (ad := ad) q200) jF0_k (fun _ _ _ _ => trivial) (jgV own_Mod_sums (by decide +kernel)) rfl rfl rfl pd_Mod_truth (by decide) [0, 1, 2, 3] rfl (by decide) 0 10 rfl rfl rfl rfl (Nat.le_of_ble_eq_true rfl) d_Mod_sums_495 (by decide)) [0, 1, 2, 3] [] [0, 1, 2, 3] rfl rfl (by decide) (by decide) rfl (by decide) ?_
                        cases h
                        exact J_ret E ⟨_, rfl, rfl⟩ d_Mod_sums_498 (Nat.le_refl _) (Nat.le_refl _) rfl
                      · refine J_iconst X d_Mod_sums_490 ?_
                        refine J_goto (tgt := 495) X d_Mod_sums_491 (by decide) ?_
                        obtain ⟨r201, R_values_202, R_valueKinds_203, R_valueNumbers_204, R_given_205, q206, h⟩ := wk_b5 h
                        refine J_afterI0 (ws' := [(ad 0, .inr (10, [.int (zI R_thrown), .ref (ad 1), .ref (ad 2), .ref (ad 3), .ref (ad 4), .ref (ad 5), .ref (ad 6), .int (zI R_used), .ref (ad 7), .int (zI R_many), .ref (ad 8), .ref (ad 9), .ref (ad 10), .ref (ad 11), .ref (ad 12), .ref (ad 13), .ref (ad 14), .ref (ad 15), .ref (ad 16), .int (zI R_values_202), .ref (ad 17), .int (zI R_textEnd), .ref (ad 18), .ref (ad 19), .ref (ad 20), .ref (ad 21), .int (zI R_dataEnd), .ref (ad 22), .int (zI R_rowEnd), .ref (ad 23), .ref (ad 24), .int (zI R_rowMany), .ref (ad 25), .ref (ad 26), .ref (ad 27), .ref (ad 28), .int (zI R_waiting), .int (zI R_mostWaiting), .int (zI R_answer), .int (zI R_steps), .int (zI R_memory), .int (zI R_maxSteps), .int (zI R_maxMemory), .int (zI R_fault), .int (zI R_result), .int (zI R_now), .int (zI R_nowRow), .int (zI R_come), .ref (ad 29), .ref (ad 30), .int (zI R_puts), .ref (ad 31)])), (ad 8, .inl (cI, 3700, .inl (zA R_valueKinds_203))), (ad 9, .inl (cL, 3700, .inr (.inl (zB R_valueNumbers_204)))), (ad 14, .inl (cI, 3700, .inl (zA R_given_205)))]) X (jrunV X (c_Mod_truth (ad := ad) q206) jF0_k (fun _ _ _ _ => trivial) (jgV own_Mod_sums (by decide +kernel)) rfl rfl rfl pd_Mod_truth (by decide) [0, 1, 2, 3] rfl (by decide) 0 10 rfl rfl rfl rfl (Nat.le_of_ble_eq_true rfl) d_Mod_sums_495 (by decide)) [0, 1, 2, 3] [] [0, 1, 2, 3] rfl rfl (by decide) (by decide) rfl (by decide) ?_
                        cases h
                        exact J_ret E ⟨_, rfl, rfl⟩ d_Mod_sums_498 (Nat.le_refl _) (Nat.le_refl _) rfl
  · refine J_lload_n X d_Mod_sums_9 rfl 2 rfl ?_
    refine J_ldc2 (v := (-9223372036854775808)) (n := (-9223372036854775808)) X (j_m own_Mod_sums (by decide +kernel)) (by decide) d_Mod_sums_10 ?_
    refine J_lc_ne (tgt := 21) X d_Mod_sums_13 d_Mod_sums_14 (by decide) h (fun c207 h => ?_) (fun c207 h => ?_)
    · refine J_iconst X d_Mod_sums_21 ?_
      refine J_istore (lv' := [(6, .int (zI 0)), (0, .ref (ad 0)), (1, .int (zI p1)), (2, .long (zL p2)), (4, .long (zL p4))]) X d_Mod_sums_22 (by decide) rfl ?_
      refine J_iload_n X d_Mod_sums_24 rfl 2 rfl ?_
      obtain ⟨g208, h⟩ := wk_g h
      rcases wk_c h with ⟨c209, h⟩ | ⟨c209, h⟩
      · refine J_tsIn (tgt := 76) X 0 c209 g208 d_Mod_sums_25 (by decide) (by decide) rfl (by decide) ?_
        refine J_lload X d_Mod_sums_76 4 rfl ?_
        refine J_lconst (v := 0) X d_Mod_sums_78 (by decide) ?_
        refine J_lc_le (tgt := 114) X d_Mod_sums_79 d_Mod_sums_80 (by decide) h (fun c210 h => ?_) (fun c210 h => ?_)
        · refine J_lload_n X d_Mod_sums_114 rfl 3 rfl ?_
          refine J_ldc2 (v := (-9223372036854775808)) (n := (-9223372036854775808)) X (j_m own_Mod_sums (by decide +kernel)) (by decide) d_Mod_sums_115 ?_
          refine J_lload X d_Mod_sums_118 4 rfl ?_
          refine J_lsub X d_Mod_sums_120 ?_
          refine J_lc_ge (tgt := 133) X d_Mod_sums_121 d_Mod_sums_122 (by decide) h (fun c211 h => ?_) (fun c211 h => ?_)
          · refine J_aload_n X d_Mod_sums_133 rfl 1 rfl ?_
            refine J_iconst X d_Mod_sums_134 ?_
            refine J_lload_n X d_Mod_sums_135 rfl 3 rfl ?_
            refine J_lload X d_Mod_sums_136 4 rfl ?_
            refine J_ladd X d_Mod_sums_138 ?_
            obtain ⟨r212, R_values_213, R_valueKinds_214, R_valueNumbers_215, R_given_216, q217, h⟩ := wk_b5 h
            refine J_afterI0 (ws' := [(ad 0, .inr (10, [.int (zI R_thrown), .ref (ad 1), .ref (ad 2), .ref (ad 3), .ref (ad 4), .ref (ad 5), .ref (ad 6), .int (zI R_used), .ref (ad 7), .int (zI R_many), .ref (ad 8), .ref (ad 9), .ref (ad 10), .ref (ad 11), .ref (ad 12), .ref (ad 13), .ref (ad 14), .ref (ad 15), .ref (ad 16), .int (zI R_values_213), .ref (ad 17), .int (zI R_textEnd), .ref (ad 18), .ref (ad 19), .ref (ad 20), .ref (ad 21), .int (zI R_dataEnd), .ref (ad 22), .int (zI R_rowEnd), .ref (ad 23), .ref (ad 24), .int (zI R_rowMany), .ref (ad 25), .ref (ad 26), .ref (ad 27), .ref (ad 28), .int (zI R_waiting), .int (zI R_mostWaiting), .int (zI R_answer), .int (zI R_steps), .int (zI R_memory), .int (zI R_maxSteps), .int (zI R_maxMemory), .int (zI R_fault), .int (zI R_result), .int (zI R_now), .int (zI R_nowRow), .int (zI R_come), .ref (ad 29), .ref (ad 30), .int (zI R_puts), .ref (ad 31)])), (ad 8, .inl (cI, 3700, .inl (zA R_valueKinds_214))), (ad 9, .inl (cL, 3700, .inr (.inl (zB R_valueNumbers_215)))), (ad 14, .inl (cI, 3700, .inl (zA R_given_216)))]) X (jrunV X (c_Mod_make (ad := ad) q217) jF0_k (fun _ _ _ _ => trivial) (jgV own_Mod_sums (by decide +kernel)) rfl rfl rfl pd_Mod_make (by decide) [0, 1, 2, 3] rfl (by decide) 0 10 rfl rfl rfl rfl (Nat.le_of_ble_eq_true rfl) d_Mod_sums_139 (by decide)) [0, 1, 2, 3] [] [0, 1, 2, 3] rfl rfl (by decide) (by decide) rfl (by decide) ?_
            cases h
            exact J_ret E ⟨_, rfl, rfl⟩ d_Mod_sums_142 (Nat.le_refl _) (Nat.le_refl _) rfl
          · refine J_aload_n X d_Mod_sums_125 rfl 1 rfl ?_
            refine J_iconst X d_Mod_sums_126 ?_
            obtain ⟨r218, R_fault_219, q220, h⟩ := wk_b2 h
            refine J_afterI0 (ws' := [(ad 0, .inr (10, [.int (zI R_thrown), .ref (ad 1), .ref (ad 2), .ref (ad 3), .ref (ad 4), .ref (ad 5), .ref (ad 6), .int (zI R_used), .ref (ad 7), .int (zI R_many), .ref (ad 8), .ref (ad 9), .ref (ad 10), .ref (ad 11), .ref (ad 12), .ref (ad 13), .ref (ad 14), .ref (ad 15), .ref (ad 16), .int (zI R_values), .ref (ad 17), .int (zI R_textEnd), .ref (ad 18), .ref (ad 19), .ref (ad 20), .ref (ad 21), .int (zI R_dataEnd), .ref (ad 22), .int (zI R_rowEnd), .ref (ad 23), .ref (ad 24), .int (zI R_rowMany), .ref (ad 25), .ref (ad 26), .ref (ad 27), .ref (ad 28), .int (zI R_waiting), .int (zI R_mostWaiting), .int (zI R_answer), .int (zI R_steps), .int (zI R_memory), .int (zI R_maxSteps), .int (zI R_maxMemory), .int (zI R_fault_219), .int (zI R_result), .int (zI R_now), .int (zI R_nowRow), .int (zI R_come), .ref (ad 29), .ref (ad 30), .int (zI R_puts), .ref (ad 31)])), (ad 8, .inl (cI, 3700, .inl (zA R_valueKinds))), (ad 9, .inl (cL, 3700, .inr (.inl (zB R_valueNumbers)))), (ad 14, .inl (cI, 3700, .inl (zA R_given)))]) X (jrunV X (c_Mod_fail (ad := ad) q220) jF0_k (fun _ _ _ _ => trivial) (jgV own_Mod_sums (by decide +kernel)) rfl rfl rfl pd_Mod_fail (by decide) [0] rfl (by decide) 0 10 rfl rfl rfl rfl (Nat.le_of_ble_eq_true rfl) d_Mod_sums_127 (by decide)) [0] [1, 2, 3] [3, 0, 1, 2] rfl rfl (by decide) (by decide) rfl (by decide) ?_
            refine J_goto (tgt := 142) X d_Mod_sums_130 (by decide) ?_
            cases h
            exact J_ret E ⟨_, rfl, rfl⟩ d_Mod_sums_142 (Nat.le_refl _) (Nat.le_refl _) rfl
        · refine J_lload_n X d_Mod_sums_83 rfl 3 rfl ?_
          refine J_ldc2 (v := 9223372036854775807) (n := 9223372036854775807) X (j_m own_Mod_sums (by decide +kernel)) (by decide) d_Mod_sums_84 ?_
          refine J_lload X d_Mod_sums_87 4 rfl ?_
          refine J_lsub X d_Mod_sums_89 ?_
          refine J_lc_le (tgt := 102) X d_Mod_sums_90 d_Mod_sums_91 (by decide) h (fun c221 h => ?_) (fun c221 h => ?_)
          · refine J_aload_n X d_Mod_sums_102 rfl 1 rfl ?_
            refine J_iconst X d_Mod_sums_103 ?_
            refine J_lload_n X d_Mod_sums_104 rfl 3 rfl ?_
            refine J_lload X d_Mod_sums_105 4 rfl ?_
            refine J_ladd X d_Mod_sums_107 ?_
            obtain ⟨r222, R_values_223, R_valueKinds_224, R_valueNumbers_225, R_given_226, q227, h⟩ := wk_b5 h
            refine J_afterI0 (ws' := [(ad 0, .inr (10, [.int (zI R_thrown), .ref (ad 1), .ref (ad 2), .ref (ad 3), .ref (ad 4), .ref (ad 5), .ref (ad 6), .int (zI R_used), .ref (ad 7), .int (zI R_many), .ref (ad 8), .ref (ad 9), .ref (ad 10), .ref (ad 11), .ref (ad 12), .ref (ad 13), .ref (ad 14), .ref (ad 15), .ref (ad 16), .int (zI R_values_223), .ref (ad 17), .int (zI R_textEnd), .ref (ad 18), .ref (ad 19), .ref (ad 20), .ref (ad 21), .int (zI R_dataEnd), .ref (ad 22), .int (zI R_rowEnd), .ref (ad 23), .ref (ad 24), .int (zI R_rowMany), .ref (ad 25), .ref (ad 26), .ref (ad 27), .ref (ad 28), .int (zI R_waiting), .int (zI R_mostWaiting), .int (zI R_answer), .int (zI R_steps), .int (zI R_memory), .int (zI R_maxSteps), .int (zI R_maxMemory), .int (zI R_fault), .int (zI R_result), .int (zI R_now), .int (zI R_nowRow), .int (zI R_come), .ref (ad 29), .ref (ad 30), .int (zI R_puts), .ref (ad 31)])), (ad 8, .inl (cI, 3700, .inl (zA R_valueKinds_224))), (ad 9, .inl (cL, 3700, .inr (.inl (zB R_valueNumbers_225)))), (ad 14, .inl (cI, 3700, .inl (zA R_given_226)))]) X (jrunV X (c_Mod_make (ad := ad) q227) jF0_k (fun _ _ _ _ => trivial) (jgV own_Mod_sums (by decide +kernel)) rfl rfl rfl pd_Mod_make (by decide) [0, 1, 2, 3] rfl (by decide) 0 10 rfl rfl rfl rfl (Nat.le_of_ble_eq_true rfl) d_Mod_sums_108 (by decide)) [0, 1, 2, 3] [] [0, 1, 2, 3] rfl rfl (by decide) (by decide) rfl (by decide) ?_
            refine J_goto (tgt := 142) X d_Mod_sums_111 (by decide) ?_
            cases h
            exact J_ret E ⟨_, rfl, rfl⟩ d_Mod_sums_142 (Nat.le_refl _) (Nat.le_refl _) rfl
          · refine J_aload_n X d_Mod_sums_94 rfl 1 rfl ?_
            refine J_iconst X d_Mod_sums_95 ?_
            obtain ⟨r228, R_fault_229, q230, h⟩ := wk_b2 h
            refine J_afterI0 (ws' := [(ad 0, .inr (10, [.int (zI R_thrown), .ref (ad 1), .ref (ad 2), .ref (ad 3), .ref (ad 4), .ref (ad 5), .ref (ad 6), .int (zI R_used), .ref (ad 7), .int (zI R_many), .ref (ad 8), .ref (ad 9), .ref (ad 10), .ref (ad 11), .ref (ad 12), .ref (ad 13), .ref (ad 14), .ref (ad 15), .ref (ad 16), .int (zI R_values), .ref (ad 17), .int (zI R_textEnd), .ref (ad 18), .ref (ad 19), .ref (ad 20), .ref (ad 21), .int (zI R_dataEnd), .ref (ad 22), .int (zI R_rowEnd), .ref (ad 23), .ref (ad 24), .int (zI R_rowMany), .ref (ad 25), .ref (ad 26), .ref (ad 27), .ref (ad 28), .int (zI R_waiting), .int (zI R_mostWaiting), .int (zI R_answer), .int (zI R_steps), .int (zI R_memory), .int (zI R_maxSteps), .int (zI R_maxMemory), .int (zI R_fault_229), .int (zI R_result), .int (zI R_now), .int (zI R_nowRow), .int (zI R_come), .ref (ad 29), .ref (ad 30), .int (zI R_puts), .ref (ad 31)])), (ad 8, .inl (cI, 3700, .inl (zA R_valueKinds))), (ad 9, .inl (cL, 3700, .inr (.inl (zB R_valueNumbers)))), (ad 14, .inl (cI, 3700, .inl (zA R_given)))]) X (jrunV X (c_Mod_fail (ad := ad) q230) jF0_k (fun _ _ _ _ => trivial) (jgV own_Mod_sums (by decide +kernel)) rfl rfl rfl pd_Mod_fail (by decide) [0] rfl (by decide) 0 10 rfl rfl rfl rfl (Nat.le_of_ble_eq_true rfl) d_Mod_sums_96 (by decide)) [0] [1, 2, 3] [3, 0, 1, 2] rfl rfl (by decide) (by decide) rfl (by decide) ?_
            refine J_goto (tgt := 142) X d_Mod_sums_99 (by decide) ?_
            cases h
            exact J_ret E ⟨_, rfl, rfl⟩ d_Mod_sums_142 (Nat.le_refl _) (Nat.le_refl _) rfl
      · rcases wk_c h with ⟨c231, h⟩ | ⟨c231, h⟩
        · refine J_tsIn (tgt := 143) X 1 c231 g208 d_Mod_sums_25 (by decide) (by decide) rfl (by decide) ?_
          refine J_lload X d_Mod_sums_143 4 rfl ?_
          refine J_lconst (v := 0) X d_Mod_sums_145 (by decide) ?_
          refine J_lc_ge (tgt := 181) X d_Mod_sums_146 d_Mod_sums_147 (by decide) h (fun c232 h => ?_) (fun c232 h => ?_)
          · refine J_lload_n X d_Mod_sums_181 rfl 3 rfl ?_
            refine J_ldc2 (v := (-9223372036854775808)) (n := (-9223372036854775808)) X (j_m own_Mod_sums (by decide +kernel)) (by decide) d_Mod_sums_182 ?_
            refine J_lload X d_Mod_sums_185 4 rfl ?_
            refine J_ladd X d_Mod_sums_187 ?_
            refine J_lc_ge (tgt := 200) X d_Mod_sums_188 d_Mod_sums_189 (by decide) h (fun c233 h => ?_) (fun c233 h => ?_)
            · refine J_aload_n X d_Mod_sums_200 rfl 1 rfl ?_
              refine J_iconst X d_Mod_sums_201 ?_
              refine J_lload_n X d_Mod_sums_202 rfl 3 rfl ?_
              refine J_lload X d_Mod_sums_203 4 rfl ?_
              refine J_lsub X d_Mod_sums_205 ?_
              obtain ⟨r234, R_values_235, R_valueKinds_236, R_valueNumbers_237, R_given_238, q239, h⟩ := wk_b5 h
              refine J_afterI0 (ws' := [(ad 0, .inr (10, [.int (zI R_thrown), .ref (ad 1), .ref (ad 2), .ref (ad 3), .ref (ad 4), .ref (ad 5), .ref (ad 6), .int (zI R_used), .ref (ad 7), .int (zI R_many), .ref (ad 8), .ref (ad 9), .ref (ad 10), .ref (ad 11), .ref (ad 12), .ref (ad 13), .ref (ad 14), .ref (ad 15), .ref (ad 16), .int (zI R_values_235), .ref (ad 17), .int (zI R_textEnd), .ref (ad 18), .ref (ad 19), .ref (ad 20), .ref (ad 21), .int (zI R_dataEnd), .ref (ad 22), .int (zI R_rowEnd), .ref (ad 23), .ref (ad 24), .int (zI R_rowMany), .ref (ad 25), .ref (ad 26), .ref (ad 27), .ref (ad 28), .int (zI R_waiting), .int (zI R_mostWaiting), .int (zI R_answer), .int (zI R_steps), .int (zI R_memory), .int (zI R_maxSteps), .int (zI R_maxMemory), .int (zI R_fault), .int (zI R_result), .int (zI R_now), .int (zI R_nowRow), .int (zI R_come), .ref (ad 29), .ref (ad 30), .int (zI R_puts), .ref (ad 31)])), (ad 8, .inl (cI, 3700, .inl (zA R_valueKinds_236))), (ad 9, .inl (cL, 3700, .inr (.inl (zB R_valueNumbers_237)))), (ad 14, .inl (cI, 3700, .inl (zA R_given_238)))]) X (jrunV X (c_Mod_make (ad := ad) q239) jF0_k (fun _ _ _ _ => trivial) (jgV own_Mod_sums (by decide +kernel)) rfl rfl rfl pd_Mod_make (by decide) [0, 1, 2, 3] rfl (by decide) 0 10 rfl rfl rfl rfl (Nat.le_of_ble_eq_true rfl) d_Mod_sums_206 (by decide)) [0, 1, 2, 3] [] [0, 1, 2, 3] rfl rfl (by decide) (by decide) rfl (by decide) ?_
              cases h
              exact J_ret E ⟨_, rfl, rfl⟩ d_Mod_sums_209 (Nat.le_refl _) (Nat.le_refl _) rfl
            · refine J_aload_n X d_Mod_sums_192 rfl 1 rfl ?_
              refine J_iconst X d_Mod_sums_193 ?_
              obtain ⟨r240, R_fault_241, q242, h⟩ := wk_b2 h
              refine J_afterI0 (ws' := [(ad 0, .inr (10, [.int (zI R_thrown), .ref (ad 1), .ref (ad 2), .ref (ad 3), .ref (ad 4), .ref (ad 5), .ref (ad 6), .int (zI R_used), .ref (ad 7), .int (zI R_many), .ref (ad 8), .ref (ad 9), .ref (ad 10), .ref (ad 11), .ref (ad 12), .ref (ad 13), .ref (ad 14), .ref (ad 15), .ref (ad 16), .int (zI R_values), .ref (ad 17), .int (zI R_textEnd), .ref (ad 18), .ref (ad 19), .ref (ad 20), .ref (ad 21), .int (zI R_dataEnd), .ref (ad 22), .int (zI R_rowEnd), .ref (ad 23), .ref (ad 24), .int (zI R_rowMany), .ref (ad 25), .ref (ad 26), .ref (ad 27), .ref (ad 28), .int (zI R_waiting), .int (zI R_mostWaiting), .int (zI R_answer), .int (zI R_steps), .int (zI R_memory), .int (zI R_maxSteps), .int (zI R_maxMemory), .int (zI R_fault_241), .int (zI R_result), .int (zI R_now), .int (zI R_nowRow), .int (zI R_come), .ref (ad 29), .ref (ad 30), .int (zI R_puts), .ref (ad 31)])), (ad 8, .inl (cI, 3700, .inl (zA R_valueKinds))), (ad 9, .inl (cL, 3700, .inr (.inl (zB R_valueNumbers)))), (ad 14, .inl (cI, 3700, .inl (zA R_given)))]) X (jrunV X (c_Mod_fail (ad := ad) q242) jF0_k (fun _ _ _ _ => trivial) (jgV own_Mod_sums (by decide +kernel)) rfl rfl rfl pd_Mod_fail (by decide) [0] rfl (by decide) 0 10 rfl rfl rfl rfl (Nat.le_of_ble_eq_true rfl) d_Mod_sums_194 (by decide)) [0] [1, 2, 3] [3, 0, 1, 2] rfl rfl (by decide) (by decide) rfl (by decide) ?_
              refine J_goto (tgt := 209) X d_Mod_sums_197 (by decide) ?_
              cases h
              exact J_ret E ⟨_, rfl, rfl⟩ d_Mod_sums_209 (Nat.le_refl _) (Nat.le_refl _) rfl
          · refine J_lload_n X d_Mod_sums_150 rfl 3 rfl ?_
            refine J_ldc2 (v := 9223372036854775807) (n := 9223372036854775807) X (j_m own_Mod_sums (by decide +kernel)) (by decide) d_Mod_sums_151 ?_
            refine J_lload X d_Mod_sums_154 4 rfl ?_
            refine J_ladd X d_Mod_sums_156 ?_
            refine J_lc_le (tgt := 169) X d_Mod_sums_157 d_Mod_sums_158 (by decide) h (fun c243 h => ?_) (fun c243 h => ?_)
            · refine J_aload_n X d_Mod_sums_169 rfl 1 rfl ?_
              refine J_iconst X d_Mod_sums_170 ?_
              refine J_lload_n X d_Mod_sums_171 rfl 3 rfl ?_
              refine J_lload X d_Mod_sums_172 4 rfl ?_
              refine J_lsub X d_Mod_sums_174 ?_
              obtain ⟨r244, R_values_245, R_valueKinds_246, R_valueNumbers_247, R_given_248, q249, h⟩ := wk_b5 h
              refine J_afterI0 (ws' := [(ad 0, .inr (10, [.int (zI R_thrown), .ref (ad 1), .ref (ad 2), .ref (ad 3), .ref (ad 4), .ref (ad 5), .ref (ad 6), .int (zI R_used), .ref (ad 7), .int (zI R_many), .ref (ad 8), .ref (ad 9), .ref (ad 10), .ref (ad 11), .ref (ad 12), .ref (ad 13), .ref (ad 14), .ref (ad 15), .ref (ad 16), .int (zI R_values_245), .ref (ad 17), .int (zI R_textEnd), .ref (ad 18), .ref (ad 19), .ref (ad 20), .ref (ad 21), .int (zI R_dataEnd), .ref (ad 22), .int (zI R_rowEnd), .ref (ad 23), .ref (ad 24), .int (zI R_rowMany), .ref (ad 25), .ref (ad 26), .ref (ad 27), .ref (ad 28), .int (zI R_waiting), .int (zI R_mostWaiting), .int (zI R_answer), .int (zI R_steps), .int (zI R_memory), .int (zI R_maxSteps), .int (zI R_maxMemory), .int (zI R_fault), .int (zI R_result), .int (zI R_now), .int (zI R_nowRow), .int (zI R_come), .ref (ad 29), .ref (ad 30), .int (zI R_puts), .ref (ad 31)])), (ad 8, .inl (cI, 3700, .inl (zA R_valueKinds_246))), (ad 9, .inl (cL, 3700, .inr (.inl (zB R_valueNumbers_247)))), (ad 14, .inl (cI, 3700, .inl (zA R_given_248)))]) X (jrunV X (c_Mod_make (ad := ad) q249) jF0_k (fun _ _ _ _ => trivial) (jgV own_Mod_sums (by decide +kernel)) rfl rfl rfl pd_Mod_make (by decide) [0, 1, 2, 3] rfl (by decide) 0 10 rfl rfl rfl rfl (Nat.le_of_ble_eq_true rfl) d_Mod_sums_175 (by decide)) [0, 1, 2, 3] [] [0, 1, 2, 3] rfl rfl (by decide) (by decide) rfl (by decide) ?_
              refine J_goto (tgt := 209) X d_Mod_sums_178 (by decide) ?_
              cases h
              exact J_ret E ⟨_, rfl, rfl⟩ d_Mod_sums_209 (Nat.le_refl _) (Nat.le_refl _) rfl
            · refine J_aload_n X d_Mod_sums_161 rfl 1 rfl ?_
              refine J_iconst X d_Mod_sums_162 ?_
              obtain ⟨r250, R_fault_251, q252, h⟩ := wk_b2 h
              refine J_afterI0 (ws' := [(ad 0, .inr (10, [.int (zI R_thrown), .ref (ad 1), .ref (ad 2), .ref (ad 3), .ref (ad 4), .ref (ad 5), .ref (ad 6), .int (zI R_used), .ref (ad 7), .int (zI R_many), .ref (ad 8), .ref (ad 9), .ref (ad 10), .ref (ad 11), .ref (ad 12), .ref (ad 13), .ref (ad 14), .ref (ad 15), .ref (ad 16), .int (zI R_values), .ref (ad 17), .int (zI R_textEnd), .ref (ad 18), .ref (ad 19), .ref (ad 20), .ref (ad 21), .int (zI R_dataEnd), .ref (ad 22), .int (zI R_rowEnd), .ref (ad 23), .ref (ad 24), .int (zI R_rowMany), .ref (ad 25), .ref (ad 26), .ref (ad 27), .ref (ad 28), .int (zI R_waiting), .int (zI R_mostWaiting), .int (zI R_answer), .int (zI R_steps), .int (zI R_memory), .int (zI R_maxSteps), .int (zI R_maxMemory), .int (zI R_fault_251), .int (zI R_result), .int (zI R_now), .int (zI R_nowRow), .int (zI R_come), .ref (ad 29), .ref (ad 30), .int (zI R_puts), .ref (ad 31)])), (ad 8, .inl (cI, 3700, .inl (zA R_valueKinds))), (ad 9, .inl (cL, 3700, .inr (.inl (zB R_valueNumbers)))), (ad 14, .inl (cI, 3700, .inl (zA R_given)))]) X (jrunV X (c_Mod_fail (ad := ad) q252) jF0_k (fun _ _ _ _ => trivial) (jgV own_Mod_sums (by decide +kernel)) rfl rfl rfl pd_Mod_fail (by decide) [0] rfl (by decide) 0 10 rfl rfl rfl rfl (Nat.le_of_ble_eq_true rfl) d_Mod_sums_163 (by decide)) [0] [1, 2, 3] [3, 0, 1, 2] rfl rfl (by decide) (by decide) rfl (by decide) ?_
              refine J_goto (tgt := 209) X d_Mod_sums_166 (by decide) ?_
              cases h
              exact J_ret E ⟨_, rfl, rfl⟩ d_Mod_sums_209 (Nat.le_refl _) (Nat.le_refl _) rfl
        · rcases wk_c h with ⟨c253, h⟩ | ⟨c253, h⟩
          · refine J_tsIn (tgt := 210) X 2 c253 g208 d_Mod_sums_25 (by decide) (by decide) rfl (by decide) ?_
            refine J_lload_n X d_Mod_sums_210 rfl 3 rfl ?_
            refine J_lload X d_Mod_sums_211 4 rfl ?_
            obtain ⟨r254, q255, h⟩ := wk_b h
            refine J_afterP (jrunS X (c_Mod_isProduct (ad := ad) q255) jF0_k (fun _ _ _ _ => trivial) (jgS own_Mod_sums (by decide +kernel)) rfl rfl rfl pd_Mod_isProduct (by decide) [] rfl (by decide) rfl rfl (Nat.le_of_ble_eq_true rfl) d_Mod_sums_213 (by decide)) ?_
            refine J_if_eq (tgt := 231) X d_Mod_sums_216 (by decide) h (fun c256 h => ?_) (fun c256 h => ?_)
            · refine J_aload_n X d_Mod_sums_231 rfl 1 rfl ?_
              refine J_iconst X d_Mod_sums_232 ?_
              obtain ⟨r257, R_fault_258, q259, h⟩ := wk_b2 h
              refine J_afterI0 (ws' := [(ad 0, .inr (10, [.int (zI R_thrown), .ref (ad 1), .ref (ad 2), .ref (ad 3), .ref (ad 4), .ref (ad 5), .ref (ad 6), .int (zI R_used), .ref (ad 7), .int (zI R_many), .ref (ad 8), .ref (ad 9), .ref (ad 10), .ref (ad 11), .ref (ad 12), .ref (ad 13), .ref (ad 14), .ref (ad 15), .ref (ad 16), .int (zI R_values), .ref (ad 17), .int (zI R_textEnd), .ref (ad 18), .ref (ad 19), .ref (ad 20), .ref (ad 21), .int (zI R_dataEnd), .ref (ad 22), .int (zI R_rowEnd), .ref (ad 23), .ref (ad 24), .int (zI R_rowMany), .ref (ad 25), .ref (ad 26), .ref (ad 27), .ref (ad 28), .int (zI R_waiting), .int (zI R_mostWaiting), .int (zI R_answer), .int (zI R_steps), .int (zI R_memory), .int (zI R_maxSteps), .int (zI R_maxMemory), .int (zI R_fault_258), .int (zI R_result), .int (zI R_now), .int (zI R_nowRow), .int (zI R_come), .ref (ad 29), .ref (ad 30), .int (zI R_puts), .ref (ad 31)])), (ad 8, .inl (cI, 3700, .inl (zA R_valueKinds))), (ad 9, .inl (cL, 3700, .inr (.inl (zB R_valueNumbers)))), (ad 14, .inl (cI, 3700, .inl (zA R_given)))]) X (jrunV X (c_Mod_fail (ad := ad) q259) jF0_k (fun _ _ _ _ => trivial) (jgV own_Mod_sums (by decide +kernel)) rfl rfl rfl pd_Mod_fail (by decide) [0] rfl (by decide) 0 10 rfl rfl rfl rfl (Nat.le_of_ble_eq_true rfl) d_Mod_sums_233 (by decide)) [0] [1, 2, 3] [3, 0, 1, 2] rfl rfl (by decide) (by decide) rfl (by decide) ?_
              cases h
              exact J_ret E ⟨_, rfl, rfl⟩ d_Mod_sums_236 (Nat.le_refl _) (Nat.le_refl _) rfl
            · refine J_aload_n X d_Mod_sums_219 rfl 1 rfl ?_
              refine J_iconst X d_Mod_sums_220 ?_
              refine J_lload_n X d_Mod_sums_221 rfl 3 rfl ?_
              refine J_lload X d_Mod_sums_222 4 rfl ?_
              refine J_lmul X d_Mod_sums_224 ?_
              obtain ⟨r260, R_values_261, R_valueKinds_262, R_valueNumbers_263, R_given_264, q265, h⟩ := wk_b5 h
              refine J_afterI0 (ws' := [(ad 0, .inr (10, [.int (zI R_thrown), .ref (ad 1), .ref (ad 2), .ref (ad 3), .ref (ad 4), .ref (ad 5), .ref (ad 6), .int (zI R_used), .ref (ad 7), .int (zI R_many), .ref (ad 8), .ref (ad 9), .ref (ad 10), .ref (ad 11), .ref (ad 12), .ref (ad 13), .ref (ad 14), .ref (ad 15), .ref (ad 16), .int (zI R_values_261), .ref (ad 17), .int (zI R_textEnd), .ref (ad 18), .ref (ad 19), .ref (ad 20), .ref (ad 21), .int (zI R_dataEnd), .ref (ad 22), .int (zI R_rowEnd), .ref (ad 23), .ref (ad 24), .int (zI R_rowMany), .ref (ad 25), .ref (ad 26), .ref (ad 27), .ref (ad 28), .int (zI R_waiting), .int (zI R_mostWaiting), .int (zI R_answer), .int (zI R_steps), .int (zI R_memory), .int (zI R_maxSteps), .int (zI R_maxMemory), .int (zI R_fault), .int (zI R_result), .int (zI R_now), .int (zI R_nowRow), .int (zI R_come), .ref (ad 29), .ref (ad 30), .int (zI R_puts), .ref (ad 31)])), (ad 8, .inl (cI, 3700, .inl (zA R_valueKinds_262))), (ad 9, .inl (cL, 3700, .inr (.inl (zB R_valueNumbers_263)))), (ad 14, .inl (cI, 3700, .inl (zA R_given_264)))]) X (jrunV X (c_Mod_make (ad := ad) q265) jF0_k (fun _ _ _ _ => trivial) (jgV own_Mod_sums (by decide +kernel)) rfl rfl rfl pd_Mod_make (by decide) [0, 1, 2, 3] rfl (by decide) 0 10 rfl rfl rfl rfl (Nat.le_of_ble_eq_true rfl) d_Mod_sums_225 (by decide)) [0, 1, 2, 3] [] [0, 1, 2, 3] rfl rfl (by decide) (by decide) rfl (by decide) ?_
              refine J_goto (tgt := 236) X d_Mod_sums_228 (by decide) ?_
              cases h
              exact J_ret E ⟨_, rfl, rfl⟩ d_Mod_sums_236 (Nat.le_refl _) (Nat.le_refl _) rfl
          · rcases wk_c h with ⟨c266, h⟩ | ⟨c266, h⟩
            · refine J_tsIn (tgt := 237) X 3 c266 g208 d_Mod_sums_25 (by decide) (by decide) rfl (by decide) ?_
              refine J_lload X d_Mod_sums_237 4 rfl ?_
              refine J_lconst (v := 0) X d_Mod_sums_239 (by decide) ?_
              refine J_lc_eq (tgt := 249) X d_Mod_sums_240 d_Mod_sums_241 (by decide) h (fun c267 h => ?_) (fun c267 h => ?_)
              · refine J_aload_n X d_Mod_sums_249 rfl 1 rfl ?_
                refine J_iconst X d_Mod_sums_250 ?_
                obtain ⟨r268, R_fault_269, q270, h⟩ := wk_b2 h
                refine J_afterI0 (ws' := [(ad 0, .inr (10, [.int (zI R_thrown), .ref (ad 1), .ref (ad 2), .ref (ad 3), .ref (ad 4), .ref (ad 5), .ref (ad 6), .int (zI R_used), .ref (ad 7), .int (zI R_many), .ref (ad 8), .ref (ad 9), .ref (ad 10), .ref (ad 11), .ref (ad 12), .ref (ad 13), .ref (ad 14), .ref (ad 15), .ref (ad 16), .int (zI R_values), .ref (ad 17), .int (zI R_textEnd), .ref (ad 18), .ref (ad 19), .ref (ad 20), .ref (ad 21), .int (zI R_dataEnd), .ref (ad 22), .int (zI R_rowEnd), .ref (ad 23), .ref (ad 24), .int (zI R_rowMany), .ref (ad 25), .ref (ad 26), .ref (ad 27), .ref (ad 28), .int (zI R_waiting), .int (zI R_mostWaiting), .int (zI R_answer), .int (zI R_steps), .int (zI R_memory), .int (zI R_maxSteps), .int (zI R_maxMemory), .int (zI R_fault_269), .int (zI R_result), .int (zI R_now), .int (zI R_nowRow), .int (zI R_come), .ref (ad 29), .ref (ad 30), .int (zI R_puts), .ref (ad 31)])), (ad 8, .inl (cI, 3700, .inl (zA R_valueKinds))), (ad 9, .inl (cL, 3700, .inr (.inl (zB R_valueNumbers)))), (ad 14, .inl (cI, 3700, .inl (zA R_given)))]) X (jrunV X (c_Mod_fail (ad := ad) q270) jF0_k (fun _ _ _ _ => trivial) (jgV own_Mod_sums (by decide +kernel)) rfl rfl rfl pd_Mod_fail (by decide) [0] rfl (by decide) 0 10 rfl rfl rfl rfl (Nat.le_of_ble_eq_true rfl) d_Mod_sums_251 (by decide)) [0] [1, 2, 3] [3, 0, 1, 2] rfl rfl (by decide) (by decide) rfl (by decide) ?_
                refine J_goto (tgt := 307) X d_Mod_sums_254 (by decide) ?_
                cases h
                exact J_ret E ⟨_, rfl, rfl⟩ d_Mod_sums_307 (Nat.le_refl _) (Nat.le_refl _) rfl
              · refine J_iload X d_Mod_sums_244 0 rfl ?_
                refine J_if_eq (pa := some ()) (pb := none) (o := ()) (tgt := 257) X d_Mod_sums_246 (by decide) (by decide) (fun _ _ => ?_) (fun _ h => by cases h)
                refine J_aload_n X d_Mod_sums_257 rfl 1 rfl ?_
                refine J_iconst X d_Mod_sums_258 ?_
                refine J_lload_n X d_Mod_sums_259 rfl 3 rfl ?_
                refine J_lload X d_Mod_sums_260 4 rfl ?_
                obtain ⟨g271, h⟩ := wk_g h
                refine J_ldiv X g271 d_Mod_sums_262 ?_
                refine J_lload_n X d_Mod_sums_263 rfl 3 rfl ?_
                refine J_lload X d_Mod_sums_264 4 rfl ?_
                obtain ⟨g272, h⟩ := wk_g h
                refine J_lrem X g272 d_Mod_sums_266 ?_
                refine J_lconst (v := 0) X d_Mod_sums_267 (by decide) ?_
                refine J_lc_eq (tgt := 302) X d_Mod_sums_268 d_Mod_sums_269 (by decide) h (fun c273 h => ?_) (fun c273 h => ?_)
                · refine J_lconst (v := 0) X d_Mod_sums_302 (by decide) ?_
                  refine J_lsub X d_Mod_sums_303 ?_
                  obtain ⟨r274, R_values_275, R_valueKinds_276, R_valueNumbers_277, R_given_278, q279, h⟩ := wk_b5 h
                  refine J_afterI0 (ws' := [(ad 0, .inr (10, [.int (zI R_thrown), .ref (ad 1), .ref (ad 2), .ref (ad 3), .ref (ad 4), .ref (ad 5), .ref (ad 6), .int (zI R_used), .ref (ad 7), .int (zI R_many), .ref (ad 8), .ref (ad 9), .ref (ad 10), .ref (ad 11), .ref (ad 12), .ref (ad 13), .ref (ad 14), .ref (ad 15), .ref (ad 16), .int (zI R_values_275), .ref (ad 17), .int (zI R_textEnd), .ref (ad 18), .ref (ad 19), .ref (ad 20), .ref (ad 21), .int (zI R_dataEnd), .ref (ad 22), .int (zI R_rowEnd), .ref (ad 23), .ref (ad 24), .int (zI R_rowMany), .ref (ad 25), .ref (ad 26), .ref (ad 27), .ref (ad 28), .int (zI R_waiting), .int (zI R_mostWaiting), .int (zI R_answer), .int (zI R_steps), .int (zI R_memory), .int (zI R_maxSteps), .int (zI R_maxMemory), .int (zI R_fault), .int (zI R_result), .int (zI R_now), .int (zI R_nowRow), .int (zI R_come), .ref (ad 29), .ref (ad 30), .int (zI R_puts), .ref (ad 31)])), (ad 8, .inl (cI, 3700, .inl (zA R_valueKinds_276))), (ad 9, .inl (cL, 3700, .inr (.inl (zB R_valueNumbers_277)))), (ad 14, .inl (cI, 3700, .inl (zA R_given_278)))]) X (jrunV X (c_Mod_make (ad := ad) q279) jF0_k (fun _ _ _ _ => trivial) (jgV own_Mod_sums (by decide +kernel)) rfl rfl rfl pd_Mod_make (by decide) [0, 1, 2, 3] rfl (by decide) 0 10 rfl rfl rfl rfl (Nat.le_of_ble_eq_true rfl) d_Mod_sums_304 (by decide)) [0, 1, 2, 3] [] [0, 1, 2, 3] rfl rfl (by decide) (by decide) rfl (by decide) ?_
                  cases h
                  exact J_ret E ⟨_, rfl, rfl⟩ d_Mod_sums_307 (Nat.le_refl _) (Nat.le_refl _) rfl
                · refine J_lload_n X d_Mod_sums_272 rfl 3 rfl ?_
                  refine J_lconst (v := 0) X d_Mod_sums_273 (by decide) ?_
                  refine J_lc_ge (tgt := 282) X d_Mod_sums_274 d_Mod_sums_275 (by decide) h (fun c280 h => ?_) (fun c280 h => ?_)
                  · refine J_iconst X d_Mod_sums_282 ?_
                    refine J_lload X d_Mod_sums_283 4 rfl ?_
                    refine J_lconst (v := 0) X d_Mod_sums_285 (by decide) ?_
                    refine J_lc_ge (tgt := 294) X d_Mod_sums_286 d_Mod_sums_287 (by decide) h (fun c281 h => ?_) (fun c281 h => ?_)
                    · refine J_iconst X d_Mod_sums_294 ?_
                      refine J_icmp_eq (pa := some ()) (pb := none) (o := ()) (tgt := 302) X d_Mod_sums_295 (by decide) (by decide) (fun _ _ => ?_) (fun _ h => by cases h)
                      refine J_lconst (v := 0) X d_Mod_sums_302 (by decide) ?_
                      refine J_lsub X d_Mod_sums_303 ?_
                      obtain ⟨r282, R_values_283, R_valueKinds_284, R_valueNumbers_285, R_given_286, q287, h⟩ := wk_b5 h
                      refine J_afterI0 (ws' := [(ad 0, .inr (10, [.int (zI R_thrown), .ref (ad 1), .ref (ad 2), .ref (ad 3), .ref (ad 4), .ref (ad 5), .ref (ad 6), .int (zI R_used), .ref (ad 7), .int (zI R_many), .ref (ad 8), .ref (ad 9), .ref (ad 10), .ref (ad 11), .ref (ad 12), .ref (ad 13), .ref (ad 14), .ref (ad 15), .ref (ad 16), .int (zI R_values_283), .ref (ad 17), .int (zI R_textEnd), .ref (ad 18), .ref (ad 19), .ref (ad 20), .ref (ad 21), .int (zI R_dataEnd), .ref (ad 22), .int (zI R_rowEnd), .ref (ad 23), .ref (ad 24), .int (zI R_rowMany), .ref (ad 25), .ref (ad 26), .ref (ad 27), .ref (ad 28), .int (zI R_waiting), .int (zI R_mostWaiting), .int (zI R_answer), .int (zI R_steps), .int (zI R_memory), .int (zI R_maxSteps), .int (zI R_maxMemory), .int (zI R_fault), .int (zI R_result), .int (zI R_now), .int (zI R_nowRow), .int (zI R_come), .ref (ad 29), .ref (ad 30), .int (zI R_puts), .ref (ad 31)])), (ad 8, .inl (cI, 3700, .inl (zA R_valueKinds_284))), (ad 9, .inl (cL, 3700, .inr (.inl (zB R_valueNumbers_285)))), (ad 14, .inl (cI, 3700, .inl (zA R_given_286)))]) X (jrunV X (c_Mod_make (ad := ad) q287) jF0_k (fun _ _ _ _ => trivial) (jgV own_Mod_sums (by decide +kernel)) rfl rfl rfl pd_Mod_make (by decide) [0, 1, 2, 3] rfl (by decide) 0 10 rfl rfl rfl rfl (Nat.le_of_ble_eq_true rfl) d_Mod_sums_304 (by decide)) [0, 1, 2, 3] [] [0, 1, 2, 3] rfl rfl (by decide) (by decide) rfl (by decide) ?_
                      cases h
                      exact J_ret E ⟨_, rfl, rfl⟩ d_Mod_sums_307 (Nat.le_refl _) (Nat.le_refl _) rfl
                    · refine J_iconst X d_Mod_sums_290 ?_
                      refine J_goto (tgt := 295) X d_Mod_sums_291 (by decide) ?_
                      refine J_icmp_eq (pa := none) (pb := some ()) (o := ()) (tgt := 302) X d_Mod_sums_295 (by decide) (by decide) (fun _ h => by cases h) (fun _ _ => ?_)
                      refine J_lconst (v := 1) X d_Mod_sums_298 (by decide) ?_
                      refine J_goto (tgt := 303) X d_Mod_sums_299 (by decide) ?_
                      refine J_lsub X d_Mod_sums_303 ?_
                      obtain ⟨r288, R_values_289, R_valueKinds_290, R_valueNumbers_291, R_given_292, q293, h⟩ := wk_b5 h
                      refine J_afterI0 (ws' := [(ad 0, .inr (10, [.int (zI R_thrown), .ref (ad 1), .ref (ad 2), .ref (ad 3), .ref (ad 4), .ref (ad 5), .ref (ad 6), .int (zI R_used), .ref (ad 7), .int (zI R_many), .ref (ad 8), .ref (ad 9), .ref (ad 10), .ref (ad 11), .ref (ad 12), .ref (ad 13), .ref (ad 14), .ref (ad 15), .ref (ad 16), .int (zI R_values_289), .ref (ad 17), .int (zI R_textEnd), .ref (ad 18), .ref (ad 19), .ref (ad 20), .ref (ad 21), .int (zI R_dataEnd), .ref (ad 22), .int (zI R_rowEnd), .ref (ad 23), .ref (ad 24), .int (zI R_rowMany), .ref (ad 25), .ref (ad 26), .ref (ad 27), .ref (ad 28), .int (zI R_waiting), .int (zI R_mostWaiting), .int (zI R_answer), .int (zI R_steps), .int (zI R_memory), .int (zI R_maxSteps), .int (zI R_maxMemory), .int (zI R_fault), .int (zI R_result), .int (zI R_now), .int (zI R_nowRow), .int (zI R_come), .ref (ad 29), .ref (ad 30), .int (zI R_puts), .ref (ad 31)])), (ad 8, .inl (cI, 3700, .inl (zA R_valueKinds_290))), (ad 9, .inl (cL, 3700, .inr (.inl (zB R_valueNumbers_291)))), (ad 14, .inl (cI, 3700, .inl (zA R_given_292)))]) X (jrunV X (c_Mod_make (ad := ad) q293) jF0_k (fun _ _ _ _ => trivial) (jgV own_Mod_sums (by decide +kernel)) rfl rfl rfl pd_Mod_make (by decide) [0, 1, 2, 3] rfl (by decide) 0 10 rfl rfl rfl rfl (Nat.le_of_ble_eq_true rfl) d_Mod_sums_304 (by decide)) [0, 1, 2, 3] [] [0, 1, 2, 3] rfl rfl (by decide) (by decide) rfl (by decide) ?_
                      cases h
                      exact J_ret E ⟨_, rfl, rfl⟩ d_Mod_sums_307 (Nat.le_refl _) (Nat.le_refl _) rfl
                  · refine J_iconst X d_Mod_sums_278 ?_
                    refine J_goto (tgt := 283) X d_Mod_sums_279 (by decide) ?_
                    refine J_lload X d_Mod_sums_283 4 rfl ?_
                    refine J_lconst (v := 0) X d_Mod_sums_285 (by decide) ?_
                    refine J_lc_ge (tgt := 294) X d_Mod_sums_286 d_Mod_sums_287 (by decide) h (fun c294 h => ?_) (fun c294 h => ?_)
                    · refine J_iconst X d_Mod_sums_294 ?_
                      refine J_icmp_eq (pa := none) (pb := some ()) (o := ()) (tgt := 302) X d_Mod_sums_295 (by decide) (by decide) (fun _ h => by cases h) (fun _ _ => ?_)
                      refine J_lconst (v := 1) X d_Mod_sums_298 (by decide) ?_
                      refine J_goto (tgt := 303) X d_Mod_sums_299 (by decide) ?_
                      refine J_lsub X d_Mod_sums_303 ?_
                      obtain ⟨r295, R_values_296, R_valueKinds_297, R_valueNumbers_298, R_given_299, q300, h⟩ := wk_b5 h
                      refine J_afterI0 (ws' := [(ad 0, .inr (10, [.int (zI R_thrown), .ref (ad 1), .ref (ad 2), .ref (ad 3), .ref (ad 4), .ref (ad 5), .ref (ad 6), .int (zI R_used), .ref (ad 7), .int (zI R_many), .ref (ad 8), .ref (ad 9), .ref (ad 10), .ref (ad 11), .ref (ad 12), .ref (ad 13), .ref (ad 14), .ref (ad 15), .ref (ad 16), .int (zI R_values_296), .ref (ad 17), .int (zI R_textEnd), .ref (ad 18), .ref (ad 19), .ref (ad 20), .ref (ad 21), .int (zI R_dataEnd), .ref (ad 22), .int (zI R_rowEnd), .ref (ad 23), .ref (ad 24), .int (zI R_rowMany), .ref (ad 25), .ref (ad 26), .ref (ad 27), .ref (ad 28), .int (zI R_waiting), .int (zI R_mostWaiting), .int (zI R_answer), .int (zI R_steps), .int (zI R_memory), .int (zI R_maxSteps), .int (zI R_maxMemory), .int (zI R_fault), .int (zI R_result), .int (zI R_now), .int (zI R_nowRow), .int (zI R_come), .ref (ad 29), .ref (ad 30), .int (zI R_puts), .ref (ad 31)])), (ad 8, .inl (cI, 3700, .inl (zA R_valueKinds_297))), (ad 9, .inl (cL, 3700, .inr (.inl (zB R_valueNumbers_298)))), (ad 14, .inl (cI, 3700, .inl (zA R_given_299)))]) X (jrunV X (c_Mod_make (ad := ad) q300) jF0_k (fun _ _ _ _ => trivial) (jgV own_Mod_sums (by decide +kernel)) rfl rfl rfl pd_Mod_make (by decide) [0, 1, 2, 3] rfl (by decide) 0 10 rfl rfl rfl rfl (Nat.le_of_ble_eq_true rfl) d_Mod_sums_304 (by decide)) [0, 1, 2, 3] [] [0, 1, 2, 3] rfl rfl (by decide) (by decide) rfl (by decide) ?_
                      cases h
                      exact J_ret E ⟨_, rfl, rfl⟩ d_Mod_sums_307 (Nat.le_refl _) (Nat.le_refl _) rfl
                    · refine J_iconst X d_Mod_sums_290 ?_
                      refine J_goto (tgt := 295) X d_Mod_sums_291 (by decide) ?_
                      refine J_icmp_eq (pa := some ()) (pb := none) (o := ()) (tgt := 302) X d_Mod_sums_295 (by decide) (by decide) (fun _ _ => ?_) (fun _ h => by cases h)
                      refine J_lconst (v := 0) X d_Mod_sums_302 (by decide) ?_
                      refine J_lsub X d_Mod_sums_303 ?_
                      obtain ⟨r301, R_values_302, R_valueKinds_303, R_valueNumbers_304, R_given_305, q306, h⟩ := wk_b5 h
                      refine J_afterI0 (ws' := [(ad 0, .inr (10, [.int (zI R_thrown), .ref (ad 1), .ref (ad 2), .ref (ad 3), .ref (ad 4), .ref (ad 5), .ref (ad 6), .int (zI R_used), .ref (ad 7), .int (zI R_many), .ref (ad 8), .ref (ad 9), .ref (ad 10), .ref (ad 11), .ref (ad 12), .ref (ad 13), .ref (ad 14), .ref (ad 15), .ref (ad 16), .int (zI R_values_302), .ref (ad 17), .int (zI R_textEnd), .ref (ad 18), .ref (ad 19), .ref (ad 20), .ref (ad 21), .int (zI R_dataEnd), .ref (ad 22), .int (zI R_rowEnd), .ref (ad 23), .ref (ad 24), .int (zI R_rowMany), .ref (ad 25), .ref (ad 26), .ref (ad 27), .ref (ad 28), .int (zI R_waiting), .int (zI R_mostWaiting), .int (zI R_answer), .int (zI R_steps), .int (zI R_memory), .int (zI R_maxSteps), .int (zI R_maxMemory), .int (zI R_fault), .int (zI R_result), .int (zI R_now), .int (zI R_nowRow), .int (zI R_come), .ref (ad 29), .ref (ad 30), .int (zI R_puts), .ref (ad 31)])), (ad 8, .inl (cI, 3700, .inl (zA R_valueKinds_303))), (ad 9, .inl (cL, 3700, .inr (.inl (zB R_valueNumbers_304)))), (ad 14, .inl (cI, 3700, .inl (zA R_given_305)))]) X (jrunV X (c_Mod_make (ad := ad) q306) jF0_k (fun _ _ _ _ => trivial) (jgV own_Mod_sums (by decide +kernel)) rfl rfl rfl pd_Mod_make (by decide) [0, 1, 2, 3] rfl (by decide) 0 10 rfl rfl rfl rfl (Nat.le_of_ble_eq_true rfl) d_Mod_sums_304 (by decide)) [0, 1, 2, 3] [] [0, 1, 2, 3] rfl rfl (by decide) (by decide) rfl (by decide) ?_
                      cases h
                      exact J_ret E ⟨_, rfl, rfl⟩ d_Mod_sums_307 (Nat.le_refl _) (Nat.le_refl _) rfl
            · rcases wk_c h with ⟨c307, h⟩ | ⟨c307, h⟩
              · refine J_tsIn (tgt := 308) X 4 c307 g208 d_Mod_sums_25 (by decide) (by decide) rfl (by decide) ?_
                refine J_lload X d_Mod_sums_308 4 rfl ?_
                refine J_lconst (v := 0) X d_Mod_sums_310 (by decide) ?_
                refine J_lc_ne (tgt := 323) X d_Mod_sums_311 d_Mod_sums_312 (by decide) h (fun c308 h => ?_) (fun c308 h => ?_)
                · refine J_aload_n X d_Mod_sums_323 rfl 1 rfl ?_
                  refine J_iconst X d_Mod_sums_324 ?_
                  refine J_iload X d_Mod_sums_325 0 rfl ?_
                  refine J_if_eq (pa := some ()) (pb := none) (o := ()) (tgt := 334) X d_Mod_sums_327 (by decide) (by decide) (fun _ _ => ?_) (fun _ h => by cases h)
                  refine J_lload_n X d_Mod_sums_334 rfl 3 rfl ?_
                  refine J_lload X d_Mod_sums_335 4 rfl ?_
                  obtain ⟨g309, h⟩ := wk_g h
                  refine J_lrem X g309 d_Mod_sums_337 ?_
                  refine J_lload_n X d_Mod_sums_338 rfl 3 rfl ?_
                  refine J_lload X d_Mod_sums_339 4 rfl ?_
                  obtain ⟨g310, h⟩ := wk_g h
                  refine J_lrem X g310 d_Mod_sums_341 ?_
                  refine J_lconst (v := 0) X d_Mod_sums_342 (by decide) ?_
                  refine J_lc_eq (tgt := 378) X d_Mod_sums_343 d_Mod_sums_344 (by decide) h (fun c311 h => ?_) (fun c311 h => ?_)
                  · refine J_lconst (v := 0) X d_Mod_sums_378 (by decide) ?_
                    refine J_ladd X d_Mod_sums_379 ?_
                    obtain ⟨r312, R_values_313, R_valueKinds_314, R_valueNumbers_315, R_given_316, q317, h⟩ := wk_b5 h
                    refine J_afterI0 (ws' := [(ad 0, .inr (10, [.int (zI R_thrown), .ref (ad 1), .ref (ad 2), .ref (ad 3), .ref (ad 4), .ref (ad 5), .ref (ad 6), .int (zI R_used), .ref (ad 7), .int (zI R_many), .ref (ad 8), .ref (ad 9), .ref (ad 10), .ref (ad 11), .ref (ad 12), .ref (ad 13), .ref (ad 14), .ref (ad 15), .ref (ad 16), .int (zI R_values_313), .ref (ad 17), .int (zI R_textEnd), .ref (ad 18), .ref (ad 19), .ref (ad 20), .ref (ad 21), .int (zI R_dataEnd), .ref (ad 22), .int (zI R_rowEnd), .ref (ad 23), .ref (ad 24), .int (zI R_rowMany), .ref (ad 25), .ref (ad 26), .ref (ad 27), .ref (ad 28), .int (zI R_waiting), .int (zI R_mostWaiting), .int (zI R_answer), .int (zI R_steps), .int (zI R_memory), .int (zI R_maxSteps), .int (zI R_maxMemory), .int (zI R_fault), .int (zI R_result), .int (zI R_now), .int (zI R_nowRow), .int (zI R_come), .ref (ad 29), .ref (ad 30), .int (zI R_puts), .ref (ad 31)])), (ad 8, .inl (cI, 3700, .inl (zA R_valueKinds_314))), (ad 9, .inl (cL, 3700, .inr (.inl (zB R_valueNumbers_315)))), (ad 14, .inl (cI, 3700, .inl (zA R_given_316)))]) X (jrunV X (c_Mod_make (ad := ad) q317) jF0_k (fun _ _ _ _ => trivial) (jgV own_Mod_sums (by decide +kernel)) rfl rfl rfl pd_Mod_make (by decide) [0, 1, 2, 3] rfl (by decide) 0 10 rfl rfl rfl rfl (Nat.le_of_ble_eq_true rfl) d_Mod_sums_380 (by decide)) [0, 1, 2, 3] [] [0, 1, 2, 3] rfl rfl (by decide) (by decide) rfl (by decide) ?_
                    cases h
                    exact J_ret E ⟨_, rfl, rfl⟩ d_Mod_sums_383 (Nat.le_refl _) (Nat.le_refl _) rfl
                  · refine J_lload_n X d_Mod_sums_347 rfl 3 rfl ?_
                    refine J_lconst (v := 0) X d_Mod_sums_348 (by decide) ?_
                    refine J_lc_ge (tgt := 357) X d_Mod_sums_349 d_Mod_sums_350 (by decide) h (fun c318 h => ?_) (fun c318 h => ?_)
                    · refine J_iconst X d_Mod_sums_357 ?_
                      refine J_lload X d_Mod_sums_358 4 rfl ?_
                      refine J_lconst (v := 0) X d_Mod_sums_360 (by decide) ?_
                      refine J_lc_ge (tgt := 369) X d_Mod_sums_361 d_Mod_sums_362 (by decide) h (fun c319 h => ?_) (fun c319 h => ?_)
                      · refine J_iconst X d_Mod_sums_369 ?_
                        refine J_icmp_eq (pa := some ()) (pb := none) (o := ()) (tgt := 378) X d_Mod_sums_370 (by decide) (by decide) (fun _ _ => ?_) (fun _ h => by cases h)
                        refine J_lconst (v := 0) X d_Mod_sums_378 (by decide) ?_
                        refine J_ladd X d_Mod_sums_379 ?_
                        obtain ⟨r320, R_values_321, R_valueKinds_322, R_valueNumbers_323, R_given_324, q325, h⟩ := wk_b5 h
                        refine J_afterI0 (ws' := [(ad 0, .inr (10, [.int (zI R_thrown), .ref (ad 1), .ref (ad 2), .ref (ad 3), .ref (ad 4), .ref (ad 5), .ref (ad 6), .int (zI R_used), .ref (ad 7), .int (zI R_many), .ref (ad 8), .ref (ad 9), .ref (ad 10), .ref (ad 11), .ref (ad 12), .ref (ad 13), .ref (ad 14), .ref (ad 15), .ref (ad 16), .int (zI R_values_321), .ref (ad 17), .int (zI R_textEnd), .ref (ad 18), .ref (ad 19), .ref (ad 20), .ref (ad 21), .int (zI R_dataEnd), .ref (ad 22), .int (zI R_rowEnd), .ref (ad 23), .ref (ad 24), .int (zI R_rowMany), .ref (ad 25), .ref (ad 26), .ref (ad 27), .ref (ad 28), .int (zI R_waiting), .int (zI R_mostWaiting), .int (zI R_answer), .int (zI R_steps), .int (zI R_memory), .int (zI R_maxSteps), .int (zI R_maxMemory), .int (zI R_fault), .int (zI R_result), .int (zI R_now), .int (zI R_nowRow), .int (zI R_come), .ref (ad 29), .ref (ad 30), .int (zI R_puts), .ref (ad 31)])), (ad 8, .inl (cI, 3700, .inl (zA R_valueKinds_322))), (ad 9, .inl (cL, 3700, .inr (.inl (zB R_valueNumbers_323)))), (ad 14, .inl (cI, 3700, .inl (zA R_given_324)))]) X (jrunV X (c_Mod_make (ad := ad) q325) jF0_k (fun _ _ _ _ => trivial) (jgV own_Mod_sums (by decide +kernel)) rfl rfl rfl pd_Mod_make (by decide) [0, 1, 2, 3] rfl (by decide) 0 10 rfl rfl rfl rfl (Nat.le_of_ble_eq_true rfl) d_Mod_sums_380 (by decide)) [0, 1, 2, 3] [] [0, 1, 2, 3] rfl rfl (by decide) (by decide) rfl (by decide) ?_
                        cases h
                        exact J_ret E ⟨_, rfl, rfl⟩ d_Mod_sums_383 (Nat.le_refl _) (Nat.le_refl _) rfl
                      · refine J_iconst X d_Mod_sums_365 ?_
                        refine J_goto (tgt := 370) X d_Mod_sums_366 (by decide) ?_
                        refine J_icmp_eq (pa := none) (pb := some ()) (o := ()) (tgt := 378) X d_Mod_sums_370 (by decide) (by decide) (fun _ h => by cases h) (fun _ _ => ?_)
                        refine J_lload X d_Mod_sums_373 4 rfl ?_
                        refine J_goto (tgt := 379) X d_Mod_sums_375 (by decide) ?_
                        refine J_ladd X d_Mod_sums_379 ?_
                        obtain ⟨r326, R_values_327, R_valueKinds_328, R_valueNumbers_329, R_given_330, q331, h⟩ := wk_b5 h
                        refine J_afterI0 (ws' := [(ad 0, .inr (10, [.int (zI R_thrown), .ref (ad 1), .ref (ad 2), .ref (ad 3), .ref (ad 4), .ref (ad 5), .ref (ad 6), .int (zI R_used), .ref (ad 7), .int (zI R_many), .ref (ad 8), .ref (ad 9), .ref (ad 10), .ref (ad 11), .ref (ad 12), .ref (ad 13), .ref (ad 14), .ref (ad 15), .ref (ad 16), .int (zI R_values_327), .ref (ad 17), .int (zI R_textEnd), .ref (ad 18), .ref (ad 19), .ref (ad 20), .ref (ad 21), .int (zI R_dataEnd), .ref (ad 22), .int (zI R_rowEnd), .ref (ad 23), .ref (ad 24), .int (zI R_rowMany), .ref (ad 25), .ref (ad 26), .ref (ad 27), .ref (ad 28), .int (zI R_waiting), .int (zI R_mostWaiting), .int (zI R_answer), .int (zI R_steps), .int (zI R_memory), .int (zI R_maxSteps), .int (zI R_maxMemory), .int (zI R_fault), .int (zI R_result), .int (zI R_now), .int (zI R_nowRow), .int (zI R_come), .ref (ad 29), .ref (ad 30), .int (zI R_puts), .ref (ad 31)])), (ad 8, .inl (cI, 3700, .inl (zA R_valueKinds_328))), (ad 9, .inl (cL, 3700, .inr (.inl (zB R_valueNumbers_329)))), (ad 14, .inl (cI, 3700, .inl (zA R_given_330)))]) X (jrunV X (c_Mod_make (ad := ad) q331) jF0_k (fun _ _ _ _ => trivial) (jgV own_Mod_sums (by decide +kernel)) rfl rfl rfl pd_Mod_make (by decide) [0, 1, 2, 3] rfl (by decide) 0 10 rfl rfl rfl rfl (Nat.le_of_ble_eq_true rfl) d_Mod_sums_380 (by decide)) [0, 1, 2, 3] [] [0, 1, 2, 3] rfl rfl (by decide) (by decide) rfl (by decide) ?_
                        cases h
                        exact J_ret E ⟨_, rfl, rfl⟩ d_Mod_sums_383 (Nat.le_refl _) (Nat.le_refl _) rfl
                    · refine J_iconst X d_Mod_sums_353 ?_
                      refine J_goto (tgt := 358) X d_Mod_sums_354 (by decide) ?_
                      refine J_lload X d_Mod_sums_358 4 rfl ?_
                      refine J_lconst (v := 0) X d_Mod_sums_360 (by decide) ?_
                      refine J_lc_ge (tgt := 369) X d_Mod_sums_361 d_Mod_sums_362 (by decide) h (fun c332 h => ?_) (fun c332 h => ?_)
                      · refine J_iconst X d_Mod_sums_369 ?_
                        refine J_icmp_eq (pa := none) (pb := some ()) (o := ()) (tgt := 378) X d_Mod_sums_370 (by decide) (by decide) (fun _ h => by cases h) (fun _ _ => ?_)
                        refine J_lload X d_Mod_sums_373 4 rfl ?_
                        refine J_goto (tgt := 379) X d_Mod_sums_375 (by decide) ?_
                        refine J_ladd X d_Mod_sums_379 ?_
                        obtain ⟨r333, R_values_334, R_valueKinds_335, R_valueNumbers_336, R_given_337, q338, h⟩ := wk_b5 h
                        refine J_afterI0 (ws' := [(ad 0, .inr (10, [.int (zI R_thrown), .ref (ad 1), .ref (ad 2), .ref (ad 3), .ref (ad 4), .ref (ad 5), .ref (ad 6), .int (zI R_used), .ref (ad 7), .int (zI R_many), .ref (ad 8), .ref (ad 9), .ref (ad 10), .ref (ad 11), .ref (ad 12), .ref (ad 13), .ref (ad 14), .ref (ad 15), .ref (ad 16), .int (zI R_values_334), .ref (ad 17), .int (zI R_textEnd), .ref (ad 18), .ref (ad 19), .ref (ad 20), .ref (ad 21), .int (zI R_dataEnd), .ref (ad 22), .int (zI R_rowEnd), .ref (ad 23), .ref (ad 24), .int (zI R_rowMany), .ref (ad 25), .ref (ad 26), .ref (ad 27), .ref (ad 28), .int (zI R_waiting), .int (zI R_mostWaiting), .int (zI R_answer), .int (zI R_steps), .int (zI R_memory), .int (zI R_maxSteps), .int (zI R_maxMemory), .int (zI R_fault), .int (zI R_result), .int (zI R_now), .int (zI R_nowRow), .int (zI R_come), .ref (ad 29), .ref (ad 30), .int (zI R_puts), .ref (ad 31)])), (ad 8, .inl (cI, 3700, .inl (zA R_valueKinds_335))), (ad 9, .inl (cL, 3700, .inr (.inl (zB R_valueNumbers_336)))), (ad 14, .inl (cI, 3700, .inl (zA R_given_337)))]) X (jrunV X (c_Mod_make (ad := ad) q338) jF0_k (fun _ _ _ _ => trivial) (jgV own_Mod_sums (by decide +kernel)) rfl rfl rfl pd_Mod_make (by decide) [0, 1, 2, 3] rfl (by decide) 0 10 rfl rfl rfl rfl (Nat.le_of_ble_eq_true rfl) d_Mod_sums_380 (by decide)) [0, 1, 2, 3] [] [0, 1, 2, 3] rfl rfl (by decide) (by decide) rfl (by decide) ?_
                        cases h
                        exact J_ret E ⟨_, rfl, rfl⟩ d_Mod_sums_383 (Nat.le_refl _) (Nat.le_refl _) rfl
                      · refine J_iconst X d_Mod_sums_365 ?_
                        refine J_goto (tgt := 370) X d_Mod_sums_366 (by decide) ?_
                        refine J_icmp_eq (pa := some ()) (pb := none) (o := ()) (tgt := 378) X d_Mod_sums_370 (by decide) (by decide) (fun _ _ => ?_) (fun _ h => by cases h)
                        refine J_lconst (v := 0) X d_Mod_sums_378 (by decide) ?_
                        refine J_ladd X d_Mod_sums_379 ?_
                        obtain ⟨r339, R_values_340, R_valueKinds_341, R_valueNumbers_342, R_given_343, q344, h⟩ := wk_b5 h
                        refine J_afterI0 (ws' := [(ad 0, .inr (10, [.int (zI R_thrown), .ref (ad 1), .ref (ad 2), .ref (ad 3), .ref (ad 4), .ref (ad 5), .ref (ad 6), .int (zI R_used), .ref (ad 7), .int (zI R_many), .ref (ad 8), .ref (ad 9), .ref (ad 10), .ref (ad 11), .ref (ad 12), .ref (ad 13), .ref (ad 14), .ref (ad 15), .ref (ad 16), .int (zI R_values_340), .ref (ad 17), .int (zI R_textEnd), .ref (ad 18), .ref (ad 19), .ref (ad 20), .ref (ad 21), .int (zI R_dataEnd), .ref (ad 22), .int (zI R_rowEnd), .ref (ad 23), .ref (ad 24), .int (zI R_rowMany), .ref (ad 25), .ref (ad 26), .ref (ad 27), .ref (ad 28), .int (zI R_waiting), .int (zI R_mostWaiting), .int (zI R_answer), .int (zI R_steps), .int (zI R_memory), .int (zI R_maxSteps), .int (zI R_maxMemory), .int (zI R_fault), .int (zI R_result), .int (zI R_now), .int (zI R_nowRow), .int (zI R_come), .ref (ad 29), .ref (ad 30), .int (zI R_puts), .ref (ad 31)])), (ad 8, .inl (cI, 3700, .inl (zA R_valueKinds_341))), (ad 9, .inl (cL, 3700, .inr (.inl (zB R_valueNumbers_342)))), (ad 14, .inl (cI, 3700, .inl (zA R_given_343)))]) X (jrunV X (c_Mod_make (ad := ad) q344) jF0_k (fun _ _ _ _ => trivial) (jgV own_Mod_sums (by decide +kernel)) rfl rfl rfl pd_Mod_make (by decide) [0, 1, 2, 3] rfl (by decide) 0 10 rfl rfl rfl rfl (Nat.le_of_ble_eq_true rfl) d_Mod_sums_380 (by decide)) [0, 1, 2, 3] [] [0, 1, 2, 3] rfl rfl (by decide) (by decide) rfl (by decide) ?_
                        cases h
                        exact J_ret E ⟨_, rfl, rfl⟩ d_Mod_sums_383 (Nat.le_refl _) (Nat.le_refl _) rfl
                · refine J_aload_n X d_Mod_sums_315 rfl 1 rfl ?_
                  refine J_iconst X d_Mod_sums_316 ?_
                  obtain ⟨r345, R_fault_346, q347, h⟩ := wk_b2 h
                  refine J_afterI0 (ws' := [(ad 0, .inr (10, [.int (zI R_thrown), .ref (ad 1), .ref (ad 2), .ref (ad 3), .ref (ad 4), .ref (ad 5), .ref (ad 6), .int (zI R_used), .ref (ad 7), .int (zI R_many), .ref (ad 8), .ref (ad 9), .ref (ad 10), .ref (ad 11), .ref (ad 12), .ref (ad 13), .ref (ad 14), .ref (ad 15), .ref (ad 16), .int (zI R_values), .ref (ad 17), .int (zI R_textEnd), .ref (ad 18), .ref (ad 19), .ref (ad 20), .ref (ad 21), .int (zI R_dataEnd), .ref (ad 22), .int (zI R_rowEnd), .ref (ad 23), .ref (ad 24), .int (zI R_rowMany), .ref (ad 25), .ref (ad 26), .ref (ad 27), .ref (ad 28), .int (zI R_waiting), .int (zI R_mostWaiting), .int (zI R_answer), .int (zI R_steps), .int (zI R_memory), .int (zI R_maxSteps), .int (zI R_maxMemory), .int (zI R_fault_346), .int (zI R_result), .int (zI R_now), .int (zI R_nowRow), .int (zI R_come), .ref (ad 29), .ref (ad 30), .int (zI R_puts), .ref (ad 31)])), (ad 8, .inl (cI, 3700, .inl (zA R_valueKinds))), (ad 9, .inl (cL, 3700, .inr (.inl (zB R_valueNumbers)))), (ad 14, .inl (cI, 3700, .inl (zA R_given)))]) X (jrunV X (c_Mod_fail (ad := ad) q347) jF0_k (fun _ _ _ _ => trivial) (jgV own_Mod_sums (by decide +kernel)) rfl rfl rfl pd_Mod_fail (by decide) [0] rfl (by decide) 0 10 rfl rfl rfl rfl (Nat.le_of_ble_eq_true rfl) d_Mod_sums_317 (by decide)) [0] [1, 2, 3] [3, 0, 1, 2] rfl rfl (by decide) (by decide) rfl (by decide) ?_
                  refine J_goto (tgt := 383) X d_Mod_sums_320 (by decide) ?_
                  cases h
                  exact J_ret E ⟨_, rfl, rfl⟩ d_Mod_sums_383 (Nat.le_refl _) (Nat.le_refl _) rfl
              · rcases wk_c h with ⟨c348, h⟩ | ⟨c348, h⟩
                · refine J_tsIn (tgt := 384) X 5 c348 g208 d_Mod_sums_25 (by decide) (by decide) rfl (by decide) ?_
                  refine J_lload X d_Mod_sums_384 4 rfl ?_
                  refine J_lconst (v := 0) X d_Mod_sums_386 (by decide) ?_
                  refine J_lc_eq (tgt := 396) X d_Mod_sums_387 d_Mod_sums_388 (by decide) h (fun c349 h => ?_) (fun c349 h => ?_)
                  · refine J_aload_n X d_Mod_sums_396 rfl 1 rfl ?_
                    refine J_iconst X d_Mod_sums_397 ?_
                    obtain ⟨r350, R_fault_351, q352, h⟩ := wk_b2 h
                    refine J_afterI0 (ws' := [(ad 0, .inr (10, [.int (zI R_thrown), .ref (ad 1), .ref (ad 2), .ref (ad 3), .ref (ad 4), .ref (ad 5), .ref (ad 6), .int (zI R_used), .ref (ad 7), .int (zI R_many), .ref (ad 8), .ref (ad 9), .ref (ad 10), .ref (ad 11), .ref (ad 12), .ref (ad 13), .ref (ad 14), .ref (ad 15), .ref (ad 16), .int (zI R_values), .ref (ad 17), .int (zI R_textEnd), .ref (ad 18), .ref (ad 19), .ref (ad 20), .ref (ad 21), .int (zI R_dataEnd), .ref (ad 22), .int (zI R_rowEnd), .ref (ad 23), .ref (ad 24), .int (zI R_rowMany), .ref (ad 25), .ref (ad 26), .ref (ad 27), .ref (ad 28), .int (zI R_waiting), .int (zI R_mostWaiting), .int (zI R_answer), .int (zI R_steps), .int (zI R_memory), .int (zI R_maxSteps), .int (zI R_maxMemory), .int (zI R_fault_351), .int (zI R_result), .int (zI R_now), .int (zI R_nowRow), .int (zI R_come), .ref (ad 29), .ref (ad 30), .int (zI R_puts), .ref (ad 31)])), (ad 8, .inl (cI, 3700, .inl (zA R_valueKinds))), (ad 9, .inl (cL, 3700, .inr (.inl (zB R_valueNumbers)))), (ad 14, .inl (cI, 3700, .inl (zA R_given)))]) X (jrunV X (c_Mod_fail (ad := ad) q352) jF0_k (fun _ _ _ _ => trivial) (jgV own_Mod_sums (by decide +kernel)) rfl rfl rfl pd_Mod_fail (by decide) [0] rfl (by decide) 0 10 rfl rfl rfl rfl (Nat.le_of_ble_eq_true rfl) d_Mod_sums_398 (by decide)) [0] [1, 2, 3] [3, 0, 1, 2] rfl rfl (by decide) (by decide) rfl (by decide) ?_
                    refine J_goto (tgt := 413) X d_Mod_sums_401 (by decide) ?_
                    cases h
                    exact J_ret E ⟨_, rfl, rfl⟩ d_Mod_sums_413 (Nat.le_refl _) (Nat.le_refl _) rfl
                  · refine J_iload X d_Mod_sums_391 0 rfl ?_
                    refine J_if_eq (pa := some ()) (pb := none) (o := ()) (tgt := 404) X d_Mod_sums_393 (by decide) (by decide) (fun _ _ => ?_) (fun _ h => by cases h)
                    refine J_aload_n X d_Mod_sums_404 rfl 1 rfl ?_
                    refine J_iconst X d_Mod_sums_405 ?_
                    refine J_lload_n X d_Mod_sums_406 rfl 3 rfl ?_
                    refine J_lload X d_Mod_sums_407 4 rfl ?_
                    obtain ⟨g353, h⟩ := wk_g h
                    refine J_ldiv X g353 d_Mod_sums_409 ?_
                    obtain ⟨r354, R_values_355, R_valueKinds_356, R_valueNumbers_357, R_given_358, q359, h⟩ := wk_b5 h
                    refine J_afterI0 (ws' := [(ad 0, .inr (10, [.int (zI R_thrown), .ref (ad 1), .ref (ad 2), .ref (ad 3), .ref (ad 4), .ref (ad 5), .ref (ad 6), .int (zI R_used), .ref (ad 7), .int (zI R_many), .ref (ad 8), .ref (ad 9), .ref (ad 10), .ref (ad 11), .ref (ad 12), .ref (ad 13), .ref (ad 14), .ref (ad 15), .ref (ad 16), .int (zI R_values_355), .ref (ad 17), .int (zI R_textEnd), .ref (ad 18), .ref (ad 19), .ref (ad 20), .ref (ad 21), .int (zI R_dataEnd), .ref (ad 22), .int (zI R_rowEnd), .ref (ad 23), .ref (ad 24), .int (zI R_rowMany), .ref (ad 25), .ref (ad 26), .ref (ad 27), .ref (ad 28), .int (zI R_waiting), .int (zI R_mostWaiting), .int (zI R_answer), .int (zI R_steps), .int (zI R_memory), .int (zI R_maxSteps), .int (zI R_maxMemory), .int (zI R_fault), .int (zI R_result), .int (zI R_now), .int (zI R_nowRow), .int (zI R_come), .ref (ad 29), .ref (ad 30), .int (zI R_puts), .ref (ad 31)])), (ad 8, .inl (cI, 3700, .inl (zA R_valueKinds_356))), (ad 9, .inl (cL, 3700, .inr (.inl (zB R_valueNumbers_357)))), (ad 14, .inl (cI, 3700, .inl (zA R_given_358)))]) X (jrunV X (c_Mod_make (ad := ad) q359) jF0_k (fun _ _ _ _ => trivial) (jgV own_Mod_sums (by decide +kernel)) rfl rfl rfl pd_Mod_make (by decide) [0, 1, 2, 3] rfl (by decide) 0 10 rfl rfl rfl rfl (Nat.le_of_ble_eq_true rfl) d_Mod_sums_410 (by decide)) [0, 1, 2, 3] [] [0, 1, 2, 3] rfl rfl (by decide) (by decide) rfl (by decide) ?_
                    cases h
                    exact J_ret E ⟨_, rfl, rfl⟩ d_Mod_sums_413 (Nat.le_refl _) (Nat.le_refl _) rfl
                · rcases wk_c h with ⟨c360, h⟩ | ⟨c360, h⟩
                  · refine J_tsIn (tgt := 414) X 6 c360 g208 d_Mod_sums_25 (by decide) (by decide) rfl (by decide) ?_
                    refine J_lload X d_Mod_sums_414 4 rfl ?_
                    refine J_lconst (v := 0) X d_Mod_sums_416 (by decide) ?_
                    refine J_lc_ne (tgt := 429) X d_Mod_sums_417 d_Mod_sums_418 (by decide) h (fun c361 h => ?_) (fun c361 h => ?_)
                    · refine J_aload_n X d_Mod_sums_429 rfl 1 rfl ?_
                      refine J_iconst X d_Mod_sums_430 ?_
                      refine J_iload X d_Mod_sums_431 0 rfl ?_
                      refine J_if_eq (pa := some ()) (pb := none) (o := ()) (tgt := 440) X d_Mod_sums_433 (by decide) (by decide) (fun _ _ => ?_) (fun _ h => by cases h)
                      refine J_lload_n X d_Mod_sums_440 rfl 3 rfl ?_
                      refine J_lload X d_Mod_sums_441 4 rfl ?_
                      obtain ⟨g362, h⟩ := wk_g h
                      refine J_lrem X g362 d_Mod_sums_443 ?_
                      obtain ⟨r363, R_values_364, R_valueKinds_365, R_valueNumbers_366, R_given_367, q368, h⟩ := wk_b5 h
                      refine J_afterI0 (ws' := [(ad 0, .inr (10, [.int (zI R_thrown), .ref (ad 1), .ref (ad 2), .ref (ad 3), .ref (ad 4), .ref (ad 5), .ref (ad 6), .int (zI R_used), .ref (ad 7), .int (zI R_many), .ref (ad 8), .ref (ad 9), .ref (ad 10), .ref (ad 11), .ref (ad 12), .ref (ad 13), .ref (ad 14), .ref (ad 15), .ref (ad 16), .int (zI R_values_364), .ref (ad 17), .int (zI R_textEnd), .ref (ad 18), .ref (ad 19), .ref (ad 20), .ref (ad 21), .int (zI R_dataEnd), .ref (ad 22), .int (zI R_rowEnd), .ref (ad 23), .ref (ad 24), .int (zI R_rowMany), .ref (ad 25), .ref (ad 26), .ref (ad 27), .ref (ad 28), .int (zI R_waiting), .int (zI R_mostWaiting), .int (zI R_answer), .int (zI R_steps), .int (zI R_memory), .int (zI R_maxSteps), .int (zI R_maxMemory), .int (zI R_fault), .int (zI R_result), .int (zI R_now), .int (zI R_nowRow), .int (zI R_come), .ref (ad 29), .ref (ad 30), .int (zI R_puts), .ref (ad 31)])), (ad 8, .inl (cI, 3700, .inl (zA R_valueKinds_365))), (ad 9, .inl (cL, 3700, .inr (.inl (zB R_valueNumbers_366)))), (ad 14, .inl (cI, 3700, .inl (zA R_given_367)))]) X (jrunV X (c_Mod_make (ad := ad) q368) jF0_k (fun _ _ _ _ => trivial) (jgV own_Mod_sums (by decide +kernel)) rfl rfl rfl pd_Mod_make (by decide) [0, 1, 2, 3] rfl (by decide) 0 10 rfl rfl rfl rfl (Nat.le_of_ble_eq_true rfl) d_Mod_sums_444 (by decide)) [0, 1, 2, 3] [] [0, 1, 2, 3] rfl rfl (by decide) (by decide) rfl (by decide) ?_
                      cases h
                      exact J_ret E ⟨_, rfl, rfl⟩ d_Mod_sums_447 (Nat.le_refl _) (Nat.le_refl _) rfl
                    · refine J_aload_n X d_Mod_sums_421 rfl 1 rfl ?_
                      refine J_iconst X d_Mod_sums_422 ?_
                      obtain ⟨r369, R_fault_370, q371, h⟩ := wk_b2 h
                      refine J_afterI0 (ws' := [(ad 0, .inr (10, [.int (zI R_thrown), .ref (ad 1), .ref (ad 2), .ref (ad 3), .ref (ad 4), .ref (ad 5), .ref (ad 6), .int (zI R_used), .ref (ad 7), .int (zI R_many), .ref (ad 8), .ref (ad 9), .ref (ad 10), .ref (ad 11), .ref (ad 12), .ref (ad 13), .ref (ad 14), .ref (ad 15), .ref (ad 16), .int (zI R_values), .ref (ad 17), .int (zI R_textEnd), .ref (ad 18), .ref (ad 19), .ref (ad 20), .ref (ad 21), .int (zI R_dataEnd), .ref (ad 22), .int (zI R_rowEnd), .ref (ad 23), .ref (ad 24), .int (zI R_rowMany), .ref (ad 25), .ref (ad 26), .ref (ad 27), .ref (ad 28), .int (zI R_waiting), .int (zI R_mostWaiting), .int (zI R_answer), .int (zI R_steps), .int (zI R_memory), .int (zI R_maxSteps), .int (zI R_maxMemory), .int (zI R_fault_370), .int (zI R_result), .int (zI R_now), .int (zI R_nowRow), .int (zI R_come), .ref (ad 29), .ref (ad 30), .int (zI R_puts), .ref (ad 31)])), (ad 8, .inl (cI, 3700, .inl (zA R_valueKinds))), (ad 9, .inl (cL, 3700, .inr (.inl (zB R_valueNumbers)))), (ad 14, .inl (cI, 3700, .inl (zA R_given)))]) X (jrunV X (c_Mod_fail (ad := ad) q371) jF0_k (fun _ _ _ _ => trivial) (jgV own_Mod_sums (by decide +kernel)) rfl rfl rfl pd_Mod_fail (by decide) [0] rfl (by decide) 0 10 rfl rfl rfl rfl (Nat.le_of_ble_eq_true rfl) d_Mod_sums_423 (by decide)) [0] [1, 2, 3] [3, 0, 1, 2] rfl rfl (by decide) (by decide) rfl (by decide) ?_
                      refine J_goto (tgt := 447) X d_Mod_sums_426 (by decide) ?_
                      cases h
                      exact J_ret E ⟨_, rfl, rfl⟩ d_Mod_sums_447 (Nat.le_refl _) (Nat.le_refl _) rfl
                  · rcases wk_c h with ⟨c372, h⟩ | ⟨c372, h⟩
                    · refine J_tsIn (tgt := 448) X 7 c372 g208 d_Mod_sums_25 (by decide) (by decide) rfl (by decide) ?_
                      refine J_aload_n X d_Mod_sums_448 rfl 1 rfl ?_
                      refine J_lload_n X d_Mod_sums_449 rfl 3 rfl ?_
                      refine J_lload X d_Mod_sums_450 4 rfl ?_
                      refine J_lc_ne (tgt := 460) X d_Mod_sums_452 d_Mod_sums_453 (by decide) h (fun c373 h => ?_) (fun c373 h => ?_)
                      · refine J_iconst X d_Mod_sums_460 ?_
                        obtain ⟨r374, R_values_375, R_valueKinds_376, R_valueNumbers_377, R_given_378, q379, h⟩ := wk_b5 h
                        refine J_afterI0 (ws' := [(ad 0, .inr (10, [.int (zI R_thrown), .ref (ad 1), .ref (ad 2), .ref (ad 3), .ref (ad 4), .ref (ad 5), .ref (ad 6), .int (zI R_used), .ref (ad 7), .int (zI R_many), .ref (ad 8), .ref (ad 9), .ref (ad 10), .ref (ad 11), .ref (ad 12), .ref (ad 13), .ref (ad 14), .ref (ad 15), .ref (ad 16), .int (zI R_values_375), .ref (ad 17), .int (zI R_textEnd), .ref (ad 18), .ref (ad 19), .ref (ad 20), .ref (ad 21), .int (zI R_dataEnd), .ref (ad 22), .int (zI R_rowEnd), .ref (ad 23), .ref (ad 24), .int (zI R_rowMany), .ref (ad 25), .ref (ad 26), .ref (ad 27), .ref (ad 28), .int (zI R_waiting), .int (zI R_mostWaiting), .int (zI R_answer), .int (zI R_steps), .int (zI R_memory), .int (zI R_maxSteps), .int (zI R_maxMemory), .int (zI R_fault), .int (zI R_result), .int (zI R_now), .int (zI R_nowRow), .int (zI R_come), .ref (ad 29), .ref (ad 30), .int (zI R_puts), .ref (ad 31)])), (ad 8, .inl (cI, 3700, .inl (zA R_valueKinds_376))), (ad 9, .inl (cL, 3700, .inr (.inl (zB R_valueNumbers_377)))), (ad 14, .inl (cI, 3700, .inl (zA R_given_378)))]) X (jrunV X (c_Mod_truth (ad := ad) q379) jF0_k (fun _ _ _ _ => trivial) (jgV own_Mod_sums (by decide +kernel)) rfl rfl rfl pd_Mod_truth (by decide) [0, 1, 2, 3] rfl (by decide) 0 10 rfl rfl rfl rfl (Nat.le_of_ble_eq_true rfl) d_Mod_sums_461 (by decide)) [0, 1, 2, 3] [] [0, 1, 2, 3] rfl rfl (by decide) (by decide) rfl (by decide) ?_
                        cases h
                        exact J_ret E ⟨_, rfl, rfl⟩ d_Mod_sums_464 (Nat.le_refl _) (Nat.le_refl _) rfl
                      · refine J_iconst X d_Mod_sums_456 ?_
                        refine J_goto (tgt := 461) X d_Mod_sums_457 (by decide) ?_
                        obtain ⟨r380, R_values_381, R_valueKinds_382, R_valueNumbers_383, R_given_384, q385, h⟩ := wk_b5 h
                        refine J_afterI0 (ws' := [(ad 0, .inr (10, [.int (zI R_thrown), .ref (ad 1), .ref (ad 2), .ref (ad 3), .ref (ad 4), .ref (ad 5), .ref (ad 6), .int (zI R_used), .ref (ad 7), .int (zI R_many), .ref (ad 8), .ref (ad 9), .ref (ad 10), .ref (ad 11), .ref (ad 12), .ref (ad 13), .ref (ad 14), .ref (ad 15), .ref (ad 16), .int (zI R_values_381), .ref (ad 17), .int (zI R_textEnd), .ref (ad 18), .ref (ad 19), .ref (ad 20), .ref (ad 21), .int (zI R_dataEnd), .ref (ad 22), .int (zI R_rowEnd), .ref (ad 23), .ref (ad 24), .int (zI R_rowMany), .ref (ad 25), .ref (ad 26), .ref (ad 27), .ref (ad 28), .int (zI R_waiting), .int (zI R_mostWaiting), .int (zI R_answer), .int (zI R_steps), .int (zI R_memory), .int (zI R_maxSteps), .int (zI R_maxMemory), .int (zI R_fault), .int (zI R_result), .int (zI R_now), .int (zI R_nowRow), .int (zI R_come), .ref (ad 29), .ref (ad 30), .int (zI R_puts), .ref (ad 31)])), (ad 8, .inl (cI, 3700, .inl (zA R_valueKinds_382))), (ad 9, .inl (cL, 3700, .inr (.inl (zB R_valueNumbers_383)))), (ad 14, .inl (cI, 3700, .inl (zA R_given_384)))]) X (jrunV X (c_Mod_truth (ad := ad) q385) jF0_k (fun _ _ _ _ => trivial) (jgV own_Mod_sums (by decide +kernel)) rfl rfl rfl pd_Mod_truth (by decide) [0, 1, 2, 3] rfl (by decide) 0 10 rfl rfl rfl rfl (Nat.le_of_ble_eq_true rfl) d_Mod_sums_461 (by decide)) [0, 1, 2, 3] [] [0, 1, 2, 3] rfl rfl (by decide) (by decide) rfl (by decide) ?_
                        cases h
                        exact J_ret E ⟨_, rfl, rfl⟩ d_Mod_sums_464 (Nat.le_refl _) (Nat.le_refl _) rfl
                    · rcases wk_c h with ⟨c386, h⟩ | ⟨c386, h⟩
                      · refine J_tsIn (tgt := 465) X 8 c386 g208 d_Mod_sums_25 (by decide) (by decide) rfl (by decide) ?_
                        refine J_aload_n X d_Mod_sums_465 rfl 1 rfl ?_
                        refine J_lload_n X d_Mod_sums_466 rfl 3 rfl ?_
                        refine J_lload X d_Mod_sums_467 4 rfl ?_
                        refine J_lc_ge (tgt := 477) X d_Mod_sums_469 d_Mod_sums_470 (by decide) h (fun c387 h => ?_) (fun c387 h => ?_)
                        · refine J_iconst X d_Mod_sums_477 ?_
                          obtain ⟨r388, R_values_389, R_valueKinds_390, R_valueNumbers_391, R_given_392, q393, h⟩ := wk_b5 h
                          refine J_afterI0 (ws' := [(ad 0, .inr (10, [.int (zI R_thrown), .ref (ad 1), .ref (ad 2), .ref (ad 3), .ref (ad 4), .ref (ad 5), .ref (ad 6), .int (zI R_used), .ref (ad 7), .int (zI R_many), .ref (ad 8), .ref (ad 9), .ref (ad 10), .ref (ad 11), .ref (ad 12), .ref (ad 13), .ref (ad 14), .ref (ad 15), .ref (ad 16), .int (zI R_values_389), .ref (ad 17), .int (zI R_textEnd), .ref (ad 18), .ref (ad 19), .ref (ad 20), .ref (ad 21), .int (zI R_dataEnd), .ref (ad 22), .int (zI R_rowEnd), .ref (ad 23), .ref (ad 24), .int (zI R_rowMany), .ref (ad 25), .ref (ad 26), .ref (ad 27), .ref (ad 28), .int (zI R_waiting), .int (zI R_mostWaiting), .int (zI R_answer), .int (zI R_steps), .int (zI R_memory), .int (zI R_maxSteps), .int (zI R_maxMemory), .int (zI R_fault), .int (zI R_result), .int (zI R_now), .int (zI R_nowRow), .int (zI R_come), .ref (ad 29), .ref (ad 30), .int (zI R_puts), .ref (ad 31)])), (ad 8, .inl (cI, 3700, .inl (zA R_valueKinds_390))), (ad 9, .inl (cL, 3700, .inr (.inl (zB R_valueNumbers_391)))), (ad 14, .inl (cI, 3700, .inl (zA R_given_392)))]) X (jrunV X (c_Mod_truth (ad := ad) q393) jF0_k (fun _ _ _ _ => trivial) (jgV own_Mod_sums (by decide +kernel)) rfl rfl rfl pd_Mod_truth (by decide) [0, 1, 2, 3] rfl (by decide) 0 10 rfl rfl rfl rfl (Nat.le_of_ble_eq_true rfl) d_Mod_sums_478 (by decide)) [0, 1, 2, 3] [] [0, 1, 2, 3] rfl rfl (by decide) (by decide) rfl (by decide) ?_
                          cases h
                          exact J_ret E ⟨_, rfl, rfl⟩ d_Mod_sums_481 (Nat.le_refl _) (Nat.le_refl _) rfl
                        · refine J_iconst X d_Mod_sums_473 ?_
                          refine J_goto (tgt := 478) X d_Mod_sums_474 (by decide) ?_
                          obtain ⟨r394, R_values_395, R_valueKinds_396, R_valueNumbers_397, R_given_398, q399, h⟩ := wk_b5 h
                          refine J_afterI0 (ws' := [(ad 0, .inr (10, [.int (zI R_thrown), .ref (ad 1), .ref (ad 2), .ref (ad 3), .ref (ad 4), .ref (ad 5), .ref (ad 6), .int (zI R_used), .ref (ad 7), .int (zI R_many), .ref (ad 8), .ref (ad 9), .ref (ad 10), .ref (ad 11), .ref (ad 12), .ref (ad 13), .ref (ad 14), .ref (ad 15), .ref (ad 16), .int (zI R_values_395), .ref (ad 17), .int (zI R_textEnd), .ref (ad 18), .ref (ad 19), .ref (ad 20), .ref (ad 21), .int (zI R_dataEnd), .ref (ad 22), .int (zI R_rowEnd), .ref (ad 23), .ref (ad 24), .int (zI R_rowMany), .ref (ad 25), .ref (ad 26), .ref (ad 27), .ref (ad 28), .int (zI R_waiting), .int (zI R_mostWaiting), .int (zI R_answer), .int (zI R_steps), .int (zI R_memory), .int (zI R_maxSteps), .int (zI R_maxMemory), .int (zI R_fault), .int (zI R_result), .int (zI R_now), .int (zI R_nowRow), .int (zI R_come), .ref (ad 29), .ref (ad 30), .int (zI R_puts), .ref (ad 31)])), (ad 8, .inl (cI, 3700, .inl (zA R_valueKinds_396))), (ad 9, .inl (cL, 3700, .inr (.inl (zB R_valueNumbers_397)))), (ad 14, .inl (cI, 3700, .inl (zA R_given_398)))]) X (jrunV X (c_Mod_truth (ad := ad) q399) jF0_k (fun _ _ _ _ => trivial) (jgV own_Mod_sums (by decide +kernel)) rfl rfl rfl pd_Mod_truth (by decide) [0, 1, 2, 3] rfl (by decide) 0 10 rfl rfl rfl rfl (Nat.le_of_ble_eq_true rfl) d_Mod_sums_478 (by decide)) [0, 1, 2, 3] [] [0, 1, 2, 3] rfl rfl (by decide) (by decide) rfl (by decide) ?_
                          cases h
                          exact J_ret E ⟨_, rfl, rfl⟩ d_Mod_sums_481 (Nat.le_refl _) (Nat.le_refl _) rfl
                      · refine J_tsOut (tgt := 482) X g208 d_Mod_sums_25 (by omega) (by decide) ?_
                        refine J_aload_n X d_Mod_sums_482 rfl 1 rfl ?_
                        refine J_lload_n X d_Mod_sums_483 rfl 3 rfl ?_
                        refine J_lload X d_Mod_sums_484 4 rfl ?_
                        refine J_lc_gt (tgt := 494) X d_Mod_sums_486 d_Mod_sums_487 (by decide) h (fun c400 h => ?_) (fun c400 h => ?_)
                        · refine J_iconst X d_Mod_sums_494 ?_
                          obtain ⟨r401, R_values_402, R_valueKinds_403, R_valueNumbers_404, R_given_405, q406, h⟩ := wk_b5 h
                          refine J_afterI0 (ws' := [(ad 0, .inr (10, [.int (zI R_thrown), .ref (ad 1), .ref (ad 2), .ref (ad 3), .ref (ad 4), .ref (ad 5), .ref (ad 6), .int (zI R_used), .ref (ad 7), .int (zI R_many), .ref (ad 8), .ref (ad 9), .ref (ad 10), .ref (ad 11), .ref (ad 12), .ref (ad 13), .ref (ad 14), .ref (ad 15), .ref (ad 16), .int (zI R_values_402), .ref (ad 17), .int (zI R_textEnd), .ref (ad 18), .ref (ad 19), .ref (ad 20), .ref (ad 21), .int (zI R_dataEnd), .ref (ad 22), .int (zI R_rowEnd), .ref (ad 23), .ref (ad 24), .int (zI R_rowMany), .ref (ad 25), .ref (ad 26), .ref (ad 27), .ref (ad 28), .int (zI R_waiting), .int (zI R_mostWaiting), .int (zI R_answer), .int (zI R_steps), .int (zI R_memory), .int (zI R_maxSteps), .int (zI R_maxMemory), .int (zI R_fault), .int (zI R_result), .int (zI R_now), .int (zI R_nowRow), .int (zI R_come), .ref (ad 29), .ref (ad 30), .int (zI R_puts), .ref (ad 31)])), (ad 8, .inl (cI, 3700, .inl (zA R_valueKinds_403))), (ad 9, .inl (cL, 3700, .inr (.inl (zB R_valueNumbers_404)))), (ad 14, .inl (cI, 3700, .inl (zA R_given_405)))]) X (jrunV X (c_Mod_truth (ad := ad) q406) jF0_k (fun _ _ _ _ => trivial) (jgV own_Mod_sums (by decide +kernel)) rfl rfl rfl pd_Mod_truth (by decide) [0, 1, 2, 3] rfl (by decide) 0 10 rfl rfl rfl rfl (Nat.le_of_ble_eq_true rfl) d_Mod_sums_495 (by decide)) [0, 1, 2, 3] [] [0, 1, 2, 3] rfl rfl (by decide) (by decide) rfl (by decide) ?_
                          cases h
                          exact J_ret E ⟨_, rfl, rfl⟩ d_Mod_sums_498 (Nat.le_refl _) (Nat.le_refl _) rfl
                        · refine J_iconst X d_Mod_sums_490 ?_
                          refine J_goto (tgt := 495) X d_Mod_sums_491 (by decide) ?_
                          obtain ⟨r407, R_values_408, R_valueKinds_409, R_valueNumbers_410, R_given_411, q412, h⟩ := wk_b5 h
                          refine J_afterI0 (ws' := [(ad 0, .inr (10, [.int (zI R_thrown), .ref (ad 1), .ref (ad 2), .ref (ad 3), .ref (ad 4), .ref (ad 5), .ref (ad 6), .int (zI R_used), .ref (ad 7), .int (zI R_many), .ref (ad 8), .ref (ad 9), .ref (ad 10), .ref (ad 11), .ref (ad 12), .ref (ad 13), .ref (ad 14), .ref (ad 15), .ref (ad 16), .int (zI R_values_408), .ref (ad 17), .int (zI R_textEnd), .ref (ad 18), .ref (ad 19), .ref (ad 20), .ref (ad 21), .int (zI R_dataEnd), .ref (ad 22), .int (zI R_rowEnd), .ref (ad 23), .ref (ad 24), .int (zI R_rowMany), .ref (ad 25), .ref (ad 26), .ref (ad 27), .ref (ad 28), .int (zI R_waiting), .int (zI R_mostWaiting), .int (zI R_answer), .int (zI R_steps), .int (zI R_memory), .int (zI R_maxSteps), .int (zI R_maxMemory), .int (zI R_fault), .int (zI R_result), .int (zI R_now), .int (zI R_nowRow), .int (zI R_come), .ref (ad 29), .ref (ad 30), .int (zI R_puts), .ref (ad 31)])), (ad 8, .inl (cI, 3700, .inl (zA R_valueKinds_409))), (ad 9, .inl (cL, 3700, .inr (.inl (zB R_valueNumbers_410)))), (ad 14, .inl (cI, 3700, .inl (zA R_given_411)))]) X (jrunV X (c_Mod_truth (ad := ad) q412) jF0_k (fun _ _ _ _ => trivial) (jgV own_Mod_sums (by decide +kernel)) rfl rfl rfl pd_Mod_truth (by decide) [0, 1, 2, 3] rfl (by decide) 0 10 rfl rfl rfl rfl (Nat.le_of_ble_eq_true rfl) d_Mod_sums_495 (by decide)) [0, 1, 2, 3] [] [0, 1, 2, 3] rfl rfl (by decide) (by decide) rfl (by decide) ?_
                          cases h
                          exact J_ret E ⟨_, rfl, rfl⟩ d_Mod_sums_498 (Nat.le_refl _) (Nat.le_refl _) rfl
    · refine J_iconst X d_Mod_sums_17 ?_
      refine J_goto (tgt := 22) X d_Mod_sums_18 (by decide) ?_
      refine J_istore (lv' := [(6, .int (zI 1)), (0, .ref (ad 0)), (1, .int (zI p1)), (2, .long (zL p2)), (4, .long (zL p4))]) X d_Mod_sums_22 (by decide) rfl ?_
      refine J_iload_n X d_Mod_sums_24 rfl 2 rfl ?_
      obtain ⟨g413, h⟩ := wk_g h
      rcases wk_c h with ⟨c414, h⟩ | ⟨c414, h⟩
      · refine J_tsIn (tgt := 76) X 0 c414 g413 d_Mod_sums_25 (by decide) (by decide) rfl (by decide) ?_
        refine J_lload X d_Mod_sums_76 4 rfl ?_
        refine J_lconst (v := 0) X d_Mod_sums_78 (by decide) ?_
        refine J_lc_le (tgt := 114) X d_Mod_sums_79 d_Mod_sums_80 (by decide) h (fun c415 h => ?_) (fun c415 h => ?_)
        · refine J_lload_n X d_Mod_sums_114 rfl 3 rfl ?_
          refine J_ldc2 (v := (-9223372036854775808)) (n := (-9223372036854775808)) X (j_m own_Mod_sums (by decide +kernel)) (by decide) d_Mod_sums_115 ?_
          refine J_lload X d_Mod_sums_118 4 rfl ?_
          refine J_lsub X d_Mod_sums_120 ?_
          refine J_lc_ge (tgt := 133) X d_Mod_sums_121 d_Mod_sums_122 (by decide) h (fun c416 h => ?_) (fun c416 h => ?_)
          · refine J_aload_n X d_Mod_sums_133 rfl 1 rfl ?_
            refine J_iconst X d_Mod_sums_134 ?_
            refine J_lload_n X d_Mod_sums_135 rfl 3 rfl ?_
            refine J_lload X d_Mod_sums_136 4 rfl ?_
            refine J_ladd X d_Mod_sums_138 ?_
            obtain ⟨r417, R_values_418, R_valueKinds_419, R_valueNumbers_420, R_given_421, q422, h⟩ := wk_b5 h
            refine J_afterI0 (ws' := [(ad 0, .inr (10, [.int (zI R_thrown), .ref (ad 1), .ref (ad 2), .ref (ad 3), .ref (ad 4), .ref (ad 5), .ref (ad 6), .int (zI R_used), .ref (ad 7), .int (zI R_many), .ref (ad 8), .ref (ad 9), .ref (ad 10), .ref (ad 11), .ref (ad 12), .ref (ad 13), .ref (ad 14), .ref (ad 15), .ref (ad 16), .int (zI R_values_418), .ref (ad 17), .int (zI R_textEnd), .ref (ad 18), .ref (ad 19), .ref (ad 20), .ref (ad 21), .int (zI R_dataEnd), .ref (ad 22), .int (zI R_rowEnd), .ref (ad 23), .ref (ad 24), .int (zI R_rowMany), .ref (ad 25), .ref (ad 26), .ref (ad 27), .ref (ad 28), .int (zI R_waiting), .int (zI R_mostWaiting), .int (zI R_answer), .int (zI R_steps), .int (zI R_memory), .int (zI R_maxSteps), .int (zI R_maxMemory), .int (zI R_fault), .int (zI R_result), .int (zI R_now), .int (zI R_nowRow), .int (zI R_come), .ref (ad 29), .ref (ad 30), .int (zI R_puts), .ref (ad 31)])), (ad 8, .inl (cI, 3700, .inl (zA R_valueKinds_419))), (ad 9, .inl (cL, 3700, .inr (.inl (zB R_valueNumbers_420)))), (ad 14, .inl (cI, 3700, .inl (zA R_given_421)))]) X (jrunV X (c_Mod_make (ad := ad) q422) jF0_k (fun _ _ _ _ => trivial) (jgV own_Mod_sums (by decide +kernel)) rfl rfl rfl pd_Mod_make (by decide) [0, 1, 2, 3] rfl (by decide) 0 10 rfl rfl rfl rfl (Nat.le_of_ble_eq_true rfl) d_Mod_sums_139 (by decide)) [0, 1, 2, 3] [] [0, 1, 2, 3] rfl rfl (by decide) (by decide) rfl (by decide) ?_
            cases h
            exact J_ret E ⟨_, rfl, rfl⟩ d_Mod_sums_142 (Nat.le_refl _) (Nat.le_refl _) rfl
          · refine J_aload_n X d_Mod_sums_125 rfl 1 rfl ?_
            refine J_iconst X d_Mod_sums_126 ?_
            obtain ⟨r423, R_fault_424, q425, h⟩ := wk_b2 h
            refine J_afterI0 (ws' := [(ad 0, .inr (10, [.int (zI R_thrown), .ref (ad 1), .ref (ad 2), .ref (ad 3), .ref (ad 4), .ref (ad 5), .ref (ad 6), .int (zI R_used), .ref (ad 7), .int (zI R_many), .ref (ad 8), .ref (ad 9), .ref (ad 10), .ref (ad 11), .ref (ad 12), .ref (ad 13), .ref (ad 14), .ref (ad 15), .ref (ad 16), .int (zI R_values), .ref (ad 17), .int (zI R_textEnd), .ref (ad 18), .ref (ad 19), .ref (ad 20), .ref (ad 21), .int (zI R_dataEnd), .ref (ad 22), .int (zI R_rowEnd), .ref (ad 23), .ref (ad 24), .int (zI R_rowMany), .ref (ad 25), .ref (ad 26), .ref (ad 27), .ref (ad 28), .int (zI R_waiting), .int (zI R_mostWaiting), .int (zI R_answer), .int (zI R_steps), .int (zI R_memory), .int (zI R_maxSteps), .int (zI R_maxMemory), .int (zI R_fault_424), .int (zI R_result), .int (zI R_now), .int (zI R_nowRow), .int (zI R_come), .ref (ad 29), .ref (ad 30), .int (zI R_puts), .ref (ad 31)])), (ad 8, .inl (cI, 3700, .inl (zA R_valueKinds))), (ad 9, .inl (cL, 3700, .inr (.inl (zB R_valueNumbers)))), (ad 14, .inl (cI, 3700, .inl (zA R_given)))]) X (jrunV X (c_Mod_fail (ad := ad) q425) jF0_k (fun _ _ _ _ => trivial) (jgV own_Mod_sums (by decide +kernel)) rfl rfl rfl pd_Mod_fail (by decide) [0] rfl (by decide) 0 10 rfl rfl rfl rfl (Nat.le_of_ble_eq_true rfl) d_Mod_sums_127 (by decide)) [0] [1, 2, 3] [3, 0, 1, 2] rfl rfl (by decide) (by decide) rfl (by decide) ?_
            refine J_goto (tgt := 142) X d_Mod_sums_130 (by decide) ?_
            cases h
            exact J_ret E ⟨_, rfl, rfl⟩ d_Mod_sums_142 (Nat.le_refl _) (Nat.le_refl _) rfl
        · refine J_lload_n X d_Mod_sums_83 rfl 3 rfl ?_
          refine J_ldc2 (v := 9223372036854775807) (n := 9223372036854775807) X (j_m own_Mod_sums (by decide +kernel)) (by decide) d_Mod_sums_84 ?_
          refine J_lload X d_Mod_sums_87 4 rfl ?_
          refine J_lsub X d_Mod_sums_89 ?_
          refine J_lc_le (tgt := 102) X d_Mod_sums_90 d_Mod_sums_91 (by decide) h (fun c426 h => ?_) (fun c426 h => ?_)
          · refine J_aload_n X d_Mod_sums_102 rfl 1 rfl ?_
            refine J_iconst X d_Mod_sums_103 ?_
            refine J_lload_n X d_Mod_sums_104 rfl 3 rfl ?_
            refine J_lload X d_Mod_sums_105 4 rfl ?_
            refine J_ladd X d_Mod_sums_107 ?_
            obtain ⟨r427, R_values_428, R_valueKinds_429, R_valueNumbers_430, R_given_431, q432, h⟩ := wk_b5 h
            refine J_afterI0 (ws' := [(ad 0, .inr (10, [.int (zI R_thrown), .ref (ad 1), .ref (ad 2), .ref (ad 3), .ref (ad 4), .ref (ad 5), .ref (ad 6), .int (zI R_used), .ref (ad 7), .int (zI R_many), .ref (ad 8), .ref (ad 9), .ref (ad 10), .ref (ad 11), .ref (ad 12), .ref (ad 13), .ref (ad 14), .ref (ad 15), .ref (ad 16), .int (zI R_values_428), .ref (ad 17), .int (zI R_textEnd), .ref (ad 18), .ref (ad 19), .ref (ad 20), .ref (ad 21), .int (zI R_dataEnd), .ref (ad 22), .int (zI R_rowEnd), .ref (ad 23), .ref (ad 24), .int (zI R_rowMany), .ref (ad 25), .ref (ad 26), .ref (ad 27), .ref (ad 28), .int (zI R_waiting), .int (zI R_mostWaiting), .int (zI R_answer), .int (zI R_steps), .int (zI R_memory), .int (zI R_maxSteps), .int (zI R_maxMemory), .int (zI R_fault), .int (zI R_result), .int (zI R_now), .int (zI R_nowRow), .int (zI R_come), .ref (ad 29), .ref (ad 30), .int (zI R_puts), .ref (ad 31)])), (ad 8, .inl (cI, 3700, .inl (zA R_valueKinds_429))), (ad 9, .inl (cL, 3700, .inr (.inl (zB R_valueNumbers_430)))), (ad 14, .inl (cI, 3700, .inl (zA R_given_431)))]) X (jrunV X (c_Mod_make (ad := ad) q432) jF0_k (fun _ _ _ _ => trivial) (jgV own_Mod_sums (by decide +kernel)) rfl rfl rfl pd_Mod_make (by decide) [0, 1, 2, 3] rfl (by decide) 0 10 rfl rfl rfl rfl (Nat.le_of_ble_eq_true rfl) d_Mod_sums_108 (by decide)) [0, 1, 2, 3] [] [0, 1, 2, 3] rfl rfl (by decide) (by decide) rfl (by decide) ?_
            refine J_goto (tgt := 142) X d_Mod_sums_111 (by decide) ?_
            cases h
            exact J_ret E ⟨_, rfl, rfl⟩ d_Mod_sums_142 (Nat.le_refl _) (Nat.le_refl _) rfl
          · refine J_aload_n X d_Mod_sums_94 rfl 1 rfl ?_
            refine J_iconst X d_Mod_sums_95 ?_
            obtain ⟨r433, R_fault_434, q435, h⟩ := wk_b2 h
            refine J_afterI0 (ws' := [(ad 0, .inr (10, [.int (zI R_thrown), .ref (ad 1), .ref (ad 2), .ref (ad 3), .ref (ad 4), .ref (ad 5), .ref (ad 6), .int (zI R_used), .ref (ad 7), .int (zI R_many), .ref (ad 8), .ref (ad 9), .ref (ad 10), .ref (ad 11), .ref (ad 12), .ref (ad 13), .ref (ad 14), .ref (ad 15), .ref (ad 16), .int (zI R_values), .ref (ad 17), .int (zI R_textEnd), .ref (ad 18), .ref (ad 19), .ref (ad 20), .ref (ad 21), .int (zI R_dataEnd), .ref (ad 22), .int (zI R_rowEnd), .ref (ad 23), .ref (ad 24), .int (zI R_rowMany), .ref (ad 25), .ref (ad 26), .ref (ad 27), .ref (ad 28), .int (zI R_waiting), .int (zI R_mostWaiting), .int (zI R_answer), .int (zI R_steps), .int (zI R_memory), .int (zI R_maxSteps), .int (zI R_maxMemory), .int (zI R_fault_434), .int (zI R_result), .int (zI R_now), .int (zI R_nowRow), .int (zI R_come), .ref (ad 29), .ref (ad 30), .int (zI R_puts), .ref (ad 31)])), (ad 8, .inl (cI, 3700, .inl (zA R_valueKinds))), (ad 9, .inl (cL, 3700, .inr (.inl (zB R_valueNumbers)))), (ad 14, .inl (cI, 3700, .inl (zA R_given)))]) X (jrunV X (c_Mod_fail (ad := ad) q435) jF0_k (fun _ _ _ _ => trivial) (jgV own_Mod_sums (by decide +kernel)) rfl rfl rfl pd_Mod_fail (by decide) [0] rfl (by decide) 0 10 rfl rfl rfl rfl (Nat.le_of_ble_eq_true rfl) d_Mod_sums_96 (by decide)) [0] [1, 2, 3] [3, 0, 1, 2] rfl rfl (by decide) (by decide) rfl (by decide) ?_
            refine J_goto (tgt := 142) X d_Mod_sums_99 (by decide) ?_
            cases h
            exact J_ret E ⟨_, rfl, rfl⟩ d_Mod_sums_142 (Nat.le_refl _) (Nat.le_refl _) rfl
      · rcases wk_c h with ⟨c436, h⟩ | ⟨c436, h⟩
        · refine J_tsIn (tgt := 143) X 1 c436 g413 d_Mod_sums_25 (by decide) (by decide) rfl (by decide) ?_
          refine J_lload X d_Mod_sums_143 4 rfl ?_
          refine J_lconst (v := 0) X d_Mod_sums_145 (by decide) ?_
          refine J_lc_ge (tgt := 181) X d_Mod_sums_146 d_Mod_sums_147 (by decide) h (fun c437 h => ?_) (fun c437 h => ?_)
          · refine J_lload_n X d_Mod_sums_181 rfl 3 rfl ?_
            refine J_ldc2 (v := (-9223372036854775808)) (n := (-9223372036854775808)) X (j_m own_Mod_sums (by decide +kernel)) (by decide) d_Mod_sums_182 ?_
            refine J_lload X d_Mod_sums_185 4 rfl ?_
            refine J_ladd X d_Mod_sums_187 ?_
            refine J_lc_ge (tgt := 200) X d_Mod_sums_188 d_Mod_sums_189 (by decide) h (fun c438 h => ?_) (fun c438 h => ?_)
            · refine J_aload_n X d_Mod_sums_200 rfl 1 rfl ?_
              refine J_iconst X d_Mod_sums_201 ?_
              refine J_lload_n X d_Mod_sums_202 rfl 3 rfl ?_
              refine J_lload X d_Mod_sums_203 4 rfl ?_
              refine J_lsub X d_Mod_sums_205 ?_
              obtain ⟨r439, R_values_440, R_valueKinds_441, R_valueNumbers_442, R_given_443, q444, h⟩ := wk_b5 h
              refine J_afterI0 (ws' := [(ad 0, .inr (10, [.int (zI R_thrown), .ref (ad 1), .ref (ad 2), .ref (ad 3), .ref (ad 4), .ref (ad 5), .ref (ad 6), .int (zI R_used), .ref (ad 7), .int (zI R_many), .ref (ad 8), .ref (ad 9), .ref (ad 10), .ref (ad 11), .ref (ad 12), .ref (ad 13), .ref (ad 14), .ref (ad 15), .ref (ad 16), .int (zI R_values_440), .ref (ad 17), .int (zI R_textEnd), .ref (ad 18), .ref (ad 19), .ref (ad 20), .ref (ad 21), .int (zI R_dataEnd), .ref (ad 22), .int (zI R_rowEnd), .ref (ad 23), .ref (ad 24), .int (zI R_rowMany), .ref (ad 25), .ref (ad 26), .ref (ad 27), .ref (ad 28), .int (zI R_waiting), .int (zI R_mostWaiting), .int (zI R_answer), .int (zI R_steps), .int (zI R_memory), .int (zI R_maxSteps), .int (zI R_maxMemory), .int (zI R_fault), .int (zI R_result), .int (zI R_now), .int (zI R_nowRow), .int (zI R_come), .ref (ad 29), .ref (ad 30), .int (zI R_puts), .ref (ad 31)])), (ad 8, .inl (cI, 3700, .inl (zA R_valueKinds_441))), (ad 9, .inl (cL, 3700, .inr (.inl (zB R_valueNumbers_442)))), (ad 14, .inl (cI, 3700, .inl (zA R_given_443)))]) X (jrunV X (c_Mod_make (ad := ad) q444) jF0_k (fun _ _ _ _ => trivial) (jgV own_Mod_sums (by decide +kernel)) rfl rfl rfl pd_Mod_make (by decide) [0, 1, 2, 3] rfl (by decide) 0 10 rfl rfl rfl rfl (Nat.le_of_ble_eq_true rfl) d_Mod_sums_206 (by decide)) [0, 1, 2, 3] [] [0, 1, 2, 3] rfl rfl (by decide) (by decide) rfl (by decide) ?_
              cases h
              exact J_ret E ⟨_, rfl, rfl⟩ d_Mod_sums_209 (Nat.le_refl _) (Nat.le_refl _) rfl
            · refine J_aload_n X d_Mod_sums_192 rfl 1 rfl ?_
              refine J_iconst X d_Mod_sums_193 ?_
              obtain ⟨r445, R_fault_446, q447, h⟩ := wk_b2 h
              refine J_afterI0 (ws' := [(ad 0, .inr (10, [.int (zI R_thrown), .ref (ad 1), .ref (ad 2), .ref (ad 3), .ref (ad 4), .ref (ad 5), .ref (ad 6), .int (zI R_used), .ref (ad 7), .int (zI R_many), .ref (ad 8), .ref (ad 9), .ref (ad 10), .ref (ad 11), .ref (ad 12), .ref (ad 13), .ref (ad 14), .ref (ad 15), .ref (ad 16), .int (zI R_values), .ref (ad 17), .int (zI R_textEnd), .ref (ad 18), .ref (ad 19), .ref (ad 20), .ref (ad 21), .int (zI R_dataEnd), .ref (ad 22), .int (zI R_rowEnd), .ref (ad 23), .ref (ad 24), .int (zI R_rowMany), .ref (ad 25), .ref (ad 26), .ref (ad 27), .ref (ad 28), .int (zI R_waiting), .int (zI R_mostWaiting), .int (zI R_answer), .int (zI R_steps), .int (zI R_memory), .int (zI R_maxSteps), .int (zI R_maxMemory), .int (zI R_fault_446), .int (zI R_result), .int (zI R_now), .int (zI R_nowRow), .int (zI R_come), .ref (ad 29), .ref (ad 30), .int (zI R_puts), .ref (ad 31)])), (ad 8, .inl (cI, 3700, .inl (zA R_valueKinds))), (ad 9, .inl (cL, 3700, .inr (.inl (zB R_valueNumbers)))), (ad 14, .inl (cI, 3700, .inl (zA R_given)))]) X (jrunV X (c_Mod_fail (ad := ad) q447) jF0_k (fun _ _ _ _ => trivial) (jgV own_Mod_sums (by decide +kernel)) rfl rfl rfl pd_Mod_fail (by decide) [0] rfl (by decide) 0 10 rfl rfl rfl rfl (Nat.le_of_ble_eq_true rfl) d_Mod_sums_194 (by decide)) [0] [1, 2, 3] [3, 0, 1, 2] rfl rfl (by decide) (by decide) rfl (by decide) ?_
              refine J_goto (tgt := 209) X d_Mod_sums_197 (by decide) ?_
              cases h
              exact J_ret E ⟨_, rfl, rfl⟩ d_Mod_sums_209 (Nat.le_refl _) (Nat.le_refl _) rfl
          · refine J_lload_n X d_Mod_sums_150 rfl 3 rfl ?_
            refine J_ldc2 (v := 9223372036854775807) (n := 9223372036854775807) X (j_m own_Mod_sums (by decide +kernel)) (by decide) d_Mod_sums_151 ?_
            refine J_lload X d_Mod_sums_154 4 rfl ?_
            refine J_ladd X d_Mod_sums_156 ?_
            refine J_lc_le (tgt := 169) X d_Mod_sums_157 d_Mod_sums_158 (by decide) h (fun c448 h => ?_) (fun c448 h => ?_)
            · refine J_aload_n X d_Mod_sums_169 rfl 1 rfl ?_
              refine J_iconst X d_Mod_sums_170 ?_
              refine J_lload_n X d_Mod_sums_171 rfl 3 rfl ?_
              refine J_lload X d_Mod_sums_172 4 rfl ?_
              refine J_lsub X d_Mod_sums_174 ?_
              obtain ⟨r449, R_values_450, R_valueKinds_451, R_valueNumbers_452, R_given_453, q454, h⟩ := wk_b5 h
              refine J_afterI0 (ws' := [(ad 0, .inr (10, [.int (zI R_thrown), .ref (ad 1), .ref (ad 2), .ref (ad 3), .ref (ad 4), .ref (ad 5), .ref (ad 6), .int (zI R_used), .ref (ad 7), .int (zI R_many), .ref (ad 8), .ref (ad 9), .ref (ad 10), .ref (ad 11), .ref (ad 12), .ref (ad 13), .ref (ad 14), .ref (ad 15), .ref (ad 16), .int (zI R_values_450), .ref (ad 17), .int (zI R_textEnd), .ref (ad 18), .ref (ad 19), .ref (ad 20), .ref (ad 21), .int (zI R_dataEnd), .ref (ad 22), .int (zI R_rowEnd), .ref (ad 23), .ref (ad 24), .int (zI R_rowMany), .ref (ad 25), .ref (ad 26), .ref (ad 27), .ref (ad 28), .int (zI R_waiting), .int (zI R_mostWaiting), .int (zI R_answer), .int (zI R_steps), .int (zI R_memory), .int (zI R_maxSteps), .int (zI R_maxMemory), .int (zI R_fault), .int (zI R_result), .int (zI R_now), .int (zI R_nowRow), .int (zI R_come), .ref (ad 29), .ref (ad 30), .int (zI R_puts), .ref (ad 31)])), (ad 8, .inl (cI, 3700, .inl (zA R_valueKinds_451))), (ad 9, .inl (cL, 3700, .inr (.inl (zB R_valueNumbers_452)))), (ad 14, .inl (cI, 3700, .inl (zA R_given_453)))]) X (jrunV X (c_Mod_make (ad := ad) q454) jF0_k (fun _ _ _ _ => trivial) (jgV own_Mod_sums (by decide +kernel)) rfl rfl rfl pd_Mod_make (by decide) [0, 1, 2, 3] rfl (by decide) 0 10 rfl rfl rfl rfl (Nat.le_of_ble_eq_true rfl) d_Mod_sums_175 (by decide)) [0, 1, 2, 3] [] [0, 1, 2, 3] rfl rfl (by decide) (by decide) rfl (by decide) ?_
              refine J_goto (tgt := 209) X d_Mod_sums_178 (by decide) ?_
              cases h
              exact J_ret E ⟨_, rfl, rfl⟩ d_Mod_sums_209 (Nat.le_refl _) (Nat.le_refl _) rfl
            · refine J_aload_n X d_Mod_sums_161 rfl 1 rfl ?_
              refine J_iconst X d_Mod_sums_162 ?_
              obtain ⟨r455, R_fault_456, q457, h⟩ := wk_b2 h
              refine J_afterI0 (ws' := [(ad 0, .inr (10, [.int (zI R_thrown), .ref (ad 1), .ref (ad 2), .ref (ad 3), .ref (ad 4), .ref (ad 5), .ref (ad 6), .int (zI R_used), .ref (ad 7), .int (zI R_many), .ref (ad 8), .ref (ad 9), .ref (ad 10), .ref (ad 11), .ref (ad 12), .ref (ad 13), .ref (ad 14), .ref (ad 15), .ref (ad 16), .int (zI R_values), .ref (ad 17), .int (zI R_textEnd), .ref (ad 18), .ref (ad 19), .ref (ad 20), .ref (ad 21), .int (zI R_dataEnd), .ref (ad 22), .int (zI R_rowEnd), .ref (ad 23), .ref (ad 24), .int (zI R_rowMany), .ref (ad 25), .ref (ad 26), .ref (ad 27), .ref (ad 28), .int (zI R_waiting), .int (zI R_mostWaiting), .int (zI R_answer), .int (zI R_steps), .int (zI R_memory), .int (zI R_maxSteps), .int (zI R_maxMemory), .int (zI R_fault_456), .int (zI R_result), .int (zI R_now), .int (zI R_nowRow), .int (zI R_come), .ref (ad 29), .ref (ad 30), .int (zI R_puts), .ref (ad 31)])), (ad 8, .inl (cI, 3700, .inl (zA R_valueKinds))), (ad 9, .inl (cL, 3700, .inr (.inl (zB R_valueNumbers)))), (ad 14, .inl (cI, 3700, .inl (zA R_given)))]) X (jrunV X (c_Mod_fail (ad := ad) q457) jF0_k (fun _ _ _ _ => trivial) (jgV own_Mod_sums (by decide +kernel)) rfl rfl rfl pd_Mod_fail (by decide) [0] rfl (by decide) 0 10 rfl rfl rfl rfl (Nat.le_of_ble_eq_true rfl) d_Mod_sums_163 (by decide)) [0] [1, 2, 3] [3, 0, 1, 2] rfl rfl (by decide) (by decide) rfl (by decide) ?_
              refine J_goto (tgt := 209) X d_Mod_sums_166 (by decide) ?_
              cases h
              exact J_ret E ⟨_, rfl, rfl⟩ d_Mod_sums_209 (Nat.le_refl _) (Nat.le_refl _) rfl
        · rcases wk_c h with ⟨c458, h⟩ | ⟨c458, h⟩
          · refine J_tsIn (tgt := 210) X 2 c458 g413 d_Mod_sums_25 (by decide) (by decide) rfl (by decide) ?_
            refine J_lload_n X d_Mod_sums_210 rfl 3 rfl ?_
            refine J_lload X d_Mod_sums_211 4 rfl ?_
            obtain ⟨r459, q460, h⟩ := wk_b h
            refine J_afterP (jrunS X (c_Mod_isProduct (ad := ad) q460) jF0_k (fun _ _ _ _ => trivial) (jgS own_Mod_sums (by decide +kernel)) rfl rfl rfl pd_Mod_isProduct (by decide) [] rfl (by decide) rfl rfl (Nat.le_of_ble_eq_true rfl) d_Mod_sums_213 (by decide)) ?_
            refine J_if_eq (tgt := 231) X d_Mod_sums_216 (by decide) h (fun c461 h => ?_) (fun c461 h => ?_)
            · refine J_aload_n X d_Mod_sums_231 rfl 1 rfl ?_
              refine J_iconst X d_Mod_sums_232 ?_
              obtain ⟨r462, R_fault_463, q464, h⟩ := wk_b2 h
              refine J_afterI0 (ws' := [(ad 0, .inr (10, [.int (zI R_thrown), .ref (ad 1), .ref (ad 2), .ref (ad 3), .ref (ad 4), .ref (ad 5), .ref (ad 6), .int (zI R_used), .ref (ad 7), .int (zI R_many), .ref (ad 8), .ref (ad 9), .ref (ad 10), .ref (ad 11), .ref (ad 12), .ref (ad 13), .ref (ad 14), .ref (ad 15), .ref (ad 16), .int (zI R_values), .ref (ad 17), .int (zI R_textEnd), .ref (ad 18), .ref (ad 19), .ref (ad 20), .ref (ad 21), .int (zI R_dataEnd), .ref (ad 22), .int (zI R_rowEnd), .ref (ad 23), .ref (ad 24), .int (zI R_rowMany), .ref (ad 25), .ref (ad 26), .ref (ad 27), .ref (ad 28), .int (zI R_waiting), .int (zI R_mostWaiting), .int (zI R_answer), .int (zI R_steps), .int (zI R_memory), .int (zI R_maxSteps), .int (zI R_maxMemory), .int (zI R_fault_463), .int (zI R_result), .int (zI R_now), .int (zI R_nowRow), .int (zI R_come), .ref (ad 29), .ref (ad 30), .int (zI R_puts), .ref (ad 31)])), (ad 8, .inl (cI, 3700, .inl (zA R_valueKinds))), (ad 9, .inl (cL, 3700, .inr (.inl (zB R_valueNumbers)))), (ad 14, .inl (cI, 3700, .inl (zA R_given)))]) X (jrunV X (c_Mod_fail (ad := ad) q464) jF0_k (fun _ _ _ _ => trivial) (jgV own_Mod_sums (by decide +kernel)) rfl rfl rfl pd_Mod_fail (by decide) [0] rfl (by decide) 0 10 rfl rfl rfl rfl (Nat.le_of_ble_eq_true rfl) d_Mod_sums_233 (by decide)) [0] [1, 2, 3] [3, 0, 1, 2] rfl rfl (by decide) (by decide) rfl (by decide) ?_
              cases h
              exact J_ret E ⟨_, rfl, rfl⟩ d_Mod_sums_236 (Nat.le_refl _) (Nat.le_refl _) rfl
            · refine J_aload_n X d_Mod_sums_219 rfl 1 rfl ?_
              refine J_iconst X d_Mod_sums_220 ?_
              refine J_lload_n X d_Mod_sums_221 rfl 3 rfl ?_
              refine J_lload X d_Mod_sums_222 4 rfl ?_
              refine J_lmul X d_Mod_sums_224 ?_
              obtain ⟨r465, R_values_466, R_valueKinds_467, R_valueNumbers_468, R_given_469, q470, h⟩ := wk_b5 h
              refine J_afterI0 (ws' := [(ad 0, .inr (10, [.int (zI R_thrown), .ref (ad 1), .ref (ad 2), .ref (ad 3), .ref (ad 4), .ref (ad 5), .ref (ad 6), .int (zI R_used), .ref (ad 7), .int (zI R_many), .ref (ad 8), .ref (ad 9), .ref (ad 10), .ref (ad 11), .ref (ad 12), .ref (ad 13), .ref (ad 14), .ref (ad 15), .ref (ad 16), .int (zI R_values_466), .ref (ad 17), .int (zI R_textEnd), .ref (ad 18), .ref (ad 19), .ref (ad 20), .ref (ad 21), .int (zI R_dataEnd), .ref (ad 22), .int (zI R_rowEnd), .ref (ad 23), .ref (ad 24), .int (zI R_rowMany), .ref (ad 25), .ref (ad 26), .ref (ad 27), .ref (ad 28), .int (zI R_waiting), .int (zI R_mostWaiting), .int (zI R_answer), .int (zI R_steps), .int (zI R_memory), .int (zI R_maxSteps), .int (zI R_maxMemory), .int (zI R_fault), .int (zI R_result), .int (zI R_now), .int (zI R_nowRow), .int (zI R_come), .ref (ad 29), .ref (ad 30), .int (zI R_puts), .ref (ad 31)])), (ad 8, .inl (cI, 3700, .inl (zA R_valueKinds_467))), (ad 9, .inl (cL, 3700, .inr (.inl (zB R_valueNumbers_468)))), (ad 14, .inl (cI, 3700, .inl (zA R_given_469)))]) X (jrunV X (c_Mod_make (ad := ad) q470) jF0_k (fun _ _ _ _ => trivial) (jgV own_Mod_sums (by decide +kernel)) rfl rfl rfl pd_Mod_make (by decide) [0, 1, 2, 3] rfl (by decide) 0 10 rfl rfl rfl rfl (Nat.le_of_ble_eq_true rfl) d_Mod_sums_225 (by decide)) [0, 1, 2, 3] [] [0, 1, 2, 3] rfl rfl (by decide) (by decide) rfl (by decide) ?_
              refine J_goto (tgt := 236) X d_Mod_sums_228 (by decide) ?_
              cases h
              exact J_ret E ⟨_, rfl, rfl⟩ d_Mod_sums_236 (Nat.le_refl _) (Nat.le_refl _) rfl
          · rcases wk_c h with ⟨c471, h⟩ | ⟨c471, h⟩
            · refine J_tsIn (tgt := 237) X 3 c471 g413 d_Mod_sums_25 (by decide) (by decide) rfl (by decide) ?_
              refine J_lload X d_Mod_sums_237 4 rfl ?_
              refine J_lconst (v := 0) X d_Mod_sums_239 (by decide) ?_
              refine J_lc_eq (tgt := 249) X d_Mod_sums_240 d_Mod_sums_241 (by decide) h (fun c472 h => ?_) (fun c472 h => ?_)
              · refine J_aload_n X d_Mod_sums_249 rfl 1 rfl ?_
                refine J_iconst X d_Mod_sums_250 ?_
                obtain ⟨r473, R_fault_474, q475, h⟩ := wk_b2 h
                refine J_afterI0 (ws' := [(ad 0, .inr (10, [.int (zI R_thrown), .ref (ad 1), .ref (ad 2), .ref (ad 3), .ref (ad 4), .ref (ad 5), .ref (ad 6), .int (zI R_used), .ref (ad 7), .int (zI R_many), .ref (ad 8), .ref (ad 9), .ref (ad 10), .ref (ad 11), .ref (ad 12), .ref (ad 13), .ref (ad 14), .ref (ad 15), .ref (ad 16), .int (zI R_values), .ref (ad 17), .int (zI R_textEnd), .ref (ad 18), .ref (ad 19), .ref (ad 20), .ref (ad 21), .int (zI R_dataEnd), .ref (ad 22), .int (zI R_rowEnd), .ref (ad 23), .ref (ad 24), .int (zI R_rowMany), .ref (ad 25), .ref (ad 26), .ref (ad 27), .ref (ad 28), .int (zI R_waiting), .int (zI R_mostWaiting), .int (zI R_answer), .int (zI R_steps), .int (zI R_memory), .int (zI R_maxSteps), .int (zI R_maxMemory), .int (zI R_fault_474), .int (zI R_result), .int (zI R_now), .int (zI R_nowRow), .int (zI R_come), .ref (ad 29), .ref (ad 30), .int (zI R_puts), .ref (ad 31)])), (ad 8, .inl (cI, 3700, .inl (zA R_valueKinds))), (ad 9, .inl (cL, 3700, .inr (.inl (zB R_valueNumbers)))), (ad 14, .inl (cI, 3700, .inl (zA R_given)))]) X (jrunV X (c_Mod_fail (ad := ad) q475) jF0_k (fun _ _ _ _ => trivial) (jgV own_Mod_sums (by decide +kernel)) rfl rfl rfl pd_Mod_fail (by decide) [0] rfl (by decide) 0 10 rfl rfl rfl rfl (Nat.le_of_ble_eq_true rfl) d_Mod_sums_251 (by decide)) [0] [1, 2, 3] [3, 0, 1, 2] rfl rfl (by decide) (by decide) rfl (by decide) ?_
                refine J_goto (tgt := 307) X d_Mod_sums_254 (by decide) ?_
                cases h
                exact J_ret E ⟨_, rfl, rfl⟩ d_Mod_sums_307 (Nat.le_refl _) (Nat.le_refl _) rfl
              · refine J_iload X d_Mod_sums_244 0 rfl ?_
                refine J_if_eq (pa := none) (pb := some ()) (o := ()) (tgt := 257) X d_Mod_sums_246 (by decide) (by decide) (fun _ h => by cases h) (fun _ _ => ?_)
                refine J_aload_n X d_Mod_sums_249 rfl 1 rfl ?_
                refine J_iconst X d_Mod_sums_250 ?_
                obtain ⟨r476, R_fault_477, q478, h⟩ := wk_b2 h
                refine J_afterI0 (ws' := [(ad 0, .inr (10, [.int (zI R_thrown), .ref (ad 1), .ref (ad 2), .ref (ad 3), .ref (ad 4), .ref (ad 5), .ref (ad 6), .int (zI R_used), .ref (ad 7), .int (zI R_many), .ref (ad 8), .ref (ad 9), .ref (ad 10), .ref (ad 11), .ref (ad 12), .ref (ad 13), .ref (ad 14), .ref (ad 15), .ref (ad 16), .int (zI R_values), .ref (ad 17), .int (zI R_textEnd), .ref (ad 18), .ref (ad 19), .ref (ad 20), .ref (ad 21), .int (zI R_dataEnd), .ref (ad 22), .int (zI R_rowEnd), .ref (ad 23), .ref (ad 24), .int (zI R_rowMany), .ref (ad 25), .ref (ad 26), .ref (ad 27), .ref (ad 28), .int (zI R_waiting), .int (zI R_mostWaiting), .int (zI R_answer), .int (zI R_steps), .int (zI R_memory), .int (zI R_maxSteps), .int (zI R_maxMemory), .int (zI R_fault_477), .int (zI R_result), .int (zI R_now), .int (zI R_nowRow), .int (zI R_come), .ref (ad 29), .ref (ad 30), .int (zI R_puts), .ref (ad 31)])), (ad 8, .inl (cI, 3700, .inl (zA R_valueKinds))), (ad 9, .inl (cL, 3700, .inr (.inl (zB R_valueNumbers)))), (ad 14, .inl (cI, 3700, .inl (zA R_given)))]) X (jrunV X (c_Mod_fail (ad := ad) q478) jF0_k (fun _ _ _ _ => trivial) (jgV own_Mod_sums (by decide +kernel)) rfl rfl rfl pd_Mod_fail (by decide) [0] rfl (by decide) 0 10 rfl rfl rfl rfl (Nat.le_of_ble_eq_true rfl) d_Mod_sums_251 (by decide)) [0] [1, 2, 3] [3, 0, 1, 2] rfl rfl (by decide) (by decide) rfl (by decide) ?_
                refine J_goto (tgt := 307) X d_Mod_sums_254 (by decide) ?_
                cases h
                exact J_ret E ⟨_, rfl, rfl⟩ d_Mod_sums_307 (Nat.le_refl _) (Nat.le_refl _) rfl
            · rcases wk_c h with ⟨c479, h⟩ | ⟨c479, h⟩
              · refine J_tsIn (tgt := 308) X 4 c479 g413 d_Mod_sums_25 (by decide) (by decide) rfl (by decide) ?_
                refine J_lload X d_Mod_sums_308 4 rfl ?_
                refine J_lconst (v := 0) X d_Mod_sums_310 (by decide) ?_
                refine J_lc_ne (tgt := 323) X d_Mod_sums_311 d_Mod_sums_312 (by decide) h (fun c480 h => ?_) (fun c480 h => ?_)
                · refine J_aload_n X d_Mod_sums_323 rfl 1 rfl ?_
                  refine J_iconst X d_Mod_sums_324 ?_
                  refine J_iload X d_Mod_sums_325 0 rfl ?_
                  refine J_if_eq (pa := none) (pb := some ()) (o := ()) (tgt := 334) X d_Mod_sums_327 (by decide) (by decide) (fun _ h => by cases h) (fun _ _ => ?_)
                  refine J_lconst (v := 0) X d_Mod_sums_330 (by decide) ?_
                  refine J_goto (tgt := 380) X d_Mod_sums_331 (by decide) ?_
                  obtain ⟨r481, R_values_482, R_valueKinds_483, R_valueNumbers_484, R_given_485, q486, h⟩ := wk_b5 h
                  refine J_afterI0 (ws' := [(ad 0, .inr (10, [.int (zI R_thrown), .ref (ad 1), .ref (ad 2), .ref (ad 3), .ref (ad 4), .ref (ad 5), .ref (ad 6), .int (zI R_used), .ref (ad 7), .int (zI R_many), .ref (ad 8), .ref (ad 9), .ref (ad 10), .ref (ad 11), .ref (ad 12), .ref (ad 13), .ref (ad 14), .ref (ad 15), .ref (ad 16), .int (zI R_values_482), .ref (ad 17), .int (zI R_textEnd), .ref (ad 18), .ref (ad 19), .ref (ad 20), .ref (ad 21), .int (zI R_dataEnd), .ref (ad 22), .int (zI R_rowEnd), .ref (ad 23), .ref (ad 24), .int (zI R_rowMany), .ref (ad 25), .ref (ad 26), .ref (ad 27), .ref (ad 28), .int (zI R_waiting), .int (zI R_mostWaiting), .int (zI R_answer), .int (zI R_steps), .int (zI R_memory), .int (zI R_maxSteps), .int (zI R_maxMemory), .int (zI R_fault), .int (zI R_result), .int (zI R_now), .int (zI R_nowRow), .int (zI R_come), .ref (ad 29), .ref (ad 30), .int (zI R_puts), .ref (ad 31)])), (ad 8, .inl (cI, 3700, .inl (zA R_valueKinds_483))), (ad 9, .inl (cL, 3700, .inr (.inl (zB R_valueNumbers_484)))), (ad 14, .inl (cI, 3700, .inl (zA R_given_485)))]) X (jrunV X (c_Mod_make (ad := ad) q486) jF0_k (fun _ _ _ _ => trivial) (jgV own_Mod_sums (by decide +kernel)) rfl rfl rfl pd_Mod_make (by decide) [0, 1, 2, 3] rfl (by decide) 0 10 rfl rfl rfl rfl (Nat.le_of_ble_eq_true rfl) d_Mod_sums_380 (by decide)) [0, 1, 2, 3] [] [0, 1, 2, 3] rfl rfl (by decide) (by decide) rfl (by decide) ?_
                  cases h
                  exact J_ret E ⟨_, rfl, rfl⟩ d_Mod_sums_383 (Nat.le_refl _) (Nat.le_refl _) rfl
                · refine J_aload_n X d_Mod_sums_315 rfl 1 rfl ?_
                  refine J_iconst X d_Mod_sums_316 ?_
                  obtain ⟨r487, R_fault_488, q489, h⟩ := wk_b2 h
                  refine J_afterI0 (ws' := [(ad 0, .inr (10, [.int (zI R_thrown), .ref (ad 1), .ref (ad 2), .ref (ad 3), .ref (ad 4), .ref (ad 5), .ref (ad 6), .int (zI R_used), .ref (ad 7), .int (zI R_many), .ref (ad 8), .ref (ad 9), .ref (ad 10), .ref (ad 11), .ref (ad 12), .ref (ad 13), .ref (ad 14), .ref (ad 15), .ref (ad 16), .int (zI R_values), .ref (ad 17), .int (zI R_textEnd), .ref (ad 18), .ref (ad 19), .ref (ad 20), .ref (ad 21), .int (zI R_dataEnd), .ref (ad 22), .int (zI R_rowEnd), .ref (ad 23), .ref (ad 24), .int (zI R_rowMany), .ref (ad 25), .ref (ad 26), .ref (ad 27), .ref (ad 28), .int (zI R_waiting), .int (zI R_mostWaiting), .int (zI R_answer), .int (zI R_steps), .int (zI R_memory), .int (zI R_maxSteps), .int (zI R_maxMemory), .int (zI R_fault_488), .int (zI R_result), .int (zI R_now), .int (zI R_nowRow), .int (zI R_come), .ref (ad 29), .ref (ad 30), .int (zI R_puts), .ref (ad 31)])), (ad 8, .inl (cI, 3700, .inl (zA R_valueKinds))), (ad 9, .inl (cL, 3700, .inr (.inl (zB R_valueNumbers)))), (ad 14, .inl (cI, 3700, .inl (zA R_given)))]) X (jrunV X (c_Mod_fail (ad := ad) q489) jF0_k (fun _ _ _ _ => trivial) (jgV own_Mod_sums (by decide +kernel)) rfl rfl rfl pd_Mod_fail (by decide) [0] rfl (by decide) 0 10 rfl rfl rfl rfl (Nat.le_of_ble_eq_true rfl) d_Mod_sums_317 (by decide)) [0] [1, 2, 3] [3, 0, 1, 2] rfl rfl (by decide) (by decide) rfl (by decide) ?_
                  refine J_goto (tgt := 383) X d_Mod_sums_320 (by decide) ?_
                  cases h
                  exact J_ret E ⟨_, rfl, rfl⟩ d_Mod_sums_383 (Nat.le_refl _) (Nat.le_refl _) rfl
              · rcases wk_c h with ⟨c490, h⟩ | ⟨c490, h⟩
                · refine J_tsIn (tgt := 384) X 5 c490 g413 d_Mod_sums_25 (by decide) (by decide) rfl (by decide) ?_
                  refine J_lload X d_Mod_sums_384 4 rfl ?_
                  refine J_lconst (v := 0) X d_Mod_sums_386 (by decide) ?_
                  refine J_lc_eq (tgt := 396) X d_Mod_sums_387 d_Mod_sums_388 (by decide) h (fun c491 h => ?_) (fun c491 h => ?_)
                  · refine J_aload_n X d_Mod_sums_396 rfl 1 rfl ?_
                    refine J_iconst X d_Mod_sums_397 ?_
                    obtain ⟨r492, R_fault_493, q494, h⟩ := wk_b2 h
                    refine J_afterI0 (ws' := [(ad 0, .inr (10, [.int (zI R_thrown), .ref (ad 1), .ref (ad 2), .ref (ad 3), .ref (ad 4), .ref (ad 5), .ref (ad 6), .int (zI R_used), .ref (ad 7), .int (zI R_many), .ref (ad 8), .ref (ad 9), .ref (ad 10), .ref (ad 11), .ref (ad 12), .ref (ad 13), .ref (ad 14), .ref (ad 15), .ref (ad 16), .int (zI R_values), .ref (ad 17), .int (zI R_textEnd), .ref (ad 18), .ref (ad 19), .ref (ad 20), .ref (ad 21), .int (zI R_dataEnd), .ref (ad 22), .int (zI R_rowEnd), .ref (ad 23), .ref (ad 24), .int (zI R_rowMany), .ref (ad 25), .ref (ad 26), .ref (ad 27), .ref (ad 28), .int (zI R_waiting), .int (zI R_mostWaiting), .int (zI R_answer), .int (zI R_steps), .int (zI R_memory), .int (zI R_maxSteps), .int (zI R_maxMemory), .int (zI R_fault_493), .int (zI R_result), .int (zI R_now), .int (zI R_nowRow), .int (zI R_come), .ref (ad 29), .ref (ad 30), .int (zI R_puts), .ref (ad 31)])), (ad 8, .inl (cI, 3700, .inl (zA R_valueKinds))), (ad 9, .inl (cL, 3700, .inr (.inl (zB R_valueNumbers)))), (ad 14, .inl (cI, 3700, .inl (zA R_given)))]) X (jrunV X (c_Mod_fail (ad := ad) q494) jF0_k (fun _ _ _ _ => trivial) (jgV own_Mod_sums (by decide +kernel)) rfl rfl rfl pd_Mod_fail (by decide) [0] rfl (by decide) 0 10 rfl rfl rfl rfl (Nat.le_of_ble_eq_true rfl) d_Mod_sums_398 (by decide)) [0] [1, 2, 3] [3, 0, 1, 2] rfl rfl (by decide) (by decide) rfl (by decide) ?_
                    refine J_goto (tgt := 413) X d_Mod_sums_401 (by decide) ?_
                    cases h
                    exact J_ret E ⟨_, rfl, rfl⟩ d_Mod_sums_413 (Nat.le_refl _) (Nat.le_refl _) rfl
                  · refine J_iload X d_Mod_sums_391 0 rfl ?_
                    refine J_if_eq (pa := none) (pb := some ()) (o := ()) (tgt := 404) X d_Mod_sums_393 (by decide) (by decide) (fun _ h => by cases h) (fun _ _ => ?_)
                    refine J_aload_n X d_Mod_sums_396 rfl 1 rfl ?_
                    refine J_iconst X d_Mod_sums_397 ?_
                    obtain ⟨r495, R_fault_496, q497, h⟩ := wk_b2 h
                    refine J_afterI0 (ws' := [(ad 0, .inr (10, [.int (zI R_thrown), .ref (ad 1), .ref (ad 2), .ref (ad 3), .ref (ad 4), .ref (ad 5), .ref (ad 6), .int (zI R_used), .ref (ad 7), .int (zI R_many), .ref (ad 8), .ref (ad 9), .ref (ad 10), .ref (ad 11), .ref (ad 12), .ref (ad 13), .ref (ad 14), .ref (ad 15), .ref (ad 16), .int (zI R_values), .ref (ad 17), .int (zI R_textEnd), .ref (ad 18), .ref (ad 19), .ref (ad 20), .ref (ad 21), .int (zI R_dataEnd), .ref (ad 22), .int (zI R_rowEnd), .ref (ad 23), .ref (ad 24), .int (zI R_rowMany), .ref (ad 25), .ref (ad 26), .ref (ad 27), .ref (ad 28), .int (zI R_waiting), .int (zI R_mostWaiting), .int (zI R_answer), .int (zI R_steps), .int (zI R_memory), .int (zI R_maxSteps), .int (zI R_maxMemory), .int (zI R_fault_496), .int (zI R_result), .int (zI R_now), .int (zI R_nowRow), .int (zI R_come), .ref (ad 29), .ref (ad 30), .int (zI R_puts), .ref (ad 31)])), (ad 8, .inl (cI, 3700, .inl (zA R_valueKinds))), (ad 9, .inl (cL, 3700, .inr (.inl (zB R_valueNumbers)))), (ad 14, .inl (cI, 3700, .inl (zA R_given)))]) X (jrunV X (c_Mod_fail (ad := ad) q497) jF0_k (fun _ _ _ _ => trivial) (jgV own_Mod_sums (by decide +kernel)) rfl rfl rfl pd_Mod_fail (by decide) [0] rfl (by decide) 0 10 rfl rfl rfl rfl (Nat.le_of_ble_eq_true rfl) d_Mod_sums_398 (by decide)) [0] [1, 2, 3] [3, 0, 1, 2] rfl rfl (by decide) (by decide) rfl (by decide) ?_
                    refine J_goto (tgt := 413) X d_Mod_sums_401 (by decide) ?_
                    cases h
                    exact J_ret E ⟨_, rfl, rfl⟩ d_Mod_sums_413 (Nat.le_refl _) (Nat.le_refl _) rfl
                · rcases wk_c h with ⟨c498, h⟩ | ⟨c498, h⟩
                  · refine J_tsIn (tgt := 414) X 6 c498 g413 d_Mod_sums_25 (by decide) (by decide) rfl (by decide) ?_
                    refine J_lload X d_Mod_sums_414 4 rfl ?_
                    refine J_lconst (v := 0) X d_Mod_sums_416 (by decide) ?_
                    refine J_lc_ne (tgt := 429) X d_Mod_sums_417 d_Mod_sums_418 (by decide) h (fun c499 h => ?_) (fun c499 h => ?_)
                    · refine J_aload_n X d_Mod_sums_429 rfl 1 rfl ?_
                      refine J_iconst X d_Mod_sums_430 ?_
                      refine J_iload X d_Mod_sums_431 0 rfl ?_
                      refine J_if_eq (pa := none) (pb := some ()) (o := ()) (tgt := 440) X d_Mod_sums_433 (by decide) (by decide) (fun _ h => by cases h) (fun _ _ => ?_)
                      refine J_lconst (v := 0) X d_Mod_sums_436 (by decide) ?_
                      refine J_goto (tgt := 444) X d_Mod_sums_437 (by decide) ?_
                      obtain ⟨r500, R_values_501, R_valueKinds_502, R_valueNumbers_503, R_given_504, q505, h⟩ := wk_b5 h
                      refine J_afterI0 (ws' := [(ad 0, .inr (10, [.int (zI R_thrown), .ref (ad 1), .ref (ad 2), .ref (ad 3), .ref (ad 4), .ref (ad 5), .ref (ad 6), .int (zI R_used), .ref (ad 7), .int (zI R_many), .ref (ad 8), .ref (ad 9), .ref (ad 10), .ref (ad 11), .ref (ad 12), .ref (ad 13), .ref (ad 14), .ref (ad 15), .ref (ad 16), .int (zI R_values_501), .ref (ad 17), .int (zI R_textEnd), .ref (ad 18), .ref (ad 19), .ref (ad 20), .ref (ad 21), .int (zI R_dataEnd), .ref (ad 22), .int (zI R_rowEnd), .ref (ad 23), .ref (ad 24), .int (zI R_rowMany), .ref (ad 25), .ref (ad 26), .ref (ad 27), .ref (ad 28), .int (zI R_waiting), .int (zI R_mostWaiting), .int (zI R_answer), .int (zI R_steps), .int (zI R_memory), .int (zI R_maxSteps), .int (zI R_maxMemory), .int (zI R_fault), .int (zI R_result), .int (zI R_now), .int (zI R_nowRow), .int (zI R_come), .ref (ad 29), .ref (ad 30), .int (zI R_puts), .ref (ad 31)])), (ad 8, .inl (cI, 3700, .inl (zA R_valueKinds_502))), (ad 9, .inl (cL, 3700, .inr (.inl (zB R_valueNumbers_503)))), (ad 14, .inl (cI, 3700, .inl (zA R_given_504)))]) X (jrunV X (c_Mod_make (ad := ad) q505) jF0_k (fun _ _ _ _ => trivial) (jgV own_Mod_sums (by decide +kernel)) rfl rfl rfl pd_Mod_make (by decide) [0, 1, 2, 3] rfl (by decide) 0 10 rfl rfl rfl rfl (Nat.le_of_ble_eq_true rfl) d_Mod_sums_444 (by decide)) [0, 1, 2, 3] [] [0, 1, 2, 3] rfl rfl (by decide) (by decide) rfl (by decide) ?_
                      cases h
                      exact J_ret E ⟨_, rfl, rfl⟩ d_Mod_sums_447 (Nat.le_refl _) (Nat.le_refl _) rfl
                    · refine J_aload_n X d_Mod_sums_421 rfl 1 rfl ?_
                      refine J_iconst X d_Mod_sums_422 ?_
                      obtain ⟨r506, R_fault_507, q508, h⟩ := wk_b2 h
                      refine J_afterI0 (ws' := [(ad 0, .inr (10, [.int (zI R_thrown), .ref (ad 1), .ref (ad 2), .ref (ad 3), .ref (ad 4), .ref (ad 5), .ref (ad 6), .int (zI R_used), .ref (ad 7), .int (zI R_many), .ref (ad 8), .ref (ad 9), .ref (ad 10), .ref (ad 11), .ref (ad 12), .ref (ad 13), .ref (ad 14), .ref (ad 15), .ref (ad 16), .int (zI R_values), .ref (ad 17), .int (zI R_textEnd), .ref (ad 18), .ref (ad 19), .ref (ad 20), .ref (ad 21), .int (zI R_dataEnd), .ref (ad 22), .int (zI R_rowEnd), .ref (ad 23), .ref (ad 24), .int (zI R_rowMany), .ref (ad 25), .ref (ad 26), .ref (ad 27), .ref (ad 28), .int (zI R_waiting), .int (zI R_mostWaiting), .int (zI R_answer), .int (zI R_steps), .int (zI R_memory), .int (zI R_maxSteps), .int (zI R_maxMemory), .int (zI R_fault_507), .int (zI R_result), .int (zI R_now), .int (zI R_nowRow), .int (zI R_come), .ref (ad 29), .ref (ad 30), .int (zI R_puts), .ref (ad 31)])), (ad 8, .inl (cI, 3700, .inl (zA R_valueKinds))), (ad 9, .inl (cL, 3700, .inr (.inl (zB R_valueNumbers)))), (ad 14, .inl (cI, 3700, .inl (zA R_given)))]) X (jrunV X (c_Mod_fail (ad := ad) q508) jF0_k (fun _ _ _ _ => trivial) (jgV own_Mod_sums (by decide +kernel)) rfl rfl rfl pd_Mod_fail (by decide) [0] rfl (by decide) 0 10 rfl rfl rfl rfl (Nat.le_of_ble_eq_true rfl) d_Mod_sums_423 (by decide)) [0] [1, 2, 3] [3, 0, 1, 2] rfl rfl (by decide) (by decide) rfl (by decide) ?_
                      refine J_goto (tgt := 447) X d_Mod_sums_426 (by decide) ?_
                      cases h
                      exact J_ret E ⟨_, rfl, rfl⟩ d_Mod_sums_447 (Nat.le_refl _) (Nat.le_refl _) rfl
                  · rcases wk_c h with ⟨c509, h⟩ | ⟨c509, h⟩
                    · refine J_tsIn (tgt := 448) X 7 c509 g413 d_Mod_sums_25 (by decide) (by decide) rfl (by decide) ?_
                      refine J_aload_n X d_Mod_sums_448 rfl 1 rfl ?_
                      refine J_lload_n X d_Mod_sums_449 rfl 3 rfl ?_
                      refine J_lload X d_Mod_sums_450 4 rfl ?_
                      refine J_lc_ne (tgt := 460) X d_Mod_sums_452 d_Mod_sums_453 (by decide) h (fun c510 h => ?_) (fun c510 h => ?_)
                      · refine J_iconst X d_Mod_sums_460 ?_
                        obtain ⟨r511, R_values_512, R_valueKinds_513, R_valueNumbers_514, R_given_515, q516, h⟩ := wk_b5 h
                        refine J_afterI0 (ws' := [(ad 0, .inr (10, [.int (zI R_thrown), .ref (ad 1), .ref (ad 2), .ref (ad 3), .ref (ad 4), .ref (ad 5), .ref (ad 6), .int (zI R_used), .ref (ad 7), .int (zI R_many), .ref (ad 8), .ref (ad 9), .ref (ad 10), .ref (ad 11), .ref (ad 12), .ref (ad 13), .ref (ad 14), .ref (ad 15), .ref (ad 16), .int (zI R_values_512), .ref (ad 17), .int (zI R_textEnd), .ref (ad 18), .ref (ad 19), .ref (ad 20), .ref (ad 21), .int (zI R_dataEnd), .ref (ad 22), .int (zI R_rowEnd), .ref (ad 23), .ref (ad 24), .int (zI R_rowMany), .ref (ad 25), .ref (ad 26), .ref (ad 27), .ref (ad 28), .int (zI R_waiting), .int (zI R_mostWaiting), .int (zI R_answer), .int (zI R_steps), .int (zI R_memory), .int (zI R_maxSteps), .int (zI R_maxMemory), .int (zI R_fault), .int (zI R_result), .int (zI R_now), .int (zI R_nowRow), .int (zI R_come), .ref (ad 29), .ref (ad 30), .int (zI R_puts), .ref (ad 31)])), (ad 8, .inl (cI, 3700, .inl (zA R_valueKinds_513))), (ad 9, .inl (cL, 3700, .inr (.inl (zB R_valueNumbers_514)))), (ad 14, .inl (cI, 3700, .inl (zA R_given_515)))]) X (jrunV X (c_Mod_truth (ad := ad) q516) jF0_k (fun _ _ _ _ => trivial) (jgV own_Mod_sums (by decide +kernel)) rfl rfl rfl pd_Mod_truth (by decide) [0, 1, 2, 3] rfl (by decide) 0 10 rfl rfl rfl rfl (Nat.le_of_ble_eq_true rfl) d_Mod_sums_461 (by decide)) [0, 1, 2, 3] [] [0, 1, 2, 3] rfl rfl (by decide) (by decide) rfl (by decide) ?_
                        cases h
                        exact J_ret E ⟨_, rfl, rfl⟩ d_Mod_sums_464 (Nat.le_refl _) (Nat.le_refl _) rfl
                      · refine J_iconst X d_Mod_sums_456 ?_
                        refine J_goto (tgt := 461) X d_Mod_sums_457 (by decide) ?_
                        obtain ⟨r517, R_values_518, R_valueKinds_519, R_valueNumbers_520, R_given_521, q522, h⟩ := wk_b5 h
                        refine J_afterI0 (ws' := [(ad 0, .inr (10, [.int (zI R_thrown), .ref (ad 1), .ref (ad 2), .ref (ad 3), .ref (ad 4), .ref (ad 5), .ref (ad 6), .int (zI R_used), .ref (ad 7), .int (zI R_many), .ref (ad 8), .ref (ad 9), .ref (ad 10), .ref (ad 11), .ref (ad 12), .ref (ad 13), .ref (ad 14), .ref (ad 15), .ref (ad 16), .int (zI R_values_518), .ref (ad 17), .int (zI R_textEnd), .ref (ad 18), .ref (ad 19), .ref (ad 20), .ref (ad 21), .int (zI R_dataEnd), .ref (ad 22), .int (zI R_rowEnd), .ref (ad 23), .ref (ad 24), .int (zI R_rowMany), .ref (ad 25), .ref (ad 26), .ref (ad 27), .ref (ad 28), .int (zI R_waiting), .int (zI R_mostWaiting), .int (zI R_answer), .int (zI R_steps), .int (zI R_memory), .int (zI R_maxSteps), .int (zI R_maxMemory), .int (zI R_fault), .int (zI R_result), .int (zI R_now), .int (zI R_nowRow), .int (zI R_come), .ref (ad 29), .ref (ad 30), .int (zI R_puts), .ref (ad 31)])), (ad 8, .inl (cI, 3700, .inl (zA R_valueKinds_519))), (ad 9, .inl (cL, 3700, .inr (.inl (zB R_valueNumbers_520)))), (ad 14, .inl (cI, 3700, .inl (zA R_given_521)))]) X (jrunV X (c_Mod_truth (ad := ad) q522) jF0_k (fun _ _ _ _ => trivial) (jgV own_Mod_sums (by decide +kernel)) rfl rfl rfl pd_Mod_truth (by decide) [0, 1, 2, 3] rfl (by decide) 0 10 rfl rfl rfl rfl (Nat.le_of_ble_eq_true rfl) d_Mod_sums_461 (by decide)) [0, 1, 2, 3] [] [0, 1, 2, 3] rfl rfl (by decide) (by decide) rfl (by decide) ?_
                        cases h
                        exact J_ret E ⟨_, rfl, rfl⟩ d_Mod_sums_464 (Nat.le_refl _) (Nat.le_refl _) rfl
                    · rcases wk_c h with ⟨c523, h⟩ | ⟨c523, h⟩
                      · refine J_tsIn (tgt := 465) X 8 c523 g413 d_Mod_sums_25 (by decide) (by decide) rfl (by decide) ?_
                        refine J_aload_n X d_Mod_sums_465 rfl 1 rfl ?_
                        refine J_lload_n X d_Mod_sums_466 rfl 3 rfl ?_
                        refine J_lload X d_Mod_sums_467 4 rfl ?_
                        refine J_lc_ge (tgt := 477) X d_Mod_sums_469 d_Mod_sums_470 (by decide) h (fun c524 h => ?_) (fun c524 h => ?_)
                        · refine J_iconst X d_Mod_sums_477 ?_
                          obtain ⟨r525, R_values_526, R_valueKinds_527, R_valueNumbers_528, R_given_529, q530, h⟩ := wk_b5 h
                          refine J_afterI0 (ws' := [(ad 0, .inr (10, [.int (zI R_thrown), .ref (ad 1), .ref (ad 2), .ref (ad 3), .ref (ad 4), .ref (ad 5), .ref (ad 6), .int (zI R_used), .ref (ad 7), .int (zI R_many), .ref (ad 8), .ref (ad 9), .ref (ad 10), .ref (ad 11), .ref (ad 12), .ref (ad 13), .ref (ad 14), .ref (ad 15), .ref (ad 16), .int (zI R_values_526), .ref (ad 17), .int (zI R_textEnd), .ref (ad 18), .ref (ad 19), .ref (ad 20), .ref (ad 21), .int (zI R_dataEnd), .ref (ad 22), .int (zI R_rowEnd), .ref (ad 23), .ref (ad 24), .int (zI R_rowMany), .ref (ad 25), .ref (ad 26), .ref (ad 27), .ref (ad 28), .int (zI R_waiting), .int (zI R_mostWaiting), .int (zI R_answer), .int (zI R_steps), .int (zI R_memory), .int (zI R_maxSteps), .int (zI R_maxMemory), .int (zI R_fault), .int (zI R_result), .int (zI R_now), .int (zI R_nowRow), .int (zI R_come), .ref (ad 29), .ref (ad 30), .int (zI R_puts), .ref (ad 31)])), (ad 8, .inl (cI, 3700, .inl (zA R_valueKinds_527))), (ad 9, .inl (cL, 3700, .inr (.inl (zB R_valueNumbers_528)))), (ad 14, .inl (cI, 3700, .inl (zA R_given_529)))]) X (jrunV X (c_Mod_truth (ad := ad) q530) jF0_k (fun _ _ _ _ => trivial) (jgV own_Mod_sums (by decide +kernel)) rfl rfl rfl pd_Mod_truth (by decide) [0, 1, 2, 3] rfl (by decide) 0 10 rfl rfl rfl rfl (Nat.le_of_ble_eq_true rfl) d_Mod_sums_478 (by decide)) [0, 1, 2, 3] [] [0, 1, 2, 3] rfl rfl (by decide) (by decide) rfl (by decide) ?_
                          cases h
                          exact J_ret E ⟨_, rfl, rfl⟩ d_Mod_sums_481 (Nat.le_refl _) (Nat.le_refl _) rfl
                        · refine J_iconst X d_Mod_sums_473 ?_
                          refine J_goto (tgt := 478) X d_Mod_sums_474 (by decide) ?_
                          obtain ⟨r531, R_values_532, R_valueKinds_533, R_valueNumbers_534, R_given_535, q536, h⟩ := wk_b5 h
                          refine J_afterI0 (ws' := [(ad 0, .inr (10, [.int (zI R_thrown), .ref (ad 1), .ref (ad 2), .ref (ad 3), .ref (ad 4), .ref (ad 5), .ref (ad 6), .int (zI R_used), .ref (ad 7), .int (zI R_many), .ref (ad 8), .ref (ad 9), .ref (ad 10), .ref (ad 11), .ref (ad 12), .ref (ad 13), .ref (ad 14), .ref (ad 15), .ref (ad 16), .int (zI R_values_532), .ref (ad 17), .int (zI R_textEnd), .ref (ad 18), .ref (ad 19), .ref (ad 20), .ref (ad 21), .int (zI R_dataEnd), .ref (ad 22), .int (zI R_rowEnd), .ref (ad 23), .ref (ad 24), .int (zI R_rowMany), .ref (ad 25), .ref (ad 26), .ref (ad 27), .ref (ad 28), .int (zI R_waiting), .int (zI R_mostWaiting), .int (zI R_answer), .int (zI R_steps), .int (zI R_memory), .int (zI R_maxSteps), .int (zI R_maxMemory), .int (zI R_fault), .int (zI R_result), .int (zI R_now), .int (zI R_nowRow), .int (zI R_come), .ref (ad 29), .ref (ad 30), .int (zI R_puts), .ref (ad 31)])), (ad 8, .inl (cI, 3700, .inl (zA R_valueKinds_533))), (ad 9, .inl (cL, 3700, .inr (.inl (zB R_valueNumbers_534)))), (ad 14, .inl (cI, 3700, .inl (zA R_given_535)))]) X (jrunV X (c_Mod_truth (ad := ad) q536) jF0_k (fun _ _ _ _ => trivial) (jgV own_Mod_sums (by decide +kernel)) rfl rfl rfl pd_Mod_truth (by decide) [0, 1, 2, 3] rfl (by decide) 0 10 rfl rfl rfl rfl (Nat.le_of_ble_eq_true rfl) d_Mod_sums_478 (by decide)) [0, 1, 2, 3] [] [0, 1, 2, 3] rfl rfl (by decide) (by decide) rfl (by decide) ?_
                          cases h
                          exact J_ret E ⟨_, rfl, rfl⟩ d_Mod_sums_481 (Nat.le_refl _) (Nat.le_refl _) rfl
                      · refine J_tsOut (tgt := 482) X g413 d_Mod_sums_25 (by omega) (by decide) ?_
                        refine J_aload_n X d_Mod_sums_482 rfl 1 rfl ?_
                        refine J_lload_n X d_Mod_sums_483 rfl 3 rfl ?_
                        refine J_lload X d_Mod_sums_484 4 rfl ?_
                        refine J_lc_gt (tgt := 494) X d_Mod_sums_486 d_Mod_sums_487 (by decide) h (fun c537 h => ?_) (fun c537 h => ?_)
                        · refine J_iconst X d_Mod_sums_494 ?_
                          obtain ⟨r538, R_values_539, R_valueKinds_540, R_valueNumbers_541, R_given_542, q543, h⟩ := wk_b5 h
                          refine J_afterI0 (ws' := [(ad 0, .inr (10, [.int (zI R_thrown), .ref (ad 1), .ref (ad 2), .ref (ad 3), .ref (ad 4), .ref (ad 5), .ref (ad 6), .int (zI R_used), .ref (ad 7), .int (zI R_many), .ref (ad 8), .ref (ad 9), .ref (ad 10), .ref (ad 11), .ref (ad 12), .ref (ad 13), .ref (ad 14), .ref (ad 15), .ref (ad 16), .int (zI R_values_539), .ref (ad 17), .int (zI R_textEnd), .ref (ad 18), .ref (ad 19), .ref (ad 20), .ref (ad 21), .int (zI R_dataEnd), .ref (ad 22), .int (zI R_rowEnd), .ref (ad 23), .ref (ad 24), .int (zI R_rowMany), .ref (ad 25), .ref (ad 26), .ref (ad 27), .ref (ad 28), .int (zI R_waiting), .int (zI R_mostWaiting), .int (zI R_answer), .int (zI R_steps), .int (zI R_memory), .int (zI R_maxSteps), .int (zI R_maxMemory), .int (zI R_fault), .int (zI R_result), .int (zI R_now), .int (zI R_nowRow), .int (zI R_come), .ref (ad 29), .ref (ad 30), .int (zI R_puts), .ref (ad 31)])), (ad 8, .inl (cI, 3700, .inl (zA R_valueKinds_540))), (ad 9, .inl (cL, 3700, .inr (.inl (zB R_valueNumbers_541)))), (ad 14, .inl (cI, 3700, .inl (zA R_given_542)))]) X (jrunV X (c_Mod_truth (ad := ad) q543) jF0_k (fun _ _ _ _ => trivial) (jgV own_Mod_sums (by decide +kernel)) rfl rfl rfl pd_Mod_truth (by decide) [0, 1, 2, 3] rfl (by decide) 0 10 rfl rfl rfl rfl (Nat.le_of_ble_eq_true rfl) d_Mod_sums_495 (by decide)) [0, 1, 2, 3] [] [0, 1, 2, 3] rfl rfl (by decide) (by decide) rfl (by decide) ?_
                          cases h
                          exact J_ret E ⟨_, rfl, rfl⟩ d_Mod_sums_498 (Nat.le_refl _) (Nat.le_refl _) rfl
                        · refine J_iconst X d_Mod_sums_490 ?_
                          refine J_goto (tgt := 495) X d_Mod_sums_491 (by decide) ?_
                          obtain ⟨r544, R_values_545, R_valueKinds_546, R_valueNumbers_547, R_given_548, q549, h⟩ := wk_b5 h
                          refine J_afterI0 (ws' := [(ad 0, .inr (10, [.int (zI R_thrown), .ref (ad 1), .ref (ad 2), .ref (ad 3), .ref (ad 4), .ref (ad 5), .ref (ad 6), .int (zI R_used), .ref (ad 7), .int (zI R_many), .ref (ad 8), .ref (ad 9), .ref (ad 10), .ref (ad 11), .ref (ad 12), .ref (ad 13), .ref (ad 14), .ref (ad 15), .ref (ad 16), .int (zI R_values_545), .ref (ad 17), .int (zI R_textEnd), .ref (ad 18), .ref (ad 19), .ref (ad 20), .ref (ad 21), .int (zI R_dataEnd), .ref (ad 22), .int (zI R_rowEnd), .ref (ad 23), .ref (ad 24), .int (zI R_rowMany), .ref (ad 25), .ref (ad 26), .ref (ad 27), .ref (ad 28), .int (zI R_waiting), .int (zI R_mostWaiting), .int (zI R_answer), .int (zI R_steps), .int (zI R_memory), .int (zI R_maxSteps), .int (zI R_maxMemory), .int (zI R_fault), .int (zI R_result), .int (zI R_now), .int (zI R_nowRow), .int (zI R_come), .ref (ad 29), .ref (ad 30), .int (zI R_puts), .ref (ad 31)])), (ad 8, .inl (cI, 3700, .inl (zA R_valueKinds_546))), (ad 9, .inl (cL, 3700, .inr (.inl (zB R_valueNumbers_547)))), (ad 14, .inl (cI, 3700, .inl (zA R_given_548)))]) X (jrunV X (c_Mod_truth (ad := ad) q549) jF0_k (fun _ _ _ _ => trivial) (jgV own_Mod_sums (by decide +kernel)) rfl rfl rfl pd_Mod_truth (by decide) [0, 1, 2, 3] rfl (by decide) 0 10 rfl rfl rfl rfl (Nat.le_of_ble_eq_true rfl) d_Mod_sums_495 (by decide)) [0, 1, 2, 3] [] [0, 1, 2, 3] rfl rfl (by decide) (by decide) rfl (by decide) ?_
                          cases h
                          exact J_ret E ⟨_, rfl, rfl⟩ d_Mod_sums_498 (Nat.le_refl _) (Nat.le_refl _) rfl

