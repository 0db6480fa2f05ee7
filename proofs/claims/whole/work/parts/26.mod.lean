theorem d_Mod_ofLists_0 : decode b_Mod_ofLists 0 = .ok (.iload_n 1, 1) := by decide +kernel
theorem d_Mod_ofLists_1 : decode b_Mod_ofLists 1 = .ok (.bipush 28, 2) := by decide +kernel
theorem d_Mod_ofLists_3 : decode b_Mod_ofLists 3 = .ok (.if_icmp .ne 7, 3) := by decide +kernel
theorem d_Mod_ofLists_6 : decode b_Mod_ofLists 6 = .ok (.iconst 0, 1) := by decide +kernel
theorem d_Mod_ofLists_7 : decode b_Mod_ofLists 7 = .ok (.goto 9, 3) := by decide +kernel
theorem d_Mod_ofLists_10 : decode b_Mod_ofLists 10 = .ok (.aload_n 0, 1) := by decide +kernel
theorem d_Mod_ofLists_11 : decode b_Mod_ofLists 11 = .ok (.getfield 70, 3) := by decide +kernel
theorem d_Mod_ofLists_14 : decode b_Mod_ofLists 14 = .ok (.iload_n 3, 1) := by decide +kernel
theorem d_Mod_ofLists_15 : decode b_Mod_ofLists 15 = .ok (.iaload, 1) := by decide +kernel
theorem d_Mod_ofLists_16 : decode b_Mod_ofLists 16 = .ok (.istore 5, 2) := by decide +kernel
theorem d_Mod_ofLists_18 : decode b_Mod_ofLists 18 = .ok (.iload 5, 2) := by decide +kernel
theorem d_Mod_ofLists_20 : decode b_Mod_ofLists 20 = .ok (.ifCond .eq 9, 3) := by decide +kernel
theorem d_Mod_ofLists_23 : decode b_Mod_ofLists 23 = .ok (.iload_n 1, 1) := by decide +kernel
theorem d_Mod_ofLists_24 : decode b_Mod_ofLists 24 = .ok (.bipush 28, 2) := by decide +kernel
theorem d_Mod_ofLists_26 : decode b_Mod_ofLists 26 = .ok (.if_icmp .ne 7, 3) := by decide +kernel
theorem d_Mod_ofLists_29 : decode b_Mod_ofLists 29 = .ok (.iconst 0, 1) := by decide +kernel
theorem d_Mod_ofLists_30 : decode b_Mod_ofLists 30 = .ok (.goto 10, 3) := by decide +kernel
theorem d_Mod_ofLists_33 : decode b_Mod_ofLists 33 = .ok (.aload_n 0, 1) := by decide +kernel
theorem d_Mod_ofLists_34 : decode b_Mod_ofLists 34 = .ok (.iload_n 3, 1) := by decide +kernel
theorem d_Mod_ofLists_35 : decode b_Mod_ofLists 35 = .ok (.iconst 1, 1) := by decide +kernel
theorem d_Mod_ofLists_36 : decode b_Mod_ofLists 36 = .ok (.iadd, 1) := by decide +kernel
theorem d_Mod_ofLists_37 : decode b_Mod_ofLists 37 = .ok (.invokevirtual 227, 3) := by decide +kernel
theorem d_Mod_ofLists_40 : decode b_Mod_ofLists 40 = .ok (.istore 6, 2) := by decide +kernel
theorem d_Mod_ofLists_42 : decode b_Mod_ofLists 42 = .ok (.iload_n 1, 1) := by decide +kernel
theorem d_Mod_ofLists_43 : decode b_Mod_ofLists 43 = .ok (.tableswitch 274 26 30 #[33, 60, 110, 231, 246], 33) := by decide +kernel
theorem d_Mod_ofLists_76 : decode b_Mod_ofLists 76 = .ok (.iload 5, 2) := by decide +kernel
theorem d_Mod_ofLists_78 : decode b_Mod_ofLists 78 = .ok (.ifCond .ne 9, 3) := by decide +kernel
theorem d_Mod_ofLists_81 : decode b_Mod_ofLists 81 = .ok (.aload_n 0, 1) := by decide +kernel
theorem d_Mod_ofLists_82 : decode b_Mod_ofLists 82 = .ok (.iconst 3, 1) := by decide +kernel
theorem d_Mod_ofLists_83 : decode b_Mod_ofLists 83 = .ok (.invokevirtual 183, 3) := by decide +kernel
theorem d_Mod_ofLists_86 : decode b_Mod_ofLists 86 = .ok (.ireturn, 1) := by decide +kernel
theorem d_Mod_ofLists_87 : decode b_Mod_ofLists 87 = .ok (.aload_n 0, 1) := by decide +kernel
theorem d_Mod_ofLists_88 : decode b_Mod_ofLists 88 = .ok (.iload_n 3, 1) := by decide +kernel
theorem d_Mod_ofLists_89 : decode b_Mod_ofLists 89 = .ok (.iconst 1, 1) := by decide +kernel
theorem d_Mod_ofLists_90 : decode b_Mod_ofLists 90 = .ok (.iadd, 1) := by decide +kernel
theorem d_Mod_ofLists_91 : decode b_Mod_ofLists 91 = .ok (.iload 6, 2) := by decide +kernel
theorem d_Mod_ofLists_93 : decode b_Mod_ofLists 93 = .ok (.invokevirtual 207, 3) := by decide +kernel
theorem d_Mod_ofLists_96 : decode b_Mod_ofLists 96 = .ok (.aload_n 0, 1) := by decide +kernel
theorem d_Mod_ofLists_97 : decode b_Mod_ofLists 97 = .ok (.iload 4, 2) := by decide +kernel
theorem d_Mod_ofLists_99 : decode b_Mod_ofLists 99 = .ok (.invokevirtual 211, 3) := by decide +kernel
theorem d_Mod_ofLists_102 : decode b_Mod_ofLists 102 = .ok (.ireturn, 1) := by decide +kernel
theorem d_Mod_ofLists_103 : decode b_Mod_ofLists 103 = .ok (.iload 5, 2) := by decide +kernel
theorem d_Mod_ofLists_105 : decode b_Mod_ofLists 105 = .ok (.ifCond .ne 9, 3) := by decide +kernel
theorem d_Mod_ofLists_108 : decode b_Mod_ofLists 108 = .ok (.aload_n 0, 1) := by decide +kernel
theorem d_Mod_ofLists_109 : decode b_Mod_ofLists 109 = .ok (.iconst 3, 1) := by decide +kernel
theorem d_Mod_ofLists_110 : decode b_Mod_ofLists 110 = .ok (.invokevirtual 183, 3) := by decide +kernel
theorem d_Mod_ofLists_113 : decode b_Mod_ofLists 113 = .ok (.ireturn, 1) := by decide +kernel
theorem d_Mod_ofLists_114 : decode b_Mod_ofLists 114 = .ok (.aload_n 0, 1) := by decide +kernel
theorem d_Mod_ofLists_115 : decode b_Mod_ofLists 115 = .ok (.iconst 2, 1) := by decide +kernel
theorem d_Mod_ofLists_116 : decode b_Mod_ofLists 116 = .ok (.lconst 0, 1) := by decide +kernel
theorem d_Mod_ofLists_117 : decode b_Mod_ofLists 117 = .ok (.iload 5, 2) := by decide +kernel
theorem d_Mod_ofLists_119 : decode b_Mod_ofLists 119 = .ok (.iconst 1, 1) := by decide +kernel
theorem d_Mod_ofLists_120 : decode b_Mod_ofLists 120 = .ok (.isub, 1) := by decide +kernel
theorem d_Mod_ofLists_121 : decode b_Mod_ofLists 121 = .ok (.iconst 0, 1) := by decide +kernel
theorem d_Mod_ofLists_122 : decode b_Mod_ofLists 122 = .ok (.invokevirtual 154, 3) := by decide +kernel
theorem d_Mod_ofLists_125 : decode b_Mod_ofLists 125 = .ok (.aload_n 0, 1) := by decide +kernel
theorem d_Mod_ofLists_126 : decode b_Mod_ofLists 126 = .ok (.iload_n 3, 1) := by decide +kernel
theorem d_Mod_ofLists_127 : decode b_Mod_ofLists 127 = .ok (.iconst 1, 1) := by decide +kernel
theorem d_Mod_ofLists_128 : decode b_Mod_ofLists 128 = .ok (.iadd, 1) := by decide +kernel
theorem d_Mod_ofLists_129 : decode b_Mod_ofLists 129 = .ok (.iload 6, 2) := by decide +kernel
theorem d_Mod_ofLists_131 : decode b_Mod_ofLists 131 = .ok (.iadd, 1) := by decide +kernel
theorem d_Mod_ofLists_132 : decode b_Mod_ofLists 132 = .ok (.aload_n 0, 1) := by decide +kernel
theorem d_Mod_ofLists_133 : decode b_Mod_ofLists 133 = .ok (.getfield 42, 3) := by decide +kernel
theorem d_Mod_ofLists_136 : decode b_Mod_ofLists 136 = .ok (.iload_n 2, 1) := by decide +kernel
theorem d_Mod_ofLists_137 : decode b_Mod_ofLists 137 = .ok (.iaload, 1) := by decide +kernel
theorem d_Mod_ofLists_138 : decode b_Mod_ofLists 138 = .ok (.iconst 1, 1) := by decide +kernel
theorem d_Mod_ofLists_139 : decode b_Mod_ofLists 139 = .ok (.isub, 1) := by decide +kernel
theorem d_Mod_ofLists_140 : decode b_Mod_ofLists 140 = .ok (.iload 6, 2) := by decide +kernel
theorem d_Mod_ofLists_142 : decode b_Mod_ofLists 142 = .ok (.isub, 1) := by decide +kernel
theorem d_Mod_ofLists_143 : decode b_Mod_ofLists 143 = .ok (.invokevirtual 207, 3) := by decide +kernel
theorem d_Mod_ofLists_146 : decode b_Mod_ofLists 146 = .ok (.aload_n 0, 1) := by decide +kernel
theorem d_Mod_ofLists_147 : decode b_Mod_ofLists 147 = .ok (.iload 4, 2) := by decide +kernel
theorem d_Mod_ofLists_149 : decode b_Mod_ofLists 149 = .ok (.invokevirtual 211, 3) := by decide +kernel
theorem d_Mod_ofLists_152 : decode b_Mod_ofLists 152 = .ok (.ireturn, 1) := by decide +kernel
theorem d_Mod_ofLists_153 : decode b_Mod_ofLists 153 = .ok (.aload_n 0, 1) := by decide +kernel
theorem d_Mod_ofLists_154 : decode b_Mod_ofLists 154 = .ok (.getfield 102, 3) := by decide +kernel
theorem d_Mod_ofLists_157 : decode b_Mod_ofLists 157 = .ok (.iconst 1, 1) := by decide +kernel
theorem d_Mod_ofLists_158 : decode b_Mod_ofLists 158 = .ok (.iaload, 1) := by decide +kernel
theorem d_Mod_ofLists_159 : decode b_Mod_ofLists 159 = .ok (.istore 7, 2) := by decide +kernel
theorem d_Mod_ofLists_161 : decode b_Mod_ofLists 161 = .ok (.aload_n 0, 1) := by decide +kernel
theorem d_Mod_ofLists_162 : decode b_Mod_ofLists 162 = .ok (.getfield 42, 3) := by decide +kernel
theorem d_Mod_ofLists_165 : decode b_Mod_ofLists 165 = .ok (.iload_n 2, 1) := by decide +kernel
theorem d_Mod_ofLists_166 : decode b_Mod_ofLists 166 = .ok (.iaload, 1) := by decide +kernel
theorem d_Mod_ofLists_167 : decode b_Mod_ofLists 167 = .ok (.aload_n 0, 1) := by decide +kernel
theorem d_Mod_ofLists_168 : decode b_Mod_ofLists 168 = .ok (.getfield 42, 3) := by decide +kernel
theorem d_Mod_ofLists_171 : decode b_Mod_ofLists 171 = .ok (.iload 7, 2) := by decide +kernel
theorem d_Mod_ofLists_173 : decode b_Mod_ofLists 173 = .ok (.iaload, 1) := by decide +kernel
theorem d_Mod_ofLists_174 : decode b_Mod_ofLists 174 = .ok (.iadd, 1) := by decide +kernel
theorem d_Mod_ofLists_175 : decode b_Mod_ofLists 175 = .ok (.sipush 200, 3) := by decide +kernel
theorem d_Mod_ofLists_178 : decode b_Mod_ofLists 178 = .ok (.if_icmp .le 9, 3) := by decide +kernel
theorem d_Mod_ofLists_181 : decode b_Mod_ofLists 181 = .ok (.aload_n 0, 1) := by decide +kernel
theorem d_Mod_ofLists_182 : decode b_Mod_ofLists 182 = .ok (.iconst 3, 1) := by decide +kernel
theorem d_Mod_ofLists_183 : decode b_Mod_ofLists 183 = .ok (.invokevirtual 183, 3) := by decide +kernel
theorem d_Mod_ofLists_186 : decode b_Mod_ofLists 186 = .ok (.ireturn, 1) := by decide +kernel
theorem d_Mod_ofLists_187 : decode b_Mod_ofLists 187 = .ok (.aload_n 0, 1) := by decide +kernel
theorem d_Mod_ofLists_188 : decode b_Mod_ofLists 188 = .ok (.iconst 2, 1) := by decide +kernel
theorem d_Mod_ofLists_189 : decode b_Mod_ofLists 189 = .ok (.lconst 0, 1) := by decide +kernel
theorem d_Mod_ofLists_190 : decode b_Mod_ofLists 190 = .ok (.aload_n 0, 1) := by decide +kernel
theorem d_Mod_ofLists_191 : decode b_Mod_ofLists 191 = .ok (.getfield 70, 3) := by decide +kernel
theorem d_Mod_ofLists_194 : decode b_Mod_ofLists 194 = .ok (.aload_n 0, 1) := by decide +kernel
theorem d_Mod_ofLists_195 : decode b_Mod_ofLists 195 = .ok (.getfield 39, 3) := by decide +kernel
theorem d_Mod_ofLists_198 : decode b_Mod_ofLists 198 = .ok (.iload 7, 2) := by decide +kernel
theorem d_Mod_ofLists_200 : decode b_Mod_ofLists 200 = .ok (.iaload, 1) := by decide +kernel
theorem d_Mod_ofLists_201 : decode b_Mod_ofLists 201 = .ok (.iaload, 1) := by decide +kernel
theorem d_Mod_ofLists_202 : decode b_Mod_ofLists 202 = .ok (.iconst 1, 1) := by decide +kernel
theorem d_Mod_ofLists_203 : decode b_Mod_ofLists 203 = .ok (.iadd, 1) := by decide +kernel
theorem d_Mod_ofLists_204 : decode b_Mod_ofLists 204 = .ok (.iconst 0, 1) := by decide +kernel
theorem d_Mod_ofLists_205 : decode b_Mod_ofLists 205 = .ok (.invokevirtual 154, 3) := by decide +kernel
theorem d_Mod_ofLists_208 : decode b_Mod_ofLists 208 = .ok (.aload_n 0, 1) := by decide +kernel
theorem d_Mod_ofLists_209 : decode b_Mod_ofLists 209 = .ok (.iload_n 3, 1) := by decide +kernel
theorem d_Mod_ofLists_210 : decode b_Mod_ofLists 210 = .ok (.aload_n 0, 1) := by decide +kernel
theorem d_Mod_ofLists_211 : decode b_Mod_ofLists 211 = .ok (.getfield 42, 3) := by decide +kernel
theorem d_Mod_ofLists_214 : decode b_Mod_ofLists 214 = .ok (.iload_n 2, 1) := by decide +kernel
theorem d_Mod_ofLists_215 : decode b_Mod_ofLists 215 = .ok (.iaload, 1) := by decide +kernel
theorem d_Mod_ofLists_216 : decode b_Mod_ofLists 216 = .ok (.invokevirtual 207, 3) := by decide +kernel
theorem d_Mod_ofLists_219 : decode b_Mod_ofLists 219 = .ok (.aload_n 0, 1) := by decide +kernel
theorem d_Mod_ofLists_220 : decode b_Mod_ofLists 220 = .ok (.aload_n 0, 1) := by decide +kernel
theorem d_Mod_ofLists_221 : decode b_Mod_ofLists 221 = .ok (.getfield 39, 3) := by decide +kernel
theorem d_Mod_ofLists_224 : decode b_Mod_ofLists 224 = .ok (.iload 7, 2) := by decide +kernel
theorem d_Mod_ofLists_226 : decode b_Mod_ofLists 226 = .ok (.iaload, 1) := by decide +kernel
theorem d_Mod_ofLists_227 : decode b_Mod_ofLists 227 = .ok (.iconst 1, 1) := by decide +kernel
theorem d_Mod_ofLists_228 : decode b_Mod_ofLists 228 = .ok (.iadd, 1) := by decide +kernel
theorem d_Mod_ofLists_229 : decode b_Mod_ofLists 229 = .ok (.aload_n 0, 1) := by decide +kernel
theorem d_Mod_ofLists_230 : decode b_Mod_ofLists 230 = .ok (.getfield 42, 3) := by decide +kernel
theorem d_Mod_ofLists_233 : decode b_Mod_ofLists 233 = .ok (.iload 7, 2) := by decide +kernel
theorem d_Mod_ofLists_235 : decode b_Mod_ofLists 235 = .ok (.iaload, 1) := by decide +kernel
theorem d_Mod_ofLists_236 : decode b_Mod_ofLists 236 = .ok (.iconst 1, 1) := by decide +kernel
theorem d_Mod_ofLists_237 : decode b_Mod_ofLists 237 = .ok (.isub, 1) := by decide +kernel
theorem d_Mod_ofLists_238 : decode b_Mod_ofLists 238 = .ok (.invokevirtual 207, 3) := by decide +kernel
theorem d_Mod_ofLists_241 : decode b_Mod_ofLists 241 = .ok (.aload_n 0, 1) := by decide +kernel
theorem d_Mod_ofLists_242 : decode b_Mod_ofLists 242 = .ok (.iload 4, 2) := by decide +kernel
theorem d_Mod_ofLists_244 : decode b_Mod_ofLists 244 = .ok (.aload_n 0, 1) := by decide +kernel
theorem d_Mod_ofLists_245 : decode b_Mod_ofLists 245 = .ok (.getfield 151, 3) := by decide +kernel
theorem d_Mod_ofLists_248 : decode b_Mod_ofLists 248 = .ok (.iload 4, 2) := by decide +kernel
theorem d_Mod_ofLists_250 : decode b_Mod_ofLists 250 = .ok (.isub, 1) := by decide +kernel
theorem d_Mod_ofLists_251 : decode b_Mod_ofLists 251 = .ok (.invokevirtual 230, 3) := by decide +kernel
theorem d_Mod_ofLists_254 : decode b_Mod_ofLists 254 = .ok (.bipush 12, 2) := by decide +kernel
theorem d_Mod_ofLists_256 : decode b_Mod_ofLists 256 = .ok (.if_icmp .le 11, 3) := by decide +kernel
theorem d_Mod_ofLists_259 : decode b_Mod_ofLists 259 = .ok (.aload_n 0, 1) := by decide +kernel
theorem d_Mod_ofLists_260 : decode b_Mod_ofLists 260 = .ok (.iconst 3, 1) := by decide +kernel
theorem d_Mod_ofLists_261 : decode b_Mod_ofLists 261 = .ok (.invokevirtual 183, 3) := by decide +kernel
theorem d_Mod_ofLists_264 : decode b_Mod_ofLists 264 = .ok (.goto 9, 3) := by decide +kernel
theorem d_Mod_ofLists_267 : decode b_Mod_ofLists 267 = .ok (.aload_n 0, 1) := by decide +kernel
theorem d_Mod_ofLists_268 : decode b_Mod_ofLists 268 = .ok (.iload 4, 2) := by decide +kernel
theorem d_Mod_ofLists_270 : decode b_Mod_ofLists 270 = .ok (.invokevirtual 211, 3) := by decide +kernel
theorem d_Mod_ofLists_273 : decode b_Mod_ofLists 273 = .ok (.ireturn, 1) := by decide +kernel
theorem d_Mod_ofLists_274 : decode b_Mod_ofLists 274 = .ok (.aload_n 0, 1) := by decide +kernel
theorem d_Mod_ofLists_275 : decode b_Mod_ofLists 275 = .ok (.iload 5, 2) := by decide +kernel
theorem d_Mod_ofLists_277 : decode b_Mod_ofLists 277 = .ok (.ifCond .ne 7, 3) := by decide +kernel
theorem d_Mod_ofLists_280 : decode b_Mod_ofLists 280 = .ok (.iconst 1, 1) := by decide +kernel
theorem d_Mod_ofLists_281 : decode b_Mod_ofLists 281 = .ok (.goto 4, 3) := by decide +kernel
theorem d_Mod_ofLists_284 : decode b_Mod_ofLists 284 = .ok (.iconst 0, 1) := by decide +kernel
theorem d_Mod_ofLists_285 : decode b_Mod_ofLists 285 = .ok (.invokevirtual 190, 3) := by decide +kernel
theorem d_Mod_ofLists_288 : decode b_Mod_ofLists 288 = .ok (.ireturn, 1) := by decide +kernel
theorem d_Mod_ofLists_289 : decode b_Mod_ofLists 289 = .ok (.iload 5, 2) := by decide +kernel
theorem d_Mod_ofLists_291 : decode b_Mod_ofLists 291 = .ok (.iconst 2, 1) := by decide +kernel
theorem d_Mod_ofLists_292 : decode b_Mod_ofLists 292 = .ok (.irem, 1) := by decide +kernel
theorem d_Mod_ofLists_293 : decode b_Mod_ofLists 293 = .ok (.iconst 1, 1) := by decide +kernel
theorem d_Mod_ofLists_294 : decode b_Mod_ofLists 294 = .ok (.if_icmp .ne 11, 3) := by decide +kernel
theorem d_Mod_ofLists_297 : decode b_Mod_ofLists 297 = .ok (.aload_n 0, 1) := by decide +kernel
theorem d_Mod_ofLists_298 : decode b_Mod_ofLists 298 = .ok (.iconst 3, 1) := by decide +kernel
theorem d_Mod_ofLists_299 : decode b_Mod_ofLists 299 = .ok (.invokevirtual 183, 3) := by decide +kernel
theorem d_Mod_ofLists_302 : decode b_Mod_ofLists 302 = .ok (.goto 14, 3) := by decide +kernel
theorem d_Mod_ofLists_305 : decode b_Mod_ofLists 305 = .ok (.aload_n 0, 1) := by decide +kernel
theorem d_Mod_ofLists_306 : decode b_Mod_ofLists 306 = .ok (.iconst 1, 1) := by decide +kernel
theorem d_Mod_ofLists_307 : decode b_Mod_ofLists 307 = .ok (.lconst 0, 1) := by decide +kernel
theorem d_Mod_ofLists_308 : decode b_Mod_ofLists 308 = .ok (.iload 5, 2) := by decide +kernel
theorem d_Mod_ofLists_310 : decode b_Mod_ofLists 310 = .ok (.iconst 2, 1) := by decide +kernel
theorem d_Mod_ofLists_311 : decode b_Mod_ofLists 311 = .ok (.idiv, 1) := by decide +kernel
theorem d_Mod_ofLists_312 : decode b_Mod_ofLists 312 = .ok (.iload_n 2, 1) := by decide +kernel
theorem d_Mod_ofLists_313 : decode b_Mod_ofLists 313 = .ok (.invokevirtual 217, 3) := by decide +kernel
theorem d_Mod_ofLists_316 : decode b_Mod_ofLists 316 = .ok (.ireturn, 1) := by decide +kernel
theorem d_Mod_ofLists_317 : decode b_Mod_ofLists 317 = .ok (.aload_n 0, 1) := by decide +kernel
theorem d_Mod_ofLists_318 : decode b_Mod_ofLists 318 = .ok (.iconst 2, 1) := by decide +kernel
theorem d_Mod_ofLists_319 : decode b_Mod_ofLists 319 = .ok (.lconst 0, 1) := by decide +kernel
theorem d_Mod_ofLists_320 : decode b_Mod_ofLists 320 = .ok (.iconst 2, 1) := by decide +kernel
theorem d_Mod_ofLists_321 : decode b_Mod_ofLists 321 = .ok (.iload 5, 2) := by decide +kernel
theorem d_Mod_ofLists_323 : decode b_Mod_ofLists 323 = .ok (.imul, 1) := by decide +kernel
theorem d_Mod_ofLists_324 : decode b_Mod_ofLists 324 = .ok (.iload_n 2, 1) := by decide +kernel
theorem d_Mod_ofLists_325 : decode b_Mod_ofLists 325 = .ok (.invokevirtual 217, 3) := by decide +kernel
theorem d_Mod_ofLists_328 : decode b_Mod_ofLists 328 = .ok (.ireturn, 1) := by decide +kernel
def f_Mod_ofLists (N : Nat) (R_values : Int) (R_dataEnd : Int) (R_fault : Int) (R_valueKinds : Int → Int) (R_valueNumbers : Int → Int) (R_from : Int → Int) (R_length : Int → Int) (R_given : Int → Int) (R_forms : Int → Int) (R_tags : Int → Int) (R_counts : Int → Int) (R_textsAt : Int → Int) (R_of : Int → Int) (R_comes : Int → Int) (p1 : Int) (p2 : Int) (p3 : Int) (p4 : Int) : Option (Int × Int × Int × Int × (Int → Int) × (Int → Int) × (Int → Int) × (Int → Int) × (Int → Int) × (Int → Int) × (Int → Int) × (Int → Int) × (Int → Int) × (Int → Int)) :=
  if jr2 p1 28 = true then (if p1 = 28 then (
   if rI p1 = true then (
    if p1 = 26 then (
     ob2 (f_Mod_fail R_fault 3) (fun r426 R_fault_427 =>
      some (r426, R_values, R_dataEnd, R_fault_427, R_valueKinds, R_valueNumbers, R_from, R_length, R_given, R_forms, R_tags, R_counts, R_textsAt, R_comes))) else (
     if p1 = 27 then (
      ob2 (f_Mod_fail R_fault 3) (fun r430 R_fault_431 =>
       some (r430, R_values, R_dataEnd, R_fault_431, R_valueKinds, R_valueNumbers, R_from, R_length, R_given, R_forms, R_tags, R_counts, R_textsAt, R_comes))) else (
      if p1 = 28 then (
       if jix 1 3 = true then (
        if jix p2 3700 = true then (
         if jix (R_of 1) 3700 = true then (
          if jr2 ((R_length p2) + (R_length (R_of 1))) 200 = true then (if ((R_length p2) + (R_length (R_of 1))) ≤ 200 then (
           if jix (R_of 1) 3700 = true then (
            if jix (R_from (R_of 1)) 5000 = true then (
             ob5 (f_Mod_putData R_dataEnd R_forms R_tags R_counts R_textsAt 2 0 ((R_counts (R_from (R_of 1))) + 1) 0) (fun R_dataEnd_440 R_forms_441 R_tags_442 R_counts_443 R_textsAt_444 =>
              if jix p2 3700 = true then (
               ob5 (f_Mod_copyData N R_dataEnd_440 R_forms_441 R_tags_442 R_counts_443 R_textsAt_444 p3 (R_length p2)) (fun R_dataEnd_447 R_forms_448 R_tags_449 R_counts_450 R_textsAt_451 =>
                if jix (R_of 1) 3700 = true then (
                 if jix (R_of 1) 3700 = true then (
                  ob5 (f_Mod_copyData N R_dataEnd_447 R_forms_448 R_tags_449 R_counts_450 R_textsAt_451 ((R_from (R_of 1)) + 1) ((R_length (R_of 1)) - 1)) (fun R_dataEnd_455 R_forms_456 R_tags_457 R_counts_458 R_textsAt_459 =>
                   ob2 (f_Mod_depthOfData N R_forms_456 R_counts_458 R_comes p4 (R_dataEnd_455 - p4)) (fun r461 R_comes_462 =>
                    if jr2 r461 12 = true then (if r461 ≤ 12 then (
                     ob7 (f_Mod_makeData R_values R_dataEnd_455 R_valueKinds R_valueNumbers R_from R_length R_given p4) (fun r465 R_values_466 R_valueKinds_467 R_valueNumbers_468 R_from_469 R_length_470 R_given_471 =>
                      some (r465, R_values_466, R_dataEnd_455, R_fault, R_valueKinds_467, R_valueNumbers_468, R_from_469, R_length_470, R_given_471, R_forms_456, R_tags_457, R_counts_458, R_textsAt_459, R_comes_462))) else (
                     ob2 (f_Mod_fail R_fault 3) (fun r473 R_fault_474 =>
                      some (r473, R_values, R_dataEnd_455, R_fault_474, R_valueKinds, R_valueNumbers, R_from, R_length, R_given, R_forms_456, R_tags_457, R_counts_458, R_textsAt_459, R_comes_462)))) else none))) else none) else none)) else none)) else none) else none) else (
           ob2 (f_Mod_fail R_fault 3) (fun r476 R_fault_477 =>
            some (r476, R_values, R_dataEnd, R_fault_477, R_valueKinds, R_valueNumbers, R_from, R_length, R_given, R_forms, R_tags, R_counts, R_textsAt, R_comes)))) else none) else none) else none) else none) else (
       if p1 = 29 then (
        ob5 (f_Mod_truth R_values R_valueKinds R_valueNumbers R_given 1) (fun r480 R_values_481 R_valueKinds_482 R_valueNumbers_483 R_given_484 =>
         some (r480, R_values_481, R_dataEnd, R_fault, R_valueKinds_482, R_valueNumbers_483, R_from, R_length, R_given_484, R_forms, R_tags, R_counts, R_textsAt, R_comes))) else (
        if p1 = 30 then (
         if jdv 0 2 = true then (
          if jr2 (0 - (Int.tdiv 0 2) * 2) 1 = true then (if (0 - (Int.tdiv 0 2) * 2) = 1 then (
           ob2 (f_Mod_fail R_fault 3) (fun r503 R_fault_504 =>
            some (r503, R_values, R_dataEnd, R_fault_504, R_valueKinds, R_valueNumbers, R_from, R_length, R_given, R_forms, R_tags, R_counts, R_textsAt, R_comes))) else (
           if jdv 0 2 = true then (
            ob12 (f_Mod_outer N R_values R_dataEnd R_valueKinds R_valueNumbers R_from R_length R_given R_forms R_tags R_counts R_textsAt 1 0 (Int.tdiv 0 2) p2) (fun r490 R_values_491 R_dataEnd_492 R_valueKinds_493 R_valueNumbers_494 R_from_495 R_length_496 R_given_497 R_forms_498 R_tags_499 R_counts_500 R_textsAt_501 =>
             some (r490, R_values_491, R_dataEnd_492, R_fault, R_valueKinds_493, R_valueNumbers_494, R_from_495, R_length_496, R_given_497, R_forms_498, R_tags_499, R_counts_500, R_textsAt_501, R_comes))) else none)) else none) else none) else (
         ob12 (f_Mod_outer N R_values R_dataEnd R_valueKinds R_valueNumbers R_from R_length R_given R_forms R_tags R_counts R_textsAt 2 0 (2 * 0) p2) (fun r506 R_values_507 R_dataEnd_508 R_valueKinds_509 R_valueNumbers_510 R_from_511 R_length_512 R_given_513 R_forms_514 R_tags_515 R_counts_516 R_textsAt_517 =>
          some (r506, R_values_507, R_dataEnd_508, R_fault, R_valueKinds_509, R_valueNumbers_510, R_from_511, R_length_512, R_given_513, R_forms_514, R_tags_515, R_counts_516, R_textsAt_517, R_comes)))))))) else none) else (
   if jix p3 5000 = true then (
    if rI (R_counts p3) = true then (if (R_counts p3) = 0 then (
     if rI p1 = true then (
      if p1 = 26 then (
       if rI (R_counts p3) = true then (if (R_counts p3) = 0 then (
        ob2 (f_Mod_fail R_fault 3) (fun r21 R_fault_22 =>
         some (r21, R_values, R_dataEnd, R_fault_22, R_valueKinds, R_valueNumbers, R_from, R_length, R_given, R_forms, R_tags, R_counts, R_textsAt, R_comes))) else (
        ob5 (f_Mod_copyData N R_dataEnd R_forms R_tags R_counts R_textsAt (p3 + 1) 0) (fun R_dataEnd_7 R_forms_8 R_tags_9 R_counts_10 R_textsAt_11 =>
         ob7 (f_Mod_makeData R_values R_dataEnd_7 R_valueKinds R_valueNumbers R_from R_length R_given p4) (fun r13 R_values_14 R_valueKinds_15 R_valueNumbers_16 R_from_17 R_length_18 R_given_19 =>
          some (r13, R_values_14, R_dataEnd_7, R_fault, R_valueKinds_15, R_valueNumbers_16, R_from_17, R_length_18, R_given_19, R_forms_8, R_tags_9, R_counts_10, R_textsAt_11, R_comes))))) else none) else (
       if p1 = 27 then (
        if rI (R_counts p3) = true then (if (R_counts p3) = 0 then (
         ob2 (f_Mod_fail R_fault 3) (fun r47 R_fault_48 =>
          some (r47, R_values, R_dataEnd, R_fault_48, R_valueKinds, R_valueNumbers, R_from, R_length, R_given, R_forms, R_tags, R_counts, R_textsAt, R_comes))) else (
         ob5 (f_Mod_putData R_dataEnd R_forms R_tags R_counts R_textsAt 2 0 ((R_counts p3) - 1) 0) (fun R_dataEnd_26 R_forms_27 R_tags_28 R_counts_29 R_textsAt_30 =>
          if jix p2 3700 = true then (
           ob5 (f_Mod_copyData N R_dataEnd_26 R_forms_27 R_tags_28 R_counts_29 R_textsAt_30 ((p3 + 1) + 0) (((R_length p2) - 1) - 0)) (fun R_dataEnd_33 R_forms_34 R_tags_35 R_counts_36 R_textsAt_37 =>
            ob7 (f_Mod_makeData R_values R_dataEnd_33 R_valueKinds R_valueNumbers R_from R_length R_given p4) (fun r39 R_values_40 R_valueKinds_41 R_valueNumbers_42 R_from_43 R_length_44 R_given_45 =>
             some (r39, R_values_40, R_dataEnd_33, R_fault, R_valueKinds_41, R_valueNumbers_42, R_from_43, R_length_44, R_given_45, R_forms_34, R_tags_35, R_counts_36, R_textsAt_37, R_comes)))) else none))) else none) else (
        if p1 = 28 then (
         if jix 1 3 = true then (
          if jix p2 3700 = true then (
           if jix (R_of 1) 3700 = true then (
            if jr2 ((R_length p2) + (R_length (R_of 1))) 200 = true then (if ((R_length p2) + (R_length (R_of 1))) ≤ 200 then (
             if jix (R_of 1) 3700 = true then (
              if jix (R_from (R_of 1)) 5000 = true then (
               ob5 (f_Mod_putData R_dataEnd R_forms R_tags R_counts R_textsAt 2 0 ((R_counts (R_from (R_of 1))) + 1) 0) (fun R_dataEnd_57 R_forms_58 R_tags_59 R_counts_60 R_textsAt_61 =>
                if jix p2 3700 = true then (
                 ob5 (f_Mod_copyData N R_dataEnd_57 R_forms_58 R_tags_59 R_counts_60 R_textsAt_61 p3 (R_length p2)) (fun R_dataEnd_64 R_forms_65 R_tags_66 R_counts_67 R_textsAt_68 =>
                  if jix (R_of 1) 3700 = true then (
                   if jix (R_of 1) 3700 = true then (
                    ob5 (f_Mod_copyData N R_dataEnd_64 R_forms_65 R_tags_66 R_counts_67 R_textsAt_68 ((R_from (R_of 1)) + 1) ((R_length (R_of 1)) - 1)) (fun R_dataEnd_72 R_forms_73 R_tags_74 R_counts_75 R_textsAt_76 =>
                     ob2 (f_Mod_depthOfData N R_forms_73 R_counts_75 R_comes p4 (R_dataEnd_72 - p4)) (fun r78 R_comes_79 =>
                      if jr2 r78 12 = true then (if r78 ≤ 12 then (
                       ob7 (f_Mod_makeData R_values R_dataEnd_72 R_valueKinds R_valueNumbers R_from R_length R_given p4) (fun r82 R_values_83 R_valueKinds_84 R_valueNumbers_85 R_from_86 R_length_87 R_given_88 =>
                        some (r82, R_values_83, R_dataEnd_72, R_fault, R_valueKinds_84, R_valueNumbers_85, R_from_86, R_length_87, R_given_88, R_forms_73, R_tags_74, R_counts_75, R_textsAt_76, R_comes_79))) else (
                       ob2 (f_Mod_fail R_fault 3) (fun r90 R_fault_91 =>
                        some (r90, R_values, R_dataEnd_72, R_fault_91, R_valueKinds, R_valueNumbers, R_from, R_length, R_given, R_forms_73, R_tags_74, R_counts_75, R_textsAt_76, R_comes_79)))) else none))) else none) else none)) else none)) else none) else none) else (
             ob2 (f_Mod_fail R_fault 3) (fun r93 R_fault_94 =>
              some (r93, R_values, R_dataEnd, R_fault_94, R_valueKinds, R_valueNumbers, R_from, R_length, R_given, R_forms, R_tags, R_counts, R_textsAt, R_comes)))) else none) else none) else none) else none) else (
         if p1 = 29 then (
          if rI (R_counts p3) = true then (if (R_counts p3) = 0 then (
           ob5 (f_Mod_truth R_values R_valueKinds R_valueNumbers R_given 1) (fun r104 R_values_105 R_valueKinds_106 R_valueNumbers_107 R_given_108 =>
            some (r104, R_values_105, R_dataEnd, R_fault, R_valueKinds_106, R_valueNumbers_107, R_from, R_length, R_given_108, R_forms, R_tags, R_counts, R_textsAt, R_comes))) else (
           ob5 (f_Mod_truth R_values R_valueKinds R_valueNumbers R_given 0) (fun r98 R_values_99 R_valueKinds_100 R_valueNumbers_101 R_given_102 =>
            some (r98, R_values_99, R_dataEnd, R_fault, R_valueKinds_100, R_valueNumbers_101, R_from, R_length, R_given_102, R_forms, R_tags, R_counts, R_textsAt, R_comes)))) else none) else (
          if p1 = 30 then (
           if jdv (R_counts p3) 2 = true then (
            if jr2 ((R_counts p3) - (Int.tdiv (R_counts p3) 2) * 2) 1 = true then (if ((R_counts p3) - (Int.tdiv (R_counts p3) 2) * 2) = 1 then (
             ob2 (f_Mod_fail R_fault 3) (fun r127 R_fault_128 =>
              some (r127, R_values, R_dataEnd, R_fault_128, R_valueKinds, R_valueNumbers, R_from, R_length, R_given, R_forms, R_tags, R_counts, R_textsAt, R_comes))) else (
             if jdv (R_counts p3) 2 = true then (
              ob12 (f_Mod_outer N R_values R_dataEnd R_valueKinds R_valueNumbers R_from R_length R_given R_forms R_tags R_counts R_textsAt 1 0 (Int.tdiv (R_counts p3) 2) p2) (fun r114 R_values_115 R_dataEnd_116 R_valueKinds_117 R_valueNumbers_118 R_from_119 R_length_120 R_given_121 R_forms_122 R_tags_123 R_counts_124 R_textsAt_125 =>
               some (r114, R_values_115, R_dataEnd_116, R_fault, R_valueKinds_117, R_valueNumbers_118, R_from_119, R_length_120, R_given_121, R_forms_122, R_tags_123, R_counts_124, R_textsAt_125, R_comes))) else none)) else none) else none) else (
           ob12 (f_Mod_outer N R_values R_dataEnd R_valueKinds R_valueNumbers R_from R_length R_given R_forms R_tags R_counts R_textsAt 2 0 (2 * (R_counts p3)) p2) (fun r130 R_values_131 R_dataEnd_132 R_valueKinds_133 R_valueNumbers_134 R_from_135 R_length_136 R_given_137 R_forms_138 R_tags_139 R_counts_140 R_textsAt_141 =>
            some (r130, R_values_131, R_dataEnd_132, R_fault, R_valueKinds_133, R_valueNumbers_134, R_from_135, R_length_136, R_given_137, R_forms_138, R_tags_139, R_counts_140, R_textsAt_141, R_comes)))))))) else none) else (
     if jr2 p1 28 = true then (if p1 = 28 then (
      if rI p1 = true then (
       if p1 = 26 then (
        if rI (R_counts p3) = true then (if (R_counts p3) = 0 then (
         ob2 (f_Mod_fail R_fault 3) (fun r302 R_fault_303 =>
          some (r302, R_values, R_dataEnd, R_fault_303, R_valueKinds, R_valueNumbers, R_from, R_length, R_given, R_forms, R_tags, R_counts, R_textsAt, R_comes))) else (
         ob5 (f_Mod_copyData N R_dataEnd R_forms R_tags R_counts R_textsAt (p3 + 1) 0) (fun R_dataEnd_288 R_forms_289 R_tags_290 R_counts_291 R_textsAt_292 =>
          ob7 (f_Mod_makeData R_values R_dataEnd_288 R_valueKinds R_valueNumbers R_from R_length R_given p4) (fun r294 R_values_295 R_valueKinds_296 R_valueNumbers_297 R_from_298 R_length_299 R_given_300 =>
           some (r294, R_values_295, R_dataEnd_288, R_fault, R_valueKinds_296, R_valueNumbers_297, R_from_298, R_length_299, R_given_300, R_forms_289, R_tags_290, R_counts_291, R_textsAt_292, R_comes))))) else none) else (
        if p1 = 27 then (
         if rI (R_counts p3) = true then (if (R_counts p3) = 0 then (
          ob2 (f_Mod_fail R_fault 3) (fun r328 R_fault_329 =>
           some (r328, R_values, R_dataEnd, R_fault_329, R_valueKinds, R_valueNumbers, R_from, R_length, R_given, R_forms, R_tags, R_counts, R_textsAt, R_comes))) else (
          ob5 (f_Mod_putData R_dataEnd R_forms R_tags R_counts R_textsAt 2 0 ((R_counts p3) - 1) 0) (fun R_dataEnd_307 R_forms_308 R_tags_309 R_counts_310 R_textsAt_311 =>
           if jix p2 3700 = true then (
            ob5 (f_Mod_copyData N R_dataEnd_307 R_forms_308 R_tags_309 R_counts_310 R_textsAt_311 ((p3 + 1) + 0) (((R_length p2) - 1) - 0)) (fun R_dataEnd_314 R_forms_315 R_tags_316 R_counts_317 R_textsAt_318 =>
             ob7 (f_Mod_makeData R_values R_dataEnd_314 R_valueKinds R_valueNumbers R_from R_length R_given p4) (fun r320 R_values_321 R_valueKinds_322 R_valueNumbers_323 R_from_324 R_length_325 R_given_326 =>
              some (r320, R_values_321, R_dataEnd_314, R_fault, R_valueKinds_322, R_valueNumbers_323, R_from_324, R_length_325, R_given_326, R_forms_315, R_tags_316, R_counts_317, R_textsAt_318, R_comes)))) else none))) else none) else (
         if p1 = 28 then (
          if jix 1 3 = true then (
           if jix p2 3700 = true then (
            if jix (R_of 1) 3700 = true then (
             if jr2 ((R_length p2) + (R_length (R_of 1))) 200 = true then (if ((R_length p2) + (R_length (R_of 1))) ≤ 200 then (
              if jix (R_of 1) 3700 = true then (
               if jix (R_from (R_of 1)) 5000 = true then (
                ob5 (f_Mod_putData R_dataEnd R_forms R_tags R_counts R_textsAt 2 0 ((R_counts (R_from (R_of 1))) + 1) 0) (fun R_dataEnd_338 R_forms_339 R_tags_340 R_counts_341 R_textsAt_342 =>
                 if jix p2 3700 = true then (
                  ob5 (f_Mod_copyData N R_dataEnd_338 R_forms_339 R_tags_340 R_counts_341 R_textsAt_342 p3 (R_length p2)) (fun R_dataEnd_345 R_forms_346 R_tags_347 R_counts_348 R_textsAt_349 =>
                   if jix (R_of 1) 3700 = true then (
                    if jix (R_of 1) 3700 = true then (
                     ob5 (f_Mod_copyData N R_dataEnd_345 R_forms_346 R_tags_347 R_counts_348 R_textsAt_349 ((R_from (R_of 1)) + 1) ((R_length (R_of 1)) - 1)) (fun R_dataEnd_353 R_forms_354 R_tags_355 R_counts_356 R_textsAt_357 =>
                      ob2 (f_Mod_depthOfData N R_forms_354 R_counts_356 R_comes p4 (R_dataEnd_353 - p4)) (fun r359 R_comes_360 =>
                       if jr2 r359 12 = true then (if r359 ≤ 12 then (
                        ob7 (f_Mod_makeData R_values R_dataEnd_353 R_valueKinds R_valueNumbers R_from R_length R_given p4) (fun r363 R_values_364 R_valueKinds_365 R_valueNumbers_366 R_from_367 R_length_368 R_given_369 =>
                         some (r363, R_values_364, R_dataEnd_353, R_fault, R_valueKinds_365, R_valueNumbers_366, R_from_367, R_length_368, R_given_369, R_forms_354, R_tags_355, R_counts_356, R_textsAt_357, R_comes_360))) else (
                        ob2 (f_Mod_fail R_fault 3) (fun r371 R_fault_372 =>
                         some (r371, R_values, R_dataEnd_353, R_fault_372, R_valueKinds, R_valueNumbers, R_from, R_length, R_given, R_forms_354, R_tags_355, R_counts_356, R_textsAt_357, R_comes_360)))) else none))) else none) else none)) else none)) else none) else none) else (
              ob2 (f_Mod_fail R_fault 3) (fun r374 R_fault_375 =>
               some (r374, R_values, R_dataEnd, R_fault_375, R_valueKinds, R_valueNumbers, R_from, R_length, R_given, R_forms, R_tags, R_counts, R_textsAt, R_comes)))) else none) else none) else none) else none) else (
          if p1 = 29 then (
           if rI (R_counts p3) = true then (if (R_counts p3) = 0 then (
            ob5 (f_Mod_truth R_values R_valueKinds R_valueNumbers R_given 1) (fun r385 R_values_386 R_valueKinds_387 R_valueNumbers_388 R_given_389 =>
             some (r385, R_values_386, R_dataEnd, R_fault, R_valueKinds_387, R_valueNumbers_388, R_from, R_length, R_given_389, R_forms, R_tags, R_counts, R_textsAt, R_comes))) else (
            ob5 (f_Mod_truth R_values R_valueKinds R_valueNumbers R_given 0) (fun r379 R_values_380 R_valueKinds_381 R_valueNumbers_382 R_given_383 =>
             some (r379, R_values_380, R_dataEnd, R_fault, R_valueKinds_381, R_valueNumbers_382, R_from, R_length, R_given_383, R_forms, R_tags, R_counts, R_textsAt, R_comes)))) else none) else (
           if p1 = 30 then (
            if jdv (R_counts p3) 2 = true then (
             if jr2 ((R_counts p3) - (Int.tdiv (R_counts p3) 2) * 2) 1 = true then (if ((R_counts p3) - (Int.tdiv (R_counts p3) 2) * 2) = 1 then (
              ob2 (f_Mod_fail R_fault 3) (fun r408 R_fault_409 =>
               some (r408, R_values, R_dataEnd, R_fault_409, R_valueKinds, R_valueNumbers, R_from, R_length, R_given, R_forms, R_tags, R_counts, R_textsAt, R_comes))) else (
              if jdv (R_counts p3) 2 = true then (
               ob12 (f_Mod_outer N R_values R_dataEnd R_valueKinds R_valueNumbers R_from R_length R_given R_forms R_tags R_counts R_textsAt 1 0 (Int.tdiv (R_counts p3) 2) p2) (fun r395 R_values_396 R_dataEnd_397 R_valueKinds_398 R_valueNumbers_399 R_from_400 R_length_401 R_given_402 R_forms_403 R_tags_404 R_counts_405 R_textsAt_406 =>
                some (r395, R_values_396, R_dataEnd_397, R_fault, R_valueKinds_398, R_valueNumbers_399, R_from_400, R_length_401, R_given_402, R_forms_403, R_tags_404, R_counts_405, R_textsAt_406, R_comes))) else none)) else none) else none) else (
            ob12 (f_Mod_outer N R_values R_dataEnd R_valueKinds R_valueNumbers R_from R_length R_given R_forms R_tags R_counts R_textsAt 2 0 (2 * (R_counts p3)) p2) (fun r411 R_values_412 R_dataEnd_413 R_valueKinds_414 R_valueNumbers_415 R_from_416 R_length_417 R_given_418 R_forms_419 R_tags_420 R_counts_421 R_textsAt_422 =>
             some (r411, R_values_412, R_dataEnd_413, R_fault, R_valueKinds_414, R_valueNumbers_415, R_from_416, R_length_417, R_given_418, R_forms_419, R_tags_420, R_counts_421, R_textsAt_422, R_comes)))))))) else none) else (
      Option.bind (f_Mod_sizeOfData N R_forms R_counts (p3 + 1)) (fun r144 =>
       if rI p1 = true then (
        if p1 = 26 then (
         if rI (R_counts p3) = true then (if (R_counts p3) = 0 then (
          ob2 (f_Mod_fail R_fault 3) (fun r163 R_fault_164 =>
           some (r163, R_values, R_dataEnd, R_fault_164, R_valueKinds, R_valueNumbers, R_from, R_length, R_given, R_forms, R_tags, R_counts, R_textsAt, R_comes))) else (
          ob5 (f_Mod_copyData N R_dataEnd R_forms R_tags R_counts R_textsAt (p3 + 1) r144) (fun R_dataEnd_149 R_forms_150 R_tags_151 R_counts_152 R_textsAt_153 =>
           ob7 (f_Mod_makeData R_values R_dataEnd_149 R_valueKinds R_valueNumbers R_from R_length R_given p4) (fun r155 R_values_156 R_valueKinds_157 R_valueNumbers_158 R_from_159 R_length_160 R_given_161 =>
            some (r155, R_values_156, R_dataEnd_149, R_fault, R_valueKinds_157, R_valueNumbers_158, R_from_159, R_length_160, R_given_161, R_forms_150, R_tags_151, R_counts_152, R_textsAt_153, R_comes))))) else none) else (
         if p1 = 27 then (
          if rI (R_counts p3) = true then (if (R_counts p3) = 0 then (
           ob2 (f_Mod_fail R_fault 3) (fun r189 R_fault_190 =>
            some (r189, R_values, R_dataEnd, R_fault_190, R_valueKinds, R_valueNumbers, R_from, R_length, R_given, R_forms, R_tags, R_counts, R_textsAt, R_comes))) else (
           ob5 (f_Mod_putData R_dataEnd R_forms R_tags R_counts R_textsAt 2 0 ((R_counts p3) - 1) 0) (fun R_dataEnd_168 R_forms_169 R_tags_170 R_counts_171 R_textsAt_172 =>
            if jix p2 3700 = true then (
             ob5 (f_Mod_copyData N R_dataEnd_168 R_forms_169 R_tags_170 R_counts_171 R_textsAt_172 ((p3 + 1) + r144) (((R_length p2) - 1) - r144)) (fun R_dataEnd_175 R_forms_176 R_tags_177 R_counts_178 R_textsAt_179 =>
              ob7 (f_Mod_makeData R_values R_dataEnd_175 R_valueKinds R_valueNumbers R_from R_length R_given p4) (fun r181 R_values_182 R_valueKinds_183 R_valueNumbers_184 R_from_185 R_length_186 R_given_187 =>
               some (r181, R_values_182, R_dataEnd_175, R_fault, R_valueKinds_183, R_valueNumbers_184, R_from_185, R_length_186, R_given_187, R_forms_176, R_tags_177, R_counts_178, R_textsAt_179, R_comes)))) else none))) else none) else (
          if p1 = 28 then (
           if jix 1 3 = true then (
            if jix p2 3700 = true then (
             if jix (R_of 1) 3700 = true then (
              if jr2 ((R_length p2) + (R_length (R_of 1))) 200 = true then (if ((R_length p2) + (R_length (R_of 1))) ≤ 200 then (
               if jix (R_of 1) 3700 = true then (
                if jix (R_from (R_of 1)) 5000 = true then (
                 ob5 (f_Mod_putData R_dataEnd R_forms R_tags R_counts R_textsAt 2 0 ((R_counts (R_from (R_of 1))) + 1) 0) (fun R_dataEnd_199 R_forms_200 R_tags_201 R_counts_202 R_textsAt_203 =>
                  if jix p2 3700 = true then (
                   ob5 (f_Mod_copyData N R_dataEnd_199 R_forms_200 R_tags_201 R_counts_202 R_textsAt_203 p3 (R_length p2)) (fun R_dataEnd_206 R_forms_207 R_tags_208 R_counts_209 R_textsAt_210 =>
                    if jix (R_of 1) 3700 = true then (
                     if jix (R_of 1) 3700 = true then (
                      ob5 (f_Mod_copyData N R_dataEnd_206 R_forms_207 R_tags_208 R_counts_209 R_textsAt_210 ((R_from (R_of 1)) + 1) ((R_length (R_of 1)) - 1)) (fun R_dataEnd_214 R_forms_215 R_tags_216 R_counts_217 R_textsAt_218 =>
                       ob2 (f_Mod_depthOfData N R_forms_215 R_counts_217 R_comes p4 (R_dataEnd_214 - p4)) (fun r220 R_comes_221 =>
                        if jr2 r220 12 = true then (if r220 ≤ 12 then (
                         ob7 (f_Mod_makeData R_values R_dataEnd_214 R_valueKinds R_valueNumbers R_from R_length R_given p4) (fun r224 R_values_225 R_valueKinds_226 R_valueNumbers_227 R_from_228 R_length_229 R_given_230 =>
                          some (r224, R_values_225, R_dataEnd_214, R_fault, R_valueKinds_226, R_valueNumbers_227, R_from_228, R_length_229, R_given_230, R_forms_215, R_tags_216, R_counts_217, R_textsAt_218, R_comes_221))) else (
                         ob2 (f_Mod_fail R_fault 3) (fun r232 R_fault_233 =>
                          some (r232, R_values, R_dataEnd_214, R_fault_233, R_valueKinds, R_valueNumbers, R_from, R_length, R_given, R_forms_215, R_tags_216, R_counts_217, R_textsAt_218, R_comes_221)))) else none))) else none) else none)) else none)) else none) else none) else (
               ob2 (f_Mod_fail R_fault 3) (fun r235 R_fault_236 =>
                some (r235, R_values, R_dataEnd, R_fault_236, R_valueKinds, R_valueNumbers, R_from, R_length, R_given, R_forms, R_tags, R_counts, R_textsAt, R_comes)))) else none) else none) else none) else none) else (
           if p1 = 29 then (
            if rI (R_counts p3) = true then (if (R_counts p3) = 0 then (
             ob5 (f_Mod_truth R_values R_valueKinds R_valueNumbers R_given 1) (fun r246 R_values_247 R_valueKinds_248 R_valueNumbers_249 R_given_250 =>
              some (r246, R_values_247, R_dataEnd, R_fault, R_valueKinds_248, R_valueNumbers_249, R_from, R_length, R_given_250, R_forms, R_tags, R_counts, R_textsAt, R_comes))) else (
             ob5 (f_Mod_truth R_values R_valueKinds R_valueNumbers R_given 0) (fun r240 R_values_241 R_valueKinds_242 R_valueNumbers_243 R_given_244 =>
              some (r240, R_values_241, R_dataEnd, R_fault, R_valueKinds_242, R_valueNumbers_243, R_from, R_length, R_given_244, R_forms, R_tags, R_counts, R_textsAt, R_comes)))) else none) else (
            if p1 = 30 then (
             if jdv (R_counts p3) 2 = true then (
              if jr2 ((R_counts p3) - (Int.tdiv (R_counts p3) 2) * 2) 1 = true then (if ((R_counts p3) - (Int.tdiv (R_counts p3) 2) * 2) = 1 then (
               ob2 (f_Mod_fail R_fault 3) (fun r269 R_fault_270 =>
                some (r269, R_values, R_dataEnd, R_fault_270, R_valueKinds, R_valueNumbers, R_from, R_length, R_given, R_forms, R_tags, R_counts, R_textsAt, R_comes))) else (
               if jdv (R_counts p3) 2 = true then (
                ob12 (f_Mod_outer N R_values R_dataEnd R_valueKinds R_valueNumbers R_from R_length R_given R_forms R_tags R_counts R_textsAt 1 0 (Int.tdiv (R_counts p3) 2) p2) (fun r256 R_values_257 R_dataEnd_258 R_valueKinds_259 R_valueNumbers_260 R_from_261 R_length_262 R_given_263 R_forms_264 R_tags_265 R_counts_266 R_textsAt_267 =>
                 some (r256, R_values_257, R_dataEnd_258, R_fault, R_valueKinds_259, R_valueNumbers_260, R_from_261, R_length_262, R_given_263, R_forms_264, R_tags_265, R_counts_266, R_textsAt_267, R_comes))) else none)) else none) else none) else (
             ob12 (f_Mod_outer N R_values R_dataEnd R_valueKinds R_valueNumbers R_from R_length R_given R_forms R_tags R_counts R_textsAt 2 0 (2 * (R_counts p3)) p2) (fun r272 R_values_273 R_dataEnd_274 R_valueKinds_275 R_valueNumbers_276 R_from_277 R_length_278 R_given_279 R_forms_280 R_tags_281 R_counts_282 R_textsAt_283 =>
              some (r272, R_values_273, R_dataEnd_274, R_fault, R_valueKinds_275, R_valueNumbers_276, R_from_277, R_length_278, R_given_279, R_forms_280, R_tags_281, R_counts_282, R_textsAt_283, R_comes)))))))) else none))) else none)) else none) else none)) else none
set_option maxHeartbeats 4000000 in
set_option maxRecDepth 100000 in
theorem c_Mod_ofLists {l : Launch} {D : va_G} {cI cL cB : ClassId} {ad : Nat → Nat} {N : Nat} {R_thrown : Int} {R_used : Int} {R_many : Int} {R_values : Int} {R_textEnd : Int} {R_dataEnd : Int} {R_rowEnd : Int} {R_rowMany : Int} {R_waiting : Int} {R_mostWaiting : Int} {R_answer : Int} {R_steps : Int} {R_memory : Int} {R_maxSteps : Int} {R_maxMemory : Int} {R_fault : Int} {R_result : Int} {R_now : Int} {R_nowRow : Int} {R_come : Int} {R_puts : Int} {R_valueKinds : Int → Int} {R_valueNumbers : Int → Int} {R_from : Int → Int} {R_length : Int → Int} {R_given : Int → Int} {R_forms : Int → Int} {R_tags : Int → Int} {R_counts : Int → Int} {R_textsAt : Int → Int} {R_of : Int → Int} {R_comes : Int → Int} {p1 : Int} {p2 : Int} {p3 : Int} {p4 : Int} {out : Int × Int × Int × Int × (Int → Int) × (Int → Int) × (Int → Int) × (Int → Int) × (Int → Int) × (Int → Int) × (Int → Int) × (Int → Int) × (Int → Int) × (Int → Int)} (h : f_Mod_ofLists N R_values R_dataEnd R_fault R_valueKinds R_valueNumbers R_from R_length R_given R_forms R_tags R_counts R_textsAt R_of R_comes p1 p2 p3 p4 = some out) : CT jF0 false l D [(cI, .int), (cL, .long), (cB, .byte)] y_Mod_ofLists w_Mod_ofLists ({ frames := 3, cells := 0, slots := 0, locals := 74 } : Room) [.ref (ad 0), .int (zI p1), .int (zI p2), .int (zI p3), .int (zI p4)] [(ad 0, .inr (10, [.int (zI R_thrown), .ref (ad 1), .ref (ad 2), .ref (ad 3), .ref (ad 4), .ref (ad 5), .ref (ad 6), .int (zI R_used), .ref (ad 7), .int (zI R_many), .ref (ad 8), .ref (ad 9), .ref (ad 10), .ref (ad 11), .ref (ad 12), .ref (ad 13), .ref (ad 14), .ref (ad 15), .ref (ad 16), .int (zI R_values), .ref (ad 17), .int (zI R_textEnd), .ref (ad 18), .ref (ad 19), .ref (ad 20), .ref (ad 21), .int (zI R_dataEnd), .ref (ad 22), .int (zI R_rowEnd), .ref (ad 23), .ref (ad 24), .int (zI R_rowMany), .ref (ad 25), .ref (ad 26), .ref (ad 27), .ref (ad 28), .int (zI R_waiting), .int (zI R_mostWaiting), .int (zI R_answer), .int (zI R_steps), .int (zI R_memory), .int (zI R_maxSteps), .int (zI R_maxMemory), .int (zI R_fault), .int (zI R_result), .int (zI R_now), .int (zI R_nowRow), .int (zI R_come), .ref (ad 29), .ref (ad 30), .int (zI R_puts), .ref (ad 31)])), (ad 8, .inl (cI, 3700, .inl (zA R_valueKinds))), (ad 9, .inl (cL, 3700, .inr (.inl (zB R_valueNumbers)))), (ad 10, .inl (cI, 3700, .inl (zA R_from))), (ad 11, .inl (cI, 3700, .inl (zA R_length))), (ad 14, .inl (cI, 3700, .inl (zA R_given))), (ad 18, .inl (cI, 5000, .inl (zA R_forms))), (ad 19, .inl (cL, 5000, .inr (.inl (zB R_tags)))), (ad 20, .inl (cI, 5000, .inl (zA R_counts))), (ad 21, .inl (cI, 5000, .inl (zA R_textsAt))), (ad 29, .inl (cI, 3, .inl (zA R_of))), (ad 31, .inl (cI, 220, .inl (zA R_comes)))] (some (.int (zI out.1))) [(ad 0, .inr (10, [.int (zI R_thrown), .ref (ad 1), .ref (ad 2), .ref (ad 3), .ref (ad 4), .ref (ad 5), .ref (ad 6), .int (zI R_used), .ref (ad 7), .int (zI R_many), .ref (ad 8), .ref (ad 9), .ref (ad 10), .ref (ad 11), .ref (ad 12), .ref (ad 13), .ref (ad 14), .ref (ad 15), .ref (ad 16), .int (zI (out.2.1)), .ref (ad 17), .int (zI R_textEnd), .ref (ad 18), .ref (ad 19), .ref (ad 20), .ref (ad 21), .int (zI (out.2.2.1)), .ref (ad 22), .int (zI R_rowEnd), .ref (ad 23), .ref (ad 24), .int (zI R_rowMany), .ref (ad 25), .ref (ad 26), .ref (ad 27), .ref (ad 28), .int (zI R_waiting), .int (zI R_mostWaiting), .int (zI R_answer), .int (zI R_steps), .int (zI R_memory), .int (zI R_maxSteps), .int (zI R_maxMemory), .int (zI (out.2.2.2.1)), .int (zI R_result), .int (zI R_now), .int (zI R_nowRow), .int (zI R_come), .ref (ad 29), .ref (ad 30), .int (zI R_puts), .ref (ad 31)])), (ad 8, .inl (cI, 3700, .inl (zA (out.2.2.2.2.1)))), (ad 9, .inl (cL, 3700, .inr (.inl (zB (out.2.2.2.2.2.1))))), (ad 10, .inl (cI, 3700, .inl (zA (out.2.2.2.2.2.2.1)))), (ad 11, .inl (cI, 3700, .inl (zA (out.2.2.2.2.2.2.2.1)))), (ad 14, .inl (cI, 3700, .inl (zA (out.2.2.2.2.2.2.2.2.1)))), (ad 18, .inl (cI, 5000, .inl (zA (out.2.2.2.2.2.2.2.2.2.1)))), (ad 19, .inl (cL, 5000, .inr (.inl (zB (out.2.2.2.2.2.2.2.2.2.2.1))))), (ad 20, .inl (cI, 5000, .inl (zA (out.2.2.2.2.2.2.2.2.2.2.2.1)))), (ad 21, .inl (cI, 5000, .inl (zA (out.2.2.2.2.2.2.2.2.2.2.2.2.1)))), (ad 29, .inl (cI, 3, .inl (zA R_of))), (ad 31, .inl (cI, 220, .inl (zA (out.2.2.2.2.2.2.2.2.2.2.2.2.2))))] 0 0 := by
  refine CT_of_J (cc := b_Mod_ofLists) (maxL := 8) (ret := (some .int)) jF0_k (plainFor_of_name (by decide)) rfl (Nat.le_of_ble_eq_true rfl) ?_
  intro K hKl hKD X E
  subst hKl; subst hKD
  unfold f_Mod_ofLists at h
  refine J_iload_n X d_Mod_ofLists_0 rfl 1 rfl ?_
  refine J_bipush X d_Mod_ofLists_1 (by decide) ?_
  refine J_icmp_ne (tgt := 10) X d_Mod_ofLists_3 (by decide) h (fun c1 h => ?_) (fun c1 h => ?_)
  · refine J_aload_n X d_Mod_ofLists_10 rfl 0 rfl ?_
    refine J_get X (j_in in_Mod) 0 rfl rfl 24 (by decide) (j_m own_Mod_ofLists (by decide +kernel)) rfl d_Mod_ofLists_11 ?_
    refine J_iload_n X d_Mod_ofLists_14 rfl 3 rfl ?_
    obtain ⟨g2, h⟩ := wk_g h
    refine J_iald X 8 0 rfl rfl g2 d_Mod_ofLists_15 ?_
    refine J_istore (lv' := [(5, .int (zI (R_counts p3))), (0, .ref (ad 0)), (1, .int (zI p1)), (2, .int (zI p2)), (3, .int (zI p3)), (4, .int (zI p4))]) X d_Mod_ofLists_16 (by decide) rfl ?_
    refine J_iload X d_Mod_ofLists_18 0 rfl ?_
    refine J_if_eq (tgt := 29) X d_Mod_ofLists_20 (by decide) h (fun c3 h => ?_) (fun c3 h => ?_)
    · refine J_iconst X d_Mod_ofLists_29 ?_
      refine J_goto (tgt := 40) X d_Mod_ofLists_30 (by decide) ?_
      refine J_istore (lv' := [(6, .int (zI 0)), (5, .int (zI (R_counts p3))), (0, .ref (ad 0)), (1, .int (zI p1)), (2, .int (zI p2)), (3, .int (zI p3)), (4, .int (zI p4))]) X d_Mod_ofLists_40 (by decide) rfl ?_
      refine J_iload_n X d_Mod_ofLists_42 rfl 3 rfl ?_
      obtain ⟨g4, h⟩ := wk_g h
      rcases wk_c h with ⟨c5, h⟩ | ⟨c5, h⟩
      · refine J_tsIn (tgt := 76) X 26 c5 g4 d_Mod_ofLists_43 (by decide) (by decide) rfl (by decide) ?_
        refine J_iload X d_Mod_ofLists_76 1 rfl ?_
        refine J_if_ne (tgt := 87) X d_Mod_ofLists_78 (by decide) h (fun c6 h => ?_) (fun c6 h => ?_)
        · refine J_aload_n X d_Mod_ofLists_87 rfl 2 rfl ?_
          refine J_iload_n X d_Mod_ofLists_88 rfl 5 rfl ?_
          refine J_iconst X d_Mod_ofLists_89 ?_
          refine J_iadd X d_Mod_ofLists_90 ?_
          refine J_iload X d_Mod_ofLists_91 0 rfl ?_
          obtain ⟨R_dataEnd_7, R_forms_8, R_tags_9, R_counts_10, R_textsAt_11, q12, h⟩ := wk_b5 h
          refine J_afterI0 (ws' := [(ad 0, .inr (10, [.int (zI R_thrown), .ref (ad 1), .ref (ad 2), .ref (ad 3), .ref (ad 4), .ref (ad 5), .ref (ad 6), .int (zI R_used), .ref (ad 7), .int (zI R_many), .ref (ad 8), .ref (ad 9), .ref (ad 10), .ref (ad 11), .ref (ad 12), .ref (ad 13), .ref (ad 14), .ref (ad 15), .ref (ad 16), .int (zI R_values), .ref (ad 17), .int (zI R_textEnd), .ref (ad 18), .ref (ad 19), .ref (ad 20), .ref (ad 21), .int (zI R_dataEnd_7), .ref (ad 22), .int (zI R_rowEnd), .ref (ad 23), .ref (ad 24), .int (zI R_rowMany), .ref (ad 25), .ref (ad 26), .ref (ad 27), .ref (ad 28), .int (zI R_waiting), .int (zI R_mostWaiting), .int (zI R_answer), .int (zI R_steps), .int (zI R_memory), .int (zI R_maxSteps), .int (zI R_maxMemory), .int (zI R_fault), .int (zI R_result), .int (zI R_now), .int (zI R_nowRow), .int (zI R_come), .ref (ad 29), .ref (ad 30), .int (zI R_puts), .ref (ad 31)])), (ad 8, .inl (cI, 3700, .inl (zA R_valueKinds))), (ad 9, .inl (cL, 3700, .inr (.inl (zB R_valueNumbers)))), (ad 10, .inl (cI, 3700, .inl (zA R_from))), (ad 11, .inl (cI, 3700, .inl (zA R_length))), (ad 14, .inl (cI, 3700, .inl (zA R_given))), (ad 18, .inl (cI, 5000, .inl (zA R_forms_8))), (ad 19, .inl (cL, 5000, .inr (.inl (zB R_tags_9)))), (ad 20, .inl (cI, 5000, .inl (zA R_counts_10))), (ad 21, .inl (cI, 5000, .inl (zA R_textsAt_11))), (ad 29, .inl (cI, 3, .inl (zA R_of))), (ad 31, .inl (cI, 220, .inl (zA R_comes)))]) X (jrunV X (c_Mod_copyData (ad := ad) q12) jF0_k (fun _ _ _ _ => trivial) (jgV own_Mod_ofLists (by decide +kernel)) rfl rfl rfl pd_Mod_copyData (by decide) [0, 6, 7, 8, 9] rfl (by decide) 0 10 rfl rfl rfl rfl (Nat.le_of_ble_eq_true rfl) d_Mod_ofLists_93 (by decide)) [0, 6, 7, 8, 9] [1, 2, 3, 4, 5, 10, 11] [7, 0, 1, 2, 3, 4, 8, 9, 10, 11, 5, 6] rfl rfl (by decide) (by decide) rfl (by decide) ?_
          refine J_aload_n X d_Mod_ofLists_96 rfl 2 rfl ?_
          refine J_iload X d_Mod_ofLists_97 6 rfl ?_
          obtain ⟨r13, R_values_14, R_valueKinds_15, R_valueNumbers_16, R_from_17, R_length_18, R_given_19, q20, h⟩ := wk_b7 h
          refine J_afterI0 (ws' := [(ad 0, .inr (10, [.int (zI R_thrown), .ref (ad 1), .ref (ad 2), .ref (ad 3), .ref (ad 4), .ref (ad 5), .ref (ad 6), .int (zI R_used), .ref (ad 7), .int (zI R_many), .ref (ad 8), .ref (ad 9), .ref (ad 10), .ref (ad 11), .ref (ad 12), .ref (ad 13), .ref (ad 14), .ref (ad 15), .ref (ad 16), .int (zI R_values_14), .ref (ad 17), .int (zI R_textEnd), .ref (ad 18), .ref (ad 19), .ref (ad 20), .ref (ad 21), .int (zI R_dataEnd_7), .ref (ad 22), .int (zI R_rowEnd), .ref (ad 23), .ref (ad 24), .int (zI R_rowMany), .ref (ad 25), .ref (ad 26), .ref (ad 27), .ref (ad 28), .int (zI R_waiting), .int (zI R_mostWaiting), .int (zI R_answer), .int (zI R_steps), .int (zI R_memory), .int (zI R_maxSteps), .int (zI R_maxMemory), .int (zI R_fault), .int (zI R_result), .int (zI R_now), .int (zI R_nowRow), .int (zI R_come), .ref (ad 29), .ref (ad 30), .int (zI R_puts), .ref (ad 31)])), (ad 8, .inl (cI, 3700, .inl (zA R_valueKinds_15))), (ad 9, .inl (cL, 3700, .inr (.inl (zB R_valueNumbers_16)))), (ad 10, .inl (cI, 3700, .inl (zA R_from_17))), (ad 11, .inl (cI, 3700, .inl (zA R_length_18))), (ad 14, .inl (cI, 3700, .inl (zA R_given_19))), (ad 18, .inl (cI, 5000, .inl (zA R_forms_8))), (ad 19, .inl (cL, 5000, .inr (.inl (zB R_tags_9)))), (ad 20, .inl (cI, 5000, .inl (zA R_counts_10))), (ad 21, .inl (cI, 5000, .inl (zA R_textsAt_11))), (ad 29, .inl (cI, 3, .inl (zA R_of))), (ad 31, .inl (cI, 220, .inl (zA R_comes)))]) X (jrunV X (c_Mod_makeData (ad := ad) q20) jF0_k (fun _ _ _ _ => trivial) (jgV own_Mod_ofLists (by decide +kernel)) rfl rfl rfl pd_Mod_makeData (by decide) [0, 1, 2, 3, 4, 5] rfl (by decide) 0 10 rfl rfl rfl rfl (Nat.le_of_ble_eq_true rfl) d_Mod_ofLists_99 (by decide)) [0, 1, 2, 3, 4, 5] [6, 7, 8, 9, 10, 11] [6, 7, 8, 9, 10, 11, 0, 1, 2, 3, 4, 5] rfl rfl (by decide) (by decide) rfl (by decide) ?_
          cases h
          exact J_ret E ⟨_, rfl, rfl⟩ d_Mod_ofLists_102 (Nat.le_refl _) (Nat.le_refl _) rfl
        · refine J_aload_n X d_Mod_ofLists_81 rfl 2 rfl ?_
          refine J_iconst X d_Mod_ofLists_82 ?_
          obtain ⟨r21, R_fault_22, q23, h⟩ := wk_b2 h
          refine J_afterI0 (ws' := [(ad 0, .inr (10, [.int (zI R_thrown), .ref (ad 1), .ref (ad 2), .ref (ad 3), .ref (ad 4), .ref (ad 5), .ref (ad 6), .int (zI R_used), .ref (ad 7), .int (zI R_many), .ref (ad 8), .ref (ad 9), .ref (ad 10), .ref (ad 11), .ref (ad 12), .ref (ad 13), .ref (ad 14), .ref (ad 15), .ref (ad 16), .int (zI R_values), .ref (ad 17), .int (zI R_textEnd), .ref (ad 18), .ref (ad 19), .ref (ad 20), .ref (ad 21), .int (zI R_dataEnd), .ref (ad 22), .int (zI R_rowEnd), .ref (ad 23), .ref (ad 24), .int (zI R_rowMany), .ref (ad 25), .ref (ad 26), .ref (ad 27), .ref (ad 28), .int (zI R_waiting), .int (zI R_mostWaiting), .int (zI R_answer), .int (zI R_steps), .int (zI R_memory), .int (zI R_maxSteps), .int (zI R_maxMemory), .int (zI R_fault_22), .int (zI R_result), .int (zI R_now), .int (zI R_nowRow), .int (zI R_come), .ref (ad 29), .ref (ad 30), .int (zI R_puts), .ref (ad 31)])), (ad 8, .inl (cI, 3700, .inl (zA R_valueKinds))), (ad 9, .inl (cL, 3700, .inr (.inl (zB R_valueNumbers)))), (ad 10, .inl (cI, 3700, .inl (zA R_from))), (ad 11, .inl (cI, 3700, .inl (zA R_length))), (ad 14, .inl (cI, 3700, .inl (zA R_given))), (ad 18, .inl (cI, 5000, .inl (zA R_forms))), (ad 19, .inl (cL, 5000, .inr (.inl (zB R_tags)))), (ad 20, .inl (cI, 5000, .inl (zA R_counts))), (ad 21, .inl (cI, 5000, .inl (zA R_textsAt))), (ad 29, .inl (cI, 3, .inl (zA R_of))), (ad 31, .inl (cI, 220, .inl (zA R_comes)))]) X (jrunV X (c_Mod_fail (ad := ad) q23) jF0_k (fun _ _ _ _ => trivial) (jgV own_Mod_ofLists (by decide +kernel)) rfl rfl rfl pd_Mod_fail (by decide) [0] rfl (by decide) 0 10 rfl rfl rfl rfl (Nat.le_of_ble_eq_true rfl) d_Mod_ofLists_83 (by decide)) [0] [1, 2, 3, 4, 5, 6, 7, 8, 9, 10, 11] [11, 0, 1, 2, 3, 4, 5, 6, 7, 8, 9, 10] rfl rfl (by decide) (by decide) rfl (by decide) ?_
          cases h
          exact J_ret E ⟨_, rfl, rfl⟩ d_Mod_ofLists_86 (Nat.le_refl _) (Nat.le_refl _) rfl
      · rcases wk_c h with ⟨c24, h⟩ | ⟨c24, h⟩
        · refine J_tsIn (tgt := 103) X 27 c24 g4 d_Mod_ofLists_43 (by decide) (by decide) rfl (by decide) ?_
          refine J_iload X d_Mod_ofLists_103 1 rfl ?_
          refine J_if_ne (tgt := 114) X d_Mod_ofLists_105 (by decide) h (fun c25 h => ?_) (fun c25 h => ?_)
          · refine J_aload_n X d_Mod_ofLists_114 rfl 2 rfl ?_
            refine J_iconst X d_Mod_ofLists_115 ?_
            refine J_lconst (v := 0) X d_Mod_ofLists_116 (by decide) ?_
            refine J_iload X d_Mod_ofLists_117 1 rfl ?_
            refine J_iconst X d_Mod_ofLists_119 ?_
            refine J_isub X d_Mod_ofLists_120 ?_
            refine J_iconst X d_Mod_ofLists_121 ?_
            obtain ⟨R_dataEnd_26, R_forms_27, R_tags_28, R_counts_29, R_textsAt_30, q31, h⟩ := wk_b5 h
            refine J_afterI0 (ws' := [(ad 0, .inr (10, [.int (zI R_thrown), .ref (ad 1), .ref (ad 2), .ref (ad 3), .ref (ad 4), .ref (ad 5), .ref (ad 6), .int (zI R_used), .ref (ad 7), .int (zI R_many), .ref (ad 8), .ref (ad 9), .ref (ad 10), .ref (ad 11), .ref (ad 12), .ref (ad 13), .ref (ad 14), .ref (ad 15), .ref (ad 16), .int (zI R_values), .ref (ad 17), .int (zI R_textEnd), .ref (ad 18), .ref (ad 19), .ref (ad 20), .ref (ad 21), .int (zI R_dataEnd_26), .ref (ad 22), .int (zI R_rowEnd), .ref (ad 23), .ref (ad 24), .int (zI R_rowMany), .ref (ad 25), .ref (ad 26), .ref (ad 27), .ref (ad 28), .int (zI R_waiting), .int (zI R_mostWaiting), .int (zI R_answer), .int (zI R_steps), .int (zI R_memory), .int (zI R_maxSteps), .int (zI R_maxMemory), .int (zI R_fault), .int (zI R_result), .int (zI R_now), .int (zI R_nowRow), .int (zI R_come), .ref (ad 29), .ref (ad 30), .int (zI R_puts), .ref (ad 31)])), (ad 8, .inl (cI, 3700, .inl (zA R_valueKinds))), (ad 9, .inl (cL, 3700, .inr (.inl (zB R_valueNumbers)))), (ad 10, .inl (cI, 3700, .inl (zA R_from))), (ad 11, .inl (cI, 3700, .inl (zA R_length))), (ad 14, .inl (cI, 3700, .inl (zA R_given))), (ad 18, .inl (cI, 5000, .inl (zA R_forms_27))), (ad 19, .inl (cL, 5000, .inr (.inl (zB R_tags_28)))), (ad 20, .inl (cI, 5000, .inl (zA R_counts_29))), (ad 21, .inl (cI, 5000, .inl (zA R_textsAt_30))), (ad 29, .inl (cI, 3, .inl (zA R_of))), (ad 31, .inl (cI, 220, .inl (zA R_comes)))]) X (jrunV X (c_Mod_putData (ad := ad) q31) jF0_k (fun _ _ _ _ => trivial) (jgV own_Mod_ofLists (by decide +kernel)) rfl rfl rfl pd_Mod_putData (by decide) [0, 6, 7, 8, 9] rfl (by decide) 0 10 rfl rfl rfl rfl (Nat.le_of_ble_eq_true rfl) d_Mod_ofLists_122 (by decide)) [0, 6, 7, 8, 9] [1, 2, 3, 4, 5, 10, 11] [7, 0, 1, 2, 3, 4, 8, 9, 10, 11, 5, 6] rfl rfl (by decide) (by decide) rfl (by decide) ?_
            refine J_aload_n X d_Mod_ofLists_125 rfl 2 rfl ?_
            refine J_iload_n X d_Mod_ofLists_126 rfl 5 rfl ?_
            refine J_iconst X d_Mod_ofLists_127 ?_
            refine J_iadd X d_Mod_ofLists_128 ?_
            refine J_iload X d_Mod_ofLists_129 0 rfl ?_
            refine J_iadd X d_Mod_ofLists_131 ?_
            refine J_aload_n X d_Mod_ofLists_132 rfl 2 rfl ?_
            refine J_get X (j_in in_Mod) 0 rfl rfl 13 (by decide) (j_m own_Mod_ofLists (by decide +kernel)) rfl d_Mod_ofLists_133 ?_
            refine J_iload_n X d_Mod_ofLists_136 rfl 4 rfl ?_
            obtain ⟨g32, h⟩ := wk_g h
            refine J_iald X 4 0 rfl rfl g32 d_Mod_ofLists_137 ?_
            refine J_iconst X d_Mod_ofLists_138 ?_
            refine J_isub X d_Mod_ofLists_139 ?_
            refine J_iload X d_Mod_ofLists_140 0 rfl ?_
            refine J_isub X d_Mod_ofLists_142 ?_
            obtain ⟨R_dataEnd_33, R_forms_34, R_tags_35, R_counts_36, R_textsAt_37, q38, h⟩ := wk_b5 h
            refine J_afterI0 (ws' := [(ad 0, .inr (10, [.int (zI R_thrown), .ref (ad 1), .ref (ad 2), .ref (ad 3), .ref (ad 4), .ref (ad 5), .ref (ad 6), .int (zI R_used), .ref (ad 7), .int (zI R_many), .ref (ad 8), .ref (ad 9), .ref (ad 10), .ref (ad 11), .ref (ad 12), .ref (ad 13), .ref (ad 14), .ref (ad 15), .ref (ad 16), .int (zI R_values), .ref (ad 17), .int (zI R_textEnd), .ref (ad 18), .ref (ad 19), .ref (ad 20), .ref (ad 21), .int (zI R_dataEnd_33), .ref (ad 22), .int (zI R_rowEnd), .ref (ad 23), .ref (ad 24), .int (zI R_rowMany), .ref (ad 25), .ref (ad 26), .ref (ad 27), .ref (ad 28), .int (zI R_waiting), .int (zI R_mostWaiting), .int (zI R_answer), .int (zI R_steps), .int (zI R_memory), .int (zI R_maxSteps), .int (zI R_maxMemory), .int (zI R_fault), .int (zI R_result), .int (zI R_now), .int (zI R_nowRow), .int (zI R_come), .ref (ad 29), .ref (ad 30), .int (zI R_puts), .ref (ad 31)])), (ad 8, .inl (cI, 3700, .inl (zA R_valueKinds))), (ad 9, .inl (cL, 3700, .inr (.inl (zB R_valueNumbers)))), (ad 10, .inl (cI, 3700, .inl (zA R_from))), (ad 11, .inl (cI, 3700, .inl (zA R_length))), (ad 14, .inl (cI, 3700, .inl (zA R_given))), (ad 18, .inl (cI, 5000, .inl (zA R_forms_34))), (ad 19, .inl (cL, 5000, .inr (.inl (zB R_tags_35)))), (ad 20, .inl (cI, 5000, .inl (zA R_counts_36))), (ad 21, .inl (cI, 5000, .inl (zA R_textsAt_37))), (ad 29, .inl (cI, 3, .inl (zA R_of))), (ad 31, .inl (cI, 220, .inl (zA R_comes)))]) X (jrunV X (c_Mod_copyData (ad := ad) q38) jF0_k (fun _ _ _ _ => trivial) (jgV own_Mod_ofLists (by decide +kernel)) rfl rfl rfl pd_Mod_copyData (by decide) [0, 6, 7, 8, 9] rfl (by decide) 0 10 rfl rfl rfl rfl (Nat.le_of_ble_eq_true rfl) d_Mod_ofLists_143 (by decide)) [0, 6, 7, 8, 9] [1, 2, 3, 4, 5, 10, 11] [7, 0, 1, 2, 3, 4, 8, 9, 10, 11, 5, 6] rfl rfl (by decide) (by decide) rfl (by decide) ?_
            refine J_aload_n X d_Mod_ofLists_146 rfl 2 rfl ?_
            refine J_iload X d_Mod_ofLists_147 6 rfl ?_
            obtain ⟨r39, R_values_40, R_valueKinds_41, R_valueNumbers_42, R_from_43, R_length_44, R_given_45, q46, h⟩ := wk_b7 h
            refine J_afterI0 (ws' := [(ad 0, .inr (10, [.int (zI R_thrown), .ref (ad 1), .ref (ad 2), .ref (ad 3), .ref (ad 4), .ref (ad 5), .ref (ad 6), .int (zI R_used), .ref (ad 7), .int (zI R_many), .ref (ad 8), .ref (ad 9), .ref (ad 10), .ref (ad 11), .ref (ad 12), .ref (ad 13), .ref (ad 14), .ref (ad 15), .ref (ad 16), .int (zI R_values_40), .ref (ad 17), .int (zI R_textEnd), .ref (ad 18), .ref (ad 19), .ref (ad 20), .ref (ad 21), .int (zI R_dataEnd_33), .ref (ad 22), .int (zI R_rowEnd), .ref (ad 23), .ref (ad 24), .int (zI R_rowMany), .ref (ad 25), .ref (ad 26), .ref (ad 27), .ref (ad 28), .int (zI R_waiting), .int (zI R_mostWaiting), .int (zI R_answer), .int (zI R_steps), .int (zI R_memory), .int (zI R_maxSteps), .int (zI R_maxMemory), .int (zI R_fault), .int (zI R_result), .int (zI R_now), .int (zI R_nowRow), .int (zI R_come), .ref (ad 29), .ref (ad 30), .int (zI R_puts), .ref (ad 31)])), (ad 8, .inl (cI, 3700, .inl (zA R_valueKinds_41))), (ad 9, .inl (cL, 3700, .inr (.inl (zB R_valueNumbers_42)))), (ad 10, .inl (cI, 3700, .inl (zA R_from_43))), (ad 11, .inl (cI, 3700, .inl (zA R_length_44))), (ad 14, .inl (cI, 3700, .inl (zA R_given_45))), (ad 18, .inl (cI, 5000, .inl (zA R_forms_34))), (ad 19, .inl (cL, 5000, .inr (.inl (zB R_tags_35)))), (ad 20, .inl (cI, 5000, .inl (zA R_counts_36))), (ad 21, .inl (cI, 5000, .inl (zA R_textsAt_37))), (ad 29, .inl (cI, 3, .inl (zA R_of))), (ad 31, .inl (cI, 220, .inl (zA R_comes)))]) X (jrunV X (c_Mod_makeData (ad := ad) q46) jF0_k (fun _ _ _ _ => trivial) (jgV own_Mod_ofLists (by decide +kernel)) rfl rfl rfl pd_Mod_makeData (by decide) [0, 1, 2, 3, 4, 5] rfl (by decide) 0 10 rfl rfl rfl rfl (Nat.le_of_ble_eq_true rfl) d_Mod_ofLists_149 (by decide)) [0, 1, 2, 3, 4, 5] [6, 7, 8, 9, 10, 11] [6, 7, 8, 9, 10, 11, 0, 1, 2, 3, 4, 5] rfl rfl (by decide) (by decide) rfl (by decide) ?_
            cases h
            exact J_ret E ⟨_, rfl, rfl⟩ d_Mod_ofLists_152 (Nat.le_refl _) (Nat.le_refl _) rfl
          · refine J_aload_n X d_Mod_ofLists_108 rfl 2 rfl ?_
            refine J_iconst X d_Mod_ofLists_109 ?_
            obtain ⟨r47, R_fault_48, q49, h⟩ := wk_b2 h
            refine J_afterI0 (ws' := [(ad 0, .inr (10, [.int (zI R_thrown), .ref (ad 1), .ref (ad 2), .ref (ad 3), .ref (ad 4), .ref (ad 5), .ref (ad 6), .int (zI R_used), .ref (ad 7), .int (zI R_many), .ref (ad 8), .ref (ad 9), .ref (ad 10), .ref (ad 11), .ref (ad 12), .ref (ad 13), .ref (ad 14), .ref (ad 15), .ref (ad 16), .int (zI R_values), .ref (ad 17), .int (zI R_textEnd), .ref (ad 18), .ref (ad 19), .ref (ad 20), .ref (ad 21), .int (zI R_dataEnd), .ref (ad 22), .int (zI R_rowEnd), .ref (ad 23), .ref (ad 24), .int (zI R_rowMany), .ref (ad 25), .ref (ad 26), .ref (ad 27), .ref (ad 28), .int (zI R_waiting), .int (zI R_mostWaiting), .int (zI R_answer), .int (zI R_steps), .int (zI R_memory), .int (zI R_maxSteps), .int (zI R_maxMemory), .int (zI R_fault_48), .int (zI R_result), .int (zI R_now), .int (zI R_nowRow), .int (zI R_come), .ref (ad 29), .ref (ad 30), .int (zI R_puts), .ref (ad 31)])), (ad 8, .inl (cI, 3700, .inl (zA R_valueKinds))), (ad 9, .inl (cL, 3700, .inr (.inl (zB R_valueNumbers)))), (ad 10, .inl (cI, 3700, .inl (zA R_from))), (ad 11, .inl (cI, 3700, .inl (zA R_length))), (ad 14, .inl (cI, 3700, .inl (zA R_given))), (ad 18, .inl (cI, 5000, .inl (zA R_forms))), (ad 19, .inl (cL, 5000, .inr (.inl (zB R_tags)))), (ad 20, .inl (cI, 5000, .inl (zA R_counts))), (ad 21, .inl (cI, 5000, .inl (zA R_textsAt))), (ad 29, .inl (cI, 3, .inl (zA R_of))), (ad 31, .inl (cI, 220, .inl (zA R_comes)))]) X (jrunV X (c_Mod_fail (ad := ad) q49) jF0_k (fun _ _ _ _ => trivial) (jgV own_Mod_ofLists (by decide +kernel)) rfl rfl rfl pd_Mod_fail (by decide) [0] rfl (by decide) 0 10 rfl rfl rfl rfl (Nat.le_of_ble_eq_true rfl) d_Mod_ofLists_110 (by decide)) [0] [1, 2, 3, 4, 5, 6, 7, 8, 9, 10, 11] [11, 0, 1, 2, 3, 4, 5, 6, 7, 8, 9, 10] rfl rfl (by decide) (by decide) rfl (by decide) ?_
            cases h
            exact J_ret E ⟨_, rfl, rfl⟩ d_Mod_ofLists_113 (Nat.le_refl _) (Nat.le_refl _) rfl
        · rcases wk_c h with ⟨c50, h⟩ | ⟨c50, h⟩
          · refine J_tsIn (tgt := 153) X 28 c50 g4 d_Mod_ofLists_43 (by decide) (by decide) rfl (by decide) ?_
            refine J_aload_n X d_Mod_ofLists_153 rfl 2 rfl ?_
            refine J_get X (j_in in_Mod) 0 rfl rfl 48 (by decide) (j_m own_Mod_ofLists (by decide +kernel)) rfl d_Mod_ofLists_154 ?_
            refine J_iconst X d_Mod_ofLists_157 ?_
            obtain ⟨g51, h⟩ := wk_g h
            refine J_iald X 10 0 rfl rfl g51 d_Mod_ofLists_158 ?_
            refine J_istore (lv' := [(7, .int (zI (R_of 1))), (6, .int (zI 0)), (5, .int (zI (R_counts p3))), (0, .ref (ad 0)), (1, .int (zI p1)), (2, .int (zI p2)), (3, .int (zI p3)), (4, .int (zI p4))]) X d_Mod_ofLists_159 (by decide) rfl ?_
            refine J_aload_n X d_Mod_ofLists_161 rfl 3 rfl ?_
            refine J_get X (j_in in_Mod) 0 rfl rfl 13 (by decide) (j_m own_Mod_ofLists (by decide +kernel)) rfl d_Mod_ofLists_162 ?_
            refine J_iload_n X d_Mod_ofLists_165 rfl 5 rfl ?_
            obtain ⟨g52, h⟩ := wk_g h
            refine J_iald X 4 0 rfl rfl g52 d_Mod_ofLists_166 ?_
            refine J_aload_n X d_Mod_ofLists_167 rfl 3 rfl ?_
            refine J_get X (j_in in_Mod) 0 rfl rfl 13 (by decide) (j_m own_Mod_ofLists (by decide +kernel)) rfl d_Mod_ofLists_168 ?_
            refine J_iload X d_Mod_ofLists_171 0 rfl ?_
            obtain ⟨g53, h⟩ := wk_g h
            refine J_iald X 4 0 rfl rfl g53 d_Mod_ofLists_173 ?_
            refine J_iadd X d_Mod_ofLists_174 ?_
            refine J_sipush X d_Mod_ofLists_175 (by decide) ?_
            refine J_icmp_le (tgt := 187) X d_Mod_ofLists_178 (by decide) h (fun c54 h => ?_) (fun c54 h => ?_)
            · refine J_aload_n X d_Mod_ofLists_187 rfl 3 rfl ?_
              refine J_iconst X d_Mod_ofLists_188 ?_
              refine J_lconst (v := 0) X d_Mod_ofLists_189 (by decide) ?_
              refine J_aload_n X d_Mod_ofLists_190 rfl 3 rfl ?_
              refine J_get X (j_in in_Mod) 0 rfl rfl 24 (by decide) (j_m own_Mod_ofLists (by decide +kernel)) rfl d_Mod_ofLists_191 ?_
              refine J_aload_n X d_Mod_ofLists_194 rfl 3 rfl ?_
              refine J_get X (j_in in_Mod) 0 rfl rfl 12 (by decide) (j_m own_Mod_ofLists (by decide +kernel)) rfl d_Mod_ofLists_195 ?_
              refine J_iload X d_Mod_ofLists_198 0 rfl ?_
              obtain ⟨g55, h⟩ := wk_g h
              refine J_iald X 3 0 rfl rfl g55 d_Mod_ofLists_200 ?_
              obtain ⟨g56, h⟩ := wk_g h
              refine J_iald X 8 0 rfl rfl g56 d_Mod_ofLists_201 ?_
              refine J_iconst X d_Mod_ofLists_202 ?_
              refine J_iadd X d_Mod_ofLists_203 ?_
              refine J_iconst X d_Mod_ofLists_204 ?_
              obtain ⟨R_dataEnd_57, R_forms_58, R_tags_59, R_counts_60, R_textsAt_61, q62, h⟩ := wk_b5 h
              refine J_afterI0 (ws' := [(ad 0, .inr (10, [.int (zI R_thrown), .ref (ad 1), .ref (ad 2), .ref (ad 3), .ref (ad 4), .ref (ad 5), .ref (ad 6), .int (zI R_used), .ref (ad 7), .int (zI R_many), .ref (ad 8), .ref (ad 9), .ref (ad 10), .ref (ad 11), .ref (ad 12), .ref (ad 13), .ref (ad 14), .ref (ad 15), .ref (ad 16), .int (zI R_values), .ref (ad 17), .int (zI R_textEnd), .ref (ad 18), .ref (ad 19), .ref (ad 20), .ref (ad 21), .int (zI R_dataEnd_57), .ref (ad 22), .int (zI R_rowEnd), .ref (ad 23), .ref (ad 24), .int (zI R_rowMany), .ref (ad 25), .ref (ad 26), .ref (ad 27), .ref (ad 28), .int (zI R_waiting), .int (zI R_mostWaiting), .int (zI R_answer), .int (zI R_steps), .int (zI R_memory), .int (zI R_maxSteps), .int (zI R_maxMemory), .int (zI R_fault), .int (zI R_result), .int (zI R_now), .int (zI R_nowRow), .int (zI R_come), .ref (ad 29), .ref (ad 30), .int (zI R_puts), .ref (ad 31)])), (ad 8, .inl (cI, 3700, .inl (zA R_valueKinds))), (ad 9, .inl (cL, 3700, .inr (.inl (zB R_valueNumbers)))), (ad 10, .inl (cI, 3700, .inl (zA R_from))), (ad 11, .inl (cI, 3700, .inl (zA R_length))), (ad 14, .inl (cI, 3700, .inl (zA R_given))), (ad 18, .inl (cI, 5000, .inl (zA R_forms_58))), (ad 19, .inl (cL, 5000, .inr (.inl (zB R_tags_59)))), (ad 20, .inl (cI, 5000, .inl (zA R_counts_60))), (ad 21, .inl (cI, 5000, .inl (zA R_textsAt_61))), (ad 29, .inl (cI, 3, .inl (zA R_of))), (ad 31, .inl (cI, 220, .inl (zA R_comes)))]) X (jrunV X (c_Mod_putData (ad := ad) q62) jF0_k (fun _ _ _ _ => trivial) (jgV own_Mod_ofLists (by decide +kernel)) rfl rfl rfl pd_Mod_putData (by decide) [0, 6, 7, 8, 9] rfl (by decide) 0 10 rfl rfl rfl rfl (Nat.le_of_ble_eq_true rfl) d_Mod_ofLists_205 (by decide)) [0, 6, 7, 8, 9] [1, 2, 3, 4, 5, 10, 11] [7, 0, 1, 2, 3, 4, 8, 9, 10, 11, 5, 6] rfl rfl (by decide) (by decide) rfl (by decide) ?_
              refine J_aload_n X d_Mod_ofLists_208 rfl 3 rfl ?_
              refine J_iload_n X d_Mod_ofLists_209 rfl 6 rfl ?_
              refine J_aload_n X d_Mod_ofLists_210 rfl 3 rfl ?_
              refine J_get X (j_in in_Mod) 0 rfl rfl 13 (by decide) (j_m own_Mod_ofLists (by decide +kernel)) rfl d_Mod_ofLists_211 ?_
              refine J_iload_n X d_Mod_ofLists_214 rfl 5 rfl ?_
              obtain ⟨g63, h⟩ := wk_g h
              refine J_iald X 4 0 rfl rfl g63 d_Mod_ofLists_215 ?_
              obtain ⟨R_dataEnd_64, R_forms_65, R_tags_66, R_counts_67, R_textsAt_68, q69, h⟩ := wk_b5 h
              refine J_afterI0 (ws' := [(ad 0, .inr (10, [.int (zI R_thrown), .ref (ad 1), .ref (ad 2), .ref (ad 3), .ref (ad 4), .ref (ad 5), .ref (ad 6), .int (zI R_used), .ref (ad 7), .int (zI R_many), .ref (ad 8), .ref (ad 9), .ref (ad 10), .ref (ad 11), .ref (ad 12), .ref (ad 13), .ref (ad 14), .ref (ad 15), .ref (ad 16), .int (zI R_values), .ref (ad 17), .int (zI R_textEnd), .ref (ad 18), .ref (ad 19), .ref (ad 20), .ref (ad 21), .int (zI R_dataEnd_64), .ref (ad 22), .int (zI R_rowEnd), .ref (ad 23), .ref (ad 24), .int (zI R_rowMany), .ref (ad 25), .ref (ad 26), .ref (ad 27), .ref (ad 28), .int (zI R_waiting), .int (zI R_mostWaiting), .int (zI R_answer), .int (zI R_steps), .int (zI R_memory), .int (zI R_maxSteps), .int (zI R_maxMemory), .int (zI R_fault), .int (zI R_result), .int (zI R_now), .int (zI R_nowRow), .int (zI R_come), .ref (ad 29), .ref (ad 30), .int (zI R_puts), .ref (ad 31)])), (ad 8, .inl (cI, 3700, .inl (zA R_valueKinds))), (ad 9, .inl (cL, 3700, .inr (.inl (zB R_valueNumbers)))), (ad 10, .inl (cI, 3700, .inl (zA R_from))), (ad 11, .inl (cI, 3700, .inl (zA R_length))), (ad 14, .inl (cI, 3700, .inl (zA R_given))), (ad 18, .inl (cI, 5000, .inl (zA R_forms_65))), (ad 19, .inl (cL, 5000, .inr (.inl (zB R_tags_66)))), (ad 20, .inl (cI, 5000, .inl (zA R_counts_67))), (ad 21, .inl (cI, 5000, .inl (zA R_textsAt_68))), (ad 29, .inl (cI, 3, .inl (zA R_of))), (ad 31, .inl (cI, 220, .inl (zA R_comes)))]) X (jrunV X (c_Mod_copyData (ad := ad) q69) jF0_k (fun _ _ _ _ => trivial) (jgV own_Mod_ofLists (by decide +kernel)) rfl rfl rfl pd_Mod_copyData (by decide) [0, 6, 7, 8, 9] rfl (by decide) 0 10 rfl rfl rfl rfl (Nat.le_of_ble_eq_true rfl) d_Mod_ofLists_216 (by decide)) [0, 6, 7, 8, 9] [1, 2, 3, 4, 5, 10, 11] [7, 0, 1, 2, 3, 4, 8, 9, 10, 11, 5, 6] rfl rfl (by decide) (by decide) rfl (by decide) ?_
              refine J_aload_n X d_Mod_ofLists_219 rfl 3 rfl ?_
              refine J_aload_n X d_Mod_ofLists_220 rfl 3 rfl ?_
              refine J_get X (j_in in_Mod) 0 rfl rfl 12 (by decide) (j_m own_Mod_ofLists (by decide +kernel)) rfl d_Mod_ofLists_221 ?_
              refine J_iload X d_Mod_ofLists_224 0 rfl ?_
              obtain ⟨g70, h⟩ := wk_g h
              refine J_iald X 3 0 rfl rfl g70 d_Mod_ofLists_226 ?_
              refine J_iconst X d_Mod_ofLists_227 ?_
              refine J_iadd X d_Mod_ofLists_228 ?_
              refine J_aload_n X d_Mod_ofLists_229 rfl 3 rfl ?_
              refine J_get X (j_in in_Mod) 0 rfl rfl 13 (by decide) (j_m own_Mod_ofLists (by decide +kernel)) rfl d_Mod_ofLists_230 ?_
              refine J_iload X d_Mod_ofLists_233 0 rfl ?_
              obtain ⟨g71, h⟩ := wk_g h
              refine J_iald X 4 0 rfl rfl g71 d_Mod_ofLists_235 ?_
              refine J_iconst X d_Mod_ofLists_236 ?_
              refine J_isub X d_Mod_ofLists_237 ?_
              obtain ⟨R_dataEnd_72, R_forms_73, R_tags_74, R_counts_75, R_textsAt_76, q77, h⟩ := wk_b5 h
              refine J_afterI0 (ws' := [(ad 0, .inr (10, [.int (zI R_thrown), .ref (ad 1), .ref (ad 2), .ref (ad 3), .ref (ad 4), .ref (ad 5), .ref (ad 6), .int (zI R_used), .ref (ad 7), .int (zI R_many), .ref (ad 8), .ref (ad 9), .ref (ad 10), .ref (ad 11), .ref (ad 12), .ref (ad 13), .ref (ad 14), .ref (ad 15), .ref (ad 16), .int (zI R_values), .ref (ad 17), .int (zI R_textEnd), .ref (ad 18), .ref (ad 19), .ref (ad 20), .ref (ad 21), .int (zI R_dataEnd_72), .ref (ad 22), .int (zI R_rowEnd), .ref (ad 23), .ref (ad 24), .int (zI R_rowMany), .ref (ad 25), .ref (ad 26), .ref (ad 27), .ref (ad 28), .int (zI R_waiting), .int (zI R_mostWaiting), .int (zI R_answer), .int (zI R_steps), .int (zI R_memory), .int (zI R_maxSteps), .int (zI R_maxMemory), .int (zI R_fault), .int (zI R_result), .int (zI R_now), .int (zI R_nowRow), .int (zI R_come), .ref (ad 29), .ref (ad 30), .int (zI R_puts), .ref (ad 31)])), (ad 8, .inl (cI, 3700, .inl (zA R_valueKinds))), (ad 9, .inl (cL, 3700, .inr (.inl (zB R_valueNumbers)))), (ad 10, .inl (cI, 3700, .inl (zA R_from))), (ad 11, .inl (cI, 3700, .inl (zA R_length))), (ad 14, .inl (cI, 3700, .inl (zA R_given))), (ad 18, .inl (cI, 5000, .inl (zA R_forms_73))), (ad 19, .inl (cL, 5000, .inr (.inl (zB R_tags_74)))), (ad 20, .inl (cI, 5000, .inl (zA R_counts_75))), (ad 21, .inl (cI, 5000, .inl (zA R_textsAt_76))), (ad 29, .inl (cI, 3, .inl (zA R_of))), (ad 31, .inl (cI, 220, .inl (zA R_comes)))]) X (jrunV X (c_Mod_copyData (ad := ad) q77) jF0_k (fun _ _ _ _ => trivial) (jgV own_Mod_ofLists (by decide +kernel)) rfl rfl rfl pd_Mod_copyData (by decide) [0, 6, 7, 8, 9] rfl (by decide) 0 10 rfl rfl rfl rfl (Nat.le_of_ble_eq_true rfl) d_Mod_ofLists_238 (by decide)) [0, 6, 7, 8, 9] [1, 2, 3, 4, 5, 10, 11] [7, 0, 1, 2, 3, 4, 8, 9, 10, 11, 5, 6] rfl rfl (by decide) (by decide) rfl (by decide) ?_
              refine J_aload_n X d_Mod_ofLists_241 rfl 3 rfl ?_
              refine J_iload X d_Mod_ofLists_242 7 rfl ?_
              refine J_aload_n X d_Mod_ofLists_244 rfl 3 rfl ?_
              refine J_get X (j_in in_Mod) 0 rfl rfl 26 (by decide) (j_m own_Mod_ofLists (by decide +kernel)) rfl d_Mod_ofLists_245 ?_
              refine J_iload X d_Mod_ofLists_248 7 rfl ?_
              refine J_isub X d_Mod_ofLists_250 ?_
              obtain ⟨r78, R_comes_79, q80, h⟩ := wk_b2 h
              refine J_afterI0 (ws' := [(ad 0, .inr (10, [.int (zI R_thrown), .ref (ad 1), .ref (ad 2), .ref (ad 3), .ref (ad 4), .ref (ad 5), .ref (ad 6), .int (zI R_used), .ref (ad 7), .int (zI R_many), .ref (ad 8), .ref (ad 9), .ref (ad 10), .ref (ad 11), .ref (ad 12), .ref (ad 13), .ref (ad 14), .ref (ad 15), .ref (ad 16), .int (zI R_values), .ref (ad 17), .int (zI R_textEnd), .ref (ad 18), .ref (ad 19), .ref (ad 20), .ref (ad 21), .int (zI R_dataEnd_72), .ref (ad 22), .int (zI R_rowEnd), .ref (ad 23), .ref (ad 24), .int (zI R_rowMany), .ref (ad 25), .ref (ad 26), .ref (ad 27), .ref (ad 28), .int (zI R_waiting), .int (zI R_mostWaiting), .int (zI R_answer), .int (zI R_steps), .int (zI R_memory), .int (zI R_maxSteps), .int (zI R_maxMemory), .int (zI R_fault), .int (zI R_result), .int (zI R_now), .int (zI R_nowRow), .int (zI R_come), .ref (ad 29), .ref (ad 30), .int (zI R_puts), .ref (ad 31)])), (ad 8, .inl (cI, 3700, .inl (zA R_valueKinds))), (ad 9, .inl (cL, 3700, .inr (.inl (zB R_valueNumbers)))), (ad 10, .inl (cI, 3700, .inl (zA R_from))), (ad 11, .inl (cI, 3700, .inl (zA R_length))), (ad 14, .inl (cI, 3700, .inl (zA R_given))), (ad 18, .inl (cI, 5000, .inl (zA R_forms_73))), (ad 19, .inl (cL, 5000, .inr (.inl (zB R_tags_74)))), (ad 20, .inl (cI, 5000, .inl (zA R_counts_75))), (ad 21, .inl (cI, 5000, .inl (zA R_textsAt_76))), (ad 29, .inl (cI, 3, .inl (zA R_of))), (ad 31, .inl (cI, 220, .inl (zA R_comes_79)))]) X (jrunV X (c_Mod_depthOfData (ad := ad) q80) jF0_k (fun _ _ _ _ => trivial) (jgV own_Mod_ofLists (by decide +kernel)) rfl rfl rfl pd_Mod_depthOfData (by decide) [0, 6, 8, 11] rfl (by decide) 0 10 rfl rfl rfl rfl (Nat.le_of_ble_eq_true rfl) d_Mod_ofLists_251 (by decide)) [0, 6, 8, 11] [1, 2, 3, 4, 5, 7, 9, 10] [8, 0, 1, 2, 3, 4, 9, 5, 10, 6, 7, 11] rfl rfl (by decide) (by decide) rfl (by decide) ?_
              refine J_bipush X d_Mod_ofLists_254 (by decide) ?_
              refine J_icmp_le (tgt := 267) X d_Mod_ofLists_256 (by decide) h (fun c81 h => ?_) (fun c81 h => ?_)
              · refine J_aload_n X d_Mod_ofLists_267 rfl 3 rfl ?_
                refine J_iload X d_Mod_ofLists_268 7 rfl ?_
                obtain ⟨r82, R_values_83, R_valueKinds_84, R_valueNumbers_85, R_from_86, R_length_87, R_given_88, q89, h⟩ := wk_b7 h
                refine J_afterI0 (ws' := [(ad 0, .inr (10, [.int (zI R_thrown), .ref (ad 1), .ref (ad 2), .ref (ad 3), .ref (ad 4), .ref (ad 5), .ref (ad 6), .int (zI R_used), .ref (ad 7), .int (zI R_many), .ref (ad 8), .ref (ad 9), .ref (ad 10), .ref (ad 11), .ref (ad 12), .ref (ad 13), .ref (ad 14), .ref (ad 15), .ref (ad 16), .int (zI R_values_83), .ref (ad 17), .int (zI R_textEnd), .ref (ad 18), .ref (ad 19), .ref (ad 20), .ref (ad 21), .int (zI R_dataEnd_72), .ref (ad 22), .int (zI R_rowEnd), .ref (ad 23), .ref (ad 24), .int (zI R_rowMany), .ref (ad 25), .ref (ad 26), .ref (ad 27), .ref (ad 28), .int (zI R_waiting), .int (zI R_mostWaiting), .int (zI R_answer), .int (zI R_steps), .int (zI R_memory), .int (zI R_maxSteps), .int (zI R_maxMemory), .int (zI R_fault), .int (zI R_result), .int (zI R_now), .int (zI R_nowRow), .int (zI R_come), .ref (ad 29), .ref (ad 30), .int (zI R_puts), .ref (ad 31)])), (ad 8, .inl (cI, 3700, .inl (zA R_valueKinds_84))), (ad 9, .inl (cL, 3700, .inr (.inl (zB R_valueNumbers_85)))), (ad 10, .inl (cI, 3700, .inl (zA R_from_86))), (ad 11, .inl (cI, 3700, .inl (zA R_length_87))), (ad 14, .inl (cI, 3700, .inl (zA R_given_88))), (ad 18, .inl (cI, 5000, .inl (zA R_forms_73))), (ad 19, .inl (cL, 5000, .inr (.inl (zB R_tags_74)))), (ad 20, .inl (cI, 5000, .inl (zA R_counts_75))), (ad 21, .inl (cI, 5000, .inl (zA R_textsAt_76))), (ad 29, .inl (cI, 3, .inl (zA R_of))), (ad 31, .inl (cI, 220, .inl (zA R_comes_79)))]) X (jrunV X (c_Mod_makeData (ad := ad) q89) jF0_k (fun _ _ _ _ => trivial) (jgV own_Mod_ofLists (by decide +kernel)) rfl rfl rfl pd_Mod_makeData (by decide) [0, 1, 2, 3, 4, 5] rfl (by decide) 0 10 rfl rfl rfl rfl (Nat.le_of_ble_eq_true rfl) d_Mod_ofLists_270 (by decide)) [0, 1, 2, 3, 4, 5] [6, 7, 8, 9, 10, 11] [6, 7, 8, 9, 10, 11, 0, 1, 2, 3, 4, 5] rfl rfl (by decide) (by decide) rfl (by decide) ?_
                cases h
                exact J_ret E ⟨_, rfl, rfl⟩ d_Mod_ofLists_273 (Nat.le_refl _) (Nat.le_refl _) rfl
              · refine J_aload_n X d_Mod_ofLists_259 rfl 3 rfl ?_
                refine J_iconst X d_Mod_ofLists_260 ?_
                obtain ⟨r90, R_fault_91, q92, h⟩ := wk_b2 h
                refine J_afterI0 (ws' := [(ad 0, .inr (10, [.int (zI R_thrown), .ref (ad 1), .ref (ad 2), .ref (ad 3), .ref (ad 4), .ref (ad 5), .ref (ad 6), .int (zI R_used), .ref (ad 7), .int (zI R_many), .ref (ad 8), .ref (ad 9), .ref (ad 10), .ref (ad 11), .ref (ad 12), .ref (ad 13), .ref (ad 14), .ref (ad 15), .ref (ad 16), .int (zI R_values), .ref (ad 17), .int (zI R_textEnd), .ref (ad 18), .ref (ad 19), .ref (ad 20), .ref (ad 21), .int (zI R_dataEnd_72), .ref (ad 22), .int (zI R_rowEnd), .ref (ad 23), .ref (ad 24), .int (zI R_rowMany), .ref (ad 25), .ref (ad 26), .ref (ad 27), .ref (ad 28), .int (zI R_waiting), .int (zI R_mostWaiting), .int (zI R_answer), .int (zI R_steps), .int (zI R_memory), .int (zI R_maxSteps), .int (zI R_maxMemory), .int (zI R_fault_91), .int (zI R_result), .int (zI R_now), .int (zI R_nowRow), .int (zI R_come), .ref (ad 29), .ref (ad 30), .int (zI R_puts), .ref (ad 31)])), (ad 8, .inl (cI, 3700, .inl (zA R_valueKinds))), (ad 9, .inl (cL, 3700, .inr (.inl (zB R_valueNumbers)))), (ad 10, .inl (cI, 3700, .inl (zA R_from))), (ad 11, .inl (cI, 3700, .inl (zA R_length))), (ad 14, .inl (cI, 3700, .inl (zA R_given))), (ad 18, .inl (cI, 5000, .inl (zA R_forms_73))), (ad 19, .inl (cL, 5000, .inr (.inl (zB R_tags_74)))), (ad 20, .inl (cI, 5000, .inl (zA R_counts_75))), (ad 21, .inl (cI, 5000, .inl (zA R_textsAt_76))), (ad 29, .inl (cI, 3, .inl (zA R_of))), (ad 31, .inl (cI, 220, .inl (zA R_comes_79)))]) X (jrunV X (c_Mod_fail (ad := ad) q92) jF0_k (fun _ _ _ _ => trivial) (jgV own_Mod_ofLists (by decide +kernel)) rfl rfl rfl pd_Mod_fail (by decide) [0] rfl (by decide) 0 10 rfl rfl rfl rfl (Nat.le_of_ble_eq_true rfl) d_Mod_ofLists_261 (by decide)) [0] [1, 2, 3, 4, 5, 6, 7, 8, 9, 10, 11] [11, 0, 1, 2, 3, 4, 5, 6, 7, 8, 9, 10] rfl rfl (by decide) (by decide) rfl (by decide) ?_
                refine J_goto (tgt := 273) X d_Mod_ofLists_264 (by decide) ?_
                cases h
                exact J_ret E ⟨_, rfl, rfl⟩ d_Mod_ofLists_273 (Nat.le_refl _) (Nat.le_refl _) rfl
            · refine J_aload_n X d_Mod_ofLists_181 rfl 3 rfl ?_
              refine J_iconst X d_Mod_ofLists_182 ?_
              obtain ⟨r93, R_fault_94, q95, h⟩ := wk_b2 h
              refine J_afterI0 (ws' := [(ad 0, .inr (10, [.int (zI R_thrown), .ref (ad 1), .ref (ad 2), .ref (ad 3), .ref (ad 4), .ref (ad 5), .ref (ad 6), .int (zI R_used), .ref (ad 7), .int (zI R_many), .ref (ad 8), .ref (ad 9), .ref (ad 10), .ref (ad 11), .ref (ad 12), .ref (ad 13), .ref (ad 14), .ref (ad 15), .ref (ad 16), .int (zI R_values), .ref (ad 17), .int (zI R_textEnd), .ref (ad 18), .ref (ad 19), .ref (ad 20), .ref (ad 21), .int (zI R_dataEnd), .ref (ad 22), .int (zI R_rowEnd), .ref (ad 23), .ref (ad 24), .int (zI R_rowMany), .ref (ad 25), .ref (ad 26), .ref (ad 27), .ref (ad 28), .int (zI R_waiting), .int (zI R_mostWaiting), .int (zI R_answer), .int (zI R_steps), .int (zI R_memory), .int (zI R_maxSteps), .int (zI R_maxMemory), .int (zI R_fault_94), .int (zI R_result), .int (zI R_now), .int (zI R_nowRow), .int (zI R_come), .ref (ad 29), .ref (ad 30), .int (zI R_puts), .ref (ad 31)])), (ad 8, .inl (cI, 3700, .inl (zA R_valueKinds))), (ad 9, .inl (cL, 3700, .inr (.inl (zB R_valueNumbers)))), (ad 10, .inl (cI, 3700, .inl (zA R_from))), (ad 11, .inl (cI, 3700, .inl (zA R_length))), (ad 14, .inl (cI, 3700, .inl (zA R_given))), (ad 18, .inl (cI, 5000, .inl (zA R_forms))), (ad 19, .inl (cL, 5000, .inr (.inl (zB R_tags)))), (ad 20, .inl (cI, 5000, .inl (zA R_counts))), (ad 21, .inl (cI, 5000, .inl (zA R_textsAt))), (ad 29, .inl (cI, 3, .inl (zA R_of))), (ad 31, .inl (cI, 220, .inl (zA R_comes)))]) X (jrunV X (c_Mod_fail (ad := ad) q95) jF0_k (fun _ _ _ _ => trivial) (jgV own_Mod_ofLists (by decide +kernel)) rfl rfl rfl pd_Mod_fail (by decide) [0] rfl (by decide) 0 10 rfl rfl rfl rfl (Nat.le_of_ble_eq_true rfl) d_Mod_ofLists_183 (by decide)) [0] [1, 2, 3, 4, 5, 6, 7, 8, 9, 10, 11] [11, 0, 1, 2, 3, 4, 5, 6, 7, 8, 9, 10] rfl rfl (by decide) (by decide) rfl (by decide) ?_
              cases h
              exact J_ret E ⟨_, rfl, rfl⟩ d_Mod_ofLists_186 (Nat.le_refl _) (Nat.le_refl _) rfl
          · rcases wk_c h with ⟨c96, h⟩ | ⟨c96, h⟩
            · refine J_tsIn (tgt := 274) X 29 c96 g4 d_Mod_ofLists_43 (by decide) (by decide) rfl (by decide) ?_
              refine J_aload_n X d_Mod_ofLists_274 rfl 2 rfl ?_
              refine J_iload X d_Mod_ofLists_275 1 rfl ?_
              refine J_if_ne (tgt := 284) X d_Mod_ofLists_277 (by decide) h (fun c97 h => ?_) (fun c97 h => ?_)
              · refine J_iconst X d_Mod_ofLists_284 ?_
                obtain ⟨r98, R_values_99, R_valueKinds_100, R_valueNumbers_101, R_given_102, q103, h⟩ := wk_b5 h
                refine J_afterI0 (ws' := [(ad 0, .inr (10, [.int (zI R_thrown), .ref (ad 1), .ref (ad 2), .ref (ad 3), .ref (ad 4), .ref (ad 5), .ref (ad 6), .int (zI R_used), .ref (ad 7), .int (zI R_many), .ref (ad 8), .ref (ad 9), .ref (ad 10), .ref (ad 11), .ref (ad 12), .ref (ad 13), .ref (ad 14), .ref (ad 15), .ref (ad 16), .int (zI R_values_99), .ref (ad 17), .int (zI R_textEnd), .ref (ad 18), .ref (ad 19), .ref (ad 20), .ref (ad 21), .int (zI R_dataEnd), .ref (ad 22), .int (zI R_rowEnd), .ref (ad 23), .ref (ad 24), .int (zI R_rowMany), .ref (ad 25), .ref (ad 26), .ref (ad 27), .ref (ad 28), .int (zI R_waiting), .int (zI R_mostWaiting), .int (zI R_answer), .int (zI R_steps), .int (zI R_memory), .int (zI R_maxSteps), .int (zI R_maxMemory), .int (zI R_fault), .int (zI R_result), .int (zI R_now), .int (zI R_nowRow), .int (zI R_come), .ref (ad 29), .ref (ad 30), .int (zI R_puts), .ref (ad 31)])), (ad 8, .inl (cI, 3700, .inl (zA R_valueKinds_100))), (ad 9, .inl (cL, 3700, .inr (.inl (zB R_valueNumbers_101)))), (ad 10, .inl (cI, 3700, .inl (zA R_from))), (ad 11, .inl (cI, 3700, .inl (zA R_length))), (ad 14, .inl (cI, 3700, .inl (zA R_given_102))), (ad 18, .inl (cI, 5000, .inl (zA R_forms))), (ad 19, .inl (cL, 5000, .inr (.inl (zB R_tags)))), (ad 20, .inl (cI, 5000, .inl (zA R_counts))), (ad 21, .inl (cI, 5000, .inl (zA R_textsAt))), (ad 29, .inl (cI, 3, .inl (zA R_of))), (ad 31, .inl (cI, 220, .inl (zA R_comes)))]) X (jrunV X (c_Mod_truth (ad := ad) q103) jF0_k (fun _ _ _ _ => trivial) (jgV own_Mod_ofLists (by decide +kernel)) rfl rfl rfl pd_Mod_truth (by decide) [0, 1, 2, 5] rfl (by decide) 0 10 rfl rfl rfl rfl (Nat.le_of_ble_eq_true rfl) d_Mod_ofLists_285 (by decide)) [0, 1, 2, 5] [3, 4, 6, 7, 8, 9, 10, 11] [8, 9, 10, 0, 1, 11, 2, 3, 4, 5, 6, 7] rfl rfl (by decide) (by decide) rfl (by decide) ?_
                cases h
                exact J_ret E ⟨_, rfl, rfl⟩ d_Mod_ofLists_288 (Nat.le_refl _) (Nat.le_refl _) rfl
              · refine J_iconst X d_Mod_ofLists_280 ?_
                refine J_goto (tgt := 285) X d_Mod_ofLists_281 (by decide) ?_
                obtain ⟨r104, R_values_105, R_valueKinds_106, R_valueNumbers_107, R_given_108, q109, h⟩ := wk_b5 h
                refine J_afterI0 (ws' := [(ad 0, .inr (10, [.int (zI R_thrown), .ref (ad 1), .ref (ad 2), .ref (ad 3), .ref (ad 4), .ref (ad 5), .ref (ad 6), .int (zI R_used), .ref (ad 7), .int (zI R_many), .ref (ad 8), .ref (ad 9), .ref (ad 10), .ref (ad 11), .ref (ad 12), .ref (ad 13), .ref (ad 14), .ref (ad 15), .ref (ad 16), .int (zI R_values_105), .ref (ad 17), .int (zI R_textEnd), .ref (ad 18), .ref (ad 19), .ref (ad 20), .ref (ad 21), .int (zI R_dataEnd), .ref (ad 22), .int (zI R_rowEnd), .ref (ad 23), .ref (ad 24), .int (zI R_rowMany), .ref (ad 25), .ref (ad 26), .ref (ad 27), .ref (ad 28), .int (zI R_waiting), .int (zI R_mostWaiting), .int (zI R_answer), .int (zI R_steps), .int (zI R_memory), .int (zI R_maxSteps), .int (zI R_maxMemory), .int (zI R_fault), .int (zI R_result), .int (zI R_now), .int (zI R_nowRow), .int (zI R_come), .ref (ad 29), .ref (ad 30), .int (zI R_puts), .ref (ad 31)])), (ad 8, .inl (cI, 3700, .inl (zA R_valueKinds_106))), (ad 9, .inl (cL, 3700, .inr (.inl (zB R_valueNumbers_107)))), (ad 10, .inl (cI, 3700, .inl (zA R_from))), (ad 11, .inl (cI, 3700, .inl (zA R_length))), (ad 14, .inl (cI, 3700, .inl (zA R_given_108))), (ad 18, .inl (cI, 5000, .inl (zA R_forms))), (ad 19, .inl (cL, 5000, .inr (.inl (zB R_tags)))), (ad 20, .inl (cI, 5000, .inl (zA R_counts))), (ad 21, .inl (cI, 5000, .inl (zA R_textsAt))), (ad 29, .inl (cI, 3, .inl (zA R_of))), (ad 31, .inl (cI, 220, .inl (zA R_comes)))]) X (jrunV X (c_Mod_truth (ad := ad) q109) jF0_k (fun _ _ _ _ => trivial) (jgV own_Mod_ofLists (by decide +kernel)) rfl rfl rfl pd_Mod_truth (by decide) [0, 1, 2, 5] rfl (by decide) 0 10 rfl rfl rfl rfl (Nat.le_of_ble_eq_true rfl) d_Mod_ofLists_285 (by decide)) [0, 1, 2, 5] [3, 4, 6, 7, 8, 9, 10, 11] [8, 9, 10, 0, 1, 11, 2, 3, 4, 5, 6, 7] rfl rfl (by decide) (by decide) rfl (by decide) ?_
                cases h
                exact J_ret E ⟨_, rfl, rfl⟩ d_Mod_ofLists_288 (Nat.le_refl _) (Nat.le_refl _) rfl
            · rcases wk_c h with ⟨c110, h⟩ | ⟨c110, h⟩
              · refine J_tsIn (tgt := 289) X 30 c110 g4 d_Mod_ofLists_43 (by decide) (by decide) rfl (by decide) ?_
                refine J_iload X d_Mod_ofLists_289 1 rfl ?_
                refine J_iconst X d_Mod_ofLists_291 ?_
                obtain ⟨g111, h⟩ := wk_g h
                refine J_irem X g111 d_Mod_ofLists_292 ?_
                refine J_iconst X d_Mod_ofLists_293 ?_
                refine J_icmp_ne (tgt := 305) X d_Mod_ofLists_294 (by decide) h (fun c112 h => ?_) (fun c112 h => ?_)
                · refine J_aload_n X d_Mod_ofLists_305 rfl 2 rfl ?_
                  refine J_iconst X d_Mod_ofLists_306 ?_
                  refine J_lconst (v := 0) X d_Mod_ofLists_307 (by decide) ?_
                  refine J_iload X d_Mod_ofLists_308 1 rfl ?_
                  refine J_iconst X d_Mod_ofLists_310 ?_
                  obtain ⟨g113, h⟩ := wk_g h
                  refine J_idiv X g113 d_Mod_ofLists_311 ?_
                  refine J_iload_n X d_Mod_ofLists_312 rfl 4 rfl ?_
                  obtain ⟨r114, R_values_115, R_dataEnd_116, R_valueKinds_117, R_valueNumbers_118, R_from_119, R_length_120, R_given_121, R_forms_122, R_tags_123, R_counts_124, R_textsAt_125, q126, h⟩ := wk_b12 h
                  refine J_afterI0 (ws' := [(ad 0, .inr (10, [.int (zI R_thrown), .ref (ad 1), .ref (ad 2), .ref (ad 3), .ref (ad 4), .ref (ad 5), .ref (ad 6), .int (zI R_used), .ref (ad 7), .int (zI R_many), .ref (ad 8), .ref (ad 9), .ref (ad 10), .ref (ad 11), .ref (ad 12), .ref (ad 13), .ref (ad 14), .ref (ad 15), .ref (ad 16), .int (zI R_values_115), .ref (ad 17), .int (zI R_textEnd), .ref (ad 18), .ref (ad 19), .ref (ad 20), .ref (ad 21), .int (zI R_dataEnd_116), .ref (ad 22), .int (zI R_rowEnd), .ref (ad 23), .ref (ad 24), .int (zI R_rowMany), .ref (ad 25), .ref (ad 26), .ref (ad 27), .ref (ad 28), .int (zI R_waiting), .int (zI R_mostWaiting), .int (zI R_answer), .int (zI R_steps), .int (zI R_memory), .int (zI R_maxSteps), .int (zI R_maxMemory), .int (zI R_fault), .int (zI R_result), .int (zI R_now), .int (zI R_nowRow), .int (zI R_come), .ref (ad 29), .ref (ad 30), .int (zI R_puts), .ref (ad 31)])), (ad 8, .inl (cI, 3700, .inl (zA R_valueKinds_117))), (ad 9, .inl (cL, 3700, .inr (.inl (zB R_valueNumbers_118)))), (ad 10, .inl (cI, 3700, .inl (zA R_from_119))), (ad 11, .inl (cI, 3700, .inl (zA R_length_120))), (ad 14, .inl (cI, 3700, .inl (zA R_given_121))), (ad 18, .inl (cI, 5000, .inl (zA R_forms_122))), (ad 19, .inl (cL, 5000, .inr (.inl (zB R_tags_123)))), (ad 20, .inl (cI, 5000, .inl (zA R_counts_124))), (ad 21, .inl (cI, 5000, .inl (zA R_textsAt_125))), (ad 29, .inl (cI, 3, .inl (zA R_of))), (ad 31, .inl (cI, 220, .inl (zA R_comes)))]) X (jrunV X (c_Mod_outer (ad := ad) q126) jF0_k (fun _ _ _ _ => trivial) (jgV own_Mod_ofLists (by decide +kernel)) rfl rfl rfl pd_Mod_outer (by decide) [0, 1, 2, 3, 4, 5, 6, 7, 8, 9] rfl (by decide) 0 10 rfl rfl rfl rfl (Nat.le_of_ble_eq_true rfl) d_Mod_ofLists_313 (by decide)) [0, 1, 2, 3, 4, 5, 6, 7, 8, 9] [10, 11] [2, 3, 4, 5, 6, 7, 8, 9, 10, 11, 0, 1] rfl rfl (by decide) (by decide) rfl (by decide) ?_
                  cases h
                  exact J_ret E ⟨_, rfl, rfl⟩ d_Mod_ofLists_316 (Nat.le_refl _) (Nat.le_refl _) rfl
                · refine J_aload_n X d_Mod_ofLists_297 rfl 2 rfl ?_
                  refine J_iconst X d_Mod_ofLists_298 ?_
                  obtain ⟨r127, R_fault_128, q129, h⟩ := wk_b2 h
                  refine J_afterI0 (ws' := [(ad 0, .inr (10, [.int (zI R_thrown), .ref (ad 1), .ref (ad 2), .ref (ad 3), .ref (ad 4), .ref (ad 5), .ref (ad 6), .int (zI R_used), .ref (ad 7), .int (zI R_many), .ref (ad 8), .ref (ad 9), .ref (ad 10), .ref (ad 11), .ref (ad 12), .ref (ad 13), .ref (ad 14), .ref (ad 15), .ref (ad 16), .int (zI R_values), .ref (ad 17), .int (zI R_textEnd), .ref (ad 18), .ref (ad 19), .ref (ad 20), .ref (ad 21), .int (zI R_dataEnd), .ref (ad 22), .int (zI R_rowEnd), .ref (ad 23), .ref (ad 24), .int (zI R_rowMany), .ref (ad 25), .ref (ad 26), .ref (ad 27), .ref (ad 28), .int (zI R_waiting), .int (zI R_mostWaiting), .int (zI R_answer), .int (zI R_steps), .int (zI R_memory), .int (zI R_maxSteps), .int (zI R_maxMemory), .int (zI R_fault_128), .int (zI R_result), .int (zI R_now), .int (zI R_nowRow), .int (zI R_come), .ref (ad 29), .ref (ad 30), .int (zI R_puts), .ref (ad 31)])), (ad 8, .inl (cI, 3700, .inl (zA R_valueKinds))), (ad 9, .inl (cL, 3700, .inr (.inl (zB R_valueNumbers)))), (ad 10, .inl (cI, 3700, .inl (zA R_from))), (ad 11, .inl (cI, 3700, .inl (zA R_length))), (ad 14, .inl (cI, 3700, .inl (zA R_given))), (ad 18, .inl (cI, 5000, .inl (zA R_forms))), (ad 19, .inl (cL, 5000, .inr (.inl (zB R_tags)))), (ad 20, .inl (cI, 5000, .inl (zA R_counts))), (ad 21, .inl (cI, 5000, .inl (zA R_textsAt))), (ad 29, .inl (cI, 3, .inl (zA R_of))), (ad 31, .inl (cI, 220, .inl (zA R_comes)))]) X (jrunV X (c_Mod_fail (ad := ad) q129) jF0_k (fun _ _ _ _ => trivial) (jgV own_Mod_ofLists (by decide +kernel)) rfl rfl rfl pd_Mod_fail (by decide) [0] rfl (by decide) 0 10 rfl rfl rfl rfl (Nat.le_of_ble_eq_true rfl) d_Mod_ofLists_299 (by decide)) [0] [1, 2, 3, 4, 5, 6, 7, 8, 9, 10, 11] [11, 0, 1, 2, 3, 4, 5, 6, 7, 8, 9, 10] rfl rfl (by decide) (by decide) rfl (by decide) ?_
                  refine J_goto (tgt := 316) X d_Mod_ofLists_302 (by decide) ?_
                  cases h
                  exact J_ret E ⟨_, rfl, rfl⟩ d_Mod_ofLists_316 (Nat.le_refl _) (Nat.le_refl _) rfl
              · refine J_tsOut (tgt := 317) X g4 d_Mod_ofLists_43 (by omega) (by decide) ?_
                refine J_aload_n X d_Mod_ofLists_317 rfl 2 rfl ?_
                refine J_iconst X d_Mod_ofLists_318 ?_
                refine J_lconst (v := 0) X d_Mod_ofLists_319 (by decide) ?_
                refine J_iconst X d_Mod_ofLists_320 ?_
                refine J_iload X d_Mod_ofLists_321 1 rfl ?_
                refine J_imul X d_Mod_ofLists_323 ?_
                refine J_iload_n X d_Mod_ofLists_324 rfl 4 rfl ?_
                obtain ⟨r130, R_values_131, R_dataEnd_132, R_valueKinds_133, R_valueNumbers_134, R_from_135, R_length_136, R_given_137, R_forms_138, R_tags_139, R_counts_140, R_textsAt_141, q142, h⟩ := wk_b12 h
                refine J_afterI0 (ws' := [(ad 0, .inr (10, [.int (zI R_thrown), .ref (ad 1), .ref (ad 2), .ref (ad 3), .ref (ad 4), .ref (ad 5), .ref (ad 6), .int (zI R_used), .ref (ad 7), .int (zI R_many), .ref (ad 8), .ref (ad 9), .ref (ad 10), .ref (ad 11), .ref (ad 12), .ref (ad 13), .ref (ad 14), .ref (ad 15), .ref (ad 16), .int (zI R_values_131), .ref (ad 17), .int (zI R_textEnd), .ref (ad 18), .ref (ad 19), .ref (ad 20), .ref (ad 21), .int (zI R_dataEnd_132), .ref (ad 22), .int (zI R_rowEnd), .ref (ad 23), .ref (ad 24), .int (zI R_rowMany), .ref (ad 25), .ref (ad 26), .ref (ad 27), .ref (ad 28), .int (zI R_waiting), .int (zI R_mostWaiting), .int (zI R_answer), .int (zI R_steps), .int (zI R_memory), .int (zI R_maxSteps), .int (zI R_maxMemory), .int (zI R_fault), .int (zI R_result), .int (zI R_now), .int (zI R_nowRow), .int (zI R_come), .ref (ad 29), .ref (ad 30), .int (zI R_puts), .ref (ad 31)])), (ad 8, .inl (cI, 3700, .inl (zA R_valueKinds_133))), (ad 9, .inl (cL, 3700, .inr (.inl (zB R_valueNumbers_134)))), (ad 10, .inl (cI, 3700, .inl (zA R_from_135))), (ad 11, .inl (cI, 3700, .inl (zA R_length_136))), (ad 14, .inl (cI, 3700, .inl (zA R_given_137))), (ad 18, .inl (cI, 5000, .inl (zA R_forms_138))), (ad 19, .inl (cL, 5000, .inr (.inl (zB R_tags_139)))), (ad 20, .inl (cI, 5000, .inl (zA R_counts_140))), (ad 21, .inl (cI, 5000, .inl (zA R_textsAt_141))), (ad 29, .inl (cI, 3, .inl (zA R_of))), (ad 31, .inl (cI, 220, .inl (zA R_comes)))]) X (jrunV X (c_Mod_outer (ad := ad) q142) jF0_k (fun _ _ _ _ => trivial) (jgV own_Mod_ofLists (by decide +kernel)) rfl rfl rfl pd_Mod_outer (by decide) [0, 1, 2, 3, 4, 5, 6, 7, 8, 9] rfl (by decide) 0 10 rfl rfl rfl rfl (Nat.le_of_ble_eq_true rfl) d_Mod_ofLists_325 (by decide)) [0, 1, 2, 3, 4, 5, 6, 7, 8, 9] [10, 11] [2, 3, 4, 5, 6, 7, 8, 9, 10, 11, 0, 1] rfl rfl (by decide) (by decide) rfl (by decide) ?_
                cases h
                exact J_ret E ⟨_, rfl, rfl⟩ d_Mod_ofLists_328 (Nat.le_refl _) (Nat.le_refl _) rfl
    · refine J_iload_n X d_Mod_ofLists_23 rfl 2 rfl ?_
      refine J_bipush X d_Mod_ofLists_24 (by decide) ?_
      refine J_icmp_ne (tgt := 33) X d_Mod_ofLists_26 (by decide) h (fun c143 h => ?_) (fun c143 h => ?_)
      · refine J_aload_n X d_Mod_ofLists_33 rfl 1 rfl ?_
        refine J_iload_n X d_Mod_ofLists_34 rfl 4 rfl ?_
        refine J_iconst X d_Mod_ofLists_35 ?_
        refine J_iadd X d_Mod_ofLists_36 ?_
        obtain ⟨r144, q145, h⟩ := wk_b h
        refine J_afterP (jrunV X (c_Mod_sizeOfData (ad := ad) q145) jF0_k (fun _ _ _ _ => trivial) (jgV own_Mod_ofLists (by decide +kernel)) rfl rfl rfl pd_Mod_sizeOfData (by decide) [0, 6, 8] rfl (by decide) 0 10 rfl rfl rfl rfl (Nat.le_of_ble_eq_true rfl) d_Mod_ofLists_37 (by decide)) ?_
        refine J_istore (lv' := [(6, .int (zI r144)), (5, .int (zI (R_counts p3))), (0, .ref (ad 0)), (1, .int (zI p1)), (2, .int (zI p2)), (3, .int (zI p3)), (4, .int (zI p4))]) X d_Mod_ofLists_40 (by decide) rfl ?_
        refine J_iload_n X d_Mod_ofLists_42 rfl 3 rfl ?_
        obtain ⟨g146, h⟩ := wk_g h
        rcases wk_c h with ⟨c147, h⟩ | ⟨c147, h⟩
        · refine J_tsIn (tgt := 76) X 26 c147 g146 d_Mod_ofLists_43 (by decide) (by decide) rfl (by decide) ?_
          refine J_iload X d_Mod_ofLists_76 1 rfl ?_
          refine J_if_ne (tgt := 87) X d_Mod_ofLists_78 (by decide) h (fun c148 h => ?_) (fun c148 h => ?_)
          · refine J_aload_n X d_Mod_ofLists_87 rfl 2 rfl ?_
            refine J_iload_n X d_Mod_ofLists_88 rfl 5 rfl ?_
            refine J_iconst X d_Mod_ofLists_89 ?_
            refine J_iadd X d_Mod_ofLists_90 ?_
            refine J_iload X d_Mod_ofLists_91 0 rfl ?_
            obtain ⟨R_dataEnd_149, R_forms_150, R_tags_151, R_counts_152, R_textsAt_153, q154, h⟩ := wk_b5 h
            refine J_afterI0 (ws' := [(ad 0, .inr (10, [.int (zI R_thrown), .ref (ad 1), .ref (ad 2), .ref (ad 3), .ref (ad 4), .ref (ad 5), .ref (ad 6), .int (zI R_used), .ref (ad 7), .int (zI R_many), .ref (ad 8), .ref (ad 9), .ref (ad 10), .ref (ad 11), .ref (ad 12), .ref (ad 13), .ref (ad 14), .ref (ad 15), .ref (ad 16), .int (zI R_values), .ref (ad 17), .int (zI R_textEnd), .ref (ad 18), .ref (ad 19), .ref (ad 20), .ref (ad 21), .int (zI R_dataEnd_149), .ref (ad 22), .int (zI R_rowEnd), .ref (ad 23), .ref (ad 24), .int (zI R_rowMany), .ref (ad 25), .ref (ad 26), .ref (ad 27), .ref (ad 28), .int (zI R_waiting), .int (zI R_mostWaiting), .int (zI R_answer), .int (zI R_steps), .int (zI R_memory), .int (zI R_maxSteps), .int (zI R_maxMemory), .int (zI R_fault), .int (zI R_result), .int (zI R_now), .int (zI R_nowRow), .int (zI R_come), .ref (ad 29), .ref (ad 30), .int (zI R_puts), .ref (ad 31)])), (ad 8, .inl (cI, 3700, .inl (zA R_valueKinds))), (ad 9, .inl (cL, 3700, .inr (.inl (zB R_valueNumbers)))), (ad 10, .inl (cI, 3700, .inl (zA R_from))), (ad 11, .inl (cI, 3700, .inl (zA R_length))), (ad 14, .inl (cI, 3700, .inl (zA R_given))), (ad 18, .inl (cI, 5000, .inl (zA R_forms_150))), (ad 19, .inl (cL, 5000, .inr (.inl (zB R_tags_151)))), (ad 20, .inl (cI, 5000, .inl (zA R_counts_152))), (ad 21, .inl (cI, 5000, .inl (zA R_textsAt_153))), (ad 29, .inl (cI, 3, .inl (zA R_of))), (ad 31, .inl (cI, 220, .inl (zA R_comes)))]) X (jrunV X (c_Mod_copyData (ad := ad) q154) jF0_k (fun _ _ _ _ => trivial) (jgV own_Mod_ofLists (by decide +kernel)) rfl rfl rfl pd_Mod_copyData (by decide) [0, 6, 7, 8, 9] rfl (by decide) 0 10 rfl rfl rfl rfl (Nat.le_of_ble_eq_true rfl) d_Mod_ofLists_93 (by decide)) [0, 6, 7, 8, 9] [1, 2, 3, 4, 5, 10, 11] [7, 0, 1, 2, 3, 4, 8, 9, 10, 11, 5, 6] rfl rfl (by decide) (by decide) rfl (by decide) ?_
            refine J_aload_n X d_Mod_ofLists_96 rfl 2 rfl ?_
            refine J_iload X d_Mod_ofLists_97 6 rfl ?_
            obtain ⟨r155, R_values_156, R_valueKinds_157, R_valueNumbers_158, R_from_159, R_length_160, R_given_161, q162, h⟩ := wk_b7 h
            refine J_afterI0 (ws' := [(ad 0, .inr (10, [.int (zI R_thrown), .ref (ad 1), .ref (ad 2), .ref (ad 3), .ref (ad 4), .ref (ad 5), .ref (ad 6), .int (zI R_used), .ref (ad 7), .int (zI R_many), .ref (ad 8), .ref (ad 9), .ref (ad 10), .ref (ad 11), .ref (ad 12), .ref (ad 13), .ref (ad 14), .ref (ad 15), .ref (ad 16), .int (zI R_values_156), .ref (ad 17), .int (zI R_textEnd), .ref (ad 18), .ref (ad 19), .ref (ad 20), .ref (ad 21), .int (zI R_dataEnd_149), .ref (ad 22), .int (zI R_rowEnd), .ref (ad 23), .ref (ad 24), .int (zI R_rowMany), .ref (ad 25), .ref (ad 26), .ref (ad 27), .ref (ad 28), .int (zI R_waiting), .int (zI R_mostWaiting), .int (zI R_answer), .int (zI R_steps), .int (zI R_memory), .int (zI R_maxSteps), .int (zI R_maxMemory), .int (zI R_fault), .int (zI R_result), .int (zI R_now), .int (zI R_nowRow), .int (zI R_come), .ref (ad 29), .ref (ad 30), .int (zI R_puts), .ref (ad 31)])), (ad 8, .inl (cI, 3700, .inl (zA R_valueKinds_157))), (ad 9, .inl (cL, 3700, .inr (.inl (zB R_valueNumbers_158)))), (ad 10, .inl (cI, 3700, .inl (zA R_from_159))), (ad 11, .inl (cI, 3700, .inl (zA R_length_160))), (ad 14, .inl (cI, 3700, .inl (zA R_given_161))), (ad 18, .inl (cI, 5000, .inl (zA R_forms_150))), (ad 19, .inl (cL, 5000, .inr (.inl (zB R_tags_151)))), (ad 20, .inl (cI, 5000, .inl (zA R_counts_152))), (ad 21, .inl (cI, 5000, .inl (zA R_textsAt_153))), (ad 29, .inl (cI, 3, .inl (zA R_of))), (ad 31, .inl (cI, 220, .inl (zA R_comes)))]) X (jrunV X (c_Mod_makeData (ad := ad) q162) jF0_k (fun _ _ _ _ => trivial) (jgV own_Mod_ofLists (by decide +kernel)) rfl rfl rfl pd_Mod_makeData (by decide) [0, 1, 2, 3, 4, 5] rfl (by decide) 0 10 rfl rfl rfl rfl (Nat.le_of_ble_eq_true rfl) d_Mod_ofLists_99 (by decide)) [0, 1, 2, 3, 4, 5] [6, 7, 8, 9, 10, 11] [6, 7, 8, 9, 10, 11, 0, 1, 2, 3, 4, 5] rfl rfl (by decide) (by decide) rfl (by decide) ?_
            cases h
            exact J_ret E ⟨_, rfl, rfl⟩ d_Mod_ofLists_102 (Nat.le_refl _) (Nat.le_refl _) rfl
          · refine J_aload_n X d_Mod_ofLists_81 rfl 2 rfl ?_
            refine J_iconst X d_Mod_ofLists_82 ?_
            obtain ⟨r163, R_fault_164, q165, h⟩ := wk_b2 h
            refine J_afterI0 (ws' := [(ad 0, .inr (10, [.int (zI R_thrown), .ref (ad 1), .ref (ad 2), .ref (ad 3), .ref (ad 4), .ref (ad 5), .ref (ad 6), .int (zI R_used), .ref (ad 7), .int (zI R_many), .ref (ad 8), .ref (ad 9), .ref (ad 10), .ref (ad 11), .ref (ad 12), .ref (ad 13), .ref (ad 14), .ref (ad 15), .ref (ad 16), .int (zI R_values), .ref (ad 17), .int (zI R_textEnd), .ref (ad 18), .ref (ad 19), .ref (ad 20), .ref (ad 21), .int (zI R_dataEnd), .ref (ad 22), .int (zI R_rowEnd), .ref (ad 23), .ref (ad 24), .int (zI R_rowMany), .ref (ad 25), .ref (ad 26), .ref (ad 27), .ref (ad 28), .int (zI R_waiting), .int (zI R_mostWaiting), .int (zI R_answer), .int (zI R_steps), .int (zI R_memory), .int (zI R_maxSteps), .int (zI R_maxMemory), .int (zI R_fault_164), .int (zI R_result), .int (zI R_now), .int (zI R_nowRow), .int (zI R_come), .ref (ad 29), .ref (ad 30), .int (zI R_puts), .ref (ad 31)])), (ad 8, .inl (cI, 3700, .inl (zA R_valueKinds))), (ad 9, .inl (cL, 3700, .inr (.inl (zB R_valueNumbers)))), (ad 10, .inl (cI, 3700, .inl (zA R_from))), (ad 11, .inl (cI, 3700, .inl (zA R_length))), (ad 14, .inl (cI, 3700, .inl (zA R_given))), (ad 18, .inl (cI, 5000, .inl (zA R_forms))), (ad 19, .inl (cL, 5000, .inr (.inl (zB R_tags)))), (ad 20, .inl (cI, 5000, .inl (zA R_counts))), (ad 21, .inl (cI, 5000, .inl (zA R_textsAt))), (ad 29, .inl (cI, 3, .inl (zA R_of))), (ad 31, .inl (cI, 220, .inl (zA R_comes)))]) X (jrunV X (c_Mod_fail (ad := ad) q165) jF0_k (fun _ _ _ _ => trivial) (jgV own_Mod_ofLists (by decide +kernel)) rfl rfl rfl pd_Mod_fail (by decide) [0] rfl (by decide) 0 10 rfl rfl rfl rfl (Nat.le_of_ble_eq_true rfl) d_Mod_ofLists_83 (by decide)) [0] [1, 2, 3, 4, 5, 6, 7, 8, 9, 10, 11] [11, 0, 1, 2, 3, 4, 5, 6, 7, 8, 9, 10] rfl rfl (by decide) (by decide) rfl (by decide) ?_
            cases h
            exact J_ret E ⟨_, rfl, rfl⟩ d_Mod_ofLists_86 (Nat.le_refl _) (Nat.le_refl _) rfl
        · rcases wk_c h with ⟨c166, h⟩ | ⟨c166, h⟩
          · refine J_tsIn (tgt := 103) X 27 c166 g146 d_Mod_ofLists_43 (by decide) (by decide) rfl (by decide) ?_
            refine J_iload X d_Mod_ofLists_103 1 rfl ?_
            refine J_if_ne (tgt := 114) X d_Mod_ofLists_105 (by decide) h (fun c167 h => ?_) (fun c167 h => ?_)
            · refine J_aload_n X d_Mod_ofLists_114 rfl 2 rfl ?_
              refine J_iconst X d_Mod_ofLists_115 ?_
              refine J_lconst (v := 0) X d_Mod_ofLists_116 (by decide) ?_
              refine J_iload X d_Mod_ofLists_117 1 rfl ?_
              refine J_iconst X d_Mod_ofLists_119 ?_
              refine J_isub X d_Mod_ofLists_120 ?_
              refine J_iconst X d_Mod_ofLists_121 ?_
              obtain ⟨R_dataEnd_168, R_forms_169, R_tags_170, R_counts_171, R_textsAt_172, q173, h⟩ := wk_b5 h
              refine J_afterI0 (ws' := [(ad 0, .inr (10, [.int (zI R_thrown), .ref (ad 1), .ref (ad 2), .ref (ad 3), .ref (ad 4), .ref (ad 5), .ref (ad 6), .int (zI R_used), .ref (ad 7), .int (zI R_many), .ref (ad 8), .ref (ad 9), .ref (ad 10), .ref (ad 11), .ref (ad 12), .ref (ad 13), .ref (ad 14), .ref (ad 15), .ref (ad 16), .int (zI R_values), .ref (ad 17), .int (zI R_textEnd), .ref (ad 18), .ref (ad 19), .ref (ad 20), .ref (ad 21), .int (zI R_dataEnd_168), .ref (ad 22), .int (zI R_rowEnd), .ref (ad 23), .ref (ad 24), .int (zI R_rowMany), .ref (ad 25), .ref (ad 26), .ref (ad 27), .ref (ad 28), .int (zI R_waiting), .int (zI R_mostWaiting), .int (zI R_answer), .int (zI R_steps), .int (zI R_memory), .int (zI R_maxSteps), .int (zI R_maxMemory), .int (zI R_fault), .int (zI R_result), .int (zI R_now), .int (zI R_nowRow), .int (zI R_come), .ref (ad 29), .ref (ad 30), .int (zI R_puts), .ref (ad 31)])), (ad 8, .inl (cI, 3700, .inl (zA R_valueKinds))), (ad 9, .inl (cL, 3700, .inr (.inl (zB R_valueNumbers)))), (ad 10, .inl (cI, 3700, .inl (zA R_from))), (ad 11, .inl (cI, 3700, .inl (zA R_length))), (ad 14, .inl (cI, 3700, .inl (zA R_given))), (ad 18, .inl (cI, 5000, .inl (zA R_forms_169))), (ad 19, .inl (cL, 5000, .inr (.inl (zB R_tags_170)))), (ad 20, .inl (cI, 5000, .inl (zA R_counts_171))), (ad 21, .inl (cI, 5000, .inl (zA R_textsAt_172))), (ad 29, .inl (cI, 3, .inl (zA R_of))), (ad 31, .inl (cI, 220, .inl (zA R_comes)))]) X (jrunV X (c_Mod_putData (ad := ad) q173) jF0_k (fun _ _ _ _ => trivial) (jgV own_Mod_ofLists (by decide +kernel)) rfl rfl rfl pd_Mod_putData (by decide) [0, 6, 7, 8, 9] rfl (by decide) 0 10 rfl rfl rfl rfl (Nat.le_of_ble_eq_true rfl) d_Mod_ofLists_122 (by decide)) [0, 6, 7, 8, 9] [1, 2, 3, 4, 5, 10, 11] [7, 0, 1, 2, 3, 4, 8, 9, 10, 11, 5, 6] rfl rfl (by decide) (by decide) rfl (by decide) ?_
              refine J_aload_n X d_Mod_ofLists_125 rfl 2 rfl ?_
              refine J_iload_n X d_Mod_ofLists_126 rfl 5 rfl ?_
              refine J_iconst X d_Mod_ofLists_127 ?_
              refine J_iadd X d_Mod_ofLists_128 ?_
              refine J_iload X d_Mod_ofLists_129 0 rfl ?_
              refine J_iadd X d_Mod_ofLists_131 ?_
              refine J_aload_n X d_Mod_ofLists_132 rfl 2 rfl ?_
              refine J_get X (j_in in_Mod) 0 rfl rfl 13 (by decide) (j_m own_Mod_ofLists (by decide +kernel)) rfl d_Mod_ofLists_133 ?_
              refine J_iload_n X d_Mod_ofLists_136 rfl 4 rfl ?_
              obtain ⟨g174, h⟩ := wk_g h
              refine J_iald X 4 0 rfl rfl g174 d_Mod_ofLists_137 ?_
              refine J_iconst X d_Mod_ofLists_138 ?_
              refine J_isub X d_Mod_ofLists_139 ?_
              refine J_iload X d_Mod_ofLists_140 0 rfl ?_
              refine J_isub X d_Mod_ofLists_142 ?_
              obtain ⟨R_dataEnd_175, R_forms_176, R_tags_177, R_counts_178, R_textsAt_179, q180, h⟩ := wk_b5 h
              refine J_afterI0 (ws' := [(ad 0, .inr (10, [.int (zI R_thrown), .ref (ad 1), .ref (ad 2), .ref (ad 3), .ref (ad 4), .ref (ad 5), .ref (ad 6), .int (zI R_used), .ref (ad 7), .int (zI R_many), .ref (ad 8), .ref (ad 9), .ref (ad 10), .ref (ad 11), .ref (ad 12), .ref (ad 13), .ref (ad 14), .ref (ad 15), .ref (ad 16), .int (zI R_values), .ref (ad 17), .int (zI R_textEnd), .ref (ad 18), .ref (ad 19), .ref (ad 20), .ref (ad 21), .int (zI R_dataEnd_175), .ref (ad 22), .int (zI R_rowEnd), .ref (ad 23), .ref (ad 24), .int (zI R_rowMany), .ref (ad 25), .ref (ad 26), .ref (ad 27), .ref (ad 28), .int (zI R_waiting), .int (zI R_mostWaiting), .int (zI R_answer), .int (zI R_steps), .int (zI R_memory), .int (zI R_maxSteps), .int (zI R_maxMemory), .int (zI R_fault), .int (zI R_result), .int (zI R_now), .int (zI R_nowRow), .int (zI R_come), .ref (ad 29), .ref (ad 30), .int (zI R_puts), .ref (ad 31)])), (ad 8, .inl (cI, 3700, .inl (zA R_valueKinds))), (ad 9, .inl (cL, 3700, .inr (.inl (zB R_valueNumbers)))), (ad 10, .inl (cI, 3700, .inl (zA R_from))), (ad 11, .inl (cI, 3700, .inl (zA R_length))), (ad 14, .inl (cI, 3700, .inl (zA R_given))), (ad 18, .inl (cI, 5000, .inl (zA R_forms_176))), (ad 19, .inl (cL, 5000, .inr (.inl (zB R_tags_177)))), (ad 20, .inl (cI, 5000, .inl (zA R_counts_178))), (ad 21, .inl (cI, 5000, .inl (zA R_textsAt_179))), (ad 29, .inl (cI, 3, .inl (zA R_of))), (ad 31, .inl (cI, 220, .inl (zA R_comes)))]) X (jrunV X (c_Mod_copyData (ad := ad) q180) jF0_k (fun _ _ _ _ => trivial) (jgV own_Mod_ofLists (by decide +kernel)) rfl rfl rfl pd_Mod_copyData (by decide) [0, 6, 7, 8, 9] rfl (by decide) 0 10 rfl rfl rfl rfl (Nat.le_of_ble_eq_true rfl) d_Mod_ofLists_143 (by decide)) [0, 6, 7, 8, 9] [1, 2, 3, 4, 5, 10, 11] [7, 0, 1, 2, 3, 4, 8, 9, 10, 11, 5, 6] rfl rfl (by decide) (by decide) rfl (by decide) ?_
              refine J_aload_n X d_Mod_ofLists_146 rfl 2 rfl ?_
              refine J_iload X d_Mod_ofLists_147 6 rfl ?_
              obtain ⟨r181, R_values_182, R_valueKinds_183, R_valueNumbers_184, R_from_185, R_length_186, R_given_187, q188, h⟩ := wk_b7 h
              refine J_afterI0 (ws' := [(ad 0, .inr (10, [.int (zI R_thrown), .ref (ad 1), .ref (ad 2), .ref (ad 3), .ref (ad 4), .ref (ad 5), .ref (ad 6), .int (zI R_used), .ref (ad 7), .int (zI R_many), .ref (ad 8), .ref (ad 9), .ref (ad 10), .ref (ad 11), .ref (ad 12), .ref (ad 13), .ref (ad 14), .ref (ad 15), .ref (ad 16), .int (zI R_values_182), .ref (ad 17), .int (zI R_textEnd), .ref (ad 18), .ref (ad 19), .ref (ad 20), .ref (ad 21), .int (zI R_dataEnd_175), .ref (ad 22), .int (zI R_rowEnd), .ref (ad 23), .ref (ad 24), .int (zI R_rowMany), .ref (ad 25), .ref (ad 26), .ref (ad 27), .ref (ad 28), .int (zI R_waiting), .int (zI R_mostWaiting), .int (zI R_answer), .int (zI R_steps), .int (zI R_memory), .int (zI R_maxSteps), .int (zI R_maxMemory), .int (zI R_fault), .int (zI R_result), .int (zI R_now), .int (zI R_nowRow), .int (zI R_come), .ref (ad 29), .ref (ad 30), .int (zI R_puts), .ref (ad 31)])), (ad 8, .inl (cI, 3700, .inl (zA R_valueKinds_183))), (ad 9, .inl (cL, 3700, .inr (.inl (zB R_valueNumbers_184)))), (ad 10, .inl (cI, 3700, .inl (zA R_from_185))), (ad 11, .inl (cI, 3700, .inl (zA R_length_186))), (ad 14, .inl (cI, 3700, .inl (zA R_given_187))), (ad 18, .inl (cI, 5000, .inl (zA R_forms_176))), (ad 19, .inl (cL, 5000, .inr (.inl (zB R_tags_177)))), (ad 20, .inl (cI, 5000, .inl (zA R_counts_178))), (ad 21, .inl (cI, 5000, .inl (zA R_textsAt_179))), (ad 29, .inl (cI, 3, .inl (zA R_of))), (ad 31, .inl (cI, 220, .inl (zA R_comes)))]) X (jrunV X (c_Mod_makeData (ad := ad) q188) jF0_k (fun _ _ _ _ => trivial) (jgV own_Mod_ofLists (by decide +kernel)) rfl rfl rfl pd_Mod_makeData (by decide) [0, 1, 2, 3, 4, 5] rfl (by decide) 0 10 rfl rfl rfl rfl (Nat.le_of_ble_eq_true rfl) d_Mod_ofLists_149 (by decide)) [0, 1, 2, 3, 4, 5] [6, 7, 8, 9, 10, 11] [6, 7, 8, 9, 10, 11, 0, 1, 2, 3, 4, 5] rfl rfl (by decide) (by decide) rfl (by decide) ?_
              cases h
              exact J_ret E ⟨_, rfl, rfl⟩ d_Mod_ofLists_152 (Nat.le_refl _) (Nat.le_refl _) rfl
            · refine J_aload_n X d_Mod_ofLists_108 rfl 2 rfl ?_
              refine J_iconst X d_Mod_ofLists_109 ?_
              obtain ⟨r189, R_fault_190, q191, h⟩ := wk_b2 h
              refine J_afterI0 (ws' := [(ad 0, .inr (10, [.int (zI R_thrown), .ref (ad 1), .ref (ad 2), .ref (ad 3), .ref (ad 4), .ref (ad 5), .ref (ad 6), .int (zI R_used), .ref (ad 7), .int (zI R_many), .ref (ad 8), .ref (ad 9), .ref (ad 10), .ref (ad 11), .ref (ad 12), .ref (ad 13), .ref (ad 14), .ref (ad 15), .ref (ad 16), .int (zI R_values), .ref (ad 17), .int (zI R_textEnd), .ref (ad 18), .ref (ad 19), .ref (ad 20), .ref (ad 21), .int (zI R_dataEnd), .ref (ad 22), .int (zI R_rowEnd), .ref (ad 23), .ref (ad 24), .int (zI R_rowMany), .ref (ad 25), .ref (ad 26), .ref (ad 27), .ref (ad 28), .int (zI R_waiting), .int (zI R_mostWaiting), .int (zI R_answer), .int (zI R_steps), .int (zI R_memory), .int (zI R_maxSteps), .int (zI R_maxMemory), .int (zI R_fault_190), .int (zI R_result), .int (zI R_now), .int (zI R_nowRow), .int (zI R_come), .ref (ad 29), .ref (ad 30), .int (zI R_puts), .ref (ad 31)])), (ad 8, .inl (cI, 3700, .inl (zA R_valueKinds))), (ad 9, .inl (cL, 3700, .inr (.inl (zB R_valueNumbers)))), (ad 10, .inl (cI, 3700, .inl (zA R_from))), (ad 11, .inl (cI, 3700, .inl (zA R_length))), (ad 14, .inl (cI, 3700, .inl (zA R_given))), (ad 18, .inl (cI, 5000, .inl (zA R_forms))), (ad 19, .inl (cL, 5000, .inr (.inl (zB R_tags)))), (ad 20, .inl (cI, 5000, .inl (zA R_counts))), (ad 21, .inl (cI, 5000, .inl (zA R_textsAt))), (ad 29, .inl (cI, 3, .inl (zA R_of))), (ad 31, .inl (cI, 220, .inl (zA R_comes)))]) X (jrunV X (c_Mod_fail (ad := ad) q191) jF0_k (fun _ _ _ _ => trivial) (jgV own_Mod_ofLists (by decide +kernel)) rfl rfl rfl pd_Mod_fail (by decide) [0] rfl (by decide) 0 10 rfl rfl rfl rfl (Nat.le_of_ble_eq_true rfl) d_Mod_ofLists_110 (by decide)) [0] [1, 2, 3, 4, 5, 6, 7, 8, 9, 10, 11] [11, 0, 1, 2, 3, 4, 5, 6, 7, 8, 9, 10] rfl rfl (by decide) (by decide) rfl (by decide) ?_
              cases h
              exact J_ret E ⟨_, rfl, rfl⟩ d_Mod_ofLists_113 (Nat.le_refl _) (Nat.le_refl _) rfl
          · rcases wk_c h with ⟨c192, h⟩ | ⟨c192, h⟩
            · refine J_tsIn (tgt := 153) X 28 c192 g146 d_Mod_ofLists_43 (by decide) (by decide) rfl (by decide) ?_
              refine J_aload_n X d_Mod_ofLists_153 rfl 2 rfl ?_
              refine J_get X (j_in in_Mod) 0 rfl rfl 48 (by decide) (j_m own_Mod_ofLists (by decide +kernel)) rfl d_Mod_ofLists_154 ?_
              refine J_iconst X d_Mod_ofLists_157 ?_
              obtain ⟨g193, h⟩ := wk_g h
              refine J_iald X 10 0 rfl rfl g193 d_Mod_ofLists_158 ?_
              refine J_istore (lv' := [(7, .int (zI (R_of 1))), (6, .int (zI r144)), (5, .int (zI (R_counts p3))), (0, .ref (ad 0)), (1, .int (zI p1)), (2, .int (zI p2)), (3, .int (zI p3)), (4, .int (zI p4))]) X d_Mod_ofLists_159 (by decide) rfl ?_
              refine J_aload_n X d_Mod_ofLists_161 rfl 3 rfl ?_
              refine J_get X (j_in in_Mod) 0 rfl rfl 13 (by decide) (j_m own_Mod_ofLists (by decide +kernel)) rfl d_Mod_ofLists_162 ?_
              refine J_iload_n X d_Mod_ofLists_165 rfl 5 rfl ?_
              obtain ⟨g194, h⟩ := wk_g h
              refine J_iald X 4 0 rfl rfl g194 d_Mod_ofLists_166 ?_
              refine J_aload_n X d_Mod_ofLists_167 rfl 3 rfl ?_
              refine J_get X (j_in in_Mod) 0 rfl rfl 13 (by decide) (j_m own_Mod_ofLists (by decide +kernel)) rfl d_Mod_ofLists_168 ?_
              refine J_iload X d_Mod_ofLists_171 0 rfl ?_
              obtain ⟨g195, h⟩ := wk_g h
              refine J_iald X 4 0 rfl rfl g195 d_Mod_ofLists_173 ?_
              refine J_iadd X d_Mod_ofLists_174 ?_
              refine J_sipush X d_Mod_ofLists_175 (by decide) ?_
              refine J_icmp_le (tgt := 187) X d_Mod_ofLists_178 (by decide) h (fun c196 h => ?_) (fun c196 h => ?_)
              · refine J_aload_n X d_Mod_ofLists_187 rfl 3 rfl ?_
                refine J_iconst X d_Mod_ofLists_188 ?_
                refine J_lconst (v := 0) X d_Mod_ofLists_189 (by decide) ?_
                refine J_aload_n X d_Mod_ofLists_190 rfl 3 rfl ?_
                refine J_get X (j_in in_Mod) 0 rfl rfl 24 (by decide) (j_m own_Mod_ofLists (by decide +kernel)) rfl d_Mod_ofLists_191 ?_
                refine J_aload_n X d_Mod_ofLists_194 rfl 3 rfl ?_
                refine J_get X (j_in in_Mod) 0 rfl rfl 12 (by decide) (j_m own_Mod_ofLists (by decide +kernel)) rfl d_Mod_ofLists_195 ?_
                refine J_iload X d_Mod_ofLists_198 0 rfl ?_
                obtain ⟨g197, h⟩ := wk_g h
                refine J_iald X 3 0 rfl rfl g197 d_Mod_ofLists_200 ?_
                obtain ⟨g198, h⟩ := wk_g h
                refine J_iald X 8 0 rfl rfl g198 d_Mod_ofLists_201 ?_
                refine J_iconst X d_Mod_ofLists_202 ?_
                refine J_iadd X d_Mod_ofLists_203 ?_
                refine J_iconst X d_Mod_ofLists_204 ?_
                obtain ⟨R_dataEnd_199, R_forms_200, R_tags_201, R_counts_202, R_textsAt_203, q204, h⟩ := wk_b5 h
                refine J_afterI0 (ws' := [(ad 0, .inr (10, [.int (zI R_thrown), .ref (ad 1), .ref (ad 2), .ref (ad 3), .ref (ad 4), .ref (ad 5), .ref (ad 6), .int (zI R_used), .ref (ad 7), .int (zI R_many), .ref (ad 8), .ref (ad 9), .ref (ad 10), .ref (ad 11), .ref (ad 12), .ref (ad 13), .ref (ad 14), .ref (ad 15), .ref (ad 16), .int (zI R_values), .ref (ad 17), .int (zI R_textEnd), .ref (ad 18), .ref (ad 19), .ref (ad 20), .ref (ad 21), .int (zI R_dataEnd_199), .ref (ad 22), .int (zI R_rowEnd), .ref (ad 23), .ref (ad 24), .int (zI R_rowMany), .ref (ad 25), .ref (ad 26), .ref (ad 27), .ref (ad 28), .int (zI R_waiting), .int (zI R_mostWaiting), .int (zI R_answer), .int (zI R_steps), .int (zI R_memory), .int (zI R_maxSteps), .int (zI R_maxMemory), .int (zI R_fault), .int (zI R_result), .int (zI R_now), .int (zI R_nowRow), .int (zI R_come), .ref (ad 29), .ref (ad 30), .int (zI R_puts), .ref (ad 31)])), (ad 8, .inl (cI, 3700, .inl (zA R_valueKinds))), (ad 9, .inl (cL, 3700, .inr (.inl (zB R_valueNumbers)))), (ad 10, .inl (cI, 3700, .inl (zA R_from))), (ad 11, .inl (cI, 3700, .inl (zA R_length))), (ad 14, .inl (cI, 3700, .inl (zA R_given))), (ad 18, .inl (cI, 5000, .inl (zA R_forms_200))), (ad 19, .inl (cL, 5000, .inr (.inl (zB R_tags_201)))), (ad 20, .inl (cI, 5000, .inl (zA R_counts_202))), (ad 21, .inl (cI, 5000, .inl (zA R_textsAt_203))), (ad 29, .inl (cI, 3, .inl (zA R_of))), (ad 31, .inl (cI, 220, .inl (zA R_comes)))]) X (jrunV X (c_Mod_putData (ad := ad) q204) jF0_k (fun _ _ _ _ => trivial) (jgV own_Mod_ofLists (by decide +kernel)) rfl rfl rfl pd_Mod_putData (by decide) [0, 6, 7, 8, 9] rfl (by decide) 0 10 rfl rfl rfl rfl (Nat.le_of_ble_eq_true rfl) d_Mod_ofLists_205 (by decide)) [0, 6, 7, 8, 9] [1, 2, 3, 4, 5, 10, 11] [7, 0, 1, 2, 3, 4, 8, 9, 10, 11, 5, 6] rfl rfl (by decide) (by decide) rfl (by decide) ?_
                refine J_aload_n X d_Mod_ofLists_208 rfl 3 rfl ?_
                refine J_iload_n X d_Mod_ofLists_209 rfl 6 rfl ?_
                refine J_aload_n X d_Mod_ofLists_210 rfl 3 rfl ?_
                refine J_get X (j_in in_Mod) 0 rfl rfl 13 (by decide) (j_m own_Mod_ofLists (by decide +kernel)) rfl d_Mod_ofLists_211 ?_
                refine J_iload_n X d_Mod_ofLists_214 rfl 5 rfl ?_
                obtain ⟨g205, h⟩ := wk_g h
                refine J_iald X 4 0 rfl rfl g205 d_Mod_ofLists_215 ?_
                obtain ⟨R_dataEnd_206, R_forms_207, R_tags_208, R_counts_209, R_textsAt_210, q211, h⟩ := wk_b5 h
                refine J_afterI0 (ws' := [(ad 0, .inr (10, [.int (zI R_thrown), .ref (ad 1), .ref (ad 2), .ref (ad 3), .ref (ad 4), .ref (ad 5), .ref (ad 6), .int (zI R_used), .ref (ad 7), .int (zI R_many), .ref (ad 8), .ref (ad 9), .ref (ad 10), .ref (ad 11), .ref (ad 12), .ref (ad 13), .ref (ad 14), .ref (ad 15), .ref (ad 16), .int (zI R_values), .ref (ad 17), .int (zI R_textEnd), .ref (ad 18), .ref (ad 19), .ref (ad 20), .ref (ad 21), .int (zI R_dataEnd_206), .ref (ad 22), .int (zI R_rowEnd), .ref (ad 23), .ref (ad 24), .int (zI R_rowMany), .ref (ad 25), .ref (ad 26), .ref (ad 27), .ref (ad 28), .int (zI R_waiting), .int (zI R_mostWaiting), .int (zI R_answer), .int (zI R_steps), .int (zI R_memory), .int (zI R_maxSteps), .int (zI R_maxMemory), .int (zI R_fault), .int (zI R_result), .int (zI R_now), .int (zI R_nowRow), .int (zI R_come), .ref (ad 29), .ref (ad 30), .int (zI R_puts), .ref (ad 31)])), (ad 8, .inl (cI, 3700, .inl (zA R_valueKinds))), (ad 9, .inl (cL, 3700, .inr (.inl (zB R_valueNumbers)))), (ad 10, .inl (cI, 3700, .inl (zA R_from))), (ad 11, .inl (cI, 3700, .inl (zA R_length))), (ad 14, .inl (cI, 3700, .inl (zA R_given))), (ad 18, .inl (cI, 5000, .inl (zA R_forms_207))), (ad 19, .inl (cL, 5000, .inr (.inl (zB R_tags_208)))), (ad 20, .inl (cI, 5000, .inl (zA R_counts_209))), (ad 21, .inl (cI, 5000, .inl (zA R_textsAt_210))), (ad 29, .inl (cI, 3, .inl (zA R_of))), (ad 31, .inl (cI, 220, .inl (zA R_comes)))]) X (jrunV X (c_Mod_copyData (ad := ad) q211) jF0_k (fun _ _ _ _ => trivial) (jgV own_Mod_ofLists (by decide +kernel)) rfl rfl rfl pd_Mod_copyData (by decide) [0, 6, 7, 8, 9] rfl (by decide) 0 10 rfl rfl rfl rfl (Nat.le_of_ble_eq_true rfl) d_Mod_ofLists_216 (by decide)) [0, 6, 7, 8, 9] [1, 2, 3, 4, 5, 10, 11] [7, 0, 1, 2, 3, 4, 8, 9, 10, 11, 5, 6] rfl rfl (by decide) (by decide) rfl (by decide) ?_
                refine J_aload_n X d_Mod_ofLists_219 rfl 3 rfl ?_
                refine J_aload_n X d_Mod_ofLists_220 rfl 3 rfl ?_
                refine J_get X (j_in in_Mod) 0 rfl rfl 12 (by decide) (j_m own_Mod_ofLists (by decide +kernel)) rfl d_Mod_ofLists_221 ?_
                refine J_iload X d_Mod_ofLists_224 0 rfl ?_
                obtain ⟨g212, h⟩ := wk_g h
                refine J_iald X 3 0 rfl rfl g212 d_Mod_ofLists_226 ?_
                refine J_iconst X d_Mod_ofLists_227 ?_
                refine J_iadd X d_Mod_ofLists_228 ?_
                refine J_aload_n X d_Mod_ofLists_229 rfl 3 rfl ?_
                refine J_get X (j_in in_Mod) 0 rfl rfl 13 (by decide) (j_m own_Mod_ofLists (by decide +kernel)) rfl d_Mod_ofLists_230 ?_
                refine J_iload X d_Mod_ofLists_233 0 rfl ?_
                obtain ⟨g213, h⟩ := wk_g h
                refine J_iald X 4 0 rfl rfl g213 d_Mod_ofLists_235 ?_
                refine J_iconst X d_Mod_ofLists_236 ?_
                refine J_isub X d_Mod_ofLists_237 ?_
                obtain ⟨R_dataEnd_214, R_forms_215, R_tags_216, R_counts_217, R_textsAt_218, q219, h⟩ := wk_b5 h
                refine J_afterI0 (ws' := [(ad 0, .inr (10, [.int (zI R_thrown), .ref (ad 1), .ref (ad 2), .ref (ad 3), .ref (ad 4), .ref (ad 5), .ref (ad 6), .int (zI R_used), .ref (ad 7), .int (zI R_many), .ref (ad 8), .ref (ad 9), .ref (ad 10), .ref (ad 11), .ref (ad 12), .ref (ad 13), .ref (ad 14), .ref (ad 15), .ref (ad 16), .int (zI R_values), .ref (ad 17), .int (zI R_textEnd), .ref (ad 18), .ref (ad 19), .ref (ad 20), .ref (ad 21), .int (zI R_dataEnd_214), .ref (ad 22), .int (zI R_rowEnd), .ref (ad 23), .ref (ad 24), .int (zI R_rowMany), .ref (ad 25), .ref (ad 26), .ref (ad 27), .ref (ad 28), .int (zI R_waiting), .int (zI R_mostWaiting), .int (zI R_answer), .int (zI R_steps), .int (zI R_memory), .int (zI R_maxSteps), .int (zI R_maxMemory), .int (zI R_fault), .int (zI R_result), .int (zI R_now), .int (zI R_nowRow), .int (zI R_come), .ref (ad 29), .ref (ad 30), .int (zI R_puts), .ref (ad 31)])), (ad 8, .inl (cI, 3700, .inl (zA R_valueKinds))), (ad 9, .inl (cL, 3700, .inr (.inl (zB R_valueNumbers)))), (ad 10, .inl (cI, 3700, .inl (zA R_from))), (ad 11, .inl (cI, 3700, .inl (zA R_length))), (ad 14, .inl (cI, 3700, .inl (zA R_given))), (ad 18, .inl (cI, 5000, .inl (zA R_forms_215))), (ad 19, .inl (cL, 5000, .inr (.inl (zB R_tags_216)))), (ad 20, .inl (cI, 5000, .inl (zA R_counts_217))), (ad 21, .inl (cI, 5000, .inl (zA R_textsAt_218))), (ad 29, .inl (cI, 3, .inl (zA R_of))), (ad 31, .inl (cI, 220, .inl (zA R_comes)))]) X (jrunV X (c_Mod_copyData (ad := ad) q219) jF0_k (fun _ _ _ _ => trivial) (jgV own_Mod_ofLists (by decide +kernel)) rfl rfl rfl pd_Mod_copyData (by decide) [0, 6, 7, 8, 9] rfl (by decide) 0 10 rfl rfl rfl rfl (Nat.le_of_ble_eq_true rfl) d_Mod_ofLists_238 (by decide)) [0, 6, 7, 8, 9] [1, 2, 3, 4, 5, 10, 11] [7, 0, 1, 2, 3, 4, 8, 9, 10, 11, 5, 6] rfl rfl (by decide) (by decide) rfl (by decide) ?_
                refine J_aload_n X d_Mod_ofLists_241 rfl 3 rfl ?_
                refine J_iload X d_Mod_ofLists_242 7 rfl ?_
                refine J_aload_n X d_Mod_ofLists_244 rfl 3 rfl ?_
                refine J_get X (j_in in_Mod) 0 rfl rfl 26 (by decide) (j_m own_Mod_ofLists (by decide +kernel)) rfl d_Mod_ofLists_245 ?_
                refine J_iload X d_Mod_ofLists_248 7 rfl ?_
                refine J_isub X d_Mod_ofLists_250 ?_
                obtain ⟨r220, R_comes_221, q222, h⟩ := wk_b2 h
                refine J_afterI0 (ws' := [(ad 0, .inr (10, [.int (zI R_thrown), .ref (ad 1), .ref (ad 2), .ref (ad 3), .ref (ad 4), .ref (ad 5), .ref (ad 6), .int (zI R_used), .ref (ad 7), .int (zI R_many), .ref (ad 8), .ref (ad 9), .ref (ad 10), .ref (ad 11), .ref (ad 12), .ref (ad 13), .ref (ad 14), .ref (ad 15), .ref (ad 16), .int (zI R_values), .ref (ad 17), .int (zI R_textEnd), .ref (ad 18), .ref (ad 19), .ref (ad 20), .ref (ad 21), .int (zI R_dataEnd_214), .ref (ad 22), .int (zI R_rowEnd), .ref (ad 23), .ref (ad 24), .int (zI R_rowMany), .ref (ad 25), .ref (ad 26), .ref (ad 27), .ref (ad 28), .int (zI R_waiting), .int (zI R_mostWaiting), .int (zI R_answer), .int (zI R_steps), .int (zI R_memory), .int (zI R_maxSteps), .int (zI R_maxMemory), .int (zI R_fault), .int (zI R_result), .int (zI R_now), .int (zI R_nowRow), .int (zI R_come), .ref (ad 29), .ref (ad 30), .int (zI R_puts), .ref (ad 31)])), (ad 8, .inl (cI, 3700, .inl (zA R_valueKinds))), (ad 9, .inl (cL, 3700, .inr (.inl (zB R_valueNumbers)))), (ad 10, .inl (cI, 3700, .inl (zA R_from))), (ad 11, .inl (cI, 3700, .inl (zA R_length))), (ad 14, .inl (cI, 3700, .inl (zA R_given))), (ad 18, .inl (cI, 5000, .inl (zA R_forms_215))), (ad 19, .inl (cL, 5000, .inr (.inl (zB R_tags_216)))), (ad 20, .inl (cI, 5000, .inl (zA R_counts_217))), (ad 21, .inl (cI, 5000, .inl (zA R_textsAt_218))), (ad 29, .inl (cI, 3, .inl (zA R_of))), (ad 31, .inl (cI, 220, .inl (zA R_comes_221)))]) X (jrunV X (c_Mod_depthOfData (ad := ad) q222) jF0_k (fun _ _ _ _ => trivial) (jgV own_Mod_ofLists (by decide +kernel)) rfl rfl rfl pd_Mod_depthOfData (by decide) [0, 6, 8, 11] rfl (by decide) 0 10 rfl rfl rfl rfl (Nat.le_of_ble_eq_true rfl) d_Mod_ofLists_251 (by decide)) [0, 6, 8, 11] [1, 2, 3, 4, 5, 7, 9, 10] [8, 0, 1, 2, 3, 4, 9, 5, 10, 6, 7, 11] rfl rfl (by decide) (by decide) rfl (by decide) ?_
                refine J_bipush X d_Mod_ofLists_254 (by decide) ?_
                refine J_icmp_le (tgt := 267) X d_Mod_ofLists_256 (by decide) h (fun c223 h => ?_) (fun c223 h => ?_)
                · refine J_aload_n X d_Mod_ofLists_267 rfl 3 rfl ?_
                  refine J_iload X d_Mod_ofLists_268 7 rfl ?_
                  obtain ⟨r224, R_values_225, R_valueKinds_226, R_valueNumbers_227, R_from_228, R_length_229, R_given_230, q231, h⟩ := wk_b7 h
                  refine J_afterI0 (ws' := [(ad 0, .inr (10, [.int (zI R_thrown), .ref (ad 1), .ref (ad 2), .ref (ad 3), .ref (ad 4), .ref (ad 5), .ref (ad 6), .int (zI R_used), .ref (ad 7), .int (zI R_many), .ref (ad 8), .ref (ad 9), .ref (ad 10), .ref (ad 11), .ref (ad 12), .ref (ad 13), .ref (ad 14), .ref (ad 15), .ref (ad 16), .int (zI R_values_225), .ref (ad 17), .int (zI R_textEnd), .ref (ad 18), .ref (ad 19), .ref (ad 20), .ref (ad 21), .int (zI R_dataEnd_214), .ref (ad 22), .int (zI R_rowEnd), .ref (ad 23), .ref (ad 24), .int (zI R_rowMany), .ref (ad 25), .ref (ad 26), .ref (ad 27), .ref (ad 28), .int (zI R_waiting), .int (zI R_mostWaiting), .int (zI R_answer), .int (zI R_steps), .int (zI R_memory), .int (zI R_maxSteps), .int (zI R_maxMemory), .int (zI R_fault), .int (zI R_result), .int (zI R_now), .int (zI R_nowRow), .int (zI R_come), .ref (ad 29), .ref (ad 30), .int (zI R_puts), .ref (ad 31)])), (ad 8, .inl (cI, 3700, .inl (zA R_valueKinds_226))), (ad 9, .inl (cL, 3700, .inr (.inl (zB R_valueNumbers_227)))), (ad 10, .inl (cI, 3700, .inl (zA R_from_228))), (ad 11, .inl (cI, 3700, .inl (zA R_length_229))), (ad 14, .inl (cI, 3700, .inl (zA R_given_230))), (ad 18, .inl (cI, 5000, .inl (zA R_forms_215))), (ad 19, .inl (cL, 5000, .inr (.inl (zB R_tags_216)))), (ad 20, .inl (cI, 5000, .inl (zA R_counts_217))), (ad 21, .inl (cI, 5000, .inl (zA R_textsAt_218))), (ad 29, .inl (cI, 3, .inl (zA R_of))), (ad 31, .inl (cI, 220, .inl (zA R_comes_221)))]) X (jrunV X (c_Mod_makeData (ad := ad) q231) jF0_k (fun _ _ _ _ => trivial) (jgV own_Mod_ofLists (by decide +kernel)) rfl rfl rfl pd_Mod_makeData (by decide) [0, 1, 2, 3, 4, 5] rfl (by decide) 0 10 rfl rfl rfl rfl (Nat.le_of_ble_eq_true rfl) d_Mod_ofLists_270 (by decide)) [0, 1, 2, 3, 4, 5] [6, 7, 8, 9, 10, 11] [6, 7, 8, 9, 10, 11, 0, 1, 2, 3, 4, 5] rfl rfl (by decide) (by decide) rfl (by decide) ?_
                  cases h
                  exact J_ret E ⟨_, rfl, rfl⟩ d_Mod_ofLists_273 (Nat.le_refl _) (Nat.le_refl _) rfl
                · refine J_aload_n X d_Mod_ofLists_259 rfl 3 rfl ?_
                  refine J_iconst X d_Mod_ofLists_260 ?_
                  obtain ⟨r232, R_fault_233, q234, h⟩ := wk_b2 h
                  refine J_afterI0 (ws' := [(ad 0, .inr (10, [.int (zI R_thrown), .ref (ad 1), .ref (ad 2), .ref (ad 3), .ref (ad 4), .ref (ad 5), .ref (ad 6), .int (zI R_used), .ref (ad 7), .int (zI R_many), .ref (ad 8), .ref (ad 9), .ref (ad 10), .ref (ad 11), .ref (ad 12), .ref (ad 13), .ref (ad 14), .ref (ad 15), .ref (ad 16), .int (zI R_values), .ref (ad 17), .int (zI R_textEnd), .ref (ad 18), .ref (ad 19), .ref (ad 20), .ref (ad 21), .int (zI R_dataEnd_214), .ref (ad 22), .int (zI R_rowEnd), .ref (ad 23), .ref (ad 24), .int (zI R_rowMany), .ref (ad 25), .ref (ad 26), .ref (ad 27), .ref (ad 28), .int (zI R_waiting), .int (zI R_mostWaiting), .int (zI R_answer), .int (zI R_steps), .int (zI R_memory), .int (zI R_maxSteps), .int (zI R_maxMemory), .int (zI R_fault_233), .int (zI R_result), .int (zI R_now), .int (zI R_nowRow), .int (zI R_come), .ref (ad 29), .ref (ad 30), .int (zI R_puts), .ref (ad 31)])), (ad 8, .inl (cI, 3700, .inl (zA R_valueKinds))), (ad 9, .inl (cL, 3700, .inr (.inl (zB R_valueNumbers)))), (ad 10, .inl (cI, 3700, .inl (zA R_from))), (ad 11, .inl (cI, 3700, .inl (zA R_length))), (ad 14, .inl (cI, 3700, .inl (zA R_given))), (ad 18, .inl (cI, 5000, .inl (zA R_forms_215))), (ad 19, .inl (cL, 5000, .inr (.inl (zB R_tags_216)))), (ad 20, .inl (cI, 5000, .inl (zA R_counts_217))), (ad 21, .inl (cI, 5000, .inl (zA R_textsAt_218))), (ad 29, .inl (cI, 3, .inl (zA R_of))), (ad 31, .inl (cI, 220, .inl (zA R_comes_221)))]) X (jrunV X (c_Mod_fail (ad := ad) q234) jF0_k (fun _ _ _ _ => trivial) (jgV own_Mod_ofLists (by decide +kernel)) rfl rfl rfl pd_Mod_fail (by decide) [0] rfl (by decide) 0 10 rfl rfl rfl rfl (Nat.le_of_ble_eq_true rfl) d_Mod_ofLists_261 (by decide)) [0] [1, 2, 3, 4, 5, 6, 7, 8, 9, 10, 11] [11, 0, 1, 2, 3, 4, 5, 6, 7, 8, 9, 10] rfl rfl (by decide) (by decide) rfl (by decide) ?_
                  refine J_goto (tgt := 273) X d_Mod_ofLists_264 (by decide) ?_
                  cases h
                  exact J_ret E ⟨_, rfl, rfl⟩ d_Mod_ofLists_273 (Nat.le_refl _) (Nat.le_refl _) rfl
              · refine J_aload_n X d_Mod_ofLists_181 rfl 3 rfl ?_
                refine J_iconst X d_Mod_ofLists_182 ?_
                obtain ⟨r235, R_fault_236, q237, h⟩ := wk_b2 h
                refine J_afterI0 (ws' := [(ad 0, .inr (10, [.int (zI R_thrown), .ref (ad 1), .ref (ad 2), .ref (ad 3), .ref (ad 4), .ref (ad 5), .ref (ad 6), .int (zI R_used), .ref (ad 7), .int (zI R_many), .ref (ad 8), .ref (ad 9), .ref (ad 10), .ref (ad 11), .ref (ad 12), .ref (ad 13), .ref (ad 14), .ref (ad 15), .ref (ad 16), .int (zI R_values), .ref (ad 17), .int (zI R_textEnd), .ref (ad 18), .ref (ad 19), .ref (ad 20), .ref (ad 21), .int (zI R_dataEnd), .ref (ad 22), .int (zI R_rowEnd), .ref (ad 23), .ref (ad 24), .int (zI R_rowMany), .ref (ad 25), .ref (ad 26), .ref (ad 27), .ref (ad 28), .int (zI R_waiting), .int (zI R_mostWaiting), .int (zI R_answer), .int (zI R_steps), .int (zI R_memory), .int (zI R_maxSteps), .int (zI R_maxMemory), .int (zI R_fault_236), .int (zI R_result), .int (zI R_now), .int (zI R_nowRow), .int (zI R_come), .ref (ad 29), .ref (ad 30), .int (zI R_puts), .ref (ad 31)])), (ad 8, .inl (cI, 3700, .inl (zA R_valueKinds))), (ad 9, .inl (cL, 3700, .inr (.inl (zB R_valueNumbers)))), (ad 10, .inl (cI, 3700, .inl (zA R_from))), (ad 11, .inl (cI, 3700, .inl (zA R_length))), (ad 14, .inl (cI, 3700, .inl (zA R_given))), (ad 18, .inl (cI, 5000, .inl (zA R_forms))), (ad 19, .inl (cL, 5000, .inr (.inl (zB R_tags)))), (ad 20, .inl (cI, 5000, .inl (zA R_counts))), (ad 21, .inl (cI, 5000, .inl (zA R_textsAt))), (ad 29, .inl (cI, 3, .inl (zA R_of))), (ad 31, .inl (cI, 220, .inl (zA R_comes)))]) X (jrunV X (c_Mod_fail (ad := ad) q237) jF0_k (fun _ _ _ _ => trivial) (jgV own_Mod_ofLists (by decide +kernel)) rfl rfl rfl pd_Mod_fail (by decide) [0] rfl (by decide) 0 10 rfl rfl rfl rfl (Nat.le_of_ble_eq_true rfl) d_Mod_ofLists_183 (by decide)) [0] [1, 2, 3, 4, 5, 6, 7, 8, 9, 10, 11] [11, 0, 1, 2, 3, 4, 5, 6, 7, 8, 9, 10] rfl rfl (by decide) (by decide) rfl (by decide) ?_
                cases h
                exact J_ret E ⟨_, rfl, rfl⟩ d_Mod_ofLists_186 (Nat.le_refl _) (Nat.le_refl _) rfl
            · rcases wk_c h with ⟨c238, h⟩ | ⟨c238, h⟩
              · refine J_tsIn (tgt := 274) X 29 c238 g146 d_Mod_ofLists_43 (by decide) (by decide) rfl (by decide) ?_
                refine J_aload_n X d_Mod_ofLists_274 rfl 2 rfl ?_
                refine J_iload X d_Mod_ofLists_275 1 rfl ?_
                refine J_if_ne (tgt := 284) X d_Mod_ofLists_277 (by decide) h (fun c239 h => ?_) (fun c239 h => ?_)
                · refine J_iconst X d_Mod_ofLists_284 ?_
                  obtain ⟨r240, R_values_241, R_valueKinds_242, R_valueNumbers_243, R_given_244, q245, h⟩ := wk_b5 h
                  refine J_afterI0 (ws' := [(ad 0, .inr (10, [.int (zI R_thrown), .ref (ad 1), .ref (ad 2), .ref (ad 3), .ref (ad 4), .ref (ad 5), .ref (ad 6), .int (zI R_used), .ref (ad 7), .int (zI R_many), .ref (ad 8), .ref (ad 9), .ref (ad 10), .ref (ad 11), .ref (ad 12), .ref (ad 13), .ref (ad 14), .ref (ad 15), .ref (ad 16), .int (zI R_values_241), .ref (ad 17), .int (zI R_textEnd), .ref (ad 18), .ref (ad 19), .ref (ad 20), .ref (ad 21), .int (zI R_dataEnd), .ref (ad 22), .int (zI R_rowEnd), .ref (ad 23), .ref (ad 24), .int (zI R_rowMany), .ref (ad 25), .ref (ad 26), .ref (ad 27), .ref (ad 28), .int (zI R_waiting), .int (zI R_mostWaiting), .int (zI R_answer), .int (zI R_steps), .int (zI R_memory), .int (zI R_maxSteps), .int (zI R_maxMemory), .int (zI R_fault), .int (zI R_result), .int (zI R_now), .int (zI R_nowRow), .int (zI R_come), .ref (ad 29), .ref (ad 30), .int (zI R_puts), .ref (ad 31)])), (ad 8, .inl (cI, 3700, .inl (zA R_valueKinds_242))), (ad 9, .inl (cL, 3700, .inr (.inl (zB R_valueNumbers_243)))), (ad 10, .inl (cI, 3700, .inl (zA R_from))), (ad 11, .inl (cI, 3700, .inl (zA R_length))), (ad 14, .inl (cI, 3700, .inl (zA R_given_244))), (ad 18, .inl (cI, 5000, .inl (zA R_forms))), (ad 19, .inl (cL, 5000, .inr (.inl (zB R_tags)))), (ad 20, .inl (cI, 5000, .inl (zA R_counts))), (ad 21, .inl (cI, 5000, .inl (zA R_textsAt))), (ad 29, .inl (cI, 3, .inl (zA R_of))), (ad 31, .inl (cI, 220, .inl (zA R_comes)))]) X (jrunV X (c_Mod_truth (ad := ad) q245) jF0_k (fun _ _ _ _ => trivial) (jgV own_Mod_ofLists (by decide +kernel)) rfl rfl rfl pd_Mod_truth (by decide) [0, 1, 2, 5] rfl (by decide) 0 10 rfl rfl rfl rfl (Nat.le_of_ble_eq_true rfl) d_Mod_ofLists_285 (by decide)) [0, 1, 2, 5] [3, 4, 6, 7, 8, 9, 10, 11] [8, 9, 10, 0, 1, 11, 2, 3, 4, 5, 6, 7] rfl rfl (by decide) (by decide) rfl (by decide) ?_
                  cases h
                  exact J_ret E ⟨_, rfl, rfl⟩ d_Mod_ofLists_288 (Nat.le_refl _) (Nat.le_refl _) rfl
                · refine J_iconst X d_Mod_ofLists_280 ?_
                  refine J_goto (tgt := 285) X d_Mod_ofLists_281 (by decide) ?_
                  obtain ⟨r246, R_values_247, R_valueKinds_248, R_valueNumbers_249, R_given_250, q251, h⟩ := wk_b5 h
                  refine J_afterI0 (ws' := [(ad 0, .inr (10, [.int (zI R_thrown), .ref (ad 1), .ref (ad 2), .ref (ad 3), .ref (ad 4), .ref (ad 5), .ref (ad 6), .int (zI R_used), .ref (ad 7), .int (zI R_many), .ref (ad 8), .ref (ad 9), .ref (ad 10), .ref (ad 11), .ref (ad 12), .ref (ad 13), .ref (ad 14), .ref (ad 15), .ref (ad 16), .int (zI R_values_247), .ref (ad 17), .int (zI R_textEnd), .ref (ad 18), .ref (ad 19), .ref (ad 20), .ref (ad 21), .int (zI R_dataEnd), .ref (ad 22), .int (zI R_rowEnd), .ref (ad 23), .ref (ad 24), .int (zI R_rowMany), .ref (ad 25), .ref (ad 26), .ref (ad 27), .ref (ad 28), .int (zI R_waiting), .int (zI R_mostWaiting), .int (zI R_answer), .int (zI R_steps), .int (zI R_memory), .int (zI R_maxSteps), .int (zI R_maxMemory), .int (zI R_fault), .int (zI R_result), .int (zI R_now), .int (zI R_nowRow), .int (zI R_come), .ref (ad 29), .ref (ad 30), .int (zI R_puts), .ref (ad 31)])), (ad 8, .inl (cI, 3700, .inl (zA R_valueKinds_248))), (ad 9, .inl (cL, 3700, .inr (.inl (zB R_valueNumbers_249)))), (ad 10, .inl (cI, 3700, .inl (zA R_from))), (ad 11, .inl (cI, 3700, .inl (zA R_length))), (ad 14, .inl (cI, 3700, .inl (zA R_given_250))), (ad 18, .inl (cI, 5000, .inl (zA R_forms))), (ad 19, .inl (cL, 5000, .inr (.inl (zB R_tags)))), (ad 20, .inl (cI, 5000, .inl (zA R_counts))), (ad 21, .inl (cI, 5000, .inl (zA R_textsAt))), (ad 29, .inl (cI, 3, .inl (zA R_of))), (ad 31, .inl (cI, 220, .inl (zA R_comes)))]) X (jrunV X (c_Mod_truth (ad := ad) q251) jF0_k (fun _ _ _ _ => trivial) (jgV own_Mod_ofLists (by decide +kernel)) rfl rfl rfl pd_Mod_truth (by decide) [0, 1, 2, 5] rfl (by decide) 0 10 rfl rfl rfl rfl (Nat.le_of_ble_eq_true rfl) d_Mod_ofLists_285 (by decide)) [0, 1, 2, 5] [3, 4, 6, 7, 8, 9, 10, 11] [8, 9, 10, 0, 1, 11, 2, 3, 4, 5, 6, 7] rfl rfl (by decide) (by decide) rfl (by decide) ?_
                  cases h
                  exact J_ret E ⟨_, rfl, rfl⟩ d_Mod_ofLists_288 (Nat.le_refl _) (Nat.le_refl _) rfl
              · rcases wk_c h with ⟨c252, h⟩ | ⟨c252, h⟩
                · refine J_tsIn (tgt := 289) X 30 c252 g146 d_Mod_ofLists_43 (by decide) (by decide) rfl (by decide) ?_
                  refine J_iload X d_Mod_ofLists_289 1 rfl ?_
                  refine J_iconst X d_Mod_ofLists_291 ?_
                  obtain ⟨g253, h⟩ := wk_g h
                  refine J_irem X g253 d_Mod_ofLists_292 ?_
                  refine J_iconst X d_Mod_ofLists_293 ?_
                  refine J_icmp_ne (tgt := 305) X d_Mod_ofLists_294 (by decide) h (fun c254 h => ?_) (fun c254 h => ?_)
                  · refine J_aload_n X d_Mod_ofLists_305 rfl 2 rfl ?_
                    refine J_iconst X d_Mod_ofLists_306 ?_
                    refine J_lconst (v := 0) X d_Mod_ofLists_307 (by decide) ?_
                    refine J_iload X d_Mod_ofLists_308 1 rfl ?_
                    refine J_iconst X d_Mod_ofLists_310 ?_
                    obtain ⟨g255, h⟩ := wk_g h
                    refine J_idiv X g255 d_Mod_ofLists_311 ?_
                    refine J_iload_n X d_Mod_ofLists_312 rfl 4 rfl ?_
                    obtain ⟨r256, R_values_257, R_dataEnd_258, R_valueKinds_259, R_valueNumbers_260, R_from_261, R_length_262, R_given_263, R_forms_264, R_tags_265, R_counts_266, R_textsAt_267, q268, h⟩ := wk_b12 h
                    refine J_afterI0 (ws' := [(ad 0, .inr (10, [.int (zI R_thrown), .ref (ad 1), .ref (ad 2), .ref (ad 3), .ref (ad 4), .ref (ad 5), .ref (ad 6), .int (zI R_used), .ref (ad 7), .int (zI R_many), .ref (ad 8), .ref (ad 9), .ref (ad 10), .ref (ad 11), .ref (ad 12), .ref (ad 13), .ref (ad 14), .ref (ad 15), .ref (ad 16), .int (zI R_values_257), .ref (ad 17), .int (zI R_textEnd), .ref (ad 18), .ref (ad 19), .ref (ad 20), .ref (ad 21), .int (zI R_dataEnd_258), .ref (ad 22), .int (zI R_rowEnd), .ref (ad 23), .ref (ad 24), .int (zI R_rowMany), .ref (ad 25), .ref (ad 26), .ref (ad 27), .ref (ad 28), .int (zI R_waiting), .int (zI R_mostWaiting), .int (zI R_answer), .int (zI R_steps), .int (zI R_memory), .int (zI R_maxSteps), .int (zI R_maxMemory), .int (zI R_fault), .int (zI R_result), .int (zI R_now), .int (zI R_nowRow), .int (zI R_come), .ref (ad 29), .ref (ad 30), .int (zI R_puts), .ref (ad 31)])), (ad 8, .inl (cI, 3700, .inl (zA R_valueKinds_259))), (ad 9, .inl (cL, 3700, .inr (.inl (zB R_valueNumbers_260)))), (ad 10, .inl (cI, 3700, .inl (zA R_from_261))), (ad 11, .inl (cI, 3700, .inl (zA R_length_262))), (ad 14, .inl (cI, 3700, .inl (zA R_given_263))), (ad 18, .inl (cI, 5000, .inl (zA R_forms_264))), (ad 19, .inl (cL, 5000, .inr (.inl (zB R_tags_265)))), (ad 20, .inl (cI, 5000, .inl (zA R_counts_266))), (ad 21, .inl (cI, 5000, .inl (zA R_textsAt_267))), (ad 29, .inl (cI, 3, .inl (zA R_of))), (ad 31, .inl (cI, 220, .inl (zA R_comes)))]) X (jrunV X (c_Mod_outer (ad := ad) q268) jF0_k (fun _ _ _ _ => trivial) (jgV own_Mod_ofLists (by decide +kernel)) rfl rfl rfl pd_Mod_outer (by decide) [0, 1, 2, 3, 4, 5, 6, 7, 8, 9] rfl (by decide) 0 10 rfl rfl rfl rfl (Nat.le_of_ble_eq_true rfl) d_Mod_ofLists_313 (by decide)) [0, 1, 2, 3, 4, 5, 6, 7, 8, 9] [10, 11] [2, 3, 4, 5, 6, 7, 8, 9, 10, 11, 0, 1] rfl rfl (by decide) (by decide) rfl (by decide) ?_
                    cases h
                    exact J_ret E ⟨_, rfl, rfl⟩ d_Mod_ofLists_316 (Nat.le_refl _) (Nat.le_refl _) rfl
                  · refine J_aload_n X d_Mod_ofLists_297 rfl 2 rfl ?_
                    refine J_iconst X d_Mod_ofLists_298 ?_
                    obtain ⟨r269, R_fault_270, q271, h⟩ := wk_b2 h
                    refine J_afterI0 (ws' := [(ad 0, .inr (10, [.int (zI R_thrown), .ref (ad 1), .ref (ad 2), .ref (ad 3), .ref (ad 4), .ref (ad 5), .ref (ad 6), .int (zI R_used), .ref (ad 7), .int (zI R_many), .ref (ad 8), .ref (ad 9), .ref (ad 10), .ref (ad 11), .ref (ad 12), .ref (ad 13), .ref (ad 14), .ref (ad 15), .ref (ad 16), .int (zI R_values), .ref (ad 17), .int (zI R_textEnd), .ref (ad 18), .ref (ad 19), .ref (ad 20), .ref (ad 21), .int (zI R_dataEnd), .ref (ad 22), .int (zI R_rowEnd), .ref (ad 23), .ref (ad 24), .int (zI R_rowMany), .ref (ad 25), .ref (ad 26), .ref (ad 27), .ref (ad 28), .int (zI R_waiting), .int (zI R_mostWaiting), .int (zI R_answer), .int (zI R_steps), .int (zI R_memory), .int (zI R_maxSteps), .int (zI R_maxMemory), .int (zI R_fault_270), .int (zI R_result), .int (zI R_now), .int (zI R_nowRow), .int (zI R_come), .ref (ad 29), .ref (ad 30), .int (zI R_puts), .ref (ad 31)])), (ad 8, .inl (cI, 3700, .inl (zA R_valueKinds))), (ad 9, .inl (cL, 3700, .inr (.inl (zB R_valueNumbers)))), (ad 10, .inl (cI, 3700, .inl (zA R_from))), (ad 11, .inl (cI, 3700, .inl (zA R_length))), (ad 14, .inl (cI, 3700, .inl (zA R_given))), (ad 18, .inl (cI, 5000, .inl (zA R_forms))), (ad 19, .inl (cL, 5000, .inr (.inl (zB R_tags)))), (ad 20, .inl (cI, 5000, .inl (zA R_counts))), (ad 21, .inl (cI, 5000, .inl (zA R_textsAt))), (ad 29, .inl (cI, 3, .inl (zA R_of))), (ad 31, .inl (cI, 220, .inl (zA R_comes)))]) X (jrunV X (c_Mod_fail (ad := ad) q271) jF0_k (fun _ _ _ _ => trivial) (jgV own_Mod_ofLists (by decide +kernel)) rfl rfl rfl pd_Mod_fail (by decide) [0] rfl (by decide) 0 10 rfl rfl rfl rfl (Nat.le_of_ble_eq_true rfl) d_Mod_ofLists_299 (by decide)) [0] [1, 2, 3, 4, 5, 6, 7, 8, 9, 10, 11] [11, 0, 1, 2, 3, 4, 5, 6, 7, 8, 9, 10] rfl rfl (by decide) (by decide) rfl (by decide) ?_
                    refine J_goto (tgt := 316) X d_Mod_ofLists_302 (by decide) ?_
                    cases h
                    exact J_ret E ⟨_, rfl, rfl⟩ d_Mod_ofLists_316 (Nat.le_refl _) (Nat.le_refl _) rfl
                · refine J_tsOut (tgt := 317) X g146 d_Mod_ofLists_43 (by omega) (by decide) ?_
                  refine J_aload_n X d_Mod_ofLists_317 rfl 2 rfl ?_
                  refine J_iconst X d_Mod_ofLists_318 ?_
                  refine J_lconst (v := 0) X d_Mod_ofLists_319 (by decide) ?_
                  refine J_iconst X d_Mod_ofLists_320 ?_
                  refine J_iload X d_Mod_ofLists_321 1 rfl ?_
                  refine J_imul X d_Mod_ofLists_323 ?_
                  refine J_iload_n X d_Mod_ofLists_324 rfl 4 rfl ?_
                  obtain ⟨r272, R_values_273, R_dataEnd_274, R_valueKinds_275, R_valueNumbers_276, R_from_277, R_length_278, R_given_279, R_forms_280, R_tags_281, R_counts_282, R_textsAt_283, q284, h⟩ := wk_b12 h
                  refine J_afterI0 (ws' := [(ad 0, .inr (10, [.int (zI R_thrown), .ref (ad 1), .ref (ad 2), .ref (ad 3), .ref (ad 4), .ref (ad 5), .ref (ad 6), .int (zI R_used), .ref (ad 7), .int (zI R_many), .ref (ad 8), .ref (ad 9), .ref (ad 10), .ref (ad 11), .ref (ad 12), .ref (ad 13), .ref (ad 14), .ref (ad 15), .ref (ad 16), .int (zI R_values_273), .ref (ad 17), .int (zI R_textEnd), .ref (ad 18), .ref (ad 19), .ref (ad 20), .ref (ad 21), .int (zI R_dataEnd_274), .ref (ad 22), .int (zI R_rowEnd), .ref (ad 23), .ref (ad 24), .int (zI R_rowMany), .ref (ad 25), .ref (ad 26), .ref (ad 27), .ref (ad 28), .int (zI R_waiting), .int (zI R_mostWaiting), .int (zI R_answer), .int (zI R_steps), .int (zI R_memory), .int (zI R_maxSteps), .int (zI R_maxMemory), .int (zI R_fault), .int (zI R_result), .int (zI R_now), .int (zI R_nowRow), .int (zI R_come), .ref (ad 29), .ref (ad 30), .int (zI R_puts), .ref (ad 31)])), (ad 8, .inl (cI, 3700, .inl (zA R_valueKinds_275))), (ad 9, .inl (cL, 3700, .inr (.inl (zB R_valueNumbers_276)))), (ad 10, .inl (cI, 3700, .inl (zA R_from_277))), (ad 11, .inl (cI, 3700, .inl (zA R_length_278))), (ad 14, .inl (cI, 3700, .inl (zA R_given_279))), (ad 18, .inl (cI, 5000, .inl (zA R_forms_280))), (ad 19, .inl (cL, 5000, .inr (.inl (zB R_tags_281)))), (ad 20, .inl (cI, 5000, .inl (zA R_counts_282))), (ad 21, .inl (cI, 5000, .inl (zA R_textsAt_283))), (ad 29, .inl (cI, 3, .inl (zA R_of))), (ad 31, .inl (cI, 220, .inl (zA R_comes)))]) X (jrunV X (c_Mod_outer (ad := ad) q284) jF0_k (fun _ _ _ _ => trivial) (jgV own_Mod_ofLists (by decide +kernel)) rfl rfl rfl pd_Mod_outer (by decide) [0, 1, 2, 3, 4, 5, 6, 7, 8, 9] rfl (by decide) 0 10 rfl rfl rfl rfl (Nat.le_of_ble_eq_true rfl) d_Mod_ofLists_325 (by decide)) [0, 1, 2, 3, 4, 5, 6, 7, 8, 9] [10, 11] [2, 3, 4, 5, 6, 7, 8, 9, 10, 11, 0, 1] rfl rfl (by decide) (by decide) rfl (by decide) ?_
                  cases h
                  exact J_ret E ⟨_, rfl, rfl⟩ d_Mod_ofLists_328 (Nat.le_refl _) (Nat.le_refl _) rfl
      · refine J_iconst X d_Mod_ofLists_29 ?_
        refine J_goto (tgt := 40) X d_Mod_ofLists_30 (by decide) ?_
        refine J_istore (lv' := [(6, .int (zI 0)), (5, .int (zI (R_counts p3))), (0, .ref (ad 0)), (1, .int (zI p1)), (2, .int (zI p2)), (3, .int (zI p3)), (4, .int (zI p4))]) X d_Mod_ofLists_40 (by decide) rfl ?_
        refine J_iload_n X d_Mod_ofLists_42 rfl 3 rfl ?_
        obtain ⟨g285, h⟩ := wk_g h
        rcases wk_c h with ⟨c286, h⟩ | ⟨c286, h⟩
        · refine J_tsIn (tgt := 76) X 26 c286 g285 d_Mod_ofLists_43 (by decide) (by decide) rfl (by decide) ?_
          refine J_iload X d_Mod_ofLists_76 1 rfl ?_
          refine J_if_ne (tgt := 87) X d_Mod_ofLists_78 (by decide) h (fun c287 h => ?_) (fun c287 h => ?_)
          · refine J_aload_n X d_Mod_ofLists_87 rfl 2 rfl ?_
            refine J_iload_n X d_Mod_ofLists_88 rfl 5 rfl ?_
            refine J_iconst X d_Mod_ofLists_89 ?_
            refine J_iadd X d_Mod_ofLists_90 ?_
            refine J_iload X d_Mod_ofLists_91 0 rfl ?_
            obtain ⟨R_dataEnd_288, R_forms_289, R_tags_290, R_counts_291, R_textsAt_292, q293, h⟩ := wk_b5 h
            refine J_afterI0 (ws' := [(ad 0, .inr (10, [.int (zI R_thrown), .ref (ad 1), .ref (ad 2), .ref (ad 3), .ref (ad 4), .ref (ad 5), .ref (ad 6), .int (zI R_used), .ref (ad 7), .int (zI R_many), .ref (ad 8), .ref (ad 9), .ref (ad 10), .ref (ad 11), .ref (ad 12), .ref (ad 13), .ref (ad 14), .ref (ad 15), .ref (ad 16), .int (zI R_values), .ref (ad 17), .int (zI R_textEnd), .ref (ad 18), .ref (ad 19), .ref (ad 20), .ref (ad 21), .int (zI R_dataEnd_288), .ref (ad 22), .int (zI R_rowEnd), .ref (ad 23), .ref (ad 24), .int (zI R_rowMany), .ref (ad 25), .ref (ad 26), .ref (ad 27), .ref (ad 28), .int (zI R_waiting), .int (zI R_mostWaiting), .int (zI R_answer), .int (zI R_steps), .int (zI R_memory), .int (zI R_maxSteps), .int (zI R_maxMemory), .int (zI R_fault), .int (zI R_result), .int (zI R_now), .int (zI R_nowRow), .int (zI R_come), .ref (ad 29), .ref (ad 30), .int (zI R_puts), .ref (ad 31)])), (ad 8, .inl (cI, 3700, .inl (zA R_valueKinds))), (ad 9, .inl (cL, 3700, .inr (.inl (zB R_valueNumbers)))), (ad 10, .inl (cI, 3700, .inl (zA R_from))), (ad 11, .inl (cI, 3700, .inl (zA R_length))), (ad 14, .inl (cI, 3700, .inl (zA R_given))), (ad 18, .inl (cI, 5000, .inl (zA R_forms_289))), (ad 19, .inl (cL, 5000, .inr (.inl (zB R_tags_290)))), (ad 20, .inl (cI, 5000, .inl (zA R_counts_291))), (ad 21, .inl (cI, 5000, .inl (zA R_textsAt_292))), (ad 29, .inl (cI, 3, .inl (zA R_of))), (ad 31, .inl (cI, 220, .inl (zA R_comes)))]) X (jrunV X (c_Mod_copyData (ad := ad) q293) jF0_k (fun _ _ _ _ => trivial) (jgV own_Mod_ofLists (by decide +kernel)) rfl rfl rfl pd_Mod_copyData (by decide) [0, 6, 7, 8, 9] rfl (by decide) 0 10 rfl rfl rfl rfl (Nat.le_of_ble_eq_true rfl) d_Mod_ofLists_93 (by decide)) [0, 6, 7, 8, 9] [1, 2, 3, 4, 5, 10, 11] [7, 0, 1, 2, 3, 4, 8, 9, 10, 11, 5, 6] rfl rfl (by decide) (by decide) rfl (by decide) ?_
            refine J_aload_n X d_Mod_ofLists_96 rfl 2 rfl ?_
            refine J_iload X d_Mod_ofLists_97 6 rfl ?_
            obtain ⟨r294, R_values_295, R_valueKinds_296, R_valueNumbers_297, R_from_298, R_length_299, R_given_300, q301, h⟩ := wk_b7 h
            refine J_afterI0 (ws' := [(ad 0, .inr (10, [.int (zI R_thrown), .ref (ad 1), .ref (ad 2), .ref (ad 3), .ref (ad 4), .ref (ad 5), .ref (ad 6), .int (zI R_used), .ref (ad 7), .int (zI R_many), .ref (ad 8), .ref (ad 9), .ref (ad 10), .ref (ad 11), .ref (ad 12), .ref (ad 13), .ref (ad 14), .ref (ad 15), .ref (ad 16), .int (zI R_values_295), .ref (ad 17), .int (zI R_textEnd), .ref (ad 18), .ref (ad 19), .ref (ad 20), .ref (ad 21), .int (zI R_dataEnd_288), .ref (ad 22), .int (zI R_rowEnd), .ref (ad 23), .ref (ad 24), .int (zI R_rowMany), .ref (ad 25), .ref (ad 26), .ref (ad 27), .ref (ad 28), .int (zI R_waiting), .int (zI R_mostWaiting), .int (zI R_answer), .int (zI R_steps), .int (zI R_memory), .int (zI R_maxSteps), .int (zI R_maxMemory), .int (zI R_fault), .int (zI R_result), .int (zI R_now), .int (zI R_nowRow), .int (zI R_come), .ref (ad 29), .ref (ad 30), .int (zI R_puts), .ref (ad 31)])), (ad 8, .inl (cI, 3700, .inl (zA R_valueKinds_296))), (ad 9, .inl (cL, 3700, .inr (.inl (zB R_valueNumbers_297)))), (ad 10, .inl (cI, 3700, .inl (zA R_from_298))), (ad 11, .inl (cI, 3700, .inl (zA R_length_299))), (ad 14, .inl (cI, 3700, .inl (zA R_given_300))), (ad 18, .inl (cI, 5000, .inl (zA R_forms_289))), (ad 19, .inl (cL, 5000, .inr (.inl (zB R_tags_290)))), (ad 20, .inl (cI, 5000, .inl (zA R_counts_291))), (ad 21, .inl (cI, 5000, .inl (zA R_textsAt_292))), (ad 29, .inl (cI, 3, .inl (zA R_of))), (ad 31, .inl (cI, 220, .inl (zA R_comes)))]) X (jrunV X (c_Mod_makeData (ad := ad) q301) jF0_k (fun _ _ _ _ => trivial) (jgV own_Mod_ofLists (by decide +kernel)) rfl rfl rfl pd_Mod_makeData (by decide) [0, 1, 2, 3, 4, 5] rfl (by decide) 0 10 rfl rfl rfl rfl (Nat.le_of_ble_eq_true rfl) d_Mod_ofLists_99 (by decide)) [0, 1, 2, 3, 4, 5] [6, 7, 8, 9, 10, 11] [6, 7, 8, 9, 10, 11, 0, 1, 2, 3, 4, 5] rfl rfl (by decide) (by decide) rfl (by decide) ?_
            cases h
            exact J_ret E ⟨_, rfl, rfl⟩ d_Mod_ofLists_102 (Nat.le_refl _) (Nat.le_refl _) rfl
          · refine J_aload_n X d_Mod_ofLists_81 rfl 2 rfl ?_
            refine J_iconst X d_Mod_ofLists_82 ?_
            obtain ⟨r302, R_fault_303, q304, h⟩ := wk_b2 h
            refine J_afterI0 (ws' := [(ad 0, .inr (10, [.int (zI R_thrown), .ref (ad 1), .ref (ad 2), .ref (ad 3), .ref (ad 4), .ref (ad 5), .ref (ad 6), .int (zI R_used), .ref (ad 7), .int (zI R_many), .ref (ad 8), .ref (ad 9), .ref (ad 10), .ref (ad 11), .ref (ad 12), .ref (ad 13), .ref (ad 14), .ref (ad 15), .ref (ad 16), .int (zI R_values), .ref (ad 17), .int (zI R_textEnd), .ref (ad 18), .ref (ad 19), .ref (ad 20), .ref (ad 21), .int (zI R_dataEnd), .ref (ad 22), .int (zI R_rowEnd), .ref (ad 23), .ref (ad 24), .int (zI R_rowMany), .ref (ad 25), .ref (ad 26), .ref (ad 27), .ref (ad 28), .int (zI R_waiting), .int (zI R_mostWaiting), .int (zI R_answer), .int (zI R_steps), .int (zI R_memory), .int (zI R_maxSteps), .int (zI R_maxMemory), .int (zI R_fault_303), .int (zI R_result), .int (zI R_now), .int (zI R_nowRow), .int (zI R_come), .ref (ad 29), .ref (ad 30), .int (zI R_puts), .ref (ad 31)])), (ad 8, .inl (cI, 3700, .inl (zA R_valueKinds))), (ad 9, .inl (cL, 3700, .inr (.inl (zB R_valueNumbers)))), (ad 10, .inl (cI, 3700, .inl (zA R_from))), (ad 11, .inl (cI, 3700, .inl (zA R_length))), (ad 14, .inl (cI, 3700, .inl (zA R_given))), (ad 18, .inl (cI, 5000, .inl (zA R_forms))), (ad 19, .inl (cL, 5000, .inr (.inl (zB R_tags)))), (ad 20, .inl (cI, 5000, .inl (zA R_counts))), (ad 21, .inl (cI, 5000, .inl (zA R_textsAt))), (ad 29, .inl (cI, 3, .inl (zA R_of))), (ad 31, .inl (cI, 220, .inl (zA R_comes)))]) X (jrunV X (c_Mod_fail (ad := ad) q304) jF0_k (fun _ _ _ _ => trivial) (jgV own_Mod_ofLists (by decide +kernel)) rfl rfl rfl pd_Mod_fail (by decide) [0] rfl (by decide) 0 10 rfl rfl rfl rfl (Nat.le_of_ble_eq_true rfl) d_Mod_ofLists_83 (by decide)) [0] [1, 2, 3, 4, 5, 6, 7, 8, 9, 10, 11] [11, 0, 1, 2, 3, 4, 5, 6, 7, 8, 9, 10] rfl rfl (by decide) (by decide) rfl (by decide) ?_
            cases h
            exact J_ret E ⟨_, rfl, rfl⟩ d_Mod_ofLists_86 (Nat.le_refl _) (Nat.le_refl _) rfl
        · rcases wk_c h with ⟨c305, h⟩ | ⟨c305, h⟩
          · refine J_tsIn (tgt := 103) X 27 c305 g285 d_Mod_ofLists_43 (by decide) (by decide) rfl (by decide) ?_
            refine J_iload X d_Mod_ofLists_103 1 rfl ?_
            refine J_if_ne (tgt := 114) X d_Mod_ofLists_105 (by decide) h (fun c306 h => ?_) (fun c306 h => ?_)
            · refine J_aload_n X d_Mod_ofLists_114 rfl 2 rfl ?_
              refine J_iconst X d_Mod_ofLists_115 ?_
              refine J_lconst (v := 0) X d_Mod_ofLists_116 (by decide) ?_
              refine J_iload X d_Mod_ofLists_117 1 rfl ?_
              refine J_iconst X d_Mod_ofLists_119 ?_
              refine J_isub X d_Mod_ofLists_120 ?_
              refine J_iconst X d_Mod_ofLists_121 ?_
              obtain ⟨R_dataEnd_307, R_forms_308, R_tags_309, R_counts_310, R_textsAt_311, q312, h⟩ := wk_b5 h
              refine J_afterI0 (ws' := [(ad 0, .inr (10, [.int (zI R_thrown), .ref (ad 1), .ref (ad 2), .ref (ad 3), .ref (ad 4), .ref (ad 5), .ref (ad 6), .int (zI R_used), .ref (ad 7), .int (zI R_many), .ref (ad 8), .ref (ad 9), .ref (ad 10), .ref (ad 11), .ref (ad 12), .ref (ad 13), .ref (ad 14), .ref (ad 15), .ref (ad 16), .int (zI R_values), .ref (ad 17), .int (zI R_textEnd), .ref (ad 18), .ref (ad 19), .ref (ad 20), .ref (ad 21), .int (zI R_dataEnd_307), .ref (ad 22), .int (zI R_rowEnd), .ref (ad 23), .ref (ad 24), .int (zI R_rowMany), .ref (ad 25), .ref (ad 26), .ref (ad 27), .ref (ad 28), .int (zI R_waiting), .int (zI R_mostWaiting), .int (zI R_answer), .int (zI R_steps), .int (zI R_memory), .int (zI R_maxSteps), .int (zI R_maxMemory), .int (zI R_fault), .int (zI R_result), .int (zI R_now), .int (zI R_nowRow), .int (zI R_come), .ref (ad 29), .ref (ad 30), .int (zI R_puts), .ref (ad 31)])), (ad 8, .inl (cI, 3700, .inl (zA R_valueKinds))), (ad 9, .inl (cL, 3700, .inr (.inl (zB R_valueNumbers)))), (ad 10, .inl (cI, 3700, .inl (zA R_from))), (ad 11, .inl (cI, 3700, .inl (zA R_length))), (ad 14, .inl (cI, 3700, .inl (zA R_given))), (ad 18, .inl (cI, 5000, .inl (zA R_forms_308))), (ad 19, .inl (cL, 5000, .inr (.inl (zB R_tags_309)))), (ad 20, .inl (cI, 5000, .inl (zA R_counts_310))), (ad 21, .inl (cI, 5000, .inl (zA R_textsAt_311))), (ad 29, .inl (cI, 3, .inl (zA R_of))), (ad 31, .inl (cI, 220, .inl (zA R_comes)))]) X (jrunV X (c_Mod_putData (ad := ad) q312) jF0_k (fun _ _ _ _ => trivial) (jgV own_Mod_ofLists (by decide +kernel)) rfl rfl rfl pd_Mod_putData (by decide) [0, 6, 7, 8, 9] rfl (by decide) 0 10 rfl rfl rfl rfl (Nat.le_of_ble_eq_true rfl) d_Mod_ofLists_122 (by decide)) [0, 6, 7, 8, 9] [1, 2, 3, 4, 5, 10, 11] [7, 0, 1, 2, 3, 4, 8, 9, 10, 11, 5, 6] rfl rfl (by decide) (by decide) rfl (by decide) ?_
              refine J_aload_n X d_Mod_ofLists_125 rfl 2 rfl ?_
              refine J_iload_n X d_Mod_ofLists_126 rfl 5 rfl ?_
              refine J_iconst X d_Mod_ofLists_127 ?_
              refine J_iadd X d_Mod_ofLists_128 ?_
              refine J_iload X d_Mod_ofLists_129 0 rfl ?_
              refine J_iadd X d_Mod_ofLists_131 ?_
              refine J_aload_n X d_Mod_ofLists_132 rfl 2 rfl ?_
              refine J_get X (j_in in_Mod) 0 rfl rfl 13 (by decide) (j_m own_Mod_ofLists (by decide +kernel)) rfl d_Mod_ofLists_133 ?_
              refine J_iload_n X d_Mod_ofLists_136 rfl 4 rfl ?_
              obtain ⟨g313, h⟩ := wk_g h
              refine J_iald X 4 0 rfl rfl g313 d_Mod_ofLists_137 ?_
              refine J_iconst X d_Mod_ofLists_138 ?_
              refine J_isub X d_Mod_ofLists_139 ?_
              refine J_iload X d_Mod_ofLists_140 0 rfl ?_
              refine J_isub X d_Mod_ofLists_142 ?_
              obtain ⟨R_dataEnd_314, R_forms_315, R_tags_316, R_counts_317, R_textsAt_318, q319, h⟩ := wk_b5 h
              refine J_afterI0 (ws' := [(ad 0, .inr (10, [.int (zI R_thrown), .ref (ad 1), .ref (ad 2), .ref (ad 3), .ref (ad 4), .ref (ad 5), .ref (ad 6), .int (zI R_used), .ref (ad 7), .int (zI R_many), .ref (ad 8), .ref (ad 9), .ref (ad 10), .ref (ad 11), .ref (ad 12), .ref (ad 13), .ref (ad 14), .ref (ad 15), .ref (ad 16), .int (zI R_values), .ref (ad 17), .int (zI R_textEnd), .ref (ad 18), .ref (ad 19), .ref (ad 20), .ref (ad 21), .int (zI R_dataEnd_314), .ref (ad 22), .int (zI R_rowEnd), .ref (ad 23), .ref (ad 24), .int (zI R_rowMany), .ref (ad 25), .ref (ad 26), .ref (ad 27), .ref (ad 28), .int (zI R_waiting), .int (zI R_mostWaiting), .int (zI R_answer), .int (zI R_steps), .int (zI R_memory), .int (zI R_maxSteps), .int (zI R_maxMemory), .int (zI R_fault), .int (zI R_result), .int (zI R_now), .int (zI R_nowRow), .int (zI R_come), .ref (ad 29), .ref (ad 30), .int (zI R_puts), .ref (ad 31)])), (ad 8, .inl (cI, 3700, .inl (zA R_valueKinds))), (ad 9, .inl (cL, 3700, .inr (.inl (zB R_valueNumbers)))), (ad 10, .inl (cI, 3700, .inl (zA R_from))), (ad 11, .inl (cI, 3700, .inl (zA R_length))), (ad 14, .inl (cI, 3700, .inl (zA R_given))), (ad 18, .inl (cI, 5000, .inl (zA R_forms_315))), (ad 19, .inl (cL, 5000, .inr (.inl (zB R_tags_316)))), (ad 20, .inl (cI, 5000, .inl (zA R_counts_317))), (ad 21, .inl (cI, 5000, .inl (zA R_textsAt_318))), (ad 29, .inl (cI, 3, .inl (zA R_of))), (ad 31, .inl (cI, 220, .inl (zA R_comes)))]) X (jrunV X (c_Mod_copyData (ad := ad) q319) jF0_k (fun _ _ _ _ => trivial) (jgV own_Mod_ofLists (by decide +kernel)) rfl rfl rfl pd_Mod_copyData (by decide) [0, 6, 7, 8, 9] rfl (by decide) 0 10 rfl rfl rfl rfl (Nat.le_of_ble_eq_true rfl) d_Mod_ofLists_143 (by decide)) [0, 6, 7, 8, 9] [1, 2, 3, 4, 5, 10, 11] [7, 0, 1, 2, 3, 4, 8, 9, 10, 11, 5, 6] rfl rfl (by decide) (by decide) rfl (by decide) ?_
              refine J_aload_n X d_Mod_ofLists_146 rfl 2 rfl ?_
              refine J_iload X d_Mod_ofLists_147 6 rfl ?_
              obtain ⟨r320, R_values_321, R_valueKinds_322, R_valueNumbers_323, R_from_324, R_length_325, R_given_326, q327, h⟩ := wk_b7 h
              refine J_afterI0 (ws' := [(ad 0, .inr (10, [.int (zI R_thrown), .ref (ad 1), .ref (ad 2), .ref (ad 3), .ref (ad 4), .ref (ad 5), .ref (ad 6), .int (zI R_used), .ref (ad 7), .int (zI R_many), .ref (ad 8), .ref (ad 9), .ref (ad 10), .ref (ad 11), .ref (ad 12), .ref (ad 13), .ref (ad 14), .ref (ad 15), .ref (ad 16), .int (zI R_values_321), .ref (ad 17), .int (zI R_textEnd), .ref (ad 18), .ref (ad 19), .ref (ad 20), .ref (ad 21), .int (zI R_dataEnd_314), .ref (ad 22), .int (zI R_rowEnd), .ref (ad 23), .ref (ad 24), .int (zI R_rowMany), .ref (ad 25), .ref (ad 26), .ref (ad 27), .ref (ad 28), .int (zI R_waiting), .int (zI R_mostWaiting), .int (zI R_answer), .int (zI R_steps), .int (zI R_memory), .int (zI R_maxSteps), .int (zI R_maxMemory), .int (zI R_fault), .int (zI R_result), .int (zI R_now), .int (zI R_nowRow), .int (zI R_come), .ref (ad 29), .ref (ad 30), .int (zI R_puts), .ref (ad 31)])), (ad 8, .inl (cI, 3700, .inl (zA R_valueKinds_322))), (ad 9, .inl (cL, 3700, .inr (.inl (zB R_valueNumbers_323)))), (ad 10, .inl (cI, 3700, .inl (zA R_from_324))), (ad 11, .inl (cI, 3700, .inl (zA R_length_325))), (ad 14, .inl (cI, 3700, .inl (zA R_given_326))), (ad 18, .inl (cI, 5000, .inl (zA R_forms_315))), (ad 19, .inl (cL, 5000, .inr (.inl (zB R_tags_316)))), (ad 20, .inl (cI, 5000, .inl (zA R_counts_317))), (ad 21, .inl (cI, 5000, .inl (zA R_textsAt_318))), (ad 29, .inl (cI, 3, .inl (zA R_of))), (ad 31, .inl (cI, 220, .inl (zA R_comes)))]) X (jrunV X (c_Mod_makeData (ad := ad) q327) jF0_k (fun _ _ _ _ => trivial) (jgV own_Mod_ofLists (by decide +kernel)) rfl rfl rfl pd_Mod_makeData (by decide) [0, 1, 2, 3, 4, 5] rfl (by decide) 0 10 rfl rfl rfl rfl (Nat.le_of_ble_eq_true rfl) d_Mod_ofLists_149 (by decide)) [0, 1, 2, 3, 4, 5] [6, 7, 8, 9, 10, 11] [6, 7, 8, 9, 10, 11, 0, 1, 2, 3, 4, 5] rfl rfl (by decide) (by decide) rfl (by decide) ?_
              cases h
              exact J_ret E ⟨_, rfl, rfl⟩ d_Mod_ofLists_152 (Nat.le_refl _) (Nat.le_refl _) rfl
            · refine J_aload_n X d_Mod_ofLists_108 rfl 2 rfl ?_
              refine J_iconst X d_Mod_ofLists_109 ?_
              obtain ⟨r328, R_fault_329, q330, h⟩ := wk_b2 h
              refine J_afterI0 (ws' := [(ad 0, .inr (10, [.int (zI R_thrown), .ref (ad 1), .ref (ad 2), .ref (ad 3), .ref (ad 4), .ref (ad 5), .ref (ad 6), .int (zI R_used), .ref (ad 7), .int (zI R_many), .ref (ad 8), .ref (ad 9), .ref (ad 10), .ref (ad 11), .ref (ad 12), .ref (ad 13), .ref (ad 14), .ref (ad 15), .ref (ad 16), .int (zI R_values), .ref (ad 17), .int (zI R_textEnd), .ref (ad 18), .ref (ad 19), .ref (ad 20), .ref (ad 21), .int (zI R_dataEnd), .ref (ad 22), .int (zI R_rowEnd), .ref (ad 23), .ref (ad 24), .int (zI R_rowMany), .ref (ad 25), .ref (ad 26), .ref (ad 27), .ref (ad 28), .int (zI R_waiting), .int (zI R_mostWaiting), .int (zI R_answer), .int (zI R_steps), .int (zI R_memory), .int (zI R_maxSteps), .int (zI R_maxMemory), .int (zI R_fault_329), .int (zI R_result), .int (zI R_now), .int (zI R_nowRow), .int (zI R_come), .ref (ad 29), .ref (ad 30), .int (zI R_puts), .ref (ad 31)])), (ad 8, .inl (cI, 3700, .inl (zA R_valueKinds))), (ad 9, .inl (cL, 3700, .inr (.inl (zB R_valueNumbers)))), (ad 10, .inl (cI, 3700, .inl (zA R_from))), (ad 11, .inl (cI, 3700, .inl (zA R_length))), (ad 14, .inl (cI, 3700, .inl (zA R_given))), (ad 18, .inl (cI, 5000, .inl (zA R_forms))), (ad 19, .inl (cL, 5000, .inr (.inl (zB R_tags)))), (ad 20, .inl (cI, 5000, .inl (zA R_counts))), (ad 21, .inl (cI, 5000, .inl (zA R_textsAt))), (ad 29, .inl (cI, 3, .inl (zA R_of))), (ad 31, .inl (cI, 220, .inl (zA R_comes)))]) X (jrunV X (c_Mod_fail (ad := ad) q330) jF0_k (fun _ _ _ _ => trivial) (jgV own_Mod_ofLists (by decide +kernel)) rfl rfl rfl pd_Mod_fail (by decide) [0] rfl (by decide) 0 10 rfl rfl rfl rfl (Nat.le_of_ble_eq_true rfl) d_Mod_ofLists_110 (by decide)) [0] [1, 2, 3, 4, 5, 6, 7, 8, 9, 10, 11] [11, 0, 1, 2, 3, 4, 5, 6, 7, 8, 9, 10] rfl rfl (by decide) (by decide) rfl (by decide) ?_
              cases h
              exact J_ret E ⟨_, rfl, rfl⟩ d_Mod_ofLists_113 (Nat.le_refl _) (Nat.le_refl _) rfl
          · rcases wk_c h with ⟨c331, h⟩ | ⟨c331, h⟩
            · refine J_tsIn (tgt := 153) X 28 c331 g285 d_Mod_ofLists_43 (by decide) (by decide) rfl (by decide) ?_
              refine J_aload_n X d_Mod_ofLists_153 rfl 2 rfl ?_
              refine J_get X (j_in in_Mod) 0 rfl rfl 48 (by decide) (j_m own_Mod_ofLists (by decide +kernel)) rfl d_Mod_ofLists_154 ?_
              refine J_iconst X d_Mod_ofLists_157 ?_
              obtain ⟨g332, h⟩ := wk_g h
              refine J_iald X 10 0 rfl rfl g332 d_Mod_ofLists_158 ?_
              refine J_istore (lv' := [(7, .int (zI (R_of 1))), (6, .int (zI 0)), (5, .int (zI (R_counts p3))), (0, .ref (ad 0)), (1, .int (zI p1)), (2, .int (zI p2)), (3, .int (zI p3)), (4, .int (zI p4))]) X d_Mod_ofLists_159 (by decide) rfl ?_
              refine J_aload_n X d_Mod_ofLists_161 rfl 3 rfl ?_
              refine J_get X (j_in in_Mod) 0 rfl rfl 13 (by decide) (j_m own_Mod_ofLists (by decide +kernel)) rfl d_Mod_ofLists_162 ?_
              refine J_iload_n X d_Mod_ofLists_165 rfl 5 rfl ?_
              obtain ⟨g333, h⟩ := wk_g h
              refine J_iald X 4 0 rfl rfl g333 d_Mod_ofLists_166 ?_
              refine J_aload_n X d_Mod_ofLists_167 rfl 3 rfl ?_
              refine J_get X (j_in in_Mod) 0 rfl rfl 13 (by decide) (j_m own_Mod_ofLists (by decide +kernel)) rfl d_Mod_ofLists_168 ?_
              refine J_iload X d_Mod_ofLists_171 0 rfl ?_
              obtain ⟨g334, h⟩ := wk_g h
              refine J_iald X 4 0 rfl rfl g334 d_Mod_ofLists_173 ?_
              refine J_iadd X d_Mod_ofLists_174 ?_
              refine J_sipush X d_Mod_ofLists_175 (by decide) ?_
              refine J_icmp_le (tgt := 187) X d_Mod_ofLists_178 (by decide) h (fun c335 h => ?_) (fun c335 h => ?_)
              · refine J_aload_n X d_Mod_ofLists_187 rfl 3 rfl ?_
                refine J_iconst X d_Mod_ofLists_188 ?_
                refine J_lconst (v := 0) X d_Mod_ofLists_189 (by decide) ?_
                refine J_aload_n X d_Mod_ofLists_190 rfl 3 rfl ?_
                refine J_get X (j_in in_Mod) 0 rfl rfl 24 (by decide) (j_m own_Mod_ofLists (by decide +kernel)) rfl d_Mod_ofLists_191 ?_
                refine J_aload_n X d_Mod_ofLists_194 rfl 3 rfl ?_
                refine J_get X (j_in in_Mod) 0 rfl rfl 12 (by decide) (j_m own_Mod_ofLists (by decide +kernel)) rfl d_Mod_ofLists_195 ?_
                refine J_iload X d_Mod_ofLists_198 0 rfl ?_
                obtain ⟨g336, h⟩ := wk_g h
                refine J_iald X 3 0 rfl rfl g336 d_Mod_ofLists_200 ?_
                obtain ⟨g337, h⟩ := wk_g h
                refine J_iald X 8 0 rfl rfl g337 d_Mod_ofLists_201 ?_
                refine J_iconst X d_Mod_ofLists_202 ?_
                refine J_iadd X d_Mod_ofLists_203 ?_
                refine J_iconst X d_Mod_ofLists_204 ?_
                obtain ⟨R_dataEnd_338, R_forms_339, R_tags_340, R_counts_341, R_textsAt_342, q343, h⟩ := wk_b5 h
                refine J_afterI0 (ws' := [(ad 0, .inr (10, [.int (zI R_thrown), .ref (ad 1), .ref (ad 2), .ref (ad 3), .ref (ad 4), .ref (ad 5), .ref (ad 6), .int (zI R_used), .ref (ad 7), .int (zI R_many), .ref (ad 8), .ref (ad 9), .ref (ad 10), .ref (ad 11), .ref (ad 12), .ref (ad 13), .ref (ad 14), .ref (ad 15), .ref (ad 16), .int (zI R_values), .ref (ad 17), .int (zI R_textEnd), .ref (ad 18), .ref (ad 19), .ref (ad 20), .ref (ad 21), .int (zI R_dataEnd_338), .ref (ad 22), .int (zI R_rowEnd), .ref (ad 23), .ref (ad 24), .int (zI R_rowMany), .ref (ad 25), .ref (ad 26), .ref (ad 27), .ref (ad 28), .int (zI R_waiting), .int (zI R_mostWaiting), .int (zI R_answer), .int (zI R_steps), .int (zI R_memory), .int (zI R_maxSteps), .int (zI R_maxMemory), .int (zI R_fault), .int (zI R_result), .int (zI R_now), .int (zI R_nowRow), .int (zI R_come), .ref (ad 29), .ref (ad 30), .int (zI R_puts), .ref (ad 31)])), (ad 8, .inl (cI, 3700, .inl (zA R_valueKinds))), (ad 9, .inl (cL, 3700, .inr (.inl (zB R_valueNumbers)))), (ad 10, .inl (cI, 3700, .inl (zA R_from))), (ad 11, .inl (cI, 3700, .inl (zA R_length))), (ad 14, .inl (cI, 3700, .inl (zA R_given))), (ad 18, .inl (cI, 5000, .inl (zA R_forms_339))), (ad 19, .inl (cL, 5000, .inr (.inl (zB R_tags_340)))), (ad 20, .inl (cI, 5000, .inl (zA R_counts_341))), (ad 21, .inl (cI, 5000, .inl (zA R_textsAt_342))), (ad 29, .inl (cI, 3, .inl (zA R_of))), (ad 31, .inl (cI, 220, .inl (zA R_comes)))]) X (jrunV X (c_Mod_putData (ad := ad) q343) jF0_k (fun _ _ _ _ => trivial) (jgV own_Mod_ofLists (by decide +kernel)) rfl rfl rfl pd_Mod_putData (by decide) [0, 6, 7, 8, 9] rfl (by decide) 0 10 rfl rfl rfl rfl (Nat.le_of_ble_eq_true rfl) d_Mod_ofLists_205 (by decide)) [0, 6, 7, 8, 9] [1, 2, 3, 4, 5, 10, 11] [7, 0, 1, 2, 3, 4, 8, 9, 10, 11, 5, 6] rfl rfl (by decide) (by decide) rfl (by decide) ?_
                refine J_aload_n X d_Mod_ofLists_208 rfl 3 rfl ?_
                refine J_iload_n X d_Mod_ofLists_209 rfl 6 rfl ?_
                refine J_aload_n X d_Mod_ofLists_210 rfl 3 rfl ?_
                refine J_get X (j_in in_Mod) 0 rfl rfl 13 (by decide) (j_m own_Mod_ofLists (by decide +kernel)) rfl d_Mod_ofLists_211 ?_
                refine J_iload_n X d_Mod_ofLists_214 rfl 5 rfl ?_
                obtain ⟨g344, h⟩ := wk_g h
                refine J_iald X 4 0 rfl rfl g344 d_Mod_ofLists_215 ?_
                obtain ⟨R_dataEnd_345, R_forms_346, R_tags_347, R_counts_348, R_textsAt_349, q350, h⟩ := wk_b5 h
                refine J_afterI0 (ws' := [(ad 0, .inr (10, [.int (zI R_thrown), .ref (ad 1), .ref (ad 2), .ref (ad 3), .ref (ad 4), .ref (ad 5), .ref (ad 6), .int (zI R_used), .ref (ad 7), .int (zI R_many), .ref (ad 8), .ref (ad 9), .ref (ad 10), .ref (ad 11), .ref (ad 12), .ref (ad 13), .ref (ad 14), .ref (ad 15), .ref (ad 16), .int (zI R_values), .ref (ad 17), .int (zI R_textEnd), .ref (ad 18), .ref (ad 19), .ref (ad 20), .ref (ad 21), .int (zI R_dataEnd_345), .ref (ad 22), .int (zI R_rowEnd), .ref (ad 23), .ref (ad 24), .int (zI R_rowMany), .ref (ad 25), .ref (ad 26), .ref (ad 27), .ref (ad 28), .int (zI R_waiting), .int (zI R_mostWaiting), .int (zI R_answer), .int (zI R_steps), .int (zI R_memory), .int (zI R_maxSteps), .int (zI R_maxMemory), .int (zI R_fault), .int (zI R_result), .int (zI R_now), .int (zI R_nowRow), .int (zI R_come), .ref (ad 29), .ref (ad 30), .int (zI R_puts), .ref (ad 31)])), (ad 8, .inl (cI, 3700, .inl (zA R_valueKinds))), (ad 9, .inl (cL, 3700, .inr (.inl (zB R_valueNumbers)))), (ad 10, .inl (cI, 3700, .inl (zA R_from))), (ad 11, .inl (cI, 3700, .inl (zA R_length))), (ad 14, .inl (cI, 3700, .inl (zA R_given))), (ad 18, .inl (cI, 5000, .inl (zA R_forms_346))), (ad 19, .inl (cL, 5000, .inr (.inl (zB R_tags_347)))), (ad 20, .inl (cI, 5000, .inl (zA R_counts_348))), (ad 21, .inl (cI, 5000, .inl (zA R_textsAt_349))), (ad 29, .inl (cI, 3, .inl (zA R_of))), (ad 31, .inl (cI, 220, .inl (zA R_comes)))]) X (jrunV X (c_Mod_copyData (ad := ad) q350) jF0_k (fun _ _ _ _ => trivial) (jgV own_Mod_ofLists (by decide +kernel)) rfl rfl rfl pd_Mod_copyData (by decide) [0, 6, 7, 8, 9] rfl (by decide) 0 10 rfl rfl rfl rfl (Nat.le_of_ble_eq_true rfl) d_Mod_ofLists_216 (by decide)) [0, 6, 7, 8, 9] [1, 2, 3, 4, 5, 10, 11] [7, 0, 1, 2, 3, 4, 8, 9, 10, 11, 5, 6] rfl rfl (by decide) (by decide) rfl (by decide) ?_
                refine J_aload_n X d_Mod_ofLists_219 rfl 3 rfl ?_
                refine J_aload_n X d_Mod_ofLists_220 rfl 3 rfl ?_
                refine J_get X (j_in in_Mod) 0 rfl rfl 12 (by decide) (j_m own_Mod_ofLists (by decide +kernel)) rfl d_Mod_ofLists_221 ?_
                refine J_iload X d_Mod_ofLists_224 0 rfl ?_
                obtain ⟨g351, h⟩ := wk_g h
                refine J_iald X 3 0 rfl rfl g351 d_Mod_ofLists_226 ?_
                refine J_iconst X d_Mod_ofLists_227 ?_
                refine J_iadd X d_Mod_ofLists_228 ?_
                refine J_aload_n X d_Mod_ofLists_229 rfl 3 rfl ?_
                refine J_get X (j_in in_Mod) 0 rfl rfl 13 (by decide) (j_m own_Mod_ofLists (by decide +kernel)) rfl d_Mod_ofLists_230 ?_
                refine J_iload X d_Mod_ofLists_233 0 rfl ?_
                obtain ⟨g352, h⟩ := wk_g h
                refine J_iald X 4 0 rfl rfl g352 d_Mod_ofLists_235 ?_
                refine J_iconst X d_Mod_ofLists_236 ?_
                refine J_isub X d_Mod_ofLists_237 ?_
                obtain ⟨R_dataEnd_353, R_forms_354, R_tags_355, R_counts_356, R_textsAt_357, q358, h⟩ := wk_b5 h
                refine J_afterI0 (ws' := [(ad 0, .inr (10, [.int (zI R_thrown), .ref (ad 1), .ref (ad 2), .ref (ad 3), .ref (ad 4), .ref (ad 5), .ref (ad 6), .int (zI R_used), .ref (ad 7), .int (zI R_many), .ref (ad 8), .ref (ad 9), .ref (ad 10), .ref (ad 11), .ref (ad 12), .ref (ad 13), .ref (ad 14), .ref (ad 15), .ref (ad 16), .int (zI R_values), .ref (ad 17), .int (zI R_textEnd), .ref (ad 18), .ref (ad 19), .ref (ad 20), .ref (ad 21), .int (zI R_dataEnd_353), .ref (ad 22), .int (zI R_rowEnd), .ref (ad 23), .ref (ad 24), .int (zI R_rowMany), .ref (ad 25), .ref (ad 26), .ref (ad 27), .ref (ad 28), .int (zI R_waiting), .int (zI R_mostWaiting), .int (zI R_answer), .int (zI R_steps), .int (zI R_memory), .int (zI R_maxSteps), .int (zI R_maxMemory), .int (zI R_fault), .int (zI R_result), .int (zI R_now), .int (zI R_nowRow), .int (zI R_come), .ref (ad 29), .ref (ad 30), .int (zI R_puts), .ref (ad 31)])), (ad 8, .inl (cI, 3700, .inl (zA R_valueKinds))), (ad 9, .inl (cL, 3700, .inr (.inl (zB R_valueNumbers)))), (ad 10, .inl (cI, 3700, .inl (zA R_from))), (ad 11, .inl (cI, 3700, .inl (zA R_length))), (ad 14, .inl (cI, 3700, .inl (zA R_given))), (ad 18, .inl (cI, 5000, .inl (zA R_forms_354))), (ad 19, .inl (cL, 5000, .inr (.inl (zB R_tags_355)))), (ad 20, .inl (cI, 5000, .inl (zA R_counts_356))), (ad 21, .inl (cI, 5000, .inl (zA R_textsAt_357))), (ad 29, .inl (cI, 3, .inl (zA R_of))), (ad 31, .inl (cI, 220, .inl (zA R_comes)))]) X (jrunV X (c_Mod_copyData (ad := ad) q358) jF0_k (fun _ _ _ _ => trivial) (jgV own_Mod_ofLists (by decide +kernel)) rfl rfl rfl pd_Mod_copyData (by decide) [0, 6, 7, 8, 9] rfl (by decide) 0 10 rfl rfl rfl rfl (Nat.le_of_ble_eq_true rfl) d_Mod_ofLists_238 (by decide)) [0, 6, 7, 8, 9] [1, 2, 3, 4, 5, 10, 11] [7, 0, 1, 2, 3, 4, 8, 9, 10, 11, 5, 6] rfl rfl (by decide) (by decide) rfl (by decide) ?_
                refine J_aload_n X d_Mod_ofLists_241 rfl 3 rfl ?_
                refine J_iload X d_Mod_ofLists_242 7 rfl ?_
                refine J_aload_n X d_Mod_ofLists_244 rfl 3 rfl ?_
                refine J_get X (j_in in_Mod) 0 rfl rfl 26 (by decide) (j_m own_Mod_ofLists (by decide +kernel)) rfl d_Mod_ofLists_245 ?_
                refine J_iload X d_Mod_ofLists_248 7 rfl ?_
                refine J_isub X d_Mod_ofLists_250 ?_
                obtain ⟨r359, R_comes_360, q361, h⟩ := wk_b2 h
                refine J_afterI0 (ws' := [(ad 0, .inr (10, [.int (zI R_thrown), .ref (ad 1), .ref (ad 2), .ref (ad 3), .ref (ad 4), .ref (ad 5), .ref (ad 6), .int (zI R_used), .ref (ad 7), .int (zI R_many), .ref (ad 8), .ref (ad 9), .ref (ad 10), .ref (ad 11), .ref (ad 12), .ref (ad 13), .ref (ad 14), .ref (ad 15), .ref (ad 16), .int (zI R_values), .ref (ad 17), .int (zI R_textEnd), .ref (ad 18), .ref (ad 19), .ref (ad 20), .ref (ad 21), .int (zI R_dataEnd_353), .ref (ad 22), .int (zI R_rowEnd), .ref (ad 23), .ref (ad 24), .int (zI R_rowMany), .ref (ad 25), .ref (ad 26), .ref (ad 27), .ref (ad 28), .int (zI R_waiting), .int (zI R_mostWaiting), .int (zI R_answer), .int (zI R_steps), .int (zI R_memory), .int (zI R_maxSteps), .int (zI R_maxMemory), .int (zI R_fault), .int (zI R_result), .int (zI R_now), .int (zI R_nowRow), .int (zI R_come), .ref (ad 29), .ref (ad 30), .int (zI R_puts), .ref (ad 31)])), (ad 8, .inl (cI, 3700, .inl (zA R_valueKinds))), (ad 9, .inl (cL, 3700, .inr (.inl (zB R_valueNumbers)))), (ad 10, .inl (cI, 3700, .inl (zA R_from))), (ad 11, .inl (cI, 3700, .inl (zA R_length))), (ad 14, .inl (cI, 3700, .inl (zA R_given))), (ad 18, .inl (cI, 5000, .inl (zA R_forms_354))), (ad 19, .inl (cL, 5000, .inr (.inl (zB R_tags_355)))), (ad 20, .inl (cI, 5000, .inl (zA R_counts_356))), (ad 21, .inl (cI, 5000, .inl (zA R_textsAt_357))), (ad 29, .inl (cI, 3, .inl (zA R_of))), (ad 31, .inl (cI, 220, .inl (zA R_comes_360)))]) X (jrunV X (c_Mod_depthOfData (ad := ad) q361) jF0_k (fun _ _ _ _ => trivial) (jgV own_Mod_ofLists (by decide +kernel)) rfl rfl rfl pd_Mod_depthOfData (by decide) [0, 6, 8, 11] rfl (by decide) 0 10 rfl rfl rfl rfl (Nat.le_of_ble_eq_true rfl) d_Mod_ofLists_251 (by decide)) [0, 6, 8, 11] [1, 2, 3, 4, 5, 7, 9, 10] [8, 0, 1, 2, 3, 4, 9, 5, 10, 6, 7, 11] rfl rfl (by decide) (by decide) rfl (by decide) ?_
                refine J_bipush X d_Mod_ofLists_254 (by decide) ?_
                refine J_icmp_le (tgt := 267) X d_Mod_ofLists_256 (by decide) h (fun c362 h => ?_) (fun c362 h => ?_)
                · refine J_aload_n X d_Mod_ofLists_267 rfl 3 rfl ?_
                  refine J_iload X d_Mod_ofLists_268 7 rfl ?_
                  obtain ⟨r363, R_values_364, R_valueKinds_365, R_valueNumbers_366, R_from_367, R_length_368, R_given_369, q370, h⟩ := wk_b7 h
                  refine J_afterI0 (ws' := [(ad 0, .inr (10, [.int (zI R_thrown), .ref (ad 1), .ref (ad 2), .ref (ad 3), .ref (ad 4), .ref (ad 5), .ref (ad 6), .int (zI R_used), .ref (ad 7), .int (zI R_many), .ref (ad 8), .ref (ad 9), .ref (ad 10), .ref (ad 11), .ref (ad 12), .ref (ad 13), .ref (ad 14), .ref (ad 15), .ref (ad 16), .int (zI R_values_364), .ref (ad 17), .int (zI R_textEnd), .ref (ad 18), .ref (ad 19), .ref (ad 20), .ref (ad 21), .int (zI R_dataEnd_353), .ref (ad 22), .int (zI R_rowEnd), .ref (ad 23), .ref (ad 24), .int (zI R_rowMany), .ref (ad 25), .ref (ad 26), .ref (ad 27), .ref (ad 28), .int (zI R_waiting), .int (zI R_mostWaiting), .int (zI R_answer), .int (zI R_steps), .int (zI R_memory), .int (zI R_maxSteps), .int (zI R_maxMemory), .int (zI R_fault), .int (zI R_result), .int (zI R_now), .int (zI R_nowRow), .int (zI R_come), .ref (ad 29), .ref (ad 30), .int (zI R_puts), .ref (ad 31)])), (ad 8, .inl (cI, 3700, .inl (zA R_valueKinds_365))), (ad 9, .inl (cL, 3700, .inr (.inl (zB R_valueNumbers_366)))), (ad 10, .inl (cI, 3700, .inl (zA R_from_367))), (ad 11, .inl (cI, 3700, .inl (zA R_length_368))), (ad 14, .inl (cI, 3700, .inl (zA R_given_369))), (ad 18, .inl (cI, 5000, .inl (zA R_forms_354))), (ad 19, .inl (cL, 5000, .inr (.inl (zB R_tags_355)))), (ad 20, .inl (cI, 5000, .inl (zA R_counts_356))), (ad 21, .inl (cI, 5000, .inl (zA R_textsAt_357))), (ad 29, .inl (cI, 3, .inl (zA R_of))), (ad 31, .inl (cI, 220, .inl (zA R_comes_360)))]) X (jrunV X (c_Mod_makeData (ad := ad) q370) jF0_k (fun _ _ _ _ => trivial) (jgV own_Mod_ofLists (by decide +kernel)) rfl rfl rfl pd_Mod_makeData (by decide) [0, 1, 2, 3, 4, 5] rfl (by decide) 0 10 rfl rfl rfl rfl (Nat.le_of_ble_eq_true rfl) d_Mod_ofLists_270 (by decide)) [0, 1, 2, 3, 4, 5] [6, 7, 8, 9, 10, 11] [6, 7, 8, 9, 10, 11, 0, 1, 2, 3, 4, 5] rfl rfl (by decide) (by decide) rfl (by decide) ?_
                  cases h
                  exact J_ret E ⟨_, rfl, rfl⟩ d_Mod_ofLists_273 (Nat.le_refl _) (Nat.le_refl _) rfl
                · refine J_aload_n X d_Mod_ofLists_259 rfl 3 rfl ?_
                  refine J_iconst X d_Mod_ofLists_260 ?_
                  obtain ⟨r371, R_fault_372, q373, h⟩ := wk_b2 h
                  refine J_afterI0 (ws' := [(ad 0, .inr (10, [.int (zI R_thrown), .ref (ad 1), .ref (ad 2), .ref (ad 3), .ref (ad 4), .ref (ad 5), .ref (ad 6), .int (zI R_used), .ref (ad 7), .int (zI R_many), .ref (ad 8), .ref (ad 9), .ref (ad 10), .ref (ad 11), .ref (ad 12), .ref (ad 13), .ref (ad 14), .ref (ad 15), .ref (ad 16), .int (zI R_values), .ref (ad 17), .int (zI R_textEnd), .ref (ad 18), .ref (ad 19), .ref (ad 20), .ref (ad 21), .int (zI R_dataEnd_353), .ref (ad 22), .int (zI R_rowEnd), .ref (ad 23), .ref (ad 24), .int (zI R_rowMany), .ref (ad 25), .ref (ad 26), .ref (ad 27), .ref (ad 28), .int (zI R_waiting), .int (zI R_mostWaiting), .int (zI R_answer), .int (zI R_steps), .int (zI R_memory), .int (zI R_maxSteps), .int (zI R_maxMemory), .int (zI R_fault_372), .int (zI R_result), .int (zI R_now), .int (zI R_nowRow), .int (zI R_come), .ref (ad 29), .ref (ad 30), .int (zI R_puts), .ref (ad 31)])), (ad 8, .inl (cI, 3700, .inl (zA R_valueKinds))), (ad 9, .inl (cL, 3700, .inr (.inl (zB R_valueNumbers)))), (ad 10, .inl (cI, 3700, .inl (zA R_from))), (ad 11, .inl (cI, 3700, .inl (zA R_length))), (ad 14, .inl (cI, 3700, .inl (zA R_given))), (ad 18, .inl (cI, 5000, .inl (zA R_forms_354))), (ad 19, .inl (cL, 5000, .inr (.inl (zB R_tags_355)))), (ad 20, .inl (cI, 5000, .inl (zA R_counts_356))), (ad 21, .inl (cI, 5000, .inl (zA R_textsAt_357))), (ad 29, .inl (cI, 3, .inl (zA R_of))), (ad 31, .inl (cI, 220, .inl (zA R_comes_360)))]) X (jrunV X (c_Mod_fail (ad := ad) q373) jF0_k (fun _ _ _ _ => trivial) (jgV own_Mod_ofLists (by decide +kernel)) rfl rfl rfl pd_Mod_fail (by decide) [0] rfl (by decide) 0 10 rfl rfl rfl rfl (Nat.le_of_ble_eq_true rfl) d_Mod_ofLists_261 (by decide)) [0] [1, 2, 3, 4, 5, 6, 7, 8, 9, 10, 11] [11, 0, 1, 2, 3, 4, 5, 6, 7, 8, 9, 10] rfl rfl (by decide) (by decide) rfl (by decide) ?_
                  refine J_goto (tgt := 273) X d_Mod_ofLists_264 (by decide) ?_
                  cases h
                  exact J_ret E ⟨_, rfl, rfl⟩ d_Mod_ofLists_273 (Nat.le_refl _) (Nat.le_refl _) rfl
              · refine J_aload_n X d_Mod_ofLists_181 rfl 3 rfl ?_
                refine J_iconst X d_Mod_ofLists_182 ?_
                obtain ⟨r374, R_fault_375, q376, h⟩ := wk_b2 h
                refine J_afterI0 (ws' := [(ad 0, .inr (10, [.int (zI R_thrown), .ref (ad 1), .ref (ad 2), .ref (ad 3), .ref (ad 4), .ref (ad 5), .ref (ad 6), .int (zI R_used), .ref (ad 7), .int (zI R_many), .ref (ad 8), .ref (ad 9), .ref (ad 10), .ref (ad 11), .ref (ad 12), .ref (ad 13), .ref (ad 14), .ref (ad 15), .ref (ad 16), .int (zI R_values), .ref (ad 17), .int (zI R_textEnd), .ref (ad 18), .ref (ad 19), .ref (ad 20), .ref (ad 21), .int (zI R_dataEnd), .ref (ad 22), .int (zI R_rowEnd), .ref (ad 23), .ref (ad 24), .int (zI R_rowMany), .ref (ad 25), .ref (ad 26), .ref (ad 27), .ref (ad 28), .int (zI R_waiting), .int (zI R_mostWaiting), .int (zI R_answer), .int (zI R_steps), .int (zI R_memory), .int (zI R_maxSteps), .int (zI R_maxMemory), .int (zI R_fault_375), .int (zI R_result), .int (zI R_now), .int (zI R_nowRow), .int (zI R_come), .ref (ad 29), .ref (ad 30), .int (zI R_puts), .ref (ad 31)])), (ad 8, .inl (cI, 3700, .inl (zA R_valueKinds))), (ad 9, .inl (cL, 3700, .inr (.inl (zB R_valueNumbers)))), (ad 10, .inl (cI, 3700, .inl (zA R_from))), (ad 11, .inl (cI, 3700, .inl (zA R_length))), (ad 14, .inl (cI, 3700, .inl (zA R_given))), (ad 18, .inl (cI, 5000, .inl (zA R_forms))), (ad 19, .inl (cL, 5000, .inr (.inl (zB R_tags)))), (ad 20, .inl (cI, 5000, .inl (zA R_counts))), (ad 21, .inl (cI, 5000, .inl (zA R_textsAt))), (ad 29, .inl (cI, 3, .inl (zA R_of))), (ad 31, .inl (cI, 220, .inl (zA R_comes)))]) X (jrunV X (c_Mod_fail (ad := ad) q376) jF0_k (fun _ _ _ _ => trivial) (jgV own_Mod_ofLists (by decide +kernel)) rfl rfl rfl pd_Mod_fail (by decide) [0] rfl (by decide) 0 10 rfl rfl rfl rfl (Nat.le_of_ble_eq_true rfl) d_Mod_ofLists_183 (by decide)) [0] [1, 2, 3, 4, 5, 6, 7, 8, 9, 10, 11] [11, 0, 1, 2, 3, 4, 5, 6, 7, 8, 9, 10] rfl rfl (by decide) (by decide) rfl (by decide) ?_
                cases h
                exact J_ret E ⟨_, rfl, rfl⟩ d_Mod_ofLists_186 (Nat.le_refl _) (Nat.le_refl _) rfl
            · rcases wk_c h with ⟨c377, h⟩ | ⟨c377, h⟩
              · refine J_tsIn (tgt := 274) X 29 c377 g285 d_Mod_ofLists_43 (by decide) (by decide) rfl (by decide) ?_
                refine J_aload_n X d_Mod_ofLists_274 rfl 2 rfl ?_
                refine J_iload X d_Mod_ofLists_275 1 rfl ?_
                refine J_if_ne (tgt := 284) X d_Mod_ofLists_277 (by decide) h (fun c378 h => ?_) (fun c378 h => ?_)
                · refine J_iconst X d_Mod_ofLists_284 ?_
                  obtain ⟨r379, R_values_380, R_valueKinds_381, R_valueNumbers_382, R_given_383, q384, h⟩ := wk_b5 h
                  refine J_afterI0 (ws' := [(ad 0, .inr (10, [.int (zI R_thrown), .ref (ad 1), .ref (ad 2), .ref (ad 3), .ref (ad 4), .ref (ad 5), .ref (ad 6), .int (zI R_used), .ref (ad 7), .int (zI R_many), .ref (ad 8), .ref (ad 9), .ref (ad 10), .ref (ad 11), .ref (ad 12), .ref (ad 13), .ref (ad 14), .ref (ad 15), .ref (ad 16), .int (zI R_values_380), .ref (ad 17), .int (zI R_textEnd), .ref (ad 18), .ref (ad 19), .ref (ad 20), .ref (ad 21), .int (zI R_dataEnd), .ref (ad 22), .int (zI R_rowEnd), .ref (ad 23), .ref (ad 24), .int (zI R_rowMany), .ref (ad 25), .ref (ad 26), .ref (ad 27), .ref (ad 28), .int (zI R_waiting), .int (zI R_mostWaiting), .int (zI R_answer), .int (zI R_steps), .int (zI R_memory), .int (zI R_maxSteps), .int (zI R_maxMemory), .int (zI R_fault), .int (zI R_result), .int (zI R_now), .int (zI R_nowRow), .int (zI R_come), .ref (ad 29), .ref (ad 30), .int (zI R_puts), .ref (ad 31)])), (ad 8, .inl (cI, 3700, .inl (zA R_valueKinds_381))), (ad 9, .inl (cL, 3700, .inr (.inl (zB R_valueNumbers_382)))), (ad 10, .inl (cI, 3700, .inl (zA R_from))), (ad 11, .inl (cI, 3700, .inl (zA R_length))), (ad 14, .inl (cI, 3700, .inl (zA R_given_383))), (ad 18, .inl (cI, 5000, .inl (zA R_forms))), (ad 19, .inl (cL, 5000, .inr (.inl (zB R_tags)))), (ad 20, .inl (cI, 5000, .inl (zA R_counts))), (ad 21, .inl (cI, 5000, .inl (zA R_textsAt))), (ad 29, .inl (cI, 3, .inl (zA R_of))), (ad 31, .inl (cI, 220, .inl (zA R_comes)))]) X (jrunV X (c_Mod_truth (ad := ad) q384) jF0_k (fun _ _ _ _ => trivial) (jgV own_Mod_ofLists (by decide +kernel)) rfl rfl rfl pd_Mod_truth (by decide) [0, 1, 2, 5] rfl (by decide) 0 10 rfl rfl rfl rfl (Nat.le_of_ble_eq_true rfl) d_Mod_ofLists_285 (by decide)) [0, 1, 2, 5] [3, 4, 6, 7, 8, 9, 10, 11] [8, 9, 10, 0, 1, 11, 2, 3, 4, 5, 6, 7] rfl rfl (by decide) (by decide) rfl (by decide) ?_
                  cases h
                  exact J_ret E ⟨_, rfl, rfl⟩ d_Mod_ofLists_288 (Nat.le_refl _) (Nat.le_refl _) rfl
                · refine J_iconst X d_Mod_ofLists_280 ?_
                  refine J_goto (tgt := 285) X d_Mod_ofLists_281 (by decide) ?_
                  obtain ⟨r385, R_values_386, R_valueKinds_387, R_valueNumbers_388, R_given_389, q390, h⟩ := wk_b5 h
                  refine J_afterI0 (ws' := [(ad 0, .inr (10, [.int (zI R_thrown), .ref (ad 1), .ref (ad 2), .ref (ad 3), .ref (ad 4), .ref (ad 5), .ref (ad 6), .int (zI R_used), .ref (ad 7), .int (zI R_many), .ref (ad 8), .ref (ad 9), .ref (ad 10), .ref (ad 11), .ref (ad 12), .ref (ad 13), .ref (ad 14), .ref (ad 15), .ref (ad 16), .int (zI R_values_386), .ref (ad 17), .int (zI R_textEnd), .ref (ad 18), .ref (ad 19), .ref (ad 20), .ref (ad 21), .int (zI R_dataEnd), .ref (ad 22), .int (zI R_rowEnd), .ref (ad 23), .ref (ad 24), .int (zI R_rowMany), .ref (ad 25), .ref (ad 26), .ref (ad 27), .ref (ad 28), .int (zI R_waiting), .int (zI R_mostWaiting), .int (zI R_answer), .int (zI R_steps), .int (zI R_memory), .int (zI R_maxSteps), .int (zI R_maxMemory), .int (zI R_fault), .int (zI R_result), .int (zI R_now), .int (zI R_nowRow), .int (zI R_come), .ref (ad 29), .ref (ad 30), .int (zI R_puts), .ref (ad 31)])), (ad 8, .inl (cI, 3700, .inl (zA R_valueKinds_387))), (ad 9, .inl (cL, 3700, .inr (.inl (zB R_valueNumbers_388)))), (ad 10, .inl (cI, 3700, .inl (zA R_from))), (ad 11, .inl (cI, 3700, .inl (zA R_length))), (ad 14, .inl (cI, 3700, .inl (zA R_given_389))), (ad 18, .inl (cI, 5000, .inl (zA R_forms))), (ad 19, .inl (cL, 5000, .inr (.inl (zB R_tags)))), (ad 20, .inl (cI, 5000, .inl (zA R_counts))), (ad 21, .inl (cI, 5000, .inl (zA R_textsAt))), (ad 29, .inl (cI, 3, .inl (zA R_of))), (ad 31, .inl (cI, 220, .inl (zA R_comes)))]) X (jrunV X (c_Mod_truth (ad := ad) q390) jF0_k (fun _ _ _ _ => trivial) (jgV own_Mod_ofLists (by decide +kernel)) rfl rfl rfl pd_Mod_truth (by decide) [0, 1, 2, 5] rfl (by decide) 0 10 rfl rfl rfl rfl (Nat.le_of_ble_eq_true rfl) d_Mod_ofLists_285 (by decide)) [0, 1, 2, 5] [3, 4, 6, 7, 8, 9, 10, 11] [8, 9, 10, 0, 1, 11, 2, 3, 4, 5, 6, 7] rfl rfl (by decide) (by decide) rfl (by decide) ?_
                  cases h
                  exact J_ret E ⟨_, rfl, rfl⟩ d_Mod_ofLists_288 (Nat.le_refl _) (Nat.le_refl _) rfl
              · rcases wk_c h with ⟨c391, h⟩ | ⟨c391, h⟩
                · refine J_tsIn (tgt := 289) X 30 c391 g285 d_Mod_ofLists_43 (by decide) (by decide) rfl (by decide) ?_
                  refine J_iload X d_Mod_ofLists_289 1 rfl ?_
                  refine J_iconst X d_Mod_ofLists_291 ?_
                  obtain ⟨g392, h⟩ := wk_g h
                  refine J_irem X g392 d_Mod_ofLists_292 ?_
                  refine J_iconst X d_Mod_ofLists_293 ?_
                  refine J_icmp_ne (tgt := 305) X d_Mod_ofLists_294 (by decide) h (fun c393 h => ?_) (fun c393 h => ?_)
                  · refine J_aload_n X d_Mod_ofLists_305 rfl 2 rfl ?_
                    refine J_iconst X d_Mod_ofLists_306 ?_
                    refine J_lconst (v := 0) X d_Mod_ofLists_307 (by decide) ?_
                    refine J_iload X d_Mod_ofLists_308 1 rfl ?_
                    refine J_iconst X d_Mod_ofLists_310 ?_
                    obtain ⟨g394, h⟩ := wk_g h
                    refine J_idiv X g394 d_Mod_ofLists_311 ?_
                    refine J_iload_n X d_Mod_ofLists_312 rfl 4 rfl ?_
                    obtain ⟨r395, R_values_396, R_dataEnd_397, R_valueKinds_398, R_valueNumbers_399, R_from_400, R_length_401, R_given_402, R_forms_403, R_tags_404, R_counts_405, R_textsAt_406, q407, h⟩ := wk_b12 h
                    refine J_afterI0 (ws' := [(ad 0, .inr (10, [.int (zI R_thrown), .ref (ad 1), .ref (ad 2), .ref (ad 3), .ref (ad 4), .ref (ad 5), .ref (ad 6), .int (zI R_used), .ref (ad 7), .int (zI R_many), .ref (ad 8), .ref (ad 9), .ref (ad 10), .ref (ad 11), .ref (ad 12), .ref (ad 13), .ref (ad 14), .ref (ad 15), .ref (ad 16), .int (zI R_values_396), .ref (ad 17), .int (zI R_textEnd), .ref (ad 18), .ref (ad 19), .ref (ad 20), .ref (ad 21), .int (zI R_dataEnd_397), .ref (ad 22), .int (zI R_rowEnd), .ref (ad 23), .ref (ad 24), .int (zI R_rowMany), .ref (ad 25), .ref (ad 26), .ref (ad 27), .ref (ad 28), .int (zI R_waiting), .int (zI R_mostWaiting), .int (zI R_answer), .int (zI R_steps), .int (zI R_memory), .int (zI R_maxSteps), .int (zI R_maxMemory), .int (zI R_fault), .int (zI R_result), .int (zI R_now), .int (zI R_nowRow), .int (zI R_come), .ref (ad 29), .ref (ad 30), .int (zI R_puts), .ref (ad 31)])), (ad 8, .inl (cI, 3700, .inl (zA R_valueKinds_398))), (ad 9, .inl (cL, 3700, .inr (.inl (zB R_valueNumbers_399)))), (ad 10, .inl (cI, 3700, .inl (zA R_from_400))), (ad 11, .inl (cI, 3700, .inl (zA R_length_401))), (ad 14, .inl (cI, 3700, .inl (zA R_given_402))), (ad 18, .inl (cI, 5000, .inl (zA R_forms_403))), (ad 19, .inl (cL, 5000, .inr (.inl (zB R_tags_404)))), (ad 20, .inl (cI, 5000, .inl (zA R_counts_405))), (ad 21, .inl (cI, 5000, .inl (zA R_textsAt_406))), (ad 29, .inl (cI, 3, .inl (zA R_of))), (ad 31, .inl (cI, 220, .inl (zA R_comes)))]) X (jrunV X (c_Mod_outer (ad := ad) q407) jF0_k (fun _ _ _ _ => trivial) (jgV own_Mod_ofLists (by decide +kernel)) rfl rfl rfl pd_Mod_outer (by decide) [0, 1, 2, 3, 4, 5, 6, 7, 8, 9] rfl (by decide) 0 10 rfl rfl rfl rfl (Nat.le_of_ble_eq_true rfl) d_Mod_ofLists_313 (by decide)) [0, 1, 2, 3, 4, 5, 6, 7, 8, 9] [10, 11] [2, 3, 4, 5, 6, 7, 8, 9, 10, 11, 0, 1] rfl rfl (by decide) (by decide) rfl (by decide) ?_
                    cases h
                    exact J_ret E ⟨_, rfl, rfl⟩ d_Mod_ofLists_316 (Nat.le_refl _) (Nat.le_refl _) rfl
                  · refine J_aload_n X d_Mod_ofLists_297 rfl 2 rfl ?_
                    refine J_iconst X d_Mod_ofLists_298 ?_
                    obtain ⟨r408, R_fault_409, q410, h⟩ := wk_b2 h
                    refine J_afterI0 (ws' := [(ad 0, .inr (10, [.int (zI R_thrown), .ref (ad 1), .ref (ad 2), .ref (ad 3), .ref (ad 4), .ref (ad 5), .ref (ad 6), .int (zI R_used), .ref (ad 7), .int (zI R_many), .ref (ad 8), .ref (ad 9), .ref (ad 10), .ref (ad 11), .ref (ad 12), .ref (ad 13), .ref (ad 14), .ref (ad 15), .ref (ad 16), .int (zI R_values), .ref (ad 17), .int (zI R_textEnd), .ref (ad 18), .ref (ad 19), .ref (ad 20), .ref (ad 21), .int (zI R_dataEnd), .ref (ad 22), .int (zI R_rowEnd), .ref (ad 23), .ref (ad 24), .int (zI R_rowMany), .ref (ad 25), .ref (ad 26), .ref (ad 27), .ref (ad 28), .int (zI R_waiting), .int (zI R_mostWaiting), .int (zI R_answer), .int (zI R_steps), .int (zI R_memory), .int (zI R_maxSteps), .int (zI R_maxMemory), .int (zI R_fault_409), .int (zI R_result), .int (zI R_now), .int (zI R_nowRow), .int (zI R_come), .ref (ad 29), .ref (ad 30), .int (zI R_puts), .ref (ad 31)])), (ad 8, .inl (cI, 3700, .inl (zA R_valueKinds))), (ad 9, .inl (cL, 3700, .inr (.inl (zB R_valueNumbers)))), (ad 10, .inl (cI, 3700, .inl (zA R_from))), (ad 11, .inl (cI, 3700, .inl (zA R_length))), (ad 14, .inl (cI, 3700, .inl (zA R_given))), (ad 18, .inl (cI, 5000, .inl (zA R_forms))), (ad 19, .inl (cL, 5000, .inr (.inl (zB R_tags)))), (ad 20, .inl (cI, 5000, .inl (zA R_counts))), (ad 21, .inl (cI, 5000, .inl (zA R_textsAt))), (ad 29, .inl (cI, 3, .inl (zA R_of))), (ad 31, .inl (cI, 220, .inl (zA R_comes)))]) X (jrunV X (c_Mod_fail (ad := ad) q410) jF0_k (fun _ _ _ _ => trivial) (jgV own_Mod_ofLists (by decide +kernel)) rfl rfl rfl pd_Mod_fail (by decide) [0] rfl (by decide) 0 10 rfl rfl rfl rfl (Nat.le_of_ble_eq_true rfl) d_Mod_ofLists_299 (by decide)) [0] [1, 2, 3, 4, 5, 6, 7, 8, 9, 10, 11] [11, 0, 1, 2, 3, 4, 5, 6, 7, 8, 9, 10] rfl rfl (by decide) (by decide) rfl (by decide) ?_
                    refine J_goto (tgt := 316) X d_Mod_ofLists_302 (by decide) ?_
                    cases h
                    exact J_ret E ⟨_, rfl, rfl⟩ d_Mod_ofLists_316 (Nat.le_refl _) (Nat.le_refl _) rfl
                · refine J_tsOut (tgt := 317) X g285 d_Mod_ofLists_43 (by omega) (by decide) ?_
                  refine J_aload_n X d_Mod_ofLists_317 rfl 2 rfl ?_
                  refine J_iconst X d_Mod_ofLists_318 ?_
                  refine J_lconst (v := 0) X d_Mod_ofLists_319 (by decide) ?_
                  refine J_iconst X d_Mod_ofLists_320 ?_
                  refine J_iload X d_Mod_ofLists_321 1 rfl ?_
                  refine J_imul X d_Mod_ofLists_323 ?_
                  refine J_iload_n X d_Mod_ofLists_324 rfl 4 rfl ?_
                  obtain ⟨r411, R_values_412, R_dataEnd_413, R_valueKinds_414, R_valueNumbers_415, R_from_416, R_length_417, R_given_418, R_forms_419, R_tags_420, R_counts_421, R_textsAt_422, q423, h⟩ := wk_b12 h
                  refine J_afterI0 (ws' := [(ad 0, .inr (10, [.int (zI R_thrown), .ref (ad 1), .ref (ad 2), .ref (ad 3), .ref (ad 4), .ref (ad 5), .ref (ad 6), .int (zI R_used), .ref (ad 7), .int (zI R_many), .ref (ad 8), .ref (ad 9), .ref (ad 10), .ref (ad 11), .ref (ad 12), .ref (ad 13), .ref (ad 14), .ref (ad 15), .ref (ad 16), .int (zI R_values_412), .ref (ad 17), .int (zI R_textEnd), .ref (ad 18), .ref (ad 19), .ref (ad 20), .ref (ad 21), .int (zI R_dataEnd_413), .ref (ad 22), .int (zI R_rowEnd), .ref (ad 23), .ref (ad 24), .int (zI R_rowMany), .ref (ad 25), .ref (ad 26), .ref (ad 27), .ref (ad 28), .int (zI R_waiting), .int (zI R_mostWaiting), .int (zI R_answer), .int (zI R_steps), .int (zI R_memory), .int (zI R_maxSteps), .int (zI R_maxMemory), .int (zI R_fault), .int (zI R_result), .int (zI R_now), .int (zI R_nowRow), .int (zI R_come), .ref (ad 29), .ref (ad 30), .int (zI R_puts), .ref (ad 31)])), (ad 8, .inl (cI, 3700, .inl (zA R_valueKinds_414))), (ad 9, .inl (cL, 3700, .inr (.inl (zB R_valueNumbers_415)))), (ad 10, .inl (cI, 3700, .inl (zA R_from_416))), (ad 11, .inl (cI, 3700, .inl (zA R_length_417))), (ad 14, .inl (cI, 3700, .inl (zA R_given_418))), (ad 18, .inl (cI, 5000, .inl (zA R_forms_419))), (ad 19, .inl (cL, 5000, .inr (.inl (zB R_tags_420)))), (ad 20, .inl (cI, 5000, .inl (zA R_counts_421))), (ad 21, .inl (cI, 5000, .inl (zA R_textsAt_422))), (ad 29, .inl (cI, 3, .inl (zA R_of))), (ad 31, .inl (cI, 220, .inl (zA R_comes)))]) X (jrunV X (c_Mod_outer (ad := ad) q423) jF0_k (fun _ _ _ _ => trivial) (jgV own_Mod_ofLists (by decide +kernel)) rfl rfl rfl pd_Mod_outer (by decide) [0, 1, 2, 3, 4, 5, 6, 7, 8, 9] rfl (by decide) 0 10 rfl rfl rfl rfl (Nat.le_of_ble_eq_true rfl) d_Mod_ofLists_325 (by decide)) [0, 1, 2, 3, 4, 5, 6, 7, 8, 9] [10, 11] [2, 3, 4, 5, 6, 7, 8, 9, 10, 11, 0, 1] rfl rfl (by decide) (by decide) rfl (by decide) ?_
                  cases h
                  exact J_ret E ⟨_, rfl, rfl⟩ d_Mod_ofLists_328 (Nat.le_refl _) (Nat.le_refl _) rfl
  · refine J_iconst X d_Mod_ofLists_6 ?_
    refine J_goto (tgt := 16) X d_Mod_ofLists_7 (by decide) ?_
    refine J_istore (lv' := [(5, .int (zI 0)), (0, .ref (ad 0)), (1, .int (zI p1)), (2, .int (zI p2)), (3, .int (zI p3)), (4, .int (zI p4))]) X d_Mod_ofLists_16 (by decide) rfl ?_
    refine J_iload X d_Mod_ofLists_18 0 rfl ?_
    refine J_if_eq (pa := some ()) (pb := none) (o := ()) (tgt := 29) X d_Mod_ofLists_20 (by decide) (by decide) (fun _ _ => ?_) (fun _ h => by cases h)
    refine J_iconst X d_Mod_ofLists_29 ?_
    refine J_goto (tgt := 40) X d_Mod_ofLists_30 (by decide) ?_
    refine J_istore (lv' := [(6, .int (zI 0)), (5, .int (zI 0)), (0, .ref (ad 0)), (1, .int (zI p1)), (2, .int (zI p2)), (3, .int (zI p3)), (4, .int (zI p4))]) X d_Mod_ofLists_40 (by decide) rfl ?_
    refine J_iload_n X d_Mod_ofLists_42 rfl 3 rfl ?_
    obtain ⟨g424, h⟩ := wk_g h
    rcases wk_c h with ⟨c425, h⟩ | ⟨c425, h⟩
    · refine J_tsIn (tgt := 76) X 26 c425 g424 d_Mod_ofLists_43 (by decide) (by decide) rfl (by decide) ?_
      refine J_iload X d_Mod_ofLists_76 1 rfl ?_
      refine J_if_ne (pa := some ()) (pb := none) (o := ()) (tgt := 87) X d_Mod_ofLists_78 (by decide) (by decide) (fun _ h => by cases h) (fun _ _ => ?_)
      refine J_aload_n X d_Mod_ofLists_81 rfl 2 rfl ?_
      refine J_iconst X d_Mod_ofLists_82 ?_
      obtain ⟨r426, R_fault_427, q428, h⟩ := wk_b2 h
      refine J_afterI0 (ws' := [(ad 0, .inr (10, [.int (zI R_thrown), .ref (ad 1), .ref (ad 2), .ref (ad 3), .ref (ad 4), .ref (ad 5), .ref (ad 6), .int (zI R_used), .ref (ad 7), .int (zI R_many), .ref (ad 8), .ref (ad 9), .ref (ad 10), .ref (ad 11), .ref (ad 12), .ref (ad 13), .ref (ad 14), .ref (ad 15), .ref (ad 16), .int (zI R_values), .ref (ad 17), .int (zI R_textEnd), .ref (ad 18), .ref (ad 19), .ref (ad 20), .ref (ad 21), .int (zI R_dataEnd), .ref (ad 22), .int (zI R_rowEnd), .ref (ad 23), .ref (ad 24), .int (zI R_rowMany), .ref (ad 25), .ref (ad 26), .ref (ad 27), .ref (ad 28), .int (zI R_waiting), .int (zI R_mostWaiting), .int (zI R_answer), .int (zI R_steps), .int (zI R_memory), .int (zI R_maxSteps), .int (zI R_maxMemory), .int (zI R_fault_427), .int (zI R_result), .int (zI R_now), .int (zI R_nowRow), .int (zI R_come), .ref (ad 29), .ref (ad 30), .int (zI R_puts), .ref (ad 31)])), (ad 8, .inl (cI, 3700, .inl (zA R_valueKinds))), (ad 9, .inl (cL, 3700, .inr (.inl (zB R_valueNumbers)))), (ad 10, .inl (cI, 3700, .inl (zA R_from))), (ad 11, .inl (cI, 3700, .inl (zA R_length))), (ad 14, .inl (cI, 3700, .inl (zA R_given))), (ad 18, .inl (cI, 5000, .inl (zA R_forms))), (ad 19, .inl (cL, 5000, .inr (.inl (zB R_tags)))), (ad 20, .inl (cI, 5000, .inl (zA R_counts))), (ad 21, .inl (cI, 5000, .inl (zA R_textsAt))), (ad 29, .inl (cI, 3, .inl (zA R_of))), (ad 31, .inl (cI, 220, .inl (zA R_comes)))]) X (jrunV X (c_Mod_fail (ad := ad) q428) jF0_k (fun _ _ _ _ => trivial) (jgV own_Mod_ofLists (by decide +kernel)) rfl rfl rfl pd_Mod_fail (by decide) [0] rfl (by decide) 0 10 rfl rfl rfl rfl (Nat.le_of_ble_eq_true rfl) d_Mod_ofLists_83 (by decide)) [0] [1, 2, 3, 4, 5, 6, 7, 8, 9, 10, 11] [11, 0, 1, 2, 3, 4, 5, 6, 7, 8, 9, 10] rfl rfl (by decide) (by decide) rfl (by decide) ?_
      cases h
      exact J_ret E ⟨_, rfl, rfl⟩ d_Mod_ofLists_86 (Nat.le_refl _) (Nat.le_refl _) rfl
    · rcases wk_c h with ⟨c429, h⟩ | ⟨c429, h⟩
      · refine J_tsIn (tgt := 103) X 27 c429 g424 d_Mod_ofLists_43 (by decide) (by decide) rfl (by decide) ?_
        refine J_iload X d_Mod_ofLists_103 1 rfl ?_
        refine J_if_ne (pa := some ()) (pb := none) (o := ()) (tgt := 114) X d_Mod_ofLists_105 (by decide) (by decide) (fun _ h => by cases h) (fun _ _ => ?_)
        refine J_aload_n X d_Mod_ofLists_108 rfl 2 rfl ?_
        refine J_iconst X d_Mod_ofLists_109 ?_
        obtain ⟨r430, R_fault_431, q432, h⟩ := wk_b2 h
        refine J_afterI0 (ws' := [(ad 0, .inr (10, [.int (zI R_thrown), .ref (ad 1), .ref (ad 2), .ref (ad 3), .ref (ad 4), .ref (ad 5), .ref (ad 6), .int (zI R_used), .ref (ad 7), .int (zI R_many), .ref (ad 8), .ref (ad 9), .ref (ad 10), .ref (ad 11), .ref (ad 12), .ref (ad 13), .ref (ad 14), .ref (ad 15), .ref (ad 16), .int (zI R_values), .ref (ad 17), .int (zI R_textEnd), .ref (ad 18), .ref (ad 19), .ref (ad 20), .ref (ad 21), .int (zI R_dataEnd), .ref (ad 22), .int (zI R_rowEnd), .ref (ad 23), .ref (ad 24), .int (zI R_rowMany), .ref (ad 25), .ref (ad 26), .ref (ad 27), .ref (ad 28), .int (zI R_waiting), .int (zI R_mostWaiting), .int (zI R_answer), .int (zI R_steps), .int (zI R_memory), .int (zI R_maxSteps), .int (zI R_maxMemory), .int (zI R_fault_431), .int (zI R_result), .int (zI R_now), .int (zI R_nowRow), .int (zI R_come), .ref (ad 29), .ref (ad 30), .int (zI R_puts), .ref (ad 31)])), (ad 8, .inl (cI, 3700, .inl (zA R_valueKinds))), (ad 9, .inl (cL, 3700, .inr (.inl (zB R_valueNumbers)))), (ad 10, .inl (cI, 3700, .inl (zA R_from))), (ad 11, .inl (cI, 3700, .inl (zA R_length))), (ad 14, .inl (cI, 3700, .inl (zA R_given))), (ad 18, .inl (cI, 5000, .inl (zA R_forms))), (ad 19, .inl (cL, 5000, .inr (.inl (zB R_tags)))), (ad 20, .inl (cI, 5000, .inl (zA R_counts))), (ad 21, .inl (cI, 5000, .inl (zA R_textsAt))), (ad 29, .inl (cI, 3, .inl (zA R_of))), (ad 31, .inl (cI, 220, .inl (zA R_comes)))]) X (jrunV X (c_Mod_fail (ad := ad) q432) jF0_k (fun _ _ _ _ => trivial) (jgV own_Mod_ofLists (by decide +kernel)) rfl rfl rfl pd_Mod_fail (by decide) [0] rfl (by decide) 0 10 rfl rfl rfl rfl (Nat.le_of_ble_eq_true rfl) d_Mod_ofLists_110 (by decide)) [0] [1, 2, 3, 4, 5, 6, 7, 8, 9, 10, 11] [11, 0, 1, 2, 3, 4, 5, 6, 7, 8, 9, 10] rfl rfl (by decide) (by decide) rfl (by decide) ?_
        cases h
        exact J_ret E ⟨_, rfl, rfl⟩ d_Mod_ofLists_113 (Nat.le_refl _) (Nat.le_refl _) rfl
      · rcases wk_c h with ⟨c433, h⟩ | ⟨c433, h⟩
        · refine J_tsIn (tgt := 153) X 28 c433 g424 d_Mod_ofLists_43 (by decide) (by decide) rfl (by decide) ?_
          refine J_aload_n X d_Mod_ofLists_153 rfl 2 rfl ?_
          refine J_get X (j_in in_Mod) 0 rfl rfl 48 (by decide) (j_m own_Mod_ofLists (by decide +kernel)) rfl d_Mod_ofLists_154 ?_
          refine J_iconst X d_Mod_ofLists_157 ?_
          obtain ⟨g434, h⟩ := wk_g h
          refine J_iald X 10 0 rfl rfl g434 d_Mod_ofLists_158 ?_
          refine J_istore (lv' := [(7, .int (zI (R_of 1))), (6, .int (zI 0)), (5, .int (zI 0)), (0, .ref (ad 0)), (1, .int (zI p1)), (2, .int (zI p2)), (3, .int (zI p3)), (4, .int (zI p4))]) X d_Mod_ofLists_159 (by decide) rfl ?_
          refine J_aload_n X d_Mod_ofLists_161 rfl 3 rfl ?_
          refine J_get X (j_in in_Mod) 0 rfl rfl 13 (by decide) (j_m own_Mod_ofLists (by decide +kernel)) rfl d_Mod_ofLists_162 ?_
          refine J_iload_n X d_Mod_ofLists_165 rfl 5 rfl ?_
          obtain ⟨g435, h⟩ := wk_g h
          refine J_iald X 4 0 rfl rfl g435 d_Mod_ofLists_166 ?_
          refine J_aload_n X d_Mod_ofLists_167 rfl 3 rfl ?_
          refine J_get X (j_in in_Mod) 0 rfl rfl 13 (by decide) (j_m own_Mod_ofLists (by decide +kernel)) rfl d_Mod_ofLists_168 ?_
          refine J_iload X d_Mod_ofLists_171 0 rfl ?_
          obtain ⟨g436, h⟩ := wk_g h
          refine J_iald X 4 0 rfl rfl g436 d_Mod_ofLists_173 ?_
          refine J_iadd X d_Mod_ofLists_174 ?_
          refine J_sipush X d_Mod_ofLists_175 (by decide) ?_
          refine J_icmp_le (tgt := 187) X d_Mod_ofLists_178 (by decide) h (fun c437 h => ?_) (fun c437 h => ?_)
          · refine J_aload_n X d_Mod_ofLists_187 rfl 3 rfl ?_
            refine J_iconst X d_Mod_ofLists_188 ?_
            refine J_lconst (v := 0) X d_Mod_ofLists_189 (by decide) ?_
            refine J_aload_n X d_Mod_ofLists_190 rfl 3 rfl ?_
            refine J_get X (j_in in_Mod) 0 rfl rfl 24 (by decide) (j_m own_Mod_ofLists (by decide +kernel)) rfl d_Mod_ofLists_191 ?_
            refine J_aload_n X d_Mod_ofLists_194 rfl 3 rfl ?_
            refine J_get X (j_in in_Mod) 0 rfl rfl 12 (by decide) (j_m own_Mod_ofLists (by decide +kernel)) rfl d_Mod_ofLists_195 ?_
            refine J_iload X d_Mod_ofLists_198 0 rfl ?_
            obtain ⟨g438, h⟩ := wk_g h
            refine J_iald X 3 0 rfl rfl g438 d_Mod_ofLists_200 ?_
            obtain ⟨g439, h⟩ := wk_g h
            refine J_iald X 8 0 rfl rfl g439 d_Mod_ofLists_201 ?_
            refine J_iconst X d_Mod_ofLists_202 ?_
            refine J_iadd X d_Mod_ofLists_203 ?_
            refine J_iconst X d_Mod_ofLists_204 ?_
            obtain ⟨R_dataEnd_440, R_forms_441, R_tags_442, R_counts_443, R_textsAt_444, q445, h⟩ := wk_b5 h
            refine J_afterI0 (ws' := [(ad 0, .inr (10, [.int (zI R_thrown), .ref (ad 1), .ref (ad 2), .ref (ad 3), .ref (ad 4), .ref (ad 5), .ref (ad 6), .int (zI R_used), .ref (ad 7), .int (zI R_many), .ref (ad 8), .ref (ad 9), .ref (ad 10), .ref (ad 11), .ref (ad 12), .ref (ad 13), .ref (ad 14), .ref (ad 15), .ref (ad 16), .int (zI R_values), .ref (ad 17), .int (zI R_textEnd), .ref (ad 18), .ref (ad 19), .ref (ad 20), .ref (ad 21), .int (zI R_dataEnd_440), .ref (ad 22), .int (zI R_rowEnd), .ref (ad 23), .ref (ad 24), .int (zI R_rowMany), .ref (ad 25), .ref (ad 26), .ref (ad 27), .ref (ad 28), .int (zI R_waiting), .int (zI R_mostWaiting), .int (zI R_answer), .int (zI R_steps), .int (zI R_memory), .int (zI R_maxSteps), .int (zI R_maxMemory), .int (zI R_fault), .int (zI R_result), .int (zI R_now), .int (zI R_nowRow), .int (zI R_come), .ref (ad 29), .ref (ad 30), .int (zI R_puts), .ref (ad 31)])), (ad 8, .inl (cI, 3700, .inl (zA R_valueKinds))), (ad 9, .inl (cL, 3700, .inr (.inl (zB R_valueNumbers)))), (ad 10, .inl (cI, 3700, .inl (zA R_from))), (ad 11, .inl (cI, 3700, .inl (zA R_length))), (ad 14, .inl (cI, 3700, .inl (zA R_given))), (ad 18, .inl (cI, 5000, .inl (zA R_forms_441))), (ad 19, .inl (cL, 5000, .inr (.inl (zB R_tags_442)))), (ad 20, .inl (cI, 5000, .inl (zA R_counts_443))), (ad 21, .inl (cI, 5000, .inl (zA R_textsAt_444))), (ad 29, .inl (cI, 3, .inl (zA R_of))), (ad 31, .inl (cI, 220, .inl (zA R_comes)))]) X (jrunV X (c_Mod_putData (ad := ad) q445) jF0_k (fun _ _ _ _ => trivial) (jgV own_Mod_ofLists (by decide +kernel)) rfl rfl rfl pd_Mod_putData (by decide) [0, 6, 7, 8, 9] rfl (by decide) 0 10 rfl rfl rfl rfl (Nat.le_of_ble_eq_true rfl) d_Mod_ofLists_205 (by decide)) [0, 6, 7, 8, 9] [1, 2, 3, 4, 5, 10, 11] [7, 0, 1, 2, 3, 4, 8, 9, 10, 11, 5, 6] rfl rfl (by decide) (by decide) rfl (by decide) ?_
            refine J_aload_n X d_Mod_ofLists_208 rfl 3 rfl ?_
            refine J_iload_n X d_Mod_ofLists_209 rfl 6 rfl ?_
            refine J_aload_n X d_Mod_ofLists_210 rfl 3 rfl ?_
            refine J_get X (j_in in_Mod) 0 rfl rfl 13 (by decide) (j_m own_Mod_ofLists (by decide +kernel)) rfl d_Mod_ofLists_211 ?_
            refine J_iload_n X d_Mod_ofLists_214 rfl 5 rfl ?_
            obtain ⟨g446, h⟩ := wk_g h
            refine J_iald X 4 0 rfl rfl g446 d_Mod_ofLists_215 ?_
            obtain ⟨R_dataEnd_447, R_forms_448, R_tags_449, R_counts_450, R_textsAt_451, q452, h⟩ := wk_b5 h
            refine J_afterI0 (ws' := [(ad 0, .inr (10, [.int (zI R_thrown), .ref (ad 1), .ref (ad 2), .ref (ad 3), .ref (ad 4), .ref (ad 5), .ref (ad 6), .int (zI R_used), .ref (ad 7), .int (zI R_many), .ref (ad 8), .ref (ad 9), .ref (ad 10), .ref (ad 11), .ref (ad 12), .ref (ad 13), .ref (ad 14), .ref (ad 15), .ref (ad 16), .int (zI R_values), .ref (ad 17), .int (zI R_textEnd), .ref (ad 18), .ref (ad 19), .ref (ad 20), .ref (ad 21), .int (zI R_dataEnd_447), .ref (ad 22), .int (zI R_rowEnd), .ref (ad 23), .ref (ad 24), .int (zI R_rowMany), .ref (ad 25), .ref (ad 26), .ref (ad 27), .ref (ad 28), .int (zI R_waiting), .int (zI R_mostWaiting), .int (zI R_answer), .int (zI R_steps), .int (zI R_memory), .int (zI R_maxSteps), .int (zI R_maxMemory), .int (zI R_fault), .int (zI R_result), .int (zI R_now), .int (zI R_nowRow), .int (zI R_come), .ref (ad 29), .ref (ad 30), .int (zI R_puts), .ref (ad 31)])), (ad 8, .inl (cI, 3700, .inl (zA R_valueKinds))), (ad 9, .inl (cL, 3700, .inr (.inl (zB R_valueNumbers)))), (ad 10, .inl (cI, 3700, .inl (zA R_from))), (ad 11, .inl (cI, 3700, .inl (zA R_length))), (ad 14, .inl (cI, 3700, .inl (zA R_given))), (ad 18, .inl (cI, 5000, .inl (zA R_forms_448))), (ad 19, .inl (cL, 5000, .inr (.inl (zB R_tags_449)))), (ad 20, .inl (cI, 5000, .inl (zA R_counts_450))), (ad 21, .inl (cI, 5000, .inl (zA R_textsAt_451))), (ad 29, .inl (cI, 3, .inl (zA R_of))), (ad 31, .inl (cI, 220, .inl (zA R_comes)))]) X (jrunV X (c_Mod_copyData (ad := ad) q452) jF0_k (fun _ _ _ _ => trivial) (jgV own_Mod_ofLists (by decide +kernel)) rfl rfl rfl pd_Mod_copyData (by decide) [0, 6, 7, 8, 9] rfl (by decide) 0 10 rfl rfl rfl rfl (Nat.le_of_ble_eq_true rfl) d_Mod_ofLists_216 (by decide)) [0, 6, 7, 8, 9] [1, 2, 3, 4, 5, 10, 11] [7, 0, 1, 2, 3, 4, 8, 9, 10, 11, 5, 6] rfl rfl (by decide) (by decide) rfl (by decide) ?_
            refine J_aload_n X d_Mod_ofLists_219 rfl 3 rfl ?_
            refine J_aload_n X d_Mod_ofLists_220 rfl 3 rfl ?_
            refine J_get X (j_in in_Mod) 0 rfl rfl 12 (by decide) (j_m own_Mod_ofLists (by decide +kernel)) rfl d_Mod_ofLists_221 ?_
            refine J_iload X d_Mod_ofLists_224 0 rfl ?_
            obtain ⟨g453, h⟩ := wk_g h
            refine J_iald X 3 0 rfl rfl g453 d_Mod_ofLists_226 ?_
            refine J_iconst X d_Mod_ofLists_227 ?_
            refine J_iadd X d_Mod_ofLists_228 ?_
            refine J_aload_n X d_Mod_ofLists_229 rfl 3 rfl ?_
            refine J_get X (j_in in_Mod) 0 rfl rfl 13 (by decide) (j_m own_Mod_ofLists (by decide +kernel)) rfl d_Mod_ofLists_230 ?_
            refine J_iload X d_Mod_ofLists_233 0 rfl ?_
            obtain ⟨g454, h⟩ := wk_g h
            refine J_iald X 4 0 rfl rfl g454 d_Mod_ofLists_235 ?_
            refine J_iconst X d_Mod_ofLists_236 ?_
            refine J_isub X d_Mod_ofLists_237 ?_
            obtain ⟨R_dataEnd_455, R_forms_456, R_tags_457, R_counts_458, R_textsAt_459, q460, h⟩ := wk_b5 h
            refine J_afterI0 (ws' := [(ad 0, .inr (10, [.int (zI R_thrown), .ref (ad 1), .ref (ad 2), .ref (ad 3), .ref (ad 4), .ref (ad 5), .ref (ad 6), .int (zI R_used), .ref (ad 7), .int (zI R_many), .ref (ad 8), .ref (ad 9), .ref (ad 10), .ref (ad 11), .ref (ad 12), .ref (ad 13), .ref (ad 14), .ref (ad 15), .ref (ad 16), .int (zI R_values), .ref (ad 17), .int (zI R_textEnd), .ref (ad 18), .ref (ad 19), .ref (ad 20), .ref (ad 21), .int (zI R_dataEnd_455), .ref (ad 22), .int (zI R_rowEnd), .ref (ad 23), .ref (ad 24), .int (zI R_rowMany), .ref (ad 25), .ref (ad 26), .ref (ad 27), .ref (ad 28), .int (zI R_waiting), .int (zI R_mostWaiting), .int (zI R_answer), .int (zI R_steps), .int (zI R_memory), .int (zI R_maxSteps), .int (zI R_maxMemory), .int (zI R_fault), .int (zI R_result), .int (zI R_now), .int (zI R_nowRow), .int (zI R_come), .ref (ad 29), .ref (ad 30), .int (zI R_puts), .ref (ad 31)])), (ad 8, .inl (cI, 3700, .inl (zA R_valueKinds))), (ad 9, .inl (cL, 3700, .inr (.inl (zB R_valueNumbers)))), (ad 10, .inl (cI, 3700, .inl (zA R_from))), (ad 11, .inl (cI, 3700, .inl (zA R_length))), (ad 14, .inl (cI, 3700, .inl (zA R_given))), (ad 18, .inl (cI, 5000, .inl (zA R_forms_456))), (ad 19, .inl (cL, 5000, .inr (.inl (zB R_tags_457)))), (ad 20, .inl (cI, 5000, .inl (zA R_counts_458))), (ad 21, .inl (cI, 5000, .inl (zA R_textsAt_459))), (ad 29, .inl (cI, 3, .inl (zA R_of))), (ad 31, .inl (cI, 220, .inl (zA R_comes)))]) X (jrunV X (c_Mod_copyData (ad := ad) q460) jF0_k (fun _ _ _ _ => trivial) (jgV own_Mod_ofLists (by decide +kernel)) rfl rfl rfl pd_Mod_copyData (by decide) [0, 6, 7, 8, 9] rfl (by decide) 0 10 rfl rfl rfl rfl (Nat.le_of_ble_eq_true rfl) d_Mod_ofLists_238 (by decide)) [0, 6, 7, 8, 9] [1, 2, 3, 4, 5, 10, 11] [7, 0, 1, 2, 3, 4, 8, 9, 10, 11, 5, 6] rfl rfl (by decide) (by decide) rfl (by decide) ?_
            refine J_aload_n X d_Mod_ofLists_241 rfl 3 rfl ?_
            refine J_iload X d_Mod_ofLists_242 7 rfl ?_
            refine J_aload_n X d_Mod_ofLists_244 rfl 3 rfl ?_
            refine J_get X (j_in in_Mod) 0 rfl rfl 26 (by decide) (j_m own_Mod_ofLists (by decide +kernel)) rfl d_Mod_ofLists_245 ?_
            refine J_iload X d_Mod_ofLists_248 7 rfl ?_
            refine J_isub X d_Mod_ofLists_250 ?_
            obtain ⟨r461, R_comes_462, q463, h⟩ := wk_b2 h
            refine J_afterI0 (ws' := [(ad 0, .inr (10, [.int (zI R_thrown), .ref (ad 1), .ref (ad 2), .ref (ad 3), .ref (ad 4), .ref (ad 5), .ref (ad 6), .int (zI R_used), .ref (ad 7), .int (zI R_many), .ref (ad 8), .ref (ad 9), .ref (ad 10), .ref (ad 11), .ref (ad 12), .ref (ad 13), .ref (ad 14), .ref (ad 15), .ref (ad 16), .int (zI R_values), .ref (ad 17), .int (zI R_textEnd), .ref (ad 18), .ref (ad 19), .ref (ad 20), .ref (ad 21), .int (zI R_dataEnd_455), .ref (ad 22), .int (zI R_rowEnd), .ref (ad 23), .ref (ad 24), .int (zI R_rowMany), .ref (ad 25), .ref (ad 26), .ref (ad 27), .ref (ad 28), .int (zI R_waiting), .int (zI R_mostWaiting), .int (zI R_answer), .int (zI R_steps), .int (zI R_memory), .int (zI R_maxSteps), .int (zI R_maxMemory), .int (zI R_fault), .int (zI R_result), .int (zI R_now), .int (zI R_nowRow), .int (zI R_come), .ref (ad 29), .ref (ad 30), .int (zI R_puts), .ref (ad 31)])), (ad 8, .inl (cI, 3700, .inl (zA R_valueKinds))), (ad 9, .inl (cL, 3700, .inr (.inl (zB R_valueNumbers)))), (ad 10, .inl (cI, 3700, .inl (zA R_from))), (ad 11, .inl (cI, 3700, .inl (zA R_length))), (ad 14, .inl (cI, 3700, .inl (zA R_given))), (ad 18, .inl (cI, 5000, .inl (zA R_forms_456))), (ad 19, .inl (cL, 5000, .inr (.inl (zB R_tags_457)))), (ad 20, .inl (cI, 5000, .inl (zA R_counts_458))), (ad 21, .inl (cI, 5000, .inl (zA R_textsAt_459))), (ad 29, .inl (cI, 3, .inl (zA R_of))), (ad 31, .inl (cI, 220, .inl (zA R_comes_462)))]) X (jrunV X (c_Mod_depthOfData (ad := ad) q463) jF0_k (fun _ _ _ _ => trivial) (jgV own_Mod_ofLists (by decide +kernel)) rfl rfl rfl pd_Mod_depthOfData (by decide) [0, 6, 8, 11] rfl (by decide) 0 10 rfl rfl rfl rfl (Nat.le_of_ble_eq_true rfl) d_Mod_ofLists_251 (by decide)) [0, 6, 8, 11] [1, 2, 3, 4, 5, 7, 9, 10] [8, 0, 1, 2, 3, 4, 9, 5, 10, 6, 7, 11] rfl rfl (by decide) (by decide) rfl (by decide) ?_
            refine J_bipush X d_Mod_ofLists_254 (by decide) ?_
            refine J_icmp_le (tgt := 267) X d_Mod_ofLists_256 (by decide) h (fun c464 h => ?_) (fun c464 h => ?_)
            · refine J_aload_n X d_Mod_ofLists_267 rfl 3 rfl ?_
              refine J_iload X d_Mod_ofLists_268 7 rfl ?_
              obtain ⟨r465, R_values_466, R_valueKinds_467, R_valueNumbers_468, R_from_469, R_length_470, R_given_471, q472, h⟩ := wk_b7 h
              refine J_afterI0 (ws' := [(ad 0, .inr (10, [.int (zI R_thrown), .ref (ad 1), .ref (ad 2), .ref (ad 3), .ref (ad 4), .ref (ad 5), .ref (ad 6), .int (zI R_used), .ref (ad 7), .int (zI R_many), .ref (ad 8), .ref (ad 9), .ref (ad 10), .ref (ad 11), .ref (ad 12), .ref (ad 13), .ref (ad 14), .ref (ad 15), .ref (ad 16), .int (zI R_values_466), .ref (ad 17), .int (zI R_textEnd), .ref (ad 18), .ref (ad 19), .ref (ad 20), .ref (ad 21), .int (zI R_dataEnd_455), .ref (ad 22), .int (zI R_rowEnd), .ref (ad 23), .ref (ad 24), .int (zI R_rowMany), .ref (ad 25), .ref (ad 26), .ref (ad 27), .ref (ad 28), .int (zI R_waiting), .int (zI R_mostWaiting), .int (zI R_answer), .int (zI R_steps), .int (zI R_memory), .int (zI R_maxSteps), .int (zI R_maxMemory), .int (zI R_fault), .int (zI R_result), .int (zI R_now), .int (zI R_nowRow), .int (zI R_come), .ref (ad 29), .ref (ad 30), .int (zI R_puts), .ref (ad 31)])), (ad 8, .inl (cI, 3700, .inl (zA R_valueKinds_467))), (ad 9, .inl (cL, 3700, .inr (.inl (zB R_valueNumbers_468)))), (ad 10, .inl (cI, 3700, .inl (zA R_from_469))), (ad 11, .inl (cI, 3700, .inl (zA R_length_470))), (ad 14, .inl (cI, 3700, .inl (zA R_given_471))), (ad 18, .inl (cI, 5000, .inl (zA R_forms_456))), (ad 19, .inl (cL, 5000, .inr (.inl (zB R_tags_457)))), (ad 20, .inl (cI, 5000, .inl (zA R_counts_458))), (ad 21, .inl (cI, 5000, .inl (zA R_textsAt_459))), (ad 29, .inl (cI, 3, .inl (zA R_of))), (ad 31, .inl (cI, 220, .inl (zA R_comes_462)))]) X (jrunV X (c_Mod_makeData (ad := ad) q472) jF0_k (fun _ _ _ _ => trivial) (jgV own_Mod_ofLists (by decide +kernel)) rfl rfl rfl pd_Mod_makeData (by decide) [0, 1, 2, 3, 4, 5] rfl (by decide) 0 10 rfl rfl rfl rfl (Nat.le_of_ble_eq_true rfl) d_Mod_ofLists_270 (by decide)) [0, 1, 2, 3, 4, 5] [6, 7, 8, 9, 10, 11] [6, 7, 8, 9, 10, 11, 0, 1, 2, 3, 4, 5] rfl rfl (by decide) (by decide) rfl (by decide) ?_
              cases h
              exact J_ret E ⟨_, rfl, rfl⟩ d_Mod_ofLists_273 (Nat.le_refl _) (Nat.le_refl _) rfl
            · refine J_aload_n X d_Mod_ofLists_259 rfl 3 rfl ?_
              refine J_iconst X d_Mod_ofLists_260 ?_
              obtain ⟨r473, R_fault_474, q475, h⟩ := wk_b2 h
              refine J_afterI0 (ws' := [(ad 0, .inr (10, [.int (zI R_thrown), .ref (ad 1), .ref (ad 2), .ref (ad 3), .ref (ad 4), .ref (ad 5), .ref (ad 6), .int (zI R_used), .ref (ad 7), .int (zI R_many), .ref (ad 8), .ref (ad 9), .ref (ad 10), .ref (ad 11), .ref (ad 12), .ref (ad 13), .ref (ad 14), .ref (ad 15), .ref (ad 16), .int (zI R_values), .ref (ad 17), .int (zI R_textEnd), .ref (ad 18), .ref (ad 19), .ref (ad 20), .ref (ad 21), .int (zI R_dataEnd_455), .ref (ad 22), .int (zI R_rowEnd), .ref (ad 23), .ref (ad 24), .int (zI R_rowMany), .ref (ad 25), .ref (ad 26), .ref (ad 27), .ref (ad 28), .int (zI R_waiting), .int (zI R_mostWaiting), .int (zI R_answer), .int (zI R_steps), .int (zI R_memory), .int (zI R_maxSteps), .int (zI R_maxMemory), .int (zI R_fault_474), .int (zI R_result), .int (zI R_now), .int (zI R_nowRow), .int (zI R_come), .ref (ad 29), .ref (ad 30), .int (zI R_puts), .ref (ad 31)])), (ad 8, .inl (cI, 3700, .inl (zA R_valueKinds))), (ad 9, .inl (cL, 3700, .inr (.inl (zB R_valueNumbers)))), (ad 10, .inl (cI, 3700, .inl (zA R_from))), (ad 11, .inl (cI, 3700, .inl (zA R_length))), (ad 14, .inl (cI, 3700, .inl (zA R_given))), (ad 18, .inl (cI, 5000, .inl (zA R_forms_456))), (ad 19, .inl (cL, 5000, .inr (.inl (zB R_tags_457)))), (ad 20, .inl (cI, 5000, .inl (zA R_counts_458))), (ad 21, .inl (cI, 5000, .inl (zA R_textsAt_459))), (ad 29, .inl (cI, 3, .inl (zA R_of))), (ad 31, .inl (cI, 220, .inl (zA R_comes_462)))]) X (jrunV X (c_Mod_fail (ad := ad) q475) jF0_k (fun _ _ _ _ => trivial) (jgV own_Mod_ofLists (by decide +kernel)) rfl rfl rfl pd_Mod_fail (by decide) [0] rfl (by decide) 0 10 rfl rfl rfl rfl (Nat.le_of_ble_eq_true rfl) d_Mod_ofLists_261 (by decide)) [0] [1, 2, 3, 4, 5, 6, 7, 8, 9, 10, 11] [11, 0, 1, 2, 3, 4, 5, 6, 7, 8, 9, 10] rfl rfl (by decide) (by decide) rfl (by decide) ?_
              refine J_goto (tgt := 273) X d_Mod_ofLists_264 (by decide) ?_
              cases h
              exact J_ret E ⟨_, rfl, rfl⟩ d_Mod_ofLists_273 (Nat.le_refl _) (Nat.le_refl _) rfl
          · refine J_aload_n X d_Mod_ofLists_181 rfl 3 rfl ?_
            refine J_iconst X d_Mod_ofLists_182 ?_
            obtain ⟨r476, R_fault_477, q478, h⟩ := wk_b2 h
            refine J_afterI0 (ws' := [(ad 0, .inr (10, [.int (zI R_thrown), .ref (ad 1), .ref (ad 2), .ref (ad 3), .ref (ad 4), .ref (ad 5), .ref (ad 6), .int (zI R_used), .ref (ad 7), .int (zI R_many), .ref (ad 8), .ref (ad 9), .ref (ad 10), .ref (ad 11), .ref (ad 12), .ref (ad 13), .ref (ad 14), .ref (ad 15), .ref (ad 16), .int (zI R_values), .ref (ad 17), .int (zI R_textEnd), .ref (ad 18), .ref (ad 19), .ref (ad 20), .ref (ad 21), .int (zI R_dataEnd), .ref (ad 22), .int (zI R_rowEnd), .ref (ad 23), .ref (ad 24), .int (zI R_rowMany), .ref (ad 25), .ref (ad 26), .ref (ad 27), .ref (ad 28), .int (zI R_waiting), .int (zI R_mostWaiting), .int (zI R_answer), .int (zI R_steps), .int (zI R_memory), .int (zI R_maxSteps), .int (zI R_maxMemory), .int (zI R_fault_477), .int (zI R_result), .int (zI R_now), .int (zI R_nowRow), .int (zI R_come), .ref (ad 29), .ref (ad 30), .int (zI R_puts), .ref (ad 31)])), (ad 8, .inl (cI, 3700, .inl (zA R_valueKinds))), (ad 9, .inl (cL, 3700, .inr (.inl (zB R_valueNumbers)))), (ad 10, .inl (cI, 3700, .inl (zA R_from))), (ad 11, .inl (cI, 3700, .inl (zA R_length))), (ad 14, .inl (cI, 3700, .inl (zA R_given))), (ad 18, .inl (cI, 5000, .inl (zA R_forms))), (ad 19, .inl (cL, 5000, .inr (.inl (zB R_tags)))), (ad 20, .inl (cI, 5000, .inl (zA R_counts))), (ad 21, .inl (cI, 5000, .inl (zA R_textsAt))), (ad 29, .inl (cI, 3, .inl (zA R_of))), (ad 31, .inl (cI, 220, .inl (zA R_comes)))]) X (jrunV X (c_Mod_fail (ad := ad) q478) jF0_k (fun _ _ _ _ => trivial) (jgV own_Mod_ofLists (by decide +kernel)) rfl rfl rfl pd_Mod_fail (by decide) [0] rfl (by decide) 0 10 rfl rfl rfl rfl (Nat.le_of_ble_eq_true rfl) d_Mod_ofLists_183 (by decide)) [0] [1, 2, 3, 4, 5, 6, 7, 8, 9, 10, 11] [11, 0, 1, 2, 3, 4, 5, 6, 7, 8, 9, 10] rfl rfl (by decide) (by decide) rfl (by decide) ?_
            cases h
            exact J_ret E ⟨_, rfl, rfl⟩ d_Mod_ofLists_186 (Nat.le_refl _) (Nat.le_refl _) rfl
        · rcases wk_c h with ⟨c479, h⟩ | ⟨c479, h⟩
          · refine J_tsIn (tgt := 274) X 29 c479 g424 d_Mod_ofLists_43 (by decide) (by decide) rfl (by decide) ?_
            refine J_aload_n X d_Mod_ofLists_274 rfl 2 rfl ?_
            refine J_iload X d_Mod_ofLists_275 1 rfl ?_
            refine J_if_ne (pa := some ()) (pb := none) (o := ()) (tgt := 284) X d_Mod_ofLists_277 (by decide) (by decide) (fun _ h => by cases h) (fun _ _ => ?_)
            refine J_iconst X d_Mod_ofLists_280 ?_
            refine J_goto (tgt := 285) X d_Mod_ofLists_281 (by decide) ?_
            obtain ⟨r480, R_values_481, R_valueKinds_482, R_valueNumbers_483, R_given_484, q485, h⟩ := wk_b5 h
            refine J_afterI0 (ws' := [(ad 0, .inr (10, [.int (zI R_thrown), .ref (ad 1), .ref (ad 2), .ref (ad 3), .ref (ad 4), .ref (ad 5), .ref (ad 6), .int (zI R_used), .ref (ad 7), .int (zI R_many), .ref (ad 8), .ref (ad 9), .ref (ad 10), .ref (ad 11), .ref (ad 12), .ref (ad 13), .ref (ad 14), .ref (ad 15), .ref (ad 16), .int (zI R_values_481), .ref (ad 17), .int (zI R_textEnd), .ref (ad 18), .ref (ad 19), .ref (ad 20), .ref (ad 21), .int (zI R_dataEnd), .ref (ad 22), .int (zI R_rowEnd), .ref (ad 23), .ref (ad 24), .int (zI R_rowMany), .ref (ad 25), .ref (ad 26), .ref (ad 27), .ref (ad 28), .int (zI R_waiting), .int (zI R_mostWaiting), .int (zI R_answer), .int (zI R_steps), .int (zI R_memory), .int (zI R_maxSteps), .int (zI R_maxMemory), .int (zI R_fault), .int (zI R_result), .int (zI R_now), .int (zI R_nowRow), .int (zI R_come), .ref (ad 29), .ref (ad 30), .int (zI R_puts), .ref (ad 31)])), (ad 8, .inl (cI, 3700, .inl (zA R_valueKinds_482))), (ad 9, .inl (cL, 3700, .inr (.inl (zB R_valueNumbers_483)))), (ad 10, .inl (cI, 3700, .inl (zA R_from))), (ad 11, .inl (cI, 3700, .inl (zA R_length))), (ad 14, .inl (cI, 3700, .inl (zA R_given_484))), (ad 18, .inl (cI, 5000, .inl (zA R_forms))), (ad 19, .inl (cL, 5000, .inr (.inl (zB R_tags)))), (ad 20, .inl (cI, 5000, .inl (zA R_counts))), (ad 21, .inl (cI, 5000, .inl (zA R_textsAt))), (ad 29, .inl (cI, 3, .inl (zA R_of))), (ad 31, .inl (cI, 220, .inl (zA R_comes)))]) X (jrunV X (c_Mod_truth (ad := ad) q485) jF0_k (fun _ _ _ _ => trivial) (jgV own_Mod_ofLists (by decide +kernel)) rfl rfl rfl pd_Mod_truth (by decide) [0, 1, 2, 5] rfl (by decide) 0 10 rfl rfl rfl rfl (Nat.le_of_ble_eq_true rfl) d_Mod_ofLists_285 (by decide)) [0, 1, 2, 5] [3, 4, 6, 7, 8, 9, 10, 11] [8, 9, 10, 0, 1, 11, 2, 3, 4, 5, 6, 7] rfl rfl (by decide) (by decide) rfl (by decide) ?_
            cases h
            exact J_ret E ⟨_, rfl, rfl⟩ d_Mod_ofLists_288 (Nat.le_refl _) (Nat.le_refl _) rfl
          · rcases wk_c h with ⟨c486, h⟩ | ⟨c486, h⟩
            · refine J_tsIn (tgt := 289) X 30 c486 g424 d_Mod_ofLists_43 (by decide) (by decide) rfl (by decide) ?_
              refine J_iload X d_Mod_ofLists_289 1 rfl ?_
              refine J_iconst X d_Mod_ofLists_291 ?_
              obtain ⟨g487, h⟩ := wk_g h
              refine J_irem X g487 d_Mod_ofLists_292 ?_
              refine J_iconst X d_Mod_ofLists_293 ?_
              refine J_icmp_ne (tgt := 305) X d_Mod_ofLists_294 (by decide) h (fun c488 h => ?_) (fun c488 h => ?_)
              · refine J_aload_n X d_Mod_ofLists_305 rfl 2 rfl ?_
                refine J_iconst X d_Mod_ofLists_306 ?_
                refine J_lconst (v := 0) X d_Mod_ofLists_307 (by decide) ?_
                refine J_iload X d_Mod_ofLists_308 1 rfl ?_
                refine J_iconst X d_Mod_ofLists_310 ?_
                obtain ⟨g489, h⟩ := wk_g h
                refine J_idiv X g489 d_Mod_ofLists_311 ?_
                refine J_iload_n X d_Mod_ofLists_312 rfl 4 rfl ?_
                obtain ⟨r490, R_values_491, R_dataEnd_492, R_valueKinds_493, R_valueNumbers_494, R_from_495, R_length_496, R_given_497, R_forms_498, R_tags_499, R_counts_500, R_textsAt_501, q502, h⟩ := wk_b12 h
                refine J_afterI0 (ws' := [(ad 0, .inr (10, [.int (zI R_thrown), .ref (ad 1), .ref (ad 2), .ref (ad 3), .ref (ad 4), .ref (ad 5), .ref (ad 6), .int (zI R_used), .ref (ad 7), .int (zI R_many), .ref (ad 8), .ref (ad 9), .ref (ad 10), .ref (ad 11), .ref (ad 12), .ref (ad 13), .ref (ad 14), .ref (ad 15), .ref (ad 16), .int (zI R_values_491), .ref (ad 17), .int (zI R_textEnd), .ref (ad 18), .ref (ad 19), .ref (ad 20), .ref (ad 21), .int (zI R_dataEnd_492), .ref (ad 22), .int (zI R_rowEnd), .ref (ad 23), .ref (ad 24), .int (zI R_rowMany), .ref (ad 25), .ref (ad 26), .ref (ad 27), .ref (ad 28), .int (zI R_waiting), .int (zI R_mostWaiting), .int (zI R_answer), .int (zI R_steps), .int (zI R_memory), .int (zI R_maxSteps), .int (zI R_maxMemory), .int (zI R_fault), .int (zI R_result), .int (zI R_now), .int (zI R_nowRow), .int (zI R_come), .ref (ad 29), .ref (ad 30), .int (zI R_puts), .ref (ad 31)])), (ad 8, .inl (cI, 3700, .inl (zA R_valueKinds_493))), (ad 9, .inl (cL, 3700, .inr (.inl (zB R_valueNumbers_494)))), (ad 10, .inl (cI, 3700, .inl (zA R_from_495))), (ad 11, .inl (cI, 3700, .inl (zA R_length_496))), (ad 14, .inl (cI, 3700, .inl (zA R_given_497))), (ad 18, .inl (cI, 5000, .inl (zA R_forms_498))), (ad 19, .inl (cL, 5000, .inr (.inl (zB R_tags_499)))), (ad 20, .inl (cI, 5000, .inl (zA R_counts_500))), (ad 21, .inl (cI, 5000, .inl (zA R_textsAt_501))), (ad 29, .inl (cI, 3, .inl (zA R_of))), (ad 31, .inl (cI, 220, .inl (zA R_comes)))]) X (jrunV X (c_Mod_outer (ad := ad) q502) jF0_k (fun _ _ _ _ => trivial) (jgV own_Mod_ofLists (by decide +kernel)) rfl rfl rfl pd_Mod_outer (by decide) [0, 1, 2, 3, 4, 5, 6, 7, 8, 9] rfl (by decide) 0 10 rfl rfl rfl rfl (Nat.le_of_ble_eq_true rfl) d_Mod_ofLists_313 (by decide)) [0, 1, 2, 3, 4, 5, 6, 7, 8, 9] [10, 11] [2, 3, 4, 5, 6, 7, 8, 9, 10, 11, 0, 1] rfl rfl (by decide) (by decide) rfl (by decide) ?_
                cases h
                exact J_ret E ⟨_, rfl, rfl⟩ d_Mod_ofLists_316 (Nat.le_refl _) (Nat.le_refl _) rfl
              · refine J_aload_n X d_Mod_ofLists_297 rfl 2 rfl ?_
                refine J_iconst X d_Mod_ofLists_298 ?_
                obtain ⟨r503, R_fault_504, q505, h⟩ := wk_b2 h
                refine J_afterI0 (ws' := [(ad 0, .inr (10, [.int (zI R_thrown), .ref (ad 1), .ref (ad 2), .ref (ad 3), .ref (ad 4), .ref (ad 5), .ref (ad 6), .int (zI R_used), .ref (ad 7), .int (zI R_many), .ref (ad 8), .ref (ad 9), .ref (ad 10), .ref (ad 11), .ref (ad 12), .ref (ad 13), .ref (ad 14), .ref (ad 15), .ref (ad 16), .int (zI R_values), .ref (ad 17), .int (zI R_textEnd), .ref (ad 18), .ref (ad 19), .ref (ad 20), .ref (ad 21), .int (zI R_dataEnd), .ref (ad 22), .int (zI R_rowEnd), .ref (ad 23), .ref (ad 24), .int (zI R_rowMany), .ref (ad 25), .ref (ad 26), .ref (ad 27), .ref (ad 28), .int (zI R_waiting), .int (zI R_mostWaiting), .int (zI R_answer), .int (zI R_steps), .int (zI R_memory), .int (zI R_maxSteps), .int (zI R_maxMemory), .int (zI R_fault_504), .int (zI R_result), .int (zI R_now), .int (zI R_nowRow), .int (zI R_come), .ref (ad 29), .ref (ad 30), .int (zI R_puts), .ref (ad 31)])), (ad 8, .inl (cI, 3700, .inl (zA R_valueKinds))), (ad 9, .inl (cL, 3700, .inr (.inl (zB R_valueNumbers)))), (ad 10, .inl (cI, 3700, .inl (zA R_from))), (ad 11, .inl (cI, 3700, .inl (zA R_length))), (ad 14, .inl (cI, 3700, .inl (zA R_given))), (ad 18, .inl (cI, 5000, .inl (zA R_forms))), (ad 19, .inl (cL, 5000, .inr (.inl (zB R_tags)))), (ad 20, .inl (cI, 5000, .inl (zA R_counts))), (ad 21, .inl (cI, 5000, .inl (zA R_textsAt))), (ad 29, .inl (cI, 3, .inl (zA R_of))), (ad 31, .inl (cI, 220, .inl (zA R_comes)))]) X (jrunV X (c_Mod_fail (ad := ad) q505) jF0_k (fun _ _ _ _ => trivial) (jgV own_Mod_ofLists (by decide +kernel)) rfl rfl rfl pd_Mod_fail (by decide) [0] rfl (by decide) 0 10 rfl rfl rfl rfl (Nat.le_of_ble_eq_true rfl) d_Mod_ofLists_299 (by decide)) [0] [1, 2, 3, 4, 5, 6, 7, 8, 9, 10, 11] [11, 0, 1, 2, 3, 4, 5, 6, 7, 8, 9, 10] rfl rfl (by decide) (by decide) rfl (by decide) ?_
                refine J_goto (tgt := 316) X d_Mod_ofLists_302 (by decide) ?_
                cases h
                exact J_ret E ⟨_, rfl, rfl⟩ d_Mod_ofLists_316 (Nat.le_refl _) (Nat.le_refl _) rfl
            · refine J_tsOut (tgt := 317) X g424 d_Mod_ofLists_43 (by omega) (by decide) ?_
              refine J_aload_n X d_Mod_ofLists_317 rfl 2 rfl ?_
              refine J_iconst X d_Mod_ofLists_318 ?_
              refine J_lconst (v := 0) X d_Mod_ofLists_319 (by decide) ?_
              refine J_iconst X d_Mod_ofLists_320 ?_
              refine J_iload X d_Mod_ofLists_321 1 rfl ?_
              refine J_imul X d_Mod_ofLists_323 ?_
              refine J_iload_n X d_Mod_ofLists_324 rfl 4 rfl ?_
              obtain ⟨r506, R_values_507, R_dataEnd_508, R_valueKinds_509, R_valueNumbers_510, R_from_511, R_length_512, R_given_513, R_forms_514, R_tags_515, R_counts_516, R_textsAt_517, q518, h⟩ := wk_b12 h
              refine J_afterI0 (ws' := [(ad 0, .inr (10, [.int (zI R_thrown), .ref (ad 1), .ref (ad 2), .ref (ad 3), .ref (ad 4), .ref (ad 5), .ref (ad 6), .int (zI R_used), .ref (ad 7), .int (zI R_many), .ref (ad 8), .ref (ad 9), .ref (ad 10), .ref (ad 11), .ref (ad 12), .ref (ad 13), .ref (ad 14), .ref (ad 15), .ref (ad 16), .int (zI R_values_507), .ref (ad 17), .int (zI R_textEnd), .ref (ad 18), .ref (ad 19), .ref (ad 20), .ref (ad 21), .int (zI R_dataEnd_508), .ref (ad 22), .int (zI R_rowEnd), .ref (ad 23), .ref (ad 24), .int (zI R_rowMany), .ref (ad 25), .ref (ad 26), .ref (ad 27), .ref (ad 28), .int (zI R_waiting), .int (zI R_mostWaiting), .int (zI R_answer), .int (zI R_steps), .int (zI R_memory), .int (zI R_maxSteps), .int (zI R_maxMemory), .int (zI R_fault), .int (zI R_result), .int (zI R_now), .int (zI R_nowRow), .int (zI R_come), .ref (ad 29), .ref (ad 30), .int (zI R_puts), .ref (ad 31)])), (ad 8, .inl (cI, 3700, .inl (zA R_valueKinds_509))), (ad 9, .inl (cL, 3700, .inr (.inl (zB R_valueNumbers_510)))), (ad 10, .inl (cI, 3700, .inl (zA R_from_511))), (ad 11, .inl (cI, 3700, .inl (zA R_length_512))), (ad 14, .inl (cI, 3700, .inl (zA R_given_513))), (ad 18, .inl (cI, 5000, .inl (zA R_forms_514))), (ad 19, .inl (cL, 5000, .inr (.inl (zB R_tags_515)))), (ad 20, .inl (cI, 5000, .inl (zA R_counts_516))), (ad 21, .inl (cI, 5000, .inl (zA R_textsAt_517))), (ad 29, .inl (cI, 3, .inl (zA R_of))), (ad 31, .inl (cI, 220, .inl (zA R_comes)))]) X (jrunV X (c_Mod_outer (ad := ad) q518) jF0_k (fun _ _ _ _ => trivial) (jgV own_Mod_ofLists (by decide +kernel)) rfl rfl rfl pd_Mod_outer (by decide) [0, 1, 2, 3, 4, 5, 6, 7, 8, 9] rfl (by decide) 0 10 rfl rfl rfl rfl (Nat.le_of_ble_eq_true rfl) d_Mod_ofLists_325 (by decide)) [0, 1, 2, 3, 4, 5, 6, 7, 8, 9] [10, 11] [2, 3, 4, 5, 6, 7, 8, 9, 10, 11, 0, 1] rfl rfl (by decide) (by decide) rfl (by decide) ?_
              cases h
              exact J_ret E ⟨_, rfl, rfl⟩ d_Mod_ofLists_328 (Nat.le_refl _) (Nat.le_refl _) rfl

