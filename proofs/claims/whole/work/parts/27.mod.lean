theorem d_Mod_ofData_0 : decode b_Mod_ofData 0 = .ok (.aload_n 0, 1) := by decide +kernel
theorem d_Mod_ofData_1 : decode b_Mod_ofData 1 = .ok (.getfield 102, 3) := by decide +kernel
theorem d_Mod_ofData_4 : decode b_Mod_ofData 4 = .ok (.iconst 0, 1) := by decide +kernel
theorem d_Mod_ofData_5 : decode b_Mod_ofData 5 = .ok (.iaload, 1) := by decide +kernel
theorem d_Mod_ofData_6 : decode b_Mod_ofData 6 = .ok (.istore_n 2, 1) := by decide +kernel
theorem d_Mod_ofData_7 : decode b_Mod_ofData 7 = .ok (.aload_n 0, 1) := by decide +kernel
theorem d_Mod_ofData_8 : decode b_Mod_ofData 8 = .ok (.getfield 39, 3) := by decide +kernel
theorem d_Mod_ofData_11 : decode b_Mod_ofData 11 = .ok (.iload_n 2, 1) := by decide +kernel
theorem d_Mod_ofData_12 : decode b_Mod_ofData 12 = .ok (.iaload, 1) := by decide +kernel
theorem d_Mod_ofData_13 : decode b_Mod_ofData 13 = .ok (.istore_n 3, 1) := by decide +kernel
theorem d_Mod_ofData_14 : decode b_Mod_ofData 14 = .ok (.aload_n 0, 1) := by decide +kernel
theorem d_Mod_ofData_15 : decode b_Mod_ofData 15 = .ok (.getfield 151, 3) := by decide +kernel
theorem d_Mod_ofData_18 : decode b_Mod_ofData 18 = .ok (.istore 4, 2) := by decide +kernel
theorem d_Mod_ofData_20 : decode b_Mod_ofData 20 = .ok (.iload_n 1, 1) := by decide +kernel
theorem d_Mod_ofData_21 : decode b_Mod_ofData 21 = .ok (.tableswitch 276 17 25 #[51, 67, 80, 92, 106, 172, 192, 212, 224], 51) := by decide +kernel
theorem d_Mod_ofData_72 : decode b_Mod_ofData 72 = .ok (.aload_n 0, 1) := by decide +kernel
theorem d_Mod_ofData_73 : decode b_Mod_ofData 73 = .ok (.aload_n 0, 1) := by decide +kernel
theorem d_Mod_ofData_74 : decode b_Mod_ofData 74 = .ok (.iload_n 2, 1) := by decide +kernel
theorem d_Mod_ofData_75 : decode b_Mod_ofData 75 = .ok (.aload_n 0, 1) := by decide +kernel
theorem d_Mod_ofData_76 : decode b_Mod_ofData 76 = .ok (.getfield 102, 3) := by decide +kernel
theorem d_Mod_ofData_79 : decode b_Mod_ofData 79 = .ok (.iconst 1, 1) := by decide +kernel
theorem d_Mod_ofData_80 : decode b_Mod_ofData 80 = .ok (.iaload, 1) := by decide +kernel
theorem d_Mod_ofData_81 : decode b_Mod_ofData 81 = .ok (.invokevirtual 214, 3) := by decide +kernel
theorem d_Mod_ofData_84 : decode b_Mod_ofData 84 = .ok (.invokevirtual 190, 3) := by decide +kernel
theorem d_Mod_ofData_87 : decode b_Mod_ofData 87 = .ok (.ireturn, 1) := by decide +kernel
theorem d_Mod_ofData_88 : decode b_Mod_ofData 88 = .ok (.aload_n 0, 1) := by decide +kernel
theorem d_Mod_ofData_89 : decode b_Mod_ofData 89 = .ok (.iconst 0, 1) := by decide +kernel
theorem d_Mod_ofData_90 : decode b_Mod_ofData 90 = .ok (.aload_n 0, 1) := by decide +kernel
theorem d_Mod_ofData_91 : decode b_Mod_ofData 91 = .ok (.getfield 64, 3) := by decide +kernel
theorem d_Mod_ofData_94 : decode b_Mod_ofData 94 = .ok (.iload_n 3, 1) := by decide +kernel
theorem d_Mod_ofData_95 : decode b_Mod_ofData 95 = .ok (.iaload, 1) := by decide +kernel
theorem d_Mod_ofData_96 : decode b_Mod_ofData 96 = .ok (.i2l, 1) := by decide +kernel
theorem d_Mod_ofData_97 : decode b_Mod_ofData 97 = .ok (.invokevirtual 141, 3) := by decide +kernel
theorem d_Mod_ofData_100 : decode b_Mod_ofData 100 = .ok (.ireturn, 1) := by decide +kernel
theorem d_Mod_ofData_101 : decode b_Mod_ofData 101 = .ok (.aload_n 0, 1) := by decide +kernel
theorem d_Mod_ofData_102 : decode b_Mod_ofData 102 = .ok (.iconst 0, 1) := by decide +kernel
theorem d_Mod_ofData_103 : decode b_Mod_ofData 103 = .ok (.aload_n 0, 1) := by decide +kernel
theorem d_Mod_ofData_104 : decode b_Mod_ofData 104 = .ok (.getfield 67, 3) := by decide +kernel
theorem d_Mod_ofData_107 : decode b_Mod_ofData 107 = .ok (.iload_n 3, 1) := by decide +kernel
theorem d_Mod_ofData_108 : decode b_Mod_ofData 108 = .ok (.laload, 1) := by decide +kernel
theorem d_Mod_ofData_109 : decode b_Mod_ofData 109 = .ok (.invokevirtual 141, 3) := by decide +kernel
theorem d_Mod_ofData_112 : decode b_Mod_ofData 112 = .ok (.ireturn, 1) := by decide +kernel
theorem d_Mod_ofData_113 : decode b_Mod_ofData 113 = .ok (.aload_n 0, 1) := by decide +kernel
theorem d_Mod_ofData_114 : decode b_Mod_ofData 114 = .ok (.iconst 2, 1) := by decide +kernel
theorem d_Mod_ofData_115 : decode b_Mod_ofData 115 = .ok (.lconst 0, 1) := by decide +kernel
theorem d_Mod_ofData_116 : decode b_Mod_ofData 116 = .ok (.aload_n 0, 1) := by decide +kernel
theorem d_Mod_ofData_117 : decode b_Mod_ofData 117 = .ok (.getfield 70, 3) := by decide +kernel
theorem d_Mod_ofData_120 : decode b_Mod_ofData 120 = .ok (.iload_n 3, 1) := by decide +kernel
theorem d_Mod_ofData_121 : decode b_Mod_ofData 121 = .ok (.iaload, 1) := by decide +kernel
theorem d_Mod_ofData_122 : decode b_Mod_ofData 122 = .ok (.iload_n 2, 1) := by decide +kernel
theorem d_Mod_ofData_123 : decode b_Mod_ofData 123 = .ok (.invokevirtual 217, 3) := by decide +kernel
theorem d_Mod_ofData_126 : decode b_Mod_ofData 126 = .ok (.ireturn, 1) := by decide +kernel
theorem d_Mod_ofData_127 : decode b_Mod_ofData 127 = .ok (.aload_n 0, 1) := by decide +kernel
theorem d_Mod_ofData_128 : decode b_Mod_ofData 128 = .ok (.getfield 36, 3) := by decide +kernel
theorem d_Mod_ofData_131 : decode b_Mod_ofData 131 = .ok (.iload_n 2, 1) := by decide +kernel
theorem d_Mod_ofData_132 : decode b_Mod_ofData 132 = .ok (.laload, 1) := by decide +kernel
theorem d_Mod_ofData_133 : decode b_Mod_ofData 133 = .ok (.lconst 0, 1) := by decide +kernel
theorem d_Mod_ofData_134 : decode b_Mod_ofData 134 = .ok (.lcmp, 1) := by decide +kernel
theorem d_Mod_ofData_135 : decode b_Mod_ofData 135 = .ok (.ifCond .lt 16, 3) := by decide +kernel
theorem d_Mod_ofData_138 : decode b_Mod_ofData 138 = .ok (.aload_n 0, 1) := by decide +kernel
theorem d_Mod_ofData_139 : decode b_Mod_ofData 139 = .ok (.getfield 36, 3) := by decide +kernel
theorem d_Mod_ofData_142 : decode b_Mod_ofData 142 = .ok (.iload_n 2, 1) := by decide +kernel
theorem d_Mod_ofData_143 : decode b_Mod_ofData 143 = .ok (.laload, 1) := by decide +kernel
theorem d_Mod_ofData_144 : decode b_Mod_ofData 144 = .ok (.ldc2_w 221, 3) := by decide +kernel
theorem d_Mod_ofData_147 : decode b_Mod_ofData 147 = .ok (.lcmp, 1) := by decide +kernel
theorem d_Mod_ofData_148 : decode b_Mod_ofData 148 = .ok (.ifCond .le 11, 3) := by decide +kernel
theorem d_Mod_ofData_151 : decode b_Mod_ofData 151 = .ok (.aload_n 0, 1) := by decide +kernel
theorem d_Mod_ofData_152 : decode b_Mod_ofData 152 = .ok (.iconst 3, 1) := by decide +kernel
theorem d_Mod_ofData_153 : decode b_Mod_ofData 153 = .ok (.invokevirtual 183, 3) := by decide +kernel
theorem d_Mod_ofData_156 : decode b_Mod_ofData 156 = .ok (.goto 36, 3) := by decide +kernel
theorem d_Mod_ofData_159 : decode b_Mod_ofData 159 = .ok (.aload_n 0, 1) := by decide +kernel
theorem d_Mod_ofData_160 : decode b_Mod_ofData 160 = .ok (.iconst 0, 1) := by decide +kernel
theorem d_Mod_ofData_161 : decode b_Mod_ofData 161 = .ok (.aload_n 0, 1) := by decide +kernel
theorem d_Mod_ofData_162 : decode b_Mod_ofData 162 = .ok (.getfield 36, 3) := by decide +kernel
theorem d_Mod_ofData_165 : decode b_Mod_ofData 165 = .ok (.iload_n 2, 1) := by decide +kernel
theorem d_Mod_ofData_166 : decode b_Mod_ofData 166 = .ok (.laload, 1) := by decide +kernel
theorem d_Mod_ofData_167 : decode b_Mod_ofData 167 = .ok (.aload_n 0, 1) := by decide +kernel
theorem d_Mod_ofData_168 : decode b_Mod_ofData 168 = .ok (.getfield 70, 3) := by decide +kernel
theorem d_Mod_ofData_171 : decode b_Mod_ofData 171 = .ok (.aload_n 0, 1) := by decide +kernel
theorem d_Mod_ofData_172 : decode b_Mod_ofData 172 = .ok (.getfield 39, 3) := by decide +kernel
theorem d_Mod_ofData_175 : decode b_Mod_ofData 175 = .ok (.aload_n 0, 1) := by decide +kernel
theorem d_Mod_ofData_176 : decode b_Mod_ofData 176 = .ok (.getfield 102, 3) := by decide +kernel
theorem d_Mod_ofData_179 : decode b_Mod_ofData 179 = .ok (.iconst 1, 1) := by decide +kernel
theorem d_Mod_ofData_180 : decode b_Mod_ofData 180 = .ok (.iaload, 1) := by decide +kernel
theorem d_Mod_ofData_181 : decode b_Mod_ofData 181 = .ok (.iaload, 1) := by decide +kernel
theorem d_Mod_ofData_182 : decode b_Mod_ofData 182 = .ok (.iaload, 1) := by decide +kernel
theorem d_Mod_ofData_183 : decode b_Mod_ofData 183 = .ok (.aload_n 0, 1) := by decide +kernel
theorem d_Mod_ofData_184 : decode b_Mod_ofData 184 = .ok (.getfield 102, 3) := by decide +kernel
theorem d_Mod_ofData_187 : decode b_Mod_ofData 187 = .ok (.iconst 1, 1) := by decide +kernel
theorem d_Mod_ofData_188 : decode b_Mod_ofData 188 = .ok (.iaload, 1) := by decide +kernel
theorem d_Mod_ofData_189 : decode b_Mod_ofData 189 = .ok (.invokevirtual 217, 3) := by decide +kernel
theorem d_Mod_ofData_192 : decode b_Mod_ofData 192 = .ok (.ireturn, 1) := by decide +kernel
theorem d_Mod_ofData_193 : decode b_Mod_ofData 193 = .ok (.aload_n 0, 1) := by decide +kernel
theorem d_Mod_ofData_194 : decode b_Mod_ofData 194 = .ok (.iconst 3, 1) := by decide +kernel
theorem d_Mod_ofData_195 : decode b_Mod_ofData 195 = .ok (.aload_n 0, 1) := by decide +kernel
theorem d_Mod_ofData_196 : decode b_Mod_ofData 196 = .ok (.getfield 36, 3) := by decide +kernel
theorem d_Mod_ofData_199 : decode b_Mod_ofData 199 = .ok (.iload_n 2, 1) := by decide +kernel
theorem d_Mod_ofData_200 : decode b_Mod_ofData 200 = .ok (.laload, 1) := by decide +kernel
theorem d_Mod_ofData_201 : decode b_Mod_ofData 201 = .ok (.iconst 0, 1) := by decide +kernel
theorem d_Mod_ofData_202 : decode b_Mod_ofData 202 = .ok (.iconst 0, 1) := by decide +kernel
theorem d_Mod_ofData_203 : decode b_Mod_ofData 203 = .ok (.invokevirtual 154, 3) := by decide +kernel
theorem d_Mod_ofData_206 : decode b_Mod_ofData 206 = .ok (.aload_n 0, 1) := by decide +kernel
theorem d_Mod_ofData_207 : decode b_Mod_ofData 207 = .ok (.iload 4, 2) := by decide +kernel
theorem d_Mod_ofData_209 : decode b_Mod_ofData 209 = .ok (.invokevirtual 211, 3) := by decide +kernel
theorem d_Mod_ofData_212 : decode b_Mod_ofData 212 = .ok (.ireturn, 1) := by decide +kernel
theorem d_Mod_ofData_213 : decode b_Mod_ofData 213 = .ok (.aload_n 0, 1) := by decide +kernel
theorem d_Mod_ofData_214 : decode b_Mod_ofData 214 = .ok (.iconst 4, 1) := by decide +kernel
theorem d_Mod_ofData_215 : decode b_Mod_ofData 215 = .ok (.lconst 0, 1) := by decide +kernel
theorem d_Mod_ofData_216 : decode b_Mod_ofData 216 = .ok (.aload_n 0, 1) := by decide +kernel
theorem d_Mod_ofData_217 : decode b_Mod_ofData 217 = .ok (.getfield 42, 3) := by decide +kernel
theorem d_Mod_ofData_220 : decode b_Mod_ofData 220 = .ok (.iload_n 2, 1) := by decide +kernel
theorem d_Mod_ofData_221 : decode b_Mod_ofData 221 = .ok (.iaload, 1) := by decide +kernel
theorem d_Mod_ofData_222 : decode b_Mod_ofData 222 = .ok (.iload_n 3, 1) := by decide +kernel
theorem d_Mod_ofData_223 : decode b_Mod_ofData 223 = .ok (.invokevirtual 154, 3) := by decide +kernel
theorem d_Mod_ofData_226 : decode b_Mod_ofData 226 = .ok (.aload_n 0, 1) := by decide +kernel
theorem d_Mod_ofData_227 : decode b_Mod_ofData 227 = .ok (.iload 4, 2) := by decide +kernel
theorem d_Mod_ofData_229 : decode b_Mod_ofData 229 = .ok (.invokevirtual 211, 3) := by decide +kernel
theorem d_Mod_ofData_232 : decode b_Mod_ofData 232 = .ok (.ireturn, 1) := by decide +kernel
theorem d_Mod_ofData_233 : decode b_Mod_ofData 233 = .ok (.aload_n 0, 1) := by decide +kernel
theorem d_Mod_ofData_234 : decode b_Mod_ofData 234 = .ok (.iconst 0, 1) := by decide +kernel
theorem d_Mod_ofData_235 : decode b_Mod_ofData 235 = .ok (.aload_n 0, 1) := by decide +kernel
theorem d_Mod_ofData_236 : decode b_Mod_ofData 236 = .ok (.getfield 67, 3) := by decide +kernel
theorem d_Mod_ofData_239 : decode b_Mod_ofData 239 = .ok (.iload_n 3, 1) := by decide +kernel
theorem d_Mod_ofData_240 : decode b_Mod_ofData 240 = .ok (.laload, 1) := by decide +kernel
theorem d_Mod_ofData_241 : decode b_Mod_ofData 241 = .ok (.invokevirtual 141, 3) := by decide +kernel
theorem d_Mod_ofData_244 : decode b_Mod_ofData 244 = .ok (.ireturn, 1) := by decide +kernel
theorem d_Mod_ofData_245 : decode b_Mod_ofData 245 = .ok (.aload_n 0, 1) := by decide +kernel
theorem d_Mod_ofData_246 : decode b_Mod_ofData 246 = .ok (.iconst 0, 1) := by decide +kernel
theorem d_Mod_ofData_247 : decode b_Mod_ofData 247 = .ok (.putfield 148, 3) := by decide +kernel
theorem d_Mod_ofData_250 : decode b_Mod_ofData 250 = .ok (.iconst 0, 1) := by decide +kernel
theorem d_Mod_ofData_251 : decode b_Mod_ofData 251 = .ok (.istore 5, 2) := by decide +kernel
theorem d_Mod_ofData_253 : decode b_Mod_ofData 253 = .ok (.iload 5, 2) := by decide +kernel
theorem d_Mod_ofData_255 : decode b_Mod_ofData 255 = .ok (.aload_n 0, 1) := by decide +kernel
theorem d_Mod_ofData_256 : decode b_Mod_ofData 256 = .ok (.getfield 70, 3) := by decide +kernel
theorem d_Mod_ofData_259 : decode b_Mod_ofData 259 = .ok (.iload_n 3, 1) := by decide +kernel
theorem d_Mod_ofData_260 : decode b_Mod_ofData 260 = .ok (.iaload, 1) := by decide +kernel
theorem d_Mod_ofData_261 : decode b_Mod_ofData 261 = .ok (.if_icmp .ge 27, 3) := by decide +kernel
theorem d_Mod_ofData_264 : decode b_Mod_ofData 264 = .ok (.aload_n 0, 1) := by decide +kernel
theorem d_Mod_ofData_265 : decode b_Mod_ofData 265 = .ok (.aload_n 0, 1) := by decide +kernel
theorem d_Mod_ofData_266 : decode b_Mod_ofData 266 = .ok (.getfield 61, 3) := by decide +kernel
theorem d_Mod_ofData_269 : decode b_Mod_ofData 269 = .ok (.aload_n 0, 1) := by decide +kernel
theorem d_Mod_ofData_270 : decode b_Mod_ofData 270 = .ok (.getfield 73, 3) := by decide +kernel
theorem d_Mod_ofData_273 : decode b_Mod_ofData 273 = .ok (.iload_n 3, 1) := by decide +kernel
theorem d_Mod_ofData_274 : decode b_Mod_ofData 274 = .ok (.iaload, 1) := by decide +kernel
theorem d_Mod_ofData_275 : decode b_Mod_ofData 275 = .ok (.iload 5, 2) := by decide +kernel
theorem d_Mod_ofData_277 : decode b_Mod_ofData 277 = .ok (.iadd, 1) := by decide +kernel
theorem d_Mod_ofData_278 : decode b_Mod_ofData 278 = .ok (.baload, 1) := by decide +kernel
theorem d_Mod_ofData_279 : decode b_Mod_ofData 279 = .ok (.invokevirtual 197, 3) := by decide +kernel
theorem d_Mod_ofData_282 : decode b_Mod_ofData 282 = .ok (.iinc 5 1, 3) := by decide +kernel
theorem d_Mod_ofData_285 : decode b_Mod_ofData 285 = .ok (.goto (-32), 3) := by decide +kernel
theorem d_Mod_ofData_288 : decode b_Mod_ofData 288 = .ok (.aload_n 0, 1) := by decide +kernel
theorem d_Mod_ofData_289 : decode b_Mod_ofData 289 = .ok (.aload_n 0, 1) := by decide +kernel
theorem d_Mod_ofData_290 : decode b_Mod_ofData 290 = .ok (.getfield 148, 3) := by decide +kernel
theorem d_Mod_ofData_293 : decode b_Mod_ofData 293 = .ok (.invokevirtual 201, 3) := by decide +kernel
theorem d_Mod_ofData_296 : decode b_Mod_ofData 296 = .ok (.ireturn, 1) := by decide +kernel
theorem d_Mod_ofData_297 : decode b_Mod_ofData 297 = .ok (.aload_n 0, 1) := by decide +kernel
theorem d_Mod_ofData_298 : decode b_Mod_ofData 298 = .ok (.iload_n 1, 1) := by decide +kernel
theorem d_Mod_ofData_299 : decode b_Mod_ofData 299 = .ok (.iload_n 2, 1) := by decide +kernel
theorem d_Mod_ofData_300 : decode b_Mod_ofData 300 = .ok (.iload_n 3, 1) := by decide +kernel
theorem d_Mod_ofData_301 : decode b_Mod_ofData 301 = .ok (.iload 4, 2) := by decide +kernel
theorem d_Mod_ofData_303 : decode b_Mod_ofData 303 = .ok (.invokevirtual 223, 3) := by decide +kernel
theorem d_Mod_ofData_306 : decode b_Mod_ofData 306 = .ok (.ireturn, 1) := by decide +kernel
def f_Mod_ofData_L253 (R_textEnd : Int) (R_counts : Int → Int) (R_textsAt : Int → Int) (x1 : Int) (x2 : Int) (x3 : Int) (x4 : Int) : Nat → Int → Int → (Int → Int) → Option (Int × Int × (Int → Int))
  | 0, _, _, _ => none
  | n + 1, x5, R_puts, R_texts =>
    if jix x3 5000 = true then (
     if jr2 x5 (R_counts x3) = true then (if (R_counts x3) ≤ x5 then (
      some (x5, R_puts, R_texts)) else (
      if jix x3 5000 = true then (
       if jix ((R_textsAt x3) + x5) 70000 = true then (
        ob2 (f_Mod_putText R_textEnd R_puts R_texts (R_texts ((R_textsAt x3) + x5))) (fun R_puts_148 R_texts_149 =>
         f_Mod_ofData_L253 R_textEnd R_counts R_textsAt x1 x2 x3 x4 n (x5 + 1) R_puts_148 R_texts_149)) else none) else none)) else none) else none
def f_Mod_ofData (N : Nat) (R_values : Int) (R_textEnd : Int) (R_dataEnd : Int) (R_fault : Int) (R_puts : Int) (R_valueKinds : Int → Int) (R_valueNumbers : Int → Int) (R_from : Int → Int) (R_length : Int → Int) (R_given : Int → Int) (R_texts : Int → Int) (R_forms : Int → Int) (R_tags : Int → Int) (R_counts : Int → Int) (R_textsAt : Int → Int) (R_of : Int → Int) (R_comes : Int → Int) (p1 : Int) : Option (Int × Int × Int × Int × Int × Int × (Int → Int) × (Int → Int) × (Int → Int) × (Int → Int) × (Int → Int) × (Int → Int) × (Int → Int) × (Int → Int) × (Int → Int) × (Int → Int) × (Int → Int)) :=
  if jix 0 3 = true then (
   if jix (R_of 0) 3700 = true then (
    if rI p1 = true then (
     if p1 = 17 then (
      if jix 1 3 = true then (
       Option.bind (f_Mod_sameData N R_from R_length R_texts R_forms R_tags R_counts R_textsAt (R_of 0) (R_of 1)) (fun r6 =>
        ob5 (f_Mod_truth R_values R_valueKinds R_valueNumbers R_given r6) (fun r8 R_values_9 R_valueKinds_10 R_valueNumbers_11 R_given_12 =>
         some (r8, R_values_9, R_textEnd, R_dataEnd, R_fault, R_puts, R_valueKinds_10, R_valueNumbers_11, R_from, R_length, R_given_12, R_texts, R_forms, R_tags, R_counts, R_textsAt, R_comes)))) else none) else (
      if p1 = 18 then (
       if jix (R_from (R_of 0)) 5000 = true then (
        if rI (R_forms (R_from (R_of 0))) = true then (
         ob5 (f_Mod_make R_values R_valueKinds R_valueNumbers R_given 0 (R_forms (R_from (R_of 0)))) (fun r17 R_values_18 R_valueKinds_19 R_valueNumbers_20 R_given_21 =>
          some (r17, R_values_18, R_textEnd, R_dataEnd, R_fault, R_puts, R_valueKinds_19, R_valueNumbers_20, R_from, R_length, R_given_21, R_texts, R_forms, R_tags, R_counts, R_textsAt, R_comes))) else none) else none) else (
       if p1 = 19 then (
        if jix (R_from (R_of 0)) 5000 = true then (
         ob5 (f_Mod_make R_values R_valueKinds R_valueNumbers R_given 0 (R_tags (R_from (R_of 0)))) (fun r25 R_values_26 R_valueKinds_27 R_valueNumbers_28 R_given_29 =>
          some (r25, R_values_26, R_textEnd, R_dataEnd, R_fault, R_puts, R_valueKinds_27, R_valueNumbers_28, R_from, R_length, R_given_29, R_texts, R_forms, R_tags, R_counts, R_textsAt, R_comes))) else none) else (
        if p1 = 20 then (
         if jix (R_from (R_of 0)) 5000 = true then (
          ob12 (f_Mod_outer N R_values R_dataEnd R_valueKinds R_valueNumbers R_from R_length R_given R_forms R_tags R_counts R_textsAt 2 0 (R_counts (R_from (R_of 0))) (R_of 0)) (fun r33 R_values_34 R_dataEnd_35 R_valueKinds_36 R_valueNumbers_37 R_from_38 R_length_39 R_given_40 R_forms_41 R_tags_42 R_counts_43 R_textsAt_44 =>
           some (r33, R_values_34, R_textEnd, R_dataEnd_35, R_fault, R_puts, R_valueKinds_36, R_valueNumbers_37, R_from_38, R_length_39, R_given_40, R_texts, R_forms_41, R_tags_42, R_counts_43, R_textsAt_44, R_comes))) else none) else (
         if p1 = 21 then (
          if jix (R_of 0) 3700 = true then (
           if jl2 (R_valueNumbers (R_of 0)) 0 = true then (if (R_valueNumbers (R_of 0)) < 0 then (
            ob2 (f_Mod_fail R_fault 3) (fun r49 R_fault_50 =>
             some (r49, R_values, R_textEnd, R_dataEnd, R_fault_50, R_puts, R_valueKinds, R_valueNumbers, R_from, R_length, R_given, R_texts, R_forms, R_tags, R_counts, R_textsAt, R_comes))) else (
            if jix (R_of 0) 3700 = true then (
             if jl2 (R_valueNumbers (R_of 0)) 127 = true then (if (R_valueNumbers (R_of 0)) ≤ 127 then (
              if jix (R_of 0) 3700 = true then (
               if jix 1 3 = true then (
                if jix (R_of 1) 3700 = true then (
                 if jix (R_from (R_of 1)) 5000 = true then (
                  if jix 1 3 = true then (
                   ob12 (f_Mod_outer N R_values R_dataEnd R_valueKinds R_valueNumbers R_from R_length R_given R_forms R_tags R_counts R_textsAt 0 (R_valueNumbers (R_of 0)) (R_counts (R_from (R_of 1))) (R_of 1)) (fun r59 R_values_60 R_dataEnd_61 R_valueKinds_62 R_valueNumbers_63 R_from_64 R_length_65 R_given_66 R_forms_67 R_tags_68 R_counts_69 R_textsAt_70 =>
                    some (r59, R_values_60, R_textEnd, R_dataEnd_61, R_fault, R_puts, R_valueKinds_62, R_valueNumbers_63, R_from_64, R_length_65, R_given_66, R_texts, R_forms_67, R_tags_68, R_counts_69, R_textsAt_70, R_comes))) else none) else none) else none) else none) else none) else (
              ob2 (f_Mod_fail R_fault 3) (fun r72 R_fault_73 =>
               some (r72, R_values, R_textEnd, R_dataEnd, R_fault_73, R_puts, R_valueKinds, R_valueNumbers, R_from, R_length, R_given, R_texts, R_forms, R_tags, R_counts, R_textsAt, R_comes)))) else none) else none)) else none) else none) else (
          if p1 = 22 then (
           if jix (R_of 0) 3700 = true then (
            ob5 (f_Mod_putData R_dataEnd R_forms R_tags R_counts R_textsAt 3 (R_valueNumbers (R_of 0)) 0 0) (fun R_dataEnd_77 R_forms_78 R_tags_79 R_counts_80 R_textsAt_81 =>
             ob7 (f_Mod_makeData R_values R_dataEnd_77 R_valueKinds R_valueNumbers R_from R_length R_given R_dataEnd) (fun r83 R_values_84 R_valueKinds_85 R_valueNumbers_86 R_from_87 R_length_88 R_given_89 =>
              some (r83, R_values_84, R_textEnd, R_dataEnd_77, R_fault, R_puts, R_valueKinds_85, R_valueNumbers_86, R_from_87, R_length_88, R_given_89, R_texts, R_forms_78, R_tags_79, R_counts_80, R_textsAt_81, R_comes)))) else none) else (
           if p1 = 23 then (
            if jix (R_of 0) 3700 = true then (
             ob5 (f_Mod_putData R_dataEnd R_forms R_tags R_counts R_textsAt 4 0 (R_length (R_of 0)) (R_from (R_of 0))) (fun R_dataEnd_93 R_forms_94 R_tags_95 R_counts_96 R_textsAt_97 =>
              ob7 (f_Mod_makeData R_values R_dataEnd_93 R_valueKinds R_valueNumbers R_from R_length R_given R_dataEnd) (fun r99 R_values_100 R_valueKinds_101 R_valueNumbers_102 R_from_103 R_length_104 R_given_105 =>
               some (r99, R_values_100, R_textEnd, R_dataEnd_93, R_fault, R_puts, R_valueKinds_101, R_valueNumbers_102, R_from_103, R_length_104, R_given_105, R_texts, R_forms_94, R_tags_95, R_counts_96, R_textsAt_97, R_comes)))) else none) else (
            if p1 = 24 then (
             if jix (R_from (R_of 0)) 5000 = true then (
              ob5 (f_Mod_make R_values R_valueKinds R_valueNumbers R_given 0 (R_tags (R_from (R_of 0)))) (fun r109 R_values_110 R_valueKinds_111 R_valueNumbers_112 R_given_113 =>
               some (r109, R_values_110, R_textEnd, R_dataEnd, R_fault, R_puts, R_valueKinds_111, R_valueNumbers_112, R_from, R_length, R_given_113, R_texts, R_forms, R_tags, R_counts, R_textsAt, R_comes))) else none) else (
             if p1 = 25 then (
              ob3 (f_Mod_ofData_L253 R_textEnd R_counts R_textsAt p1 (R_of 0) (R_from (R_of 0)) R_dataEnd N 0 0 R_texts) (fun x5_116 R_puts_117 R_texts_118 =>
               ob8 (f_Mod_makeBytes R_values R_textEnd R_valueKinds R_valueNumbers R_from R_length R_given R_puts_117) (fun r120 R_values_121 R_textEnd_122 R_valueKinds_123 R_valueNumbers_124 R_from_125 R_length_126 R_given_127 =>
                some (r120, R_values_121, R_textEnd_122, R_dataEnd, R_fault, R_puts_117, R_valueKinds_123, R_valueNumbers_124, R_from_125, R_length_126, R_given_127, R_texts_118, R_forms, R_tags, R_counts, R_textsAt, R_comes)))) else (
              ob14 (f_Mod_ofLists N R_values R_dataEnd R_fault R_valueKinds R_valueNumbers R_from R_length R_given R_forms R_tags R_counts R_textsAt R_of R_comes p1 (R_of 0) (R_from (R_of 0)) R_dataEnd) (fun r129 R_values_130 R_dataEnd_131 R_fault_132 R_valueKinds_133 R_valueNumbers_134 R_from_135 R_length_136 R_given_137 R_forms_138 R_tags_139 R_counts_140 R_textsAt_141 R_comes_142 =>
               some (r129, R_values_130, R_textEnd, R_dataEnd_131, R_fault_132, R_puts, R_valueKinds_133, R_valueNumbers_134, R_from_135, R_length_136, R_given_137, R_texts, R_forms_138, R_tags_139, R_counts_140, R_textsAt_141, R_comes_142)))))))))))) else none) else none) else none
set_option maxHeartbeats 4000000 in
set_option maxRecDepth 100000 in
theorem k_Mod_ofData_L253 {K : jK} {cI cL cB : ClassId} {ad : Nat → Nat} {R_textEnd : Int} {R_counts : Int → Int} {R_textsAt : Int → Int} {x1 : Int} {x2 : Int} {x3 : Int} {x4 : Int} {R_thrown : Int} {R_used : Int} {R_many : Int} {R_values : Int} {R_dataEnd : Int} {R_rowEnd : Int} {R_rowMany : Int} {R_waiting : Int} {R_mostWaiting : Int} {R_answer : Int} {R_steps : Int} {R_memory : Int} {R_maxSteps : Int} {R_maxMemory : Int} {R_fault : Int} {R_result : Int} {R_now : Int} {R_nowRow : Int} {R_come : Int} {R_valueKinds : Int → Int} {R_valueNumbers : Int → Int} {R_from : Int → Int} {R_length : Int → Int} {R_given : Int → Int} {R_forms : Int → Int} {R_tags : Int → Int} {R_of : Int → Int} {R_comes : Int → Int} {out : Int × Int × (Int → Int)} (X : jX jF0 K 6 b_Mod_ofData w_Mod_ofData R_Mod [(cI, .int), (cL, .long), (cB, .byte)]) : ∀ (n : Nat) (x5 : Int) (R_puts : Int) (R_texts : (Int → Int)), f_Mod_ofData_L253 R_textEnd R_counts R_textsAt x1 x2 x3 x4 n x5 R_puts R_texts = some out → J K 6 ({ frames := 4, cells := 0, slots := 0, locals := 101 } : Room) false 0 0 [(ad 0, .inr (10, [.int (zI R_thrown), .ref (ad 1), .ref (ad 2), .ref (ad 3), .ref (ad 4), .ref (ad 5), .ref (ad 6), .int (zI R_used), .ref (ad 7), .int (zI R_many), .ref (ad 8), .ref (ad 9), .ref (ad 10), .ref (ad 11), .ref (ad 12), .ref (ad 13), .ref (ad 14), .ref (ad 15), .ref (ad 16), .int (zI R_values), .ref (ad 17), .int (zI R_textEnd), .ref (ad 18), .ref (ad 19), .ref (ad 20), .ref (ad 21), .int (zI R_dataEnd), .ref (ad 22), .int (zI R_rowEnd), .ref (ad 23), .ref (ad 24), .int (zI R_rowMany), .ref (ad 25), .ref (ad 26), .ref (ad 27), .ref (ad 28), .int (zI R_waiting), .int (zI R_mostWaiting), .int (zI R_answer), .int (zI R_steps), .int (zI R_memory), .int (zI R_maxSteps), .int (zI R_maxMemory), .int (zI R_fault), .int (zI R_result), .int (zI R_now), .int (zI R_nowRow), .int (zI R_come), .ref (ad 29), .ref (ad 30), .int (zI (out.2.1)), .ref (ad 31)])), (ad 8, .inl (cI, 3700, .inl (zA R_valueKinds))), (ad 9, .inl (cL, 3700, .inr (.inl (zB R_valueNumbers)))), (ad 10, .inl (cI, 3700, .inl (zA R_from))), (ad 11, .inl (cI, 3700, .inl (zA R_length))), (ad 14, .inl (cI, 3700, .inl (zA R_given))), (ad 17, .inl (cB, 70000, .inl (zA (out.2.2)))), (ad 18, .inl (cI, 5000, .inl (zA R_forms))), (ad 19, .inl (cL, 5000, .inr (.inl (zB R_tags)))), (ad 20, .inl (cI, 5000, .inl (zA R_counts))), (ad 21, .inl (cI, 5000, .inl (zA R_textsAt))), (ad 29, .inl (cI, 3, .inl (zA R_of))), (ad 31, .inl (cI, 220, .inl (zA R_comes)))] [(0, .ref (ad 0)), (1, .int (zI x1)), (2, .int (zI x2)), (3, .int (zI x3)), (4, .int (zI x4)), (5, .int (zI (out.1)))] [] 288 → J K 6 ({ frames := 4, cells := 0, slots := 0, locals := 101 } : Room) false 0 0 [(ad 0, .inr (10, [.int (zI R_thrown), .ref (ad 1), .ref (ad 2), .ref (ad 3), .ref (ad 4), .ref (ad 5), .ref (ad 6), .int (zI R_used), .ref (ad 7), .int (zI R_many), .ref (ad 8), .ref (ad 9), .ref (ad 10), .ref (ad 11), .ref (ad 12), .ref (ad 13), .ref (ad 14), .ref (ad 15), .ref (ad 16), .int (zI R_values), .ref (ad 17), .int (zI R_textEnd), .ref (ad 18), .ref (ad 19), .ref (ad 20), .ref (ad 21), .int (zI R_dataEnd), .ref (ad 22), .int (zI R_rowEnd), .ref (ad 23), .ref (ad 24), .int (zI R_rowMany), .ref (ad 25), .ref (ad 26), .ref (ad 27), .ref (ad 28), .int (zI R_waiting), .int (zI R_mostWaiting), .int (zI R_answer), .int (zI R_steps), .int (zI R_memory), .int (zI R_maxSteps), .int (zI R_maxMemory), .int (zI R_fault), .int (zI R_result), .int (zI R_now), .int (zI R_nowRow), .int (zI R_come), .ref (ad 29), .ref (ad 30), .int (zI R_puts), .ref (ad 31)])), (ad 8, .inl (cI, 3700, .inl (zA R_valueKinds))), (ad 9, .inl (cL, 3700, .inr (.inl (zB R_valueNumbers)))), (ad 10, .inl (cI, 3700, .inl (zA R_from))), (ad 11, .inl (cI, 3700, .inl (zA R_length))), (ad 14, .inl (cI, 3700, .inl (zA R_given))), (ad 17, .inl (cB, 70000, .inl (zA R_texts))), (ad 18, .inl (cI, 5000, .inl (zA R_forms))), (ad 19, .inl (cL, 5000, .inr (.inl (zB R_tags)))), (ad 20, .inl (cI, 5000, .inl (zA R_counts))), (ad 21, .inl (cI, 5000, .inl (zA R_textsAt))), (ad 29, .inl (cI, 3, .inl (zA R_of))), (ad 31, .inl (cI, 220, .inl (zA R_comes)))] [(0, .ref (ad 0)), (1, .int (zI x1)), (2, .int (zI x2)), (3, .int (zI x3)), (4, .int (zI x4)), (5, .int (zI x5))] [] 253 := by
  intro n
  induction n with
  | zero =>
    intro x5 R_puts R_texts h hk
    cases h
  | succ n ih =>
    intro x5 R_puts R_texts h hk
    unfold f_Mod_ofData_L253 at h
    refine J_iload X d_Mod_ofData_253 5 rfl ?_
    refine J_aload_n X d_Mod_ofData_255 rfl 0 rfl ?_
    refine J_get X (j_in in_Mod) 0 rfl rfl 24 (by decide) (j_m own_Mod_ofData (by decide +kernel)) rfl d_Mod_ofData_256 ?_
    refine J_iload_n X d_Mod_ofData_259 rfl 3 rfl ?_
    obtain ⟨g144, h⟩ := wk_g h
    refine J_iald X 9 0 rfl rfl g144 d_Mod_ofData_260 ?_
    refine J_icmp_ge (tgt := 288) X d_Mod_ofData_261 (by decide) h (fun c145 h => ?_) (fun c145 h => ?_)
    · cases h
      refine J_lv (lv' := [(0, .ref (ad 0)), (1, .int (zI x1)), (2, .int (zI x2)), (3, .int (zI x3)), (4, .int (zI x4)), (5, .int (zI x5))]) [0, 1, 2, 3, 4, 5] rfl ?_
      exact hk
    · refine J_aload_n X d_Mod_ofData_264 rfl 0 rfl ?_
      refine J_aload_n X d_Mod_ofData_265 rfl 0 rfl ?_
      refine J_get X (j_in in_Mod) 0 rfl rfl 20 (by decide) (j_m own_Mod_ofData (by decide +kernel)) rfl d_Mod_ofData_266 ?_
      refine J_aload_n X d_Mod_ofData_269 rfl 0 rfl ?_
      refine J_get X (j_in in_Mod) 0 rfl rfl 25 (by decide) (j_m own_Mod_ofData (by decide +kernel)) rfl d_Mod_ofData_270 ?_
      refine J_iload_n X d_Mod_ofData_273 rfl 3 rfl ?_
      obtain ⟨g146, h⟩ := wk_g h
      refine J_iald X 10 0 rfl rfl g146 d_Mod_ofData_274 ?_
      refine J_iload X d_Mod_ofData_275 5 rfl ?_
      refine J_iadd X d_Mod_ofData_277 ?_
      obtain ⟨g147, h⟩ := wk_g h
      refine J_bald X 6 2 rfl rfl g147 d_Mod_ofData_278 ?_
      obtain ⟨R_puts_148, R_texts_149, q150, h⟩ := wk_b2 h
      refine J_afterI0 (ws' := [(ad 0, .inr (10, [.int (zI R_thrown), .ref (ad 1), .ref (ad 2), .ref (ad 3), .ref (ad 4), .ref (ad 5), .ref (ad 6), .int (zI R_used), .ref (ad 7), .int (zI R_many), .ref (ad 8), .ref (ad 9), .ref (ad 10), .ref (ad 11), .ref (ad 12), .ref (ad 13), .ref (ad 14), .ref (ad 15), .ref (ad 16), .int (zI R_values), .ref (ad 17), .int (zI R_textEnd), .ref (ad 18), .ref (ad 19), .ref (ad 20), .ref (ad 21), .int (zI R_dataEnd), .ref (ad 22), .int (zI R_rowEnd), .ref (ad 23), .ref (ad 24), .int (zI R_rowMany), .ref (ad 25), .ref (ad 26), .ref (ad 27), .ref (ad 28), .int (zI R_waiting), .int (zI R_mostWaiting), .int (zI R_answer), .int (zI R_steps), .int (zI R_memory), .int (zI R_maxSteps), .int (zI R_maxMemory), .int (zI R_fault), .int (zI R_result), .int (zI R_now), .int (zI R_nowRow), .int (zI R_come), .ref (ad 29), .ref (ad 30), .int (zI R_puts_148), .ref (ad 31)])), (ad 8, .inl (cI, 3700, .inl (zA R_valueKinds))), (ad 9, .inl (cL, 3700, .inr (.inl (zB R_valueNumbers)))), (ad 10, .inl (cI, 3700, .inl (zA R_from))), (ad 11, .inl (cI, 3700, .inl (zA R_length))), (ad 14, .inl (cI, 3700, .inl (zA R_given))), (ad 17, .inl (cB, 70000, .inl (zA R_texts_149))), (ad 18, .inl (cI, 5000, .inl (zA R_forms))), (ad 19, .inl (cL, 5000, .inr (.inl (zB R_tags)))), (ad 20, .inl (cI, 5000, .inl (zA R_counts))), (ad 21, .inl (cI, 5000, .inl (zA R_textsAt))), (ad 29, .inl (cI, 3, .inl (zA R_of))), (ad 31, .inl (cI, 220, .inl (zA R_comes)))]) X (jrunV X (c_Mod_putText (ad := ad) q150) jF0_k (fun _ _ _ _ => trivial) (jgV own_Mod_ofData (by decide +kernel)) rfl rfl rfl pd_Mod_putText (by decide) [0, 6] rfl (by decide) 0 10 rfl rfl rfl rfl (Nat.le_of_ble_eq_true rfl) d_Mod_ofData_279 (by decide)) [0, 6] [1, 2, 3, 4, 5, 7, 8, 9, 10, 11, 12] [11, 0, 1, 2, 3, 4, 12, 5, 6, 7, 8, 9, 10] rfl rfl (by decide) (by decide) rfl (by decide) ?_
      refine J_iinc (lv' := [(5, .int (zI (x5 + 1))), (0, .ref (ad 0)), (1, .int (zI x1)), (2, .int (zI x2)), (3, .int (zI x3)), (4, .int (zI x4))]) X d_Mod_ofData_282 5 rfl (by decide) rfl ?_
      refine J_goto (tgt := 253) X d_Mod_ofData_285 (by decide) ?_
      refine J_lv (lv' := [(0, .ref (ad 0)), (1, .int (zI x1)), (2, .int (zI x2)), (3, .int (zI x3)), (4, .int (zI x4)), (5, .int (zI (x5 + 1)))]) [1, 2, 3, 4, 5, 0] rfl ?_
      exact ih _ _ _ h hk
set_option maxHeartbeats 4000000 in
set_option maxRecDepth 100000 in
theorem c_Mod_ofData {l : Launch} {D : va_G} {cI cL cB : ClassId} {ad : Nat → Nat} {N : Nat} {R_thrown : Int} {R_used : Int} {R_many : Int} {R_values : Int} {R_textEnd : Int} {R_dataEnd : Int} {R_rowEnd : Int} {R_rowMany : Int} {R_waiting : Int} {R_mostWaiting : Int} {R_answer : Int} {R_steps : Int} {R_memory : Int} {R_maxSteps : Int} {R_maxMemory : Int} {R_fault : Int} {R_result : Int} {R_now : Int} {R_nowRow : Int} {R_come : Int} {R_puts : Int} {R_valueKinds : Int → Int} {R_valueNumbers : Int → Int} {R_from : Int → Int} {R_length : Int → Int} {R_given : Int → Int} {R_texts : Int → Int} {R_forms : Int → Int} {R_tags : Int → Int} {R_counts : Int → Int} {R_textsAt : Int → Int} {R_of : Int → Int} {R_comes : Int → Int} {p1 : Int} {out : Int × Int × Int × Int × Int × Int × (Int → Int) × (Int → Int) × (Int → Int) × (Int → Int) × (Int → Int) × (Int → Int) × (Int → Int) × (Int → Int) × (Int → Int) × (Int → Int) × (Int → Int)} (h : f_Mod_ofData N R_values R_textEnd R_dataEnd R_fault R_puts R_valueKinds R_valueNumbers R_from R_length R_given R_texts R_forms R_tags R_counts R_textsAt R_of R_comes p1 = some out) : CT jF0 false l D [(cI, .int), (cL, .long), (cB, .byte)] y_Mod_ofData w_Mod_ofData ({ frames := 4, cells := 0, slots := 0, locals := 101 } : Room) [.ref (ad 0), .int (zI p1)] [(ad 0, .inr (10, [.int (zI R_thrown), .ref (ad 1), .ref (ad 2), .ref (ad 3), .ref (ad 4), .ref (ad 5), .ref (ad 6), .int (zI R_used), .ref (ad 7), .int (zI R_many), .ref (ad 8), .ref (ad 9), .ref (ad 10), .ref (ad 11), .ref (ad 12), .ref (ad 13), .ref (ad 14), .ref (ad 15), .ref (ad 16), .int (zI R_values), .ref (ad 17), .int (zI R_textEnd), .ref (ad 18), .ref (ad 19), .ref (ad 20), .ref (ad 21), .int (zI R_dataEnd), .ref (ad 22), .int (zI R_rowEnd), .ref (ad 23), .ref (ad 24), .int (zI R_rowMany), .ref (ad 25), .ref (ad 26), .ref (ad 27), .ref (ad 28), .int (zI R_waiting), .int (zI R_mostWaiting), .int (zI R_answer), .int (zI R_steps), .int (zI R_memory), .int (zI R_maxSteps), .int (zI R_maxMemory), .int (zI R_fault), .int (zI R_result), .int (zI R_now), .int (zI R_nowRow), .int (zI R_come), .ref (ad 29), .ref (ad 30), .int (zI R_puts), .ref (ad 31)])), (ad 8, .inl (cI, 3700, .inl (zA R_valueKinds))), (ad 9, .inl (cL, 3700, .inr (.inl (zB R_valueNumbers)))), (ad 10, .inl (cI, 3700, .inl (zA R_from))), (ad 11, .inl (cI, 3700, .inl (zA R_length))), (ad 14, .inl (cI, 3700, .inl (zA R_given))), (ad 17, .inl (cB, 70000, .inl (zA R_texts))), (ad 18, .inl (cI, 5000, .inl (zA R_forms))), (ad 19, .inl (cL, 5000, .inr (.inl (zB R_tags)))), (ad 20, .inl (cI, 5000, .inl (zA R_counts))), (ad 21, .inl (cI, 5000, .inl (zA R_textsAt))), (ad 29, .inl (cI, 3, .inl (zA R_of))), (ad 31, .inl (cI, 220, .inl (zA R_comes)))] (some (.int (zI out.1))) [(ad 0, .inr (10, [.int (zI R_thrown), .ref (ad 1), .ref (ad 2), .ref (ad 3), .ref (ad 4), .ref (ad 5), .ref (ad 6), .int (zI R_used), .ref (ad 7), .int (zI R_many), .ref (ad 8), .ref (ad 9), .ref (ad 10), .ref (ad 11), .ref (ad 12), .ref (ad 13), .ref (ad 14), .ref (ad 15), .ref (ad 16), .int (zI (out.2.1)), .ref (ad 17), .int (zI (out.2.2.1)), .ref (ad 18), .ref (ad 19), .ref (ad 20), .ref (ad 21), .int (zI (out.2.2.2.1)), .ref (ad 22), .int (zI R_rowEnd), .ref (ad 23), .ref (ad 24), .int (zI R_rowMany), .ref (ad 25), .ref (ad 26), .ref (ad 27), .ref (ad 28), .int (zI R_waiting), .int (zI R_mostWaiting), .int (zI R_answer), .int (zI R_steps), .int (zI R_memory), .int (zI R_maxSteps), .int (zI R_maxMemory), .int (zI (out.2.2.2.2.1)), .int (zI R_result), .int (zI R_now), .int (zI R_nowRow), .int (zI R_come), .ref (ad 29), .ref (ad 30), .int (zI (out.2.2.2.2.2.1)), .ref (ad 31)])), (ad 8, .inl (cI, 3700, .inl (zA (out.2.2.2.2.2.2.1)))), (ad 9, .inl (cL, 3700, .inr (.inl (zB (out.2.2.2.2.2.2.2.1))))), (ad 10, .inl (cI, 3700, .inl (zA (out.2.2.2.2.2.2.2.2.1)))), (ad 11, .inl (cI, 3700, .inl (zA (out.2.2.2.2.2.2.2.2.2.1)))), (ad 14, .inl (cI, 3700, .inl (zA (out.2.2.2.2.2.2.2.2.2.2.1)))), (ad 17, .inl (cB, 70000, .inl (zA (out.2.2.2.2.2.2.2.2.2.2.2.1)))), (ad 18, .inl (cI, 5000, .inl (zA (out.2.2.2.2.2.2.2.2.2.2.2.2.1)))), (ad 19, .inl (cL, 5000, .inr (.inl (zB (out.2.2.2.2.2.2.2.2.2.2.2.2.2.1))))), (ad 20, .inl (cI, 5000, .inl (zA (out.2.2.2.2.2.2.2.2.2.2.2.2.2.2.1)))), (ad 21, .inl (cI, 5000, .inl (zA (out.2.2.2.2.2.2.2.2.2.2.2.2.2.2.2.1)))), (ad 29, .inl (cI, 3, .inl (zA R_of))), (ad 31, .inl (cI, 220, .inl (zA (out.2.2.2.2.2.2.2.2.2.2.2.2.2.2.2.2))))] 0 0 := by
  refine CT_of_J (cc := b_Mod_ofData) (maxL := 6) (ret := (some .int)) jF0_k (plainFor_of_name (by decide)) rfl (Nat.le_of_ble_eq_true rfl) ?_
  intro K hKl hKD X E
  subst hKl; subst hKD
  unfold f_Mod_ofData at h
  refine J_aload_n X d_Mod_ofData_0 rfl 0 rfl ?_
  refine J_get X (j_in in_Mod) 0 rfl rfl 48 (by decide) (j_m own_Mod_ofData (by decide +kernel)) rfl d_Mod_ofData_1 ?_
  refine J_iconst X d_Mod_ofData_4 ?_
  obtain ⟨g1, h⟩ := wk_g h
  refine J_iald X 11 0 rfl rfl g1 d_Mod_ofData_5 ?_
  refine J_istore_n (lv' := [(2, .int (zI (R_of 0))), (0, .ref (ad 0)), (1, .int (zI p1))]) X d_Mod_ofData_6 rfl (by decide) rfl ?_
  refine J_aload_n X d_Mod_ofData_7 rfl 1 rfl ?_
  refine J_get X (j_in in_Mod) 0 rfl rfl 12 (by decide) (j_m own_Mod_ofData (by decide +kernel)) rfl d_Mod_ofData_8 ?_
  refine J_iload_n X d_Mod_ofData_11 rfl 0 rfl ?_
  obtain ⟨g2, h⟩ := wk_g h
  refine J_iald X 3 0 rfl rfl g2 d_Mod_ofData_12 ?_
  refine J_istore_n (lv' := [(3, .int (zI (R_from (R_of 0)))), (2, .int (zI (R_of 0))), (0, .ref (ad 0)), (1, .int (zI p1))]) X d_Mod_ofData_13 rfl (by decide) rfl ?_
  refine J_aload_n X d_Mod_ofData_14 rfl 2 rfl ?_
  refine J_get X (j_in in_Mod) 0 rfl rfl 26 (by decide) (j_m own_Mod_ofData (by decide +kernel)) rfl d_Mod_ofData_15 ?_
  refine J_istore (lv' := [(4, .int (zI R_dataEnd)), (3, .int (zI (R_from (R_of 0)))), (2, .int (zI (R_of 0))), (0, .ref (ad 0)), (1, .int (zI p1))]) X d_Mod_ofData_18 (by decide) rfl ?_
  refine J_iload_n X d_Mod_ofData_20 rfl 4 rfl ?_
  obtain ⟨g3, h⟩ := wk_g h
  rcases wk_c h with ⟨c4, h⟩ | ⟨c4, h⟩
  · refine J_tsIn (tgt := 72) X 17 c4 g3 d_Mod_ofData_21 (by decide) (by decide) rfl (by decide) ?_
    refine J_aload_n X d_Mod_ofData_72 rfl 3 rfl ?_
    refine J_aload_n X d_Mod_ofData_73 rfl 3 rfl ?_
    refine J_iload_n X d_Mod_ofData_74 rfl 2 rfl ?_
    refine J_aload_n X d_Mod_ofData_75 rfl 3 rfl ?_
    refine J_get X (j_in in_Mod) 0 rfl rfl 48 (by decide) (j_m own_Mod_ofData (by decide +kernel)) rfl d_Mod_ofData_76 ?_
    refine J_iconst X d_Mod_ofData_79 ?_
    obtain ⟨g5, h⟩ := wk_g h
    refine J_iald X 11 0 rfl rfl g5 d_Mod_ofData_80 ?_
    obtain ⟨r6, q7, h⟩ := wk_b h
    refine J_afterP (jrunV X (c_Mod_sameData (ad := ad) q7) jF0_k (fun _ _ _ _ => trivial) (jgV own_Mod_ofData (by decide +kernel)) rfl rfl rfl pd_Mod_sameData (by decide) [0, 3, 4, 6, 7, 8, 9, 10] rfl (by decide) 0 10 rfl rfl rfl rfl (Nat.le_of_ble_eq_true rfl) d_Mod_ofData_81 (by decide)) ?_
    obtain ⟨r8, R_values_9, R_valueKinds_10, R_valueNumbers_11, R_given_12, q13, h⟩ := wk_b5 h
    refine J_afterI0 (ws' := [(ad 0, .inr (10, [.int (zI R_thrown), .ref (ad 1), .ref (ad 2), .ref (ad 3), .ref (ad 4), .ref (ad 5), .ref (ad 6), .int (zI R_used), .ref (ad 7), .int (zI R_many), .ref (ad 8), .ref (ad 9), .ref (ad 10), .ref (ad 11), .ref (ad 12), .ref (ad 13), .ref (ad 14), .ref (ad 15), .ref (ad 16), .int (zI R_values_9), .ref (ad 17), .int (zI R_textEnd), .ref (ad 18), .ref (ad 19), .ref (ad 20), .ref (ad 21), .int (zI R_dataEnd), .ref (ad 22), .int (zI R_rowEnd), .ref (ad 23), .ref (ad 24), .int (zI R_rowMany), .ref (ad 25), .ref (ad 26), .ref (ad 27), .ref (ad 28), .int (zI R_waiting), .int (zI R_mostWaiting), .int (zI R_answer), .int (zI R_steps), .int (zI R_memory), .int (zI R_maxSteps), .int (zI R_maxMemory), .int (zI R_fault), .int (zI R_result), .int (zI R_now), .int (zI R_nowRow), .int (zI R_come), .ref (ad 29), .ref (ad 30), .int (zI R_puts), .ref (ad 31)])), (ad 8, .inl (cI, 3700, .inl (zA R_valueKinds_10))), (ad 9, .inl (cL, 3700, .inr (.inl (zB R_valueNumbers_11)))), (ad 10, .inl (cI, 3700, .inl (zA R_from))), (ad 11, .inl (cI, 3700, .inl (zA R_length))), (ad 14, .inl (cI, 3700, .inl (zA R_given_12))), (ad 17, .inl (cB, 70000, .inl (zA R_texts))), (ad 18, .inl (cI, 5000, .inl (zA R_forms))), (ad 19, .inl (cL, 5000, .inr (.inl (zB R_tags)))), (ad 20, .inl (cI, 5000, .inl (zA R_counts))), (ad 21, .inl (cI, 5000, .inl (zA R_textsAt))), (ad 29, .inl (cI, 3, .inl (zA R_of))), (ad 31, .inl (cI, 220, .inl (zA R_comes)))]) X (jrunV X (c_Mod_truth (ad := ad) q13) jF0_k (fun _ _ _ _ => trivial) (jgV own_Mod_ofData (by decide +kernel)) rfl rfl rfl pd_Mod_truth (by decide) [0, 1, 2, 5] rfl (by decide) 0 10 rfl rfl rfl rfl (Nat.le_of_ble_eq_true rfl) d_Mod_ofData_84 (by decide)) [0, 1, 2, 5] [3, 4, 6, 7, 8, 9, 10, 11, 12] [9, 10, 11, 0, 1, 12, 2, 3, 4, 5, 6, 7, 8] rfl rfl (by decide) (by decide) rfl (by decide) ?_
    cases h
    exact J_ret E ⟨_, rfl, rfl⟩ d_Mod_ofData_87 (Nat.le_refl _) (Nat.le_refl _) rfl
  · rcases wk_c h with ⟨c14, h⟩ | ⟨c14, h⟩
    · refine J_tsIn (tgt := 88) X 18 c14 g3 d_Mod_ofData_21 (by decide) (by decide) rfl (by decide) ?_
      refine J_aload_n X d_Mod_ofData_88 rfl 3 rfl ?_
      refine J_iconst X d_Mod_ofData_89 ?_
      refine J_aload_n X d_Mod_ofData_90 rfl 3 rfl ?_
      refine J_get X (j_in in_Mod) 0 rfl rfl 22 (by decide) (j_m own_Mod_ofData (by decide +kernel)) rfl d_Mod_ofData_91 ?_
      refine J_iload_n X d_Mod_ofData_94 rfl 1 rfl ?_
      obtain ⟨g15, h⟩ := wk_g h
      refine J_iald X 7 0 rfl rfl g15 d_Mod_ofData_95 ?_
      obtain ⟨g16, h⟩ := wk_g h
      refine J_i2l X g16 d_Mod_ofData_96 ?_
      obtain ⟨r17, R_values_18, R_valueKinds_19, R_valueNumbers_20, R_given_21, q22, h⟩ := wk_b5 h
      refine J_afterI0 (ws' := [(ad 0, .inr (10, [.int (zI R_thrown), .ref (ad 1), .ref (ad 2), .ref (ad 3), .ref (ad 4), .ref (ad 5), .ref (ad 6), .int (zI R_used), .ref (ad 7), .int (zI R_many), .ref (ad 8), .ref (ad 9), .ref (ad 10), .ref (ad 11), .ref (ad 12), .ref (ad 13), .ref (ad 14), .ref (ad 15), .ref (ad 16), .int (zI R_values_18), .ref (ad 17), .int (zI R_textEnd), .ref (ad 18), .ref (ad 19), .ref (ad 20), .ref (ad 21), .int (zI R_dataEnd), .ref (ad 22), .int (zI R_rowEnd), .ref (ad 23), .ref (ad 24), .int (zI R_rowMany), .ref (ad 25), .ref (ad 26), .ref (ad 27), .ref (ad 28), .int (zI R_waiting), .int (zI R_mostWaiting), .int (zI R_answer), .int (zI R_steps), .int (zI R_memory), .int (zI R_maxSteps), .int (zI R_maxMemory), .int (zI R_fault), .int (zI R_result), .int (zI R_now), .int (zI R_nowRow), .int (zI R_come), .ref (ad 29), .ref (ad 30), .int (zI R_puts), .ref (ad 31)])), (ad 8, .inl (cI, 3700, .inl (zA R_valueKinds_19))), (ad 9, .inl (cL, 3700, .inr (.inl (zB R_valueNumbers_20)))), (ad 10, .inl (cI, 3700, .inl (zA R_from))), (ad 11, .inl (cI, 3700, .inl (zA R_length))), (ad 14, .inl (cI, 3700, .inl (zA R_given_21))), (ad 17, .inl (cB, 70000, .inl (zA R_texts))), (ad 18, .inl (cI, 5000, .inl (zA R_forms))), (ad 19, .inl (cL, 5000, .inr (.inl (zB R_tags)))), (ad 20, .inl (cI, 5000, .inl (zA R_counts))), (ad 21, .inl (cI, 5000, .inl (zA R_textsAt))), (ad 29, .inl (cI, 3, .inl (zA R_of))), (ad 31, .inl (cI, 220, .inl (zA R_comes)))]) X (jrunV X (c_Mod_make (ad := ad) q22) jF0_k (fun _ _ _ _ => trivial) (jgV own_Mod_ofData (by decide +kernel)) rfl rfl rfl pd_Mod_make (by decide) [0, 1, 2, 5] rfl (by decide) 0 10 rfl rfl rfl rfl (Nat.le_of_ble_eq_true rfl) d_Mod_ofData_97 (by decide)) [0, 1, 2, 5] [3, 4, 6, 7, 8, 9, 10, 11, 12] [9, 10, 11, 0, 1, 12, 2, 3, 4, 5, 6, 7, 8] rfl rfl (by decide) (by decide) rfl (by decide) ?_
      cases h
      exact J_ret E ⟨_, rfl, rfl⟩ d_Mod_ofData_100 (Nat.le_refl _) (Nat.le_refl _) rfl
    · rcases wk_c h with ⟨c23, h⟩ | ⟨c23, h⟩
      · refine J_tsIn (tgt := 101) X 19 c23 g3 d_Mod_ofData_21 (by decide) (by decide) rfl (by decide) ?_
        refine J_aload_n X d_Mod_ofData_101 rfl 3 rfl ?_
        refine J_iconst X d_Mod_ofData_102 ?_
        refine J_aload_n X d_Mod_ofData_103 rfl 3 rfl ?_
        refine J_get X (j_in in_Mod) 0 rfl rfl 23 (by decide) (j_m own_Mod_ofData (by decide +kernel)) rfl d_Mod_ofData_104 ?_
        refine J_iload_n X d_Mod_ofData_107 rfl 1 rfl ?_
        obtain ⟨g24, h⟩ := wk_g h
        refine J_lald X 8 1 rfl rfl g24 d_Mod_ofData_108 ?_
        obtain ⟨r25, R_values_26, R_valueKinds_27, R_valueNumbers_28, R_given_29, q30, h⟩ := wk_b5 h
        refine J_afterI0 (ws' := [(ad 0, .inr (10, [.int (zI R_thrown), .ref (ad 1), .ref (ad 2), .ref (ad 3), .ref (ad 4), .ref (ad 5), .ref (ad 6), .int (zI R_used), .ref (ad 7), .int (zI R_many), .ref (ad 8), .ref (ad 9), .ref (ad 10), .ref (ad 11), .ref (ad 12), .ref (ad 13), .ref (ad 14), .ref (ad 15), .ref (ad 16), .int (zI R_values_26), .ref (ad 17), .int (zI R_textEnd), .ref (ad 18), .ref (ad 19), .ref (ad 20), .ref (ad 21), .int (zI R_dataEnd), .ref (ad 22), .int (zI R_rowEnd), .ref (ad 23), .ref (ad 24), .int (zI R_rowMany), .ref (ad 25), .ref (ad 26), .ref (ad 27), .ref (ad 28), .int (zI R_waiting), .int (zI R_mostWaiting), .int (zI R_answer), .int (zI R_steps), .int (zI R_memory), .int (zI R_maxSteps), .int (zI R_maxMemory), .int (zI R_fault), .int (zI R_result), .int (zI R_now), .int (zI R_nowRow), .int (zI R_come), .ref (ad 29), .ref (ad 30), .int (zI R_puts), .ref (ad 31)])), (ad 8, .inl (cI, 3700, .inl (zA R_valueKinds_27))), (ad 9, .inl (cL, 3700, .inr (.inl (zB R_valueNumbers_28)))), (ad 10, .inl (cI, 3700, .inl (zA R_from))), (ad 11, .inl (cI, 3700, .inl (zA R_length))), (ad 14, .inl (cI, 3700, .inl (zA R_given_29))), (ad 17, .inl (cB, 70000, .inl (zA R_texts))), (ad 18, .inl (cI, 5000, .inl (zA R_forms))), (ad 19, .inl (cL, 5000, .inr (.inl (zB R_tags)))), (ad 20, .inl (cI, 5000, .inl (zA R_counts))), (ad 21, .inl (cI, 5000, .inl (zA R_textsAt))), (ad 29, .inl (cI, 3, .inl (zA R_of))), (ad 31, .inl (cI, 220, .inl (zA R_comes)))]) X (jrunV X (c_Mod_make (ad := ad) q30) jF0_k (fun _ _ _ _ => trivial) (jgV own_Mod_ofData (by decide +kernel)) rfl rfl rfl pd_Mod_make (by decide) [0, 1, 2, 5] rfl (by decide) 0 10 rfl rfl rfl rfl (Nat.le_of_ble_eq_true rfl) d_Mod_ofData_109 (by decide)) [0, 1, 2, 5] [3, 4, 6, 7, 8, 9, 10, 11, 12] [9, 10, 11, 0, 1, 12, 2, 3, 4, 5, 6, 7, 8] rfl rfl (by decide) (by decide) rfl (by decide) ?_
        cases h
        exact J_ret E ⟨_, rfl, rfl⟩ d_Mod_ofData_112 (Nat.le_refl _) (Nat.le_refl _) rfl
      · rcases wk_c h with ⟨c31, h⟩ | ⟨c31, h⟩
        · refine J_tsIn (tgt := 113) X 20 c31 g3 d_Mod_ofData_21 (by decide) (by decide) rfl (by decide) ?_
          refine J_aload_n X d_Mod_ofData_113 rfl 3 rfl ?_
          refine J_iconst X d_Mod_ofData_114 ?_
          refine J_lconst (v := 0) X d_Mod_ofData_115 (by decide) ?_
          refine J_aload_n X d_Mod_ofData_116 rfl 3 rfl ?_
          refine J_get X (j_in in_Mod) 0 rfl rfl 24 (by decide) (j_m own_Mod_ofData (by decide +kernel)) rfl d_Mod_ofData_117 ?_
          refine J_iload_n X d_Mod_ofData_120 rfl 1 rfl ?_
          obtain ⟨g32, h⟩ := wk_g h
          refine J_iald X 9 0 rfl rfl g32 d_Mod_ofData_121 ?_
          refine J_iload_n X d_Mod_ofData_122 rfl 2 rfl ?_
          obtain ⟨r33, R_values_34, R_dataEnd_35, R_valueKinds_36, R_valueNumbers_37, R_from_38, R_length_39, R_given_40, R_forms_41, R_tags_42, R_counts_43, R_textsAt_44, q45, h⟩ := wk_b12 h
          refine J_afterI0 (ws' := [(ad 0, .inr (10, [.int (zI R_thrown), .ref (ad 1), .ref (ad 2), .ref (ad 3), .ref (ad 4), .ref (ad 5), .ref (ad 6), .int (zI R_used), .ref (ad 7), .int (zI R_many), .ref (ad 8), .ref (ad 9), .ref (ad 10), .ref (ad 11), .ref (ad 12), .ref (ad 13), .ref (ad 14), .ref (ad 15), .ref (ad 16), .int (zI R_values_34), .ref (ad 17), .int (zI R_textEnd), .ref (ad 18), .ref (ad 19), .ref (ad 20), .ref (ad 21), .int (zI R_dataEnd_35), .ref (ad 22), .int (zI R_rowEnd), .ref (ad 23), .ref (ad 24), .int (zI R_rowMany), .ref (ad 25), .ref (ad 26), .ref (ad 27), .ref (ad 28), .int (zI R_waiting), .int (zI R_mostWaiting), .int (zI R_answer), .int (zI R_steps), .int (zI R_memory), .int (zI R_maxSteps), .int (zI R_maxMemory), .int (zI R_fault), .int (zI R_result), .int (zI R_now), .int (zI R_nowRow), .int (zI R_come), .ref (ad 29), .ref (ad 30), .int (zI R_puts), .ref (ad 31)])), (ad 8, .inl (cI, 3700, .inl (zA R_valueKinds_36))), (ad 9, .inl (cL, 3700, .inr (.inl (zB R_valueNumbers_37)))), (ad 10, .inl (cI, 3700, .inl (zA R_from_38))), (ad 11, .inl (cI, 3700, .inl (zA R_length_39))), (ad 14, .inl (cI, 3700, .inl (zA R_given_40))), (ad 17, .inl (cB, 70000, .inl (zA R_texts))), (ad 18, .inl (cI, 5000, .inl (zA R_forms_41))), (ad 19, .inl (cL, 5000, .inr (.inl (zB R_tags_42)))), (ad 20, .inl (cI, 5000, .inl (zA R_counts_43))), (ad 21, .inl (cI, 5000, .inl (zA R_textsAt_44))), (ad 29, .inl (cI, 3, .inl (zA R_of))), (ad 31, .inl (cI, 220, .inl (zA R_comes)))]) X (jrunV X (c_Mod_outer (ad := ad) q45) jF0_k (fun _ _ _ _ => trivial) (jgV own_Mod_ofData (by decide +kernel)) rfl rfl rfl pd_Mod_outer (by decide) [0, 1, 2, 3, 4, 5, 7, 8, 9, 10] rfl (by decide) 0 10 rfl rfl rfl rfl (Nat.le_of_ble_eq_true rfl) d_Mod_ofData_123 (by decide)) [0, 1, 2, 3, 4, 5, 7, 8, 9, 10] [6, 11, 12] [3, 4, 5, 6, 7, 8, 0, 9, 10, 11, 12, 1, 2] rfl rfl (by decide) (by decide) rfl (by decide) ?_
          cases h
          exact J_ret E ⟨_, rfl, rfl⟩ d_Mod_ofData_126 (Nat.le_refl _) (Nat.le_refl _) rfl
        · rcases wk_c h with ⟨c46, h⟩ | ⟨c46, h⟩
          · refine J_tsIn (tgt := 127) X 21 c46 g3 d_Mod_ofData_21 (by decide) (by decide) rfl (by decide) ?_
            refine J_aload_n X d_Mod_ofData_127 rfl 3 rfl ?_
            refine J_get X (j_in in_Mod) 0 rfl rfl 11 (by decide) (j_m own_Mod_ofData (by decide +kernel)) rfl d_Mod_ofData_128 ?_
            refine J_iload_n X d_Mod_ofData_131 rfl 2 rfl ?_
            obtain ⟨g47, h⟩ := wk_g h
            refine J_lald X 2 1 rfl rfl g47 d_Mod_ofData_132 ?_
            refine J_lconst (v := 0) X d_Mod_ofData_133 (by decide) ?_
            refine J_lc_lt (tgt := 151) X d_Mod_ofData_134 d_Mod_ofData_135 (by decide) h (fun c48 h => ?_) (fun c48 h => ?_)
            · refine J_aload_n X d_Mod_ofData_151 rfl 3 rfl ?_
              refine J_iconst X d_Mod_ofData_152 ?_
              obtain ⟨r49, R_fault_50, q51, h⟩ := wk_b2 h
              refine J_afterI0 (ws' := [(ad 0, .inr (10, [.int (zI R_thrown), .ref (ad 1), .ref (ad 2), .ref (ad 3), .ref (ad 4), .ref (ad 5), .ref (ad 6), .int (zI R_used), .ref (ad 7), .int (zI R_many), .ref (ad 8), .ref (ad 9), .ref (ad 10), .ref (ad 11), .ref (ad 12), .ref (ad 13), .ref (ad 14), .ref (ad 15), .ref (ad 16), .int (zI R_values), .ref (ad 17), .int (zI R_textEnd), .ref (ad 18), .ref (ad 19), .ref (ad 20), .ref (ad 21), .int (zI R_dataEnd), .ref (ad 22), .int (zI R_rowEnd), .ref (ad 23), .ref (ad 24), .int (zI R_rowMany), .ref (ad 25), .ref (ad 26), .ref (ad 27), .ref (ad 28), .int (zI R_waiting), .int (zI R_mostWaiting), .int (zI R_answer), .int (zI R_steps), .int (zI R_memory), .int (zI R_maxSteps), .int (zI R_maxMemory), .int (zI R_fault_50), .int (zI R_result), .int (zI R_now), .int (zI R_nowRow), .int (zI R_come), .ref (ad 29), .ref (ad 30), .int (zI R_puts), .ref (ad 31)])), (ad 8, .inl (cI, 3700, .inl (zA R_valueKinds))), (ad 9, .inl (cL, 3700, .inr (.inl (zB R_valueNumbers)))), (ad 10, .inl (cI, 3700, .inl (zA R_from))), (ad 11, .inl (cI, 3700, .inl (zA R_length))), (ad 14, .inl (cI, 3700, .inl (zA R_given))), (ad 17, .inl (cB, 70000, .inl (zA R_texts))), (ad 18, .inl (cI, 5000, .inl (zA R_forms))), (ad 19, .inl (cL, 5000, .inr (.inl (zB R_tags)))), (ad 20, .inl (cI, 5000, .inl (zA R_counts))), (ad 21, .inl (cI, 5000, .inl (zA R_textsAt))), (ad 29, .inl (cI, 3, .inl (zA R_of))), (ad 31, .inl (cI, 220, .inl (zA R_comes)))]) X (jrunV X (c_Mod_fail (ad := ad) q51) jF0_k (fun _ _ _ _ => trivial) (jgV own_Mod_ofData (by decide +kernel)) rfl rfl rfl pd_Mod_fail (by decide) [0] rfl (by decide) 0 10 rfl rfl rfl rfl (Nat.le_of_ble_eq_true rfl) d_Mod_ofData_153 (by decide)) [0] [1, 2, 3, 4, 5, 6, 7, 8, 9, 10, 11, 12] [12, 0, 1, 2, 3, 4, 5, 6, 7, 8, 9, 10, 11] rfl rfl (by decide) (by decide) rfl (by decide) ?_
              refine J_goto (tgt := 192) X d_Mod_ofData_156 (by decide) ?_
              cases h
              exact J_ret E ⟨_, rfl, rfl⟩ d_Mod_ofData_192 (Nat.le_refl _) (Nat.le_refl _) rfl
            · refine J_aload_n X d_Mod_ofData_138 rfl 3 rfl ?_
              refine J_get X (j_in in_Mod) 0 rfl rfl 11 (by decide) (j_m own_Mod_ofData (by decide +kernel)) rfl d_Mod_ofData_139 ?_
              refine J_iload_n X d_Mod_ofData_142 rfl 2 rfl ?_
              obtain ⟨g52, h⟩ := wk_g h
              refine J_lald X 2 1 rfl rfl g52 d_Mod_ofData_143 ?_
              refine J_ldc2 (v := 127) (n := 127) X (j_m own_Mod_ofData (by decide +kernel)) (by decide) d_Mod_ofData_144 ?_
              refine J_lc_le (tgt := 159) X d_Mod_ofData_147 d_Mod_ofData_148 (by decide) h (fun c53 h => ?_) (fun c53 h => ?_)
              · refine J_aload_n X d_Mod_ofData_159 rfl 3 rfl ?_
                refine J_iconst X d_Mod_ofData_160 ?_
                refine J_aload_n X d_Mod_ofData_161 rfl 3 rfl ?_
                refine J_get X (j_in in_Mod) 0 rfl rfl 11 (by decide) (j_m own_Mod_ofData (by decide +kernel)) rfl d_Mod_ofData_162 ?_
                refine J_iload_n X d_Mod_ofData_165 rfl 2 rfl ?_
                obtain ⟨g54, h⟩ := wk_g h
                refine J_lald X 2 1 rfl rfl g54 d_Mod_ofData_166 ?_
                refine J_aload_n X d_Mod_ofData_167 rfl 3 rfl ?_
                refine J_get X (j_in in_Mod) 0 rfl rfl 24 (by decide) (j_m own_Mod_ofData (by decide +kernel)) rfl d_Mod_ofData_168 ?_
                refine J_aload_n X d_Mod_ofData_171 rfl 3 rfl ?_
                refine J_get X (j_in in_Mod) 0 rfl rfl 12 (by decide) (j_m own_Mod_ofData (by decide +kernel)) rfl d_Mod_ofData_172 ?_
                refine J_aload_n X d_Mod_ofData_175 rfl 3 rfl ?_
                refine J_get X (j_in in_Mod) 0 rfl rfl 48 (by decide) (j_m own_Mod_ofData (by decide +kernel)) rfl d_Mod_ofData_176 ?_
                refine J_iconst X d_Mod_ofData_179 ?_
                obtain ⟨g55, h⟩ := wk_g h
                refine J_iald X 11 0 rfl rfl g55 d_Mod_ofData_180 ?_
                obtain ⟨g56, h⟩ := wk_g h
                refine J_iald X 3 0 rfl rfl g56 d_Mod_ofData_181 ?_
                obtain ⟨g57, h⟩ := wk_g h
                refine J_iald X 9 0 rfl rfl g57 d_Mod_ofData_182 ?_
                refine J_aload_n X d_Mod_ofData_183 rfl 3 rfl ?_
                refine J_get X (j_in in_Mod) 0 rfl rfl 48 (by decide) (j_m own_Mod_ofData (by decide +kernel)) rfl d_Mod_ofData_184 ?_
                refine J_iconst X d_Mod_ofData_187 ?_
                obtain ⟨g58, h⟩ := wk_g h
                refine J_iald X 11 0 rfl rfl g58 d_Mod_ofData_188 ?_
                obtain ⟨r59, R_values_60, R_dataEnd_61, R_valueKinds_62, R_valueNumbers_63, R_from_64, R_length_65, R_given_66, R_forms_67, R_tags_68, R_counts_69, R_textsAt_70, q71, h⟩ := wk_b12 h
                refine J_afterI0 (ws' := [(ad 0, .inr (10, [.int (zI R_thrown), .ref (ad 1), .ref (ad 2), .ref (ad 3), .ref (ad 4), .ref (ad 5), .ref (ad 6), .int (zI R_used), .ref (ad 7), .int (zI R_many), .ref (ad 8), .ref (ad 9), .ref (ad 10), .ref (ad 11), .ref (ad 12), .ref (ad 13), .ref (ad 14), .ref (ad 15), .ref (ad 16), .int (zI R_values_60), .ref (ad 17), .int (zI R_textEnd), .ref (ad 18), .ref (ad 19), .ref (ad 20), .ref (ad 21), .int (zI R_dataEnd_61), .ref (ad 22), .int (zI R_rowEnd), .ref (ad 23), .ref (ad 24), .int (zI R_rowMany), .ref (ad 25), .ref (ad 26), .ref (ad 27), .ref (ad 28), .int (zI R_waiting), .int (zI R_mostWaiting), .int (zI R_answer), .int (zI R_steps), .int (zI R_memory), .int (zI R_maxSteps), .int (zI R_maxMemory), .int (zI R_fault), .int (zI R_result), .int (zI R_now), .int (zI R_nowRow), .int (zI R_come), .ref (ad 29), .ref (ad 30), .int (zI R_puts), .ref (ad 31)])), (ad 8, .inl (cI, 3700, .inl (zA R_valueKinds_62))), (ad 9, .inl (cL, 3700, .inr (.inl (zB R_valueNumbers_63)))), (ad 10, .inl (cI, 3700, .inl (zA R_from_64))), (ad 11, .inl (cI, 3700, .inl (zA R_length_65))), (ad 14, .inl (cI, 3700, .inl (zA R_given_66))), (ad 17, .inl (cB, 70000, .inl (zA R_texts))), (ad 18, .inl (cI, 5000, .inl (zA R_forms_67))), (ad 19, .inl (cL, 5000, .inr (.inl (zB R_tags_68)))), (ad 20, .inl (cI, 5000, .inl (zA R_counts_69))), (ad 21, .inl (cI, 5000, .inl (zA R_textsAt_70))), (ad 29, .inl (cI, 3, .inl (zA R_of))), (ad 31, .inl (cI, 220, .inl (zA R_comes)))]) X (jrunV X (c_Mod_outer (ad := ad) q71) jF0_k (fun _ _ _ _ => trivial) (jgV own_Mod_ofData (by decide +kernel)) rfl rfl rfl pd_Mod_outer (by decide) [0, 1, 2, 3, 4, 5, 7, 8, 9, 10] rfl (by decide) 0 10 rfl rfl rfl rfl (Nat.le_of_ble_eq_true rfl) d_Mod_ofData_189 (by decide)) [0, 1, 2, 3, 4, 5, 7, 8, 9, 10] [6, 11, 12] [3, 4, 5, 6, 7, 8, 0, 9, 10, 11, 12, 1, 2] rfl rfl (by decide) (by decide) rfl (by decide) ?_
                cases h
                exact J_ret E ⟨_, rfl, rfl⟩ d_Mod_ofData_192 (Nat.le_refl _) (Nat.le_refl _) rfl
              · refine J_aload_n X d_Mod_ofData_151 rfl 3 rfl ?_
                refine J_iconst X d_Mod_ofData_152 ?_
                obtain ⟨r72, R_fault_73, q74, h⟩ := wk_b2 h
                refine J_afterI0 (ws' := [(ad 0, .inr (10, [.int (zI R_thrown), .ref (ad 1), .ref (ad 2), .ref (ad 3), .ref (ad 4), .ref (ad 5), .ref (ad 6), .int (zI R_used), .ref (ad 7), .int (zI R_many), .ref (ad 8), .ref (ad 9), .ref (ad 10), .ref (ad 11), .ref (ad 12), .ref (ad 13), .ref (ad 14), .ref (ad 15), .ref (ad 16), .int (zI R_values), .ref (ad 17), .int (zI R_textEnd), .ref (ad 18), .ref (ad 19), .ref (ad 20), .ref (ad 21), .int (zI R_dataEnd), .ref (ad 22), .int (zI R_rowEnd), .ref (ad 23), .ref (ad 24), .int (zI R_rowMany), .ref (ad 25), .ref (ad 26), .ref (ad 27), .ref (ad 28), .int (zI R_waiting), .int (zI R_mostWaiting), .int (zI R_answer), .int (zI R_steps), .int (zI R_memory), .int (zI R_maxSteps), .int (zI R_maxMemory), .int (zI R_fault_73), .int (zI R_result), .int (zI R_now), .int (zI R_nowRow), .int (zI R_come), .ref (ad 29), .ref (ad 30), .int (zI R_puts), .ref (ad 31)])), (ad 8, .inl (cI, 3700, .inl (zA R_valueKinds))), (ad 9, .inl (cL, 3700, .inr (.inl (zB R_valueNumbers)))), (ad 10, .inl (cI, 3700, .inl (zA R_from))), (ad 11, .inl (cI, 3700, .inl (zA R_length))), (ad 14, .inl (cI, 3700, .inl (zA R_given))), (ad 17, .inl (cB, 70000, .inl (zA R_texts))), (ad 18, .inl (cI, 5000, .inl (zA R_forms))), (ad 19, .inl (cL, 5000, .inr (.inl (zB R_tags)))), (ad 20, .inl (cI, 5000, .inl (zA R_counts))), (ad 21, .inl (cI, 5000, .inl (zA R_textsAt))), (ad 29, .inl (cI, 3, .inl (zA R_of))), (ad 31, .inl (cI, 220, .inl (zA R_comes)))]) X (jrunV X (c_Mod_fail (ad := ad) q74) jF0_k (fun _ _ _ _ => trivial) (jgV own_Mod_ofData (by decide +kernel)) rfl rfl rfl pd_Mod_fail (by decide) [0] rfl (by decide) 0 10 rfl rfl rfl rfl (Nat.le_of_ble_eq_true rfl) d_Mod_ofData_153 (by decide)) [0] [1, 2, 3, 4, 5, 6, 7, 8, 9, 10, 11, 12] [12, 0, 1, 2, 3, 4, 5, 6, 7, 8, 9, 10, 11] rfl rfl (by decide) (by decide) rfl (by decide) ?_
                refine J_goto (tgt := 192) X d_Mod_ofData_156 (by decide) ?_
                cases h
                exact J_ret E ⟨_, rfl, rfl⟩ d_Mod_ofData_192 (Nat.le_refl _) (Nat.le_refl _) rfl
          · rcases wk_c h with ⟨c75, h⟩ | ⟨c75, h⟩
            · refine J_tsIn (tgt := 193) X 22 c75 g3 d_Mod_ofData_21 (by decide) (by decide) rfl (by decide) ?_
              refine J_aload_n X d_Mod_ofData_193 rfl 3 rfl ?_
              refine J_iconst X d_Mod_ofData_194 ?_
              refine J_aload_n X d_Mod_ofData_195 rfl 3 rfl ?_
              refine J_get X (j_in in_Mod) 0 rfl rfl 11 (by decide) (j_m own_Mod_ofData (by decide +kernel)) rfl d_Mod_ofData_196 ?_
              refine J_iload_n X d_Mod_ofData_199 rfl 2 rfl ?_
              obtain ⟨g76, h⟩ := wk_g h
              refine J_lald X 2 1 rfl rfl g76 d_Mod_ofData_200 ?_
              refine J_iconst X d_Mod_ofData_201 ?_
              refine J_iconst X d_Mod_ofData_202 ?_
              obtain ⟨R_dataEnd_77, R_forms_78, R_tags_79, R_counts_80, R_textsAt_81, q82, h⟩ := wk_b5 h
              refine J_afterI0 (ws' := [(ad 0, .inr (10, [.int (zI R_thrown), .ref (ad 1), .ref (ad 2), .ref (ad 3), .ref (ad 4), .ref (ad 5), .ref (ad 6), .int (zI R_used), .ref (ad 7), .int (zI R_many), .ref (ad 8), .ref (ad 9), .ref (ad 10), .ref (ad 11), .ref (ad 12), .ref (ad 13), .ref (ad 14), .ref (ad 15), .ref (ad 16), .int (zI R_values), .ref (ad 17), .int (zI R_textEnd), .ref (ad 18), .ref (ad 19), .ref (ad 20), .ref (ad 21), .int (zI R_dataEnd_77), .ref (ad 22), .int (zI R_rowEnd), .ref (ad 23), .ref (ad 24), .int (zI R_rowMany), .ref (ad 25), .ref (ad 26), .ref (ad 27), .ref (ad 28), .int (zI R_waiting), .int (zI R_mostWaiting), .int (zI R_answer), .int (zI R_steps), .int (zI R_memory), .int (zI R_maxSteps), .int (zI R_maxMemory), .int (zI R_fault), .int (zI R_result), .int (zI R_now), .int (zI R_nowRow), .int (zI R_come), .ref (ad 29), .ref (ad 30), .int (zI R_puts), .ref (ad 31)])), (ad 8, .inl (cI, 3700, .inl (zA R_valueKinds))), (ad 9, .inl (cL, 3700, .inr (.inl (zB R_valueNumbers)))), (ad 10, .inl (cI, 3700, .inl (zA R_from))), (ad 11, .inl (cI, 3700, .inl (zA R_length))), (ad 14, .inl (cI, 3700, .inl (zA R_given))), (ad 17, .inl (cB, 70000, .inl (zA R_texts))), (ad 18, .inl (cI, 5000, .inl (zA R_forms_78))), (ad 19, .inl (cL, 5000, .inr (.inl (zB R_tags_79)))), (ad 20, .inl (cI, 5000, .inl (zA R_counts_80))), (ad 21, .inl (cI, 5000, .inl (zA R_textsAt_81))), (ad 29, .inl (cI, 3, .inl (zA R_of))), (ad 31, .inl (cI, 220, .inl (zA R_comes)))]) X (jrunV X (c_Mod_putData (ad := ad) q82) jF0_k (fun _ _ _ _ => trivial) (jgV own_Mod_ofData (by decide +kernel)) rfl rfl rfl pd_Mod_putData (by decide) [0, 7, 8, 9, 10] rfl (by decide) 0 10 rfl rfl rfl rfl (Nat.le_of_ble_eq_true rfl) d_Mod_ofData_203 (by decide)) [0, 7, 8, 9, 10] [1, 2, 3, 4, 5, 6, 11, 12] [8, 0, 1, 2, 3, 4, 5, 9, 10, 11, 12, 6, 7] rfl rfl (by decide) (by decide) rfl (by decide) ?_
              refine J_aload_n X d_Mod_ofData_206 rfl 3 rfl ?_
              refine J_iload X d_Mod_ofData_207 0 rfl ?_
              obtain ⟨r83, R_values_84, R_valueKinds_85, R_valueNumbers_86, R_from_87, R_length_88, R_given_89, q90, h⟩ := wk_b7 h
              refine J_afterI0 (ws' := [(ad 0, .inr (10, [.int (zI R_thrown), .ref (ad 1), .ref (ad 2), .ref (ad 3), .ref (ad 4), .ref (ad 5), .ref (ad 6), .int (zI R_used), .ref (ad 7), .int (zI R_many), .ref (ad 8), .ref (ad 9), .ref (ad 10), .ref (ad 11), .ref (ad 12), .ref (ad 13), .ref (ad 14), .ref (ad 15), .ref (ad 16), .int (zI R_values_84), .ref (ad 17), .int (zI R_textEnd), .ref (ad 18), .ref (ad 19), .ref (ad 20), .ref (ad 21), .int (zI R_dataEnd_77), .ref (ad 22), .int (zI R_rowEnd), .ref (ad 23), .ref (ad 24), .int (zI R_rowMany), .ref (ad 25), .ref (ad 26), .ref (ad 27), .ref (ad 28), .int (zI R_waiting), .int (zI R_mostWaiting), .int (zI R_answer), .int (zI R_steps), .int (zI R_memory), .int (zI R_maxSteps), .int (zI R_maxMemory), .int (zI R_fault), .int (zI R_result), .int (zI R_now), .int (zI R_nowRow), .int (zI R_come), .ref (ad 29), .ref (ad 30), .int (zI R_puts), .ref (ad 31)])), (ad 8, .inl (cI, 3700, .inl (zA R_valueKinds_85))), (ad 9, .inl (cL, 3700, .inr (.inl (zB R_valueNumbers_86)))), (ad 10, .inl (cI, 3700, .inl (zA R_from_87))), (ad 11, .inl (cI, 3700, .inl (zA R_length_88))), (ad 14, .inl (cI, 3700, .inl (zA R_given_89))), (ad 17, .inl (cB, 70000, .inl (zA R_texts))), (ad 18, .inl (cI, 5000, .inl (zA R_forms_78))), (ad 19, .inl (cL, 5000, .inr (.inl (zB R_tags_79)))), (ad 20, .inl (cI, 5000, .inl (zA R_counts_80))), (ad 21, .inl (cI, 5000, .inl (zA R_textsAt_81))), (ad 29, .inl (cI, 3, .inl (zA R_of))), (ad 31, .inl (cI, 220, .inl (zA R_comes)))]) X (jrunV X (c_Mod_makeData (ad := ad) q90) jF0_k (fun _ _ _ _ => trivial) (jgV own_Mod_ofData (by decide +kernel)) rfl rfl rfl pd_Mod_makeData (by decide) [0, 1, 2, 3, 4, 5] rfl (by decide) 0 10 rfl rfl rfl rfl (Nat.le_of_ble_eq_true rfl) d_Mod_ofData_209 (by decide)) [0, 1, 2, 3, 4, 5] [6, 7, 8, 9, 10, 11, 12] [7, 8, 9, 10, 11, 12, 0, 1, 2, 3, 4, 5, 6] rfl rfl (by decide) (by decide) rfl (by decide) ?_
              cases h
              exact J_ret E ⟨_, rfl, rfl⟩ d_Mod_ofData_212 (Nat.le_refl _) (Nat.le_refl _) rfl
            · rcases wk_c h with ⟨c91, h⟩ | ⟨c91, h⟩
              · refine J_tsIn (tgt := 213) X 23 c91 g3 d_Mod_ofData_21 (by decide) (by decide) rfl (by decide) ?_
                refine J_aload_n X d_Mod_ofData_213 rfl 3 rfl ?_
                refine J_iconst X d_Mod_ofData_214 ?_
                refine J_lconst (v := 0) X d_Mod_ofData_215 (by decide) ?_
                refine J_aload_n X d_Mod_ofData_216 rfl 3 rfl ?_
                refine J_get X (j_in in_Mod) 0 rfl rfl 13 (by decide) (j_m own_Mod_ofData (by decide +kernel)) rfl d_Mod_ofData_217 ?_
                refine J_iload_n X d_Mod_ofData_220 rfl 2 rfl ?_
                obtain ⟨g92, h⟩ := wk_g h
                refine J_iald X 4 0 rfl rfl g92 d_Mod_ofData_221 ?_
                refine J_iload_n X d_Mod_ofData_222 rfl 1 rfl ?_
                obtain ⟨R_dataEnd_93, R_forms_94, R_tags_95, R_counts_96, R_textsAt_97, q98, h⟩ := wk_b5 h
                refine J_afterI0 (ws' := [(ad 0, .inr (10, [.int (zI R_thrown), .ref (ad 1), .ref (ad 2), .ref (ad 3), .ref (ad 4), .ref (ad 5), .ref (ad 6), .int (zI R_used), .ref (ad 7), .int (zI R_many), .ref (ad 8), .ref (ad 9), .ref (ad 10), .ref (ad 11), .ref (ad 12), .ref (ad 13), .ref (ad 14), .ref (ad 15), .ref (ad 16), .int (zI R_values), .ref (ad 17), .int (zI R_textEnd), .ref (ad 18), .ref (ad 19), .ref (ad 20), .ref (ad 21), .int (zI R_dataEnd_93), .ref (ad 22), .int (zI R_rowEnd), .ref (ad 23), .ref (ad 24), .int (zI R_rowMany), .ref (ad 25), .ref (ad 26), .ref (ad 27), .ref (ad 28), .int (zI R_waiting), .int (zI R_mostWaiting), .int (zI R_answer), .int (zI R_steps), .int (zI R_memory), .int (zI R_maxSteps), .int (zI R_maxMemory), .int (zI R_fault), .int (zI R_result), .int (zI R_now), .int (zI R_nowRow), .int (zI R_come), .ref (ad 29), .ref (ad 30), .int (zI R_puts), .ref (ad 31)])), (ad 8, .inl (cI, 3700, .inl (zA R_valueKinds))), (ad 9, .inl (cL, 3700, .inr (.inl (zB R_valueNumbers)))), (ad 10, .inl (cI, 3700, .inl (zA R_from))), (ad 11, .inl (cI, 3700, .inl (zA R_length))), (ad 14, .inl (cI, 3700, .inl (zA R_given))), (ad 17, .inl (cB, 70000, .inl (zA R_texts))), (ad 18, .inl (cI, 5000, .inl (zA R_forms_94))), (ad 19, .inl (cL, 5000, .inr (.inl (zB R_tags_95)))), (ad 20, .inl (cI, 5000, .inl (zA R_counts_96))), (ad 21, .inl (cI, 5000, .inl (zA R_textsAt_97))), (ad 29, .inl (cI, 3, .inl (zA R_of))), (ad 31, .inl (cI, 220, .inl (zA R_comes)))]) X (jrunV X (c_Mod_putData (ad := ad) q98) jF0_k (fun _ _ _ _ => trivial) (jgV own_Mod_ofData (by decide +kernel)) rfl rfl rfl pd_Mod_putData (by decide) [0, 7, 8, 9, 10] rfl (by decide) 0 10 rfl rfl rfl rfl (Nat.le_of_ble_eq_true rfl) d_Mod_ofData_223 (by decide)) [0, 7, 8, 9, 10] [1, 2, 3, 4, 5, 6, 11, 12] [8, 0, 1, 2, 3, 4, 5, 9, 10, 11, 12, 6, 7] rfl rfl (by decide) (by decide) rfl (by decide) ?_
                refine J_aload_n X d_Mod_ofData_226 rfl 3 rfl ?_
                refine J_iload X d_Mod_ofData_227 0 rfl ?_
                obtain ⟨r99, R_values_100, R_valueKinds_101, R_valueNumbers_102, R_from_103, R_length_104, R_given_105, q106, h⟩ := wk_b7 h
                refine J_afterI0 (ws' := [(ad 0, .inr (10, [.int (zI R_thrown), .ref (ad 1), .ref (ad 2), .ref (ad 3), .ref (ad 4), .ref (ad 5), .ref (ad 6), .int (zI R_used), .ref (ad 7), .int (zI R_many), .ref (ad 8), .ref (ad 9), .ref (ad 10), .ref (ad 11), .ref (ad 12), .ref (ad 13), .ref (ad 14), .ref (ad 15), .ref (ad 16), .int (zI R_values_100), .ref (ad 17), .int (zI R_textEnd), .ref (ad 18), .ref (ad 19), .ref (ad 20), .ref (ad 21), .int (zI R_dataEnd_93), .ref (ad 22), .int (zI R_rowEnd), .ref (ad 23), .ref (ad 24), .int (zI R_rowMany), .ref (ad 25), .ref (ad 26), .ref (ad 27), .ref (ad 28), .int (zI R_waiting), .int (zI R_mostWaiting), .int (zI R_answer), .int (zI R_steps), .int (zI R_memory), .int (zI R_maxSteps), .int (zI R_maxMemory), .int (zI R_fault), .int (zI R_result), .int (zI R_now), .int (zI R_nowRow), .int (zI R_come), .ref (ad 29), .ref (ad 30), .int (zI R_puts), .ref (ad 31)])), (ad 8, .inl (cI, 3700, .inl (zA R_valueKinds_101))), (ad 9, .inl (cL, 3700, .inr (.inl (zB R_valueNumbers_102)))), (ad 10, .inl (cI, 3700, .inl (zA R_from_103))), (ad 11, .inl (cI, 3700, .inl (zA R_length_104))), (ad 14, .inl (cI, 3700, .inl (zA R_given_105))), (ad 17, .inl (cB, 70000, .inl (zA R_texts))), (ad 18, .inl (cI, 5000, .inl (zA R_forms_94))), (ad 19, .inl (cL, 5000, .inr (.inl (zB R_tags_95)))), (ad 20, .inl (cI, 5000, .inl (zA R_counts_96))), (ad 21, .inl (cI, 5000, .inl (zA R_textsAt_97))), (ad 29, .inl (cI, 3, .inl (zA R_of))), (ad 31, .inl (cI, 220, .inl (zA R_comes)))]) X (jrunV X (c_Mod_makeData (ad := ad) q106) jF0_k (fun _ _ _ _ => trivial) (jgV own_Mod_ofData (by decide +kernel)) rfl rfl rfl pd_Mod_makeData (by decide) [0, 1, 2, 3, 4, 5] rfl (by decide) 0 10 rfl rfl rfl rfl (Nat.le_of_ble_eq_true rfl) d_Mod_ofData_229 (by decide)) [0, 1, 2, 3, 4, 5] [6, 7, 8, 9, 10, 11, 12] [7, 8, 9, 10, 11, 12, 0, 1, 2, 3, 4, 5, 6] rfl rfl (by decide) (by decide) rfl (by decide) ?_
                cases h
                exact J_ret E ⟨_, rfl, rfl⟩ d_Mod_ofData_232 (Nat.le_refl _) (Nat.le_refl _) rfl
              · rcases wk_c h with ⟨c107, h⟩ | ⟨c107, h⟩
                · refine J_tsIn (tgt := 233) X 24 c107 g3 d_Mod_ofData_21 (by decide) (by decide) rfl (by decide) ?_
                  refine J_aload_n X d_Mod_ofData_233 rfl 3 rfl ?_
                  refine J_iconst X d_Mod_ofData_234 ?_
                  refine J_aload_n X d_Mod_ofData_235 rfl 3 rfl ?_
                  refine J_get X (j_in in_Mod) 0 rfl rfl 23 (by decide) (j_m own_Mod_ofData (by decide +kernel)) rfl d_Mod_ofData_236 ?_
                  refine J_iload_n X d_Mod_ofData_239 rfl 1 rfl ?_
                  obtain ⟨g108, h⟩ := wk_g h
                  refine J_lald X 8 1 rfl rfl g108 d_Mod_ofData_240 ?_
                  obtain ⟨r109, R_values_110, R_valueKinds_111, R_valueNumbers_112, R_given_113, q114, h⟩ := wk_b5 h
                  refine J_afterI0 (ws' := [(ad 0, .inr (10, [.int (zI R_thrown), .ref (ad 1), .ref (ad 2), .ref (ad 3), .ref (ad 4), .ref (ad 5), .ref (ad 6), .int (zI R_used), .ref (ad 7), .int (zI R_many), .ref (ad 8), .ref (ad 9), .ref (ad 10), .ref (ad 11), .ref (ad 12), .ref (ad 13), .ref (ad 14), .ref (ad 15), .ref (ad 16), .int (zI R_values_110), .ref (ad 17), .int (zI R_textEnd), .ref (ad 18), .ref (ad 19), .ref (ad 20), .ref (ad 21), .int (zI R_dataEnd), .ref (ad 22), .int (zI R_rowEnd), .ref (ad 23), .ref (ad 24), .int (zI R_rowMany), .ref (ad 25), .ref (ad 26), .ref (ad 27), .ref (ad 28), .int (zI R_waiting), .int (zI R_mostWaiting), .int (zI R_answer), .int (zI R_steps), .int (zI R_memory), .int (zI R_maxSteps), .int (zI R_maxMemory), .int (zI R_fault), .int (zI R_result), .int (zI R_now), .int (zI R_nowRow), .int (zI R_come), .ref (ad 29), .ref (ad 30), .int (zI R_puts), .ref (ad 31)])), (ad 8, .inl (cI, 3700, .inl (zA R_valueKinds_111))), (ad 9, .inl (cL, 3700, .inr (.inl (zB R_valueNumbers_112)))), (ad 10, .inl (cI, 3700, .inl (zA R_from))), (ad 11, .inl (cI, 3700, .inl (zA R_length))), (ad 14, .inl (cI, 3700, .inl (zA R_given_113))), (ad 17, .inl (cB, 70000, .inl (zA R_texts))), (ad 18, .inl (cI, 5000, .inl (zA R_forms))), (ad 19, .inl (cL, 5000, .inr (.inl (zB R_tags)))), (ad 20, .inl (cI, 5000, .inl (zA R_counts))), (ad 21, .inl (cI, 5000, .inl (zA R_textsAt))), (ad 29, .inl (cI, 3, .inl (zA R_of))), (ad 31, .inl (cI, 220, .inl (zA R_comes)))]) X (jrunV X (c_Mod_make (ad := ad) q114) jF0_k (fun _ _ _ _ => trivial) (jgV own_Mod_ofData (by decide +kernel)) rfl rfl rfl pd_Mod_make (by decide) [0, 1, 2, 5] rfl (by decide) 0 10 rfl rfl rfl rfl (Nat.le_of_ble_eq_true rfl) d_Mod_ofData_241 (by decide)) [0, 1, 2, 5] [3, 4, 6, 7, 8, 9, 10, 11, 12] [9, 10, 11, 0, 1, 12, 2, 3, 4, 5, 6, 7, 8] rfl rfl (by decide) (by decide) rfl (by decide) ?_
                  cases h
                  exact J_ret E ⟨_, rfl, rfl⟩ d_Mod_ofData_244 (Nat.le_refl _) (Nat.le_refl _) rfl
                · rcases wk_c h with ⟨c115, h⟩ | ⟨c115, h⟩
                  · refine J_tsIn (tgt := 245) X 25 c115 g3 d_Mod_ofData_21 (by decide) (by decide) rfl (by decide) ?_
                    refine J_aload_n X d_Mod_ofData_245 rfl 3 rfl ?_
                    refine J_iconst X d_Mod_ofData_246 ?_
                    refine J_put (ws' := [(ad 0, .inr (10, [.int (zI R_thrown), .ref (ad 1), .ref (ad 2), .ref (ad 3), .ref (ad 4), .ref (ad 5), .ref (ad 6), .int (zI R_used), .ref (ad 7), .int (zI R_many), .ref (ad 8), .ref (ad 9), .ref (ad 10), .ref (ad 11), .ref (ad 12), .ref (ad 13), .ref (ad 14), .ref (ad 15), .ref (ad 16), .int (zI R_values), .ref (ad 17), .int (zI R_textEnd), .ref (ad 18), .ref (ad 19), .ref (ad 20), .ref (ad 21), .int (zI R_dataEnd), .ref (ad 22), .int (zI R_rowEnd), .ref (ad 23), .ref (ad 24), .int (zI R_rowMany), .ref (ad 25), .ref (ad 26), .ref (ad 27), .ref (ad 28), .int (zI R_waiting), .int (zI R_mostWaiting), .int (zI R_answer), .int (zI R_steps), .int (zI R_memory), .int (zI R_maxSteps), .int (zI R_maxMemory), .int (zI R_fault), .int (zI R_result), .int (zI R_now), .int (zI R_nowRow), .int (zI R_come), .ref (ad 29), .ref (ad 30), .int (zI 0), .ref (ad 31)])), (ad 8, .inl (cI, 3700, .inl (zA R_valueKinds))), (ad 9, .inl (cL, 3700, .inr (.inl (zB R_valueNumbers)))), (ad 10, .inl (cI, 3700, .inl (zA R_from))), (ad 11, .inl (cI, 3700, .inl (zA R_length))), (ad 14, .inl (cI, 3700, .inl (zA R_given))), (ad 17, .inl (cB, 70000, .inl (zA R_texts))), (ad 18, .inl (cI, 5000, .inl (zA R_forms))), (ad 19, .inl (cL, 5000, .inr (.inl (zB R_tags)))), (ad 20, .inl (cI, 5000, .inl (zA R_counts))), (ad 21, .inl (cI, 5000, .inl (zA R_textsAt))), (ad 29, .inl (cI, 3, .inl (zA R_of))), (ad 31, .inl (cI, 220, .inl (zA R_comes)))]) X (j_in in_Mod) ty_Mod tok_Mod nm_Mod 0 rfl rfl 50 (by decide) (j_m own_Mod_ofData (by decide +kernel)) rfl rfl rfl (Nat.le_of_ble_eq_true rfl) d_Mod_ofData_247 rfl ?_
                    refine J_iconst X d_Mod_ofData_250 ?_
                    refine J_istore (lv' := [(5, .int (zI 0)), (4, .int (zI R_dataEnd)), (3, .int (zI (R_from (R_of 0)))), (2, .int (zI (R_of 0))), (0, .ref (ad 0)), (1, .int (zI p1))]) X d_Mod_ofData_251 (by decide) rfl ?_
                    refine J_lv (lv' := [(0, .ref (ad 0)), (1, .int (zI p1)), (2, .int (zI (R_of 0))), (3, .int (zI (R_from (R_of 0)))), (4, .int (zI R_dataEnd)), (5, .int (zI 0))]) [4, 5, 3, 2, 1, 0] rfl ?_
                    obtain ⟨x5_116, R_puts_117, R_texts_118, q119, h⟩ := wk_b3 h
                    refine k_Mod_ofData_L253 X _ _ _ _ q119 ?_
                    refine J_aload_n X d_Mod_ofData_288 rfl 0 rfl ?_
                    refine J_aload_n X d_Mod_ofData_289 rfl 0 rfl ?_
                    refine J_get X (j_in in_Mod) 0 rfl rfl 50 (by decide) (j_m own_Mod_ofData (by decide +kernel)) rfl d_Mod_ofData_290 ?_
                    obtain ⟨r120, R_values_121, R_textEnd_122, R_valueKinds_123, R_valueNumbers_124, R_from_125, R_length_126, R_given_127, q128, h⟩ := wk_b8 h
                    refine J_afterI0 (ws' := [(ad 0, .inr (10, [.int (zI R_thrown), .ref (ad 1), .ref (ad 2), .ref (ad 3), .ref (ad 4), .ref (ad 5), .ref (ad 6), .int (zI R_used), .ref (ad 7), .int (zI R_many), .ref (ad 8), .ref (ad 9), .ref (ad 10), .ref (ad 11), .ref (ad 12), .ref (ad 13), .ref (ad 14), .ref (ad 15), .ref (ad 16), .int (zI R_values_121), .ref (ad 17), .int (zI R_textEnd_122), .ref (ad 18), .ref (ad 19), .ref (ad 20), .ref (ad 21), .int (zI R_dataEnd), .ref (ad 22), .int (zI R_rowEnd), .ref (ad 23), .ref (ad 24), .int (zI R_rowMany), .ref (ad 25), .ref (ad 26), .ref (ad 27), .ref (ad 28), .int (zI R_waiting), .int (zI R_mostWaiting), .int (zI R_answer), .int (zI R_steps), .int (zI R_memory), .int (zI R_maxSteps), .int (zI R_maxMemory), .int (zI R_fault), .int (zI R_result), .int (zI R_now), .int (zI R_nowRow), .int (zI R_come), .ref (ad 29), .ref (ad 30), .int (zI R_puts_117), .ref (ad 31)])), (ad 8, .inl (cI, 3700, .inl (zA R_valueKinds_123))), (ad 9, .inl (cL, 3700, .inr (.inl (zB R_valueNumbers_124)))), (ad 10, .inl (cI, 3700, .inl (zA R_from_125))), (ad 11, .inl (cI, 3700, .inl (zA R_length_126))), (ad 14, .inl (cI, 3700, .inl (zA R_given_127))), (ad 17, .inl (cB, 70000, .inl (zA R_texts_118))), (ad 18, .inl (cI, 5000, .inl (zA R_forms))), (ad 19, .inl (cL, 5000, .inr (.inl (zB R_tags)))), (ad 20, .inl (cI, 5000, .inl (zA R_counts))), (ad 21, .inl (cI, 5000, .inl (zA R_textsAt))), (ad 29, .inl (cI, 3, .inl (zA R_of))), (ad 31, .inl (cI, 220, .inl (zA R_comes)))]) X (jrunV X (c_Mod_makeBytes (ad := ad) q128) jF0_k (fun _ _ _ _ => trivial) (jgV own_Mod_ofData (by decide +kernel)) rfl rfl rfl pd_Mod_makeBytes (by decide) [0, 1, 2, 3, 4, 5] rfl (by decide) 0 10 rfl rfl rfl rfl (Nat.le_of_ble_eq_true rfl) d_Mod_ofData_293 (by decide)) [0, 1, 2, 3, 4, 5] [6, 7, 8, 9, 10, 11, 12] [7, 8, 9, 10, 11, 12, 0, 1, 2, 3, 4, 5, 6] rfl rfl (by decide) (by decide) rfl (by decide) ?_
                    cases h
                    exact J_ret E ⟨_, rfl, rfl⟩ d_Mod_ofData_296 (Nat.le_refl _) (Nat.le_refl _) rfl
                  · refine J_tsOut (tgt := 297) X g3 d_Mod_ofData_21 (by omega) (by decide) ?_
                    refine J_aload_n X d_Mod_ofData_297 rfl 3 rfl ?_
                    refine J_iload_n X d_Mod_ofData_298 rfl 4 rfl ?_
                    refine J_iload_n X d_Mod_ofData_299 rfl 2 rfl ?_
                    refine J_iload_n X d_Mod_ofData_300 rfl 1 rfl ?_
                    refine J_iload X d_Mod_ofData_301 0 rfl ?_
                    obtain ⟨r129, R_values_130, R_dataEnd_131, R_fault_132, R_valueKinds_133, R_valueNumbers_134, R_from_135, R_length_136, R_given_137, R_forms_138, R_tags_139, R_counts_140, R_textsAt_141, R_comes_142, q143, h⟩ := wk_b14 h
                    refine J_afterI0 (ws' := [(ad 0, .inr (10, [.int (zI R_thrown), .ref (ad 1), .ref (ad 2), .ref (ad 3), .ref (ad 4), .ref (ad 5), .ref (ad 6), .int (zI R_used), .ref (ad 7), .int (zI R_many), .ref (ad 8), .ref (ad 9), .ref (ad 10), .ref (ad 11), .ref (ad 12), .ref (ad 13), .ref (ad 14), .ref (ad 15), .ref (ad 16), .int (zI R_values_130), .ref (ad 17), .int (zI R_textEnd), .ref (ad 18), .ref (ad 19), .ref (ad 20), .ref (ad 21), .int (zI R_dataEnd_131), .ref (ad 22), .int (zI R_rowEnd), .ref (ad 23), .ref (ad 24), .int (zI R_rowMany), .ref (ad 25), .ref (ad 26), .ref (ad 27), .ref (ad 28), .int (zI R_waiting), .int (zI R_mostWaiting), .int (zI R_answer), .int (zI R_steps), .int (zI R_memory), .int (zI R_maxSteps), .int (zI R_maxMemory), .int (zI R_fault_132), .int (zI R_result), .int (zI R_now), .int (zI R_nowRow), .int (zI R_come), .ref (ad 29), .ref (ad 30), .int (zI R_puts), .ref (ad 31)])), (ad 8, .inl (cI, 3700, .inl (zA R_valueKinds_133))), (ad 9, .inl (cL, 3700, .inr (.inl (zB R_valueNumbers_134)))), (ad 10, .inl (cI, 3700, .inl (zA R_from_135))), (ad 11, .inl (cI, 3700, .inl (zA R_length_136))), (ad 14, .inl (cI, 3700, .inl (zA R_given_137))), (ad 17, .inl (cB, 70000, .inl (zA R_texts))), (ad 18, .inl (cI, 5000, .inl (zA R_forms_138))), (ad 19, .inl (cL, 5000, .inr (.inl (zB R_tags_139)))), (ad 20, .inl (cI, 5000, .inl (zA R_counts_140))), (ad 21, .inl (cI, 5000, .inl (zA R_textsAt_141))), (ad 29, .inl (cI, 3, .inl (zA R_of))), (ad 31, .inl (cI, 220, .inl (zA R_comes_142)))]) X (jrunV X (c_Mod_ofLists (ad := ad) q143) jF0_k (fun _ _ _ _ => trivial) (jgV own_Mod_ofData (by decide +kernel)) rfl rfl rfl pd_Mod_ofLists (by decide) [0, 1, 2, 3, 4, 5, 7, 8, 9, 10, 11, 12] rfl (by decide) 0 10 rfl rfl rfl rfl (Nat.le_of_ble_eq_true rfl) d_Mod_ofData_303 (by decide)) [0, 1, 2, 3, 4, 5, 7, 8, 9, 10, 11, 12] [6] [1, 2, 3, 4, 5, 6, 0, 7, 8, 9, 10, 11, 12] rfl rfl (by decide) (by decide) rfl (by decide) ?_
                    cases h
                    exact J_ret E ⟨_, rfl, rfl⟩ d_Mod_ofData_306 (Nat.le_refl _) (Nat.le_refl _) rfl

theorem d_Mod_does_0 : decode b_Mod_does 0 = .ok (.aload_n 0, 1) := by decide +kernel
theorem d_Mod_does_1 : decode b_Mod_does 1 = .ok (.iload_n 1, 1) := by decide +kernel
theorem d_Mod_does_2 : decode b_Mod_does 2 = .ok (.invokevirtual 233, 3) := by decide +kernel
theorem d_Mod_does_5 : decode b_Mod_does 5 = .ok (.ifCond .ne 9, 3) := by decide +kernel
theorem d_Mod_does_8 : decode b_Mod_does 8 = .ok (.aload_n 0, 1) := by decide +kernel
theorem d_Mod_does_9 : decode b_Mod_does 9 = .ok (.iconst 2, 1) := by decide +kernel
theorem d_Mod_does_10 : decode b_Mod_does 10 = .ok (.invokevirtual 183, 3) := by decide +kernel
theorem d_Mod_does_13 : decode b_Mod_does 13 = .ok (.ireturn, 1) := by decide +kernel
theorem d_Mod_does_14 : decode b_Mod_does 14 = .ok (.iload_n 1, 1) := by decide +kernel
theorem d_Mod_does_15 : decode b_Mod_does 15 = .ok (.bipush 10, 2) := by decide +kernel
theorem d_Mod_does_17 : decode b_Mod_does 17 = .ok (.if_icmp .ge 31, 3) := by decide +kernel
theorem d_Mod_does_20 : decode b_Mod_does 20 = .ok (.aload_n 0, 1) := by decide +kernel
theorem d_Mod_does_21 : decode b_Mod_does 21 = .ok (.iload_n 1, 1) := by decide +kernel
theorem d_Mod_does_22 : decode b_Mod_does 22 = .ok (.aload_n 0, 1) := by decide +kernel
theorem d_Mod_does_23 : decode b_Mod_does 23 = .ok (.getfield 36, 3) := by decide +kernel
theorem d_Mod_does_26 : decode b_Mod_does 26 = .ok (.aload_n 0, 1) := by decide +kernel
theorem d_Mod_does_27 : decode b_Mod_does 27 = .ok (.getfield 102, 3) := by decide +kernel
theorem d_Mod_does_30 : decode b_Mod_does 30 = .ok (.iconst 0, 1) := by decide +kernel
theorem d_Mod_does_31 : decode b_Mod_does 31 = .ok (.iaload, 1) := by decide +kernel
theorem d_Mod_does_32 : decode b_Mod_does 32 = .ok (.laload, 1) := by decide +kernel
theorem d_Mod_does_33 : decode b_Mod_does 33 = .ok (.aload_n 0, 1) := by decide +kernel
theorem d_Mod_does_34 : decode b_Mod_does 34 = .ok (.getfield 36, 3) := by decide +kernel
theorem d_Mod_does_37 : decode b_Mod_does 37 = .ok (.aload_n 0, 1) := by decide +kernel
theorem d_Mod_does_38 : decode b_Mod_does 38 = .ok (.getfield 102, 3) := by decide +kernel
theorem d_Mod_does_41 : decode b_Mod_does 41 = .ok (.iconst 1, 1) := by decide +kernel
theorem d_Mod_does_42 : decode b_Mod_does 42 = .ok (.iaload, 1) := by decide +kernel
theorem d_Mod_does_43 : decode b_Mod_does 43 = .ok (.laload, 1) := by decide +kernel
theorem d_Mod_does_44 : decode b_Mod_does 44 = .ok (.invokevirtual 237, 3) := by decide +kernel
theorem d_Mod_does_47 : decode b_Mod_does 47 = .ok (.ireturn, 1) := by decide +kernel
theorem d_Mod_does_48 : decode b_Mod_does 48 = .ok (.iload_n 1, 1) := by decide +kernel
theorem d_Mod_does_49 : decode b_Mod_does 49 = .ok (.bipush 16, 2) := by decide +kernel
theorem d_Mod_does_51 : decode b_Mod_does 51 = .ok (.if_icmp .ge 9, 3) := by decide +kernel
theorem d_Mod_does_54 : decode b_Mod_does 54 = .ok (.aload_n 0, 1) := by decide +kernel
theorem d_Mod_does_55 : decode b_Mod_does 55 = .ok (.iload_n 1, 1) := by decide +kernel
theorem d_Mod_does_56 : decode b_Mod_does 56 = .ok (.invokevirtual 241, 3) := by decide +kernel
theorem d_Mod_does_59 : decode b_Mod_does 59 = .ok (.ireturn, 1) := by decide +kernel
theorem d_Mod_does_60 : decode b_Mod_does 60 = .ok (.iload_n 1, 1) := by decide +kernel
theorem d_Mod_does_61 : decode b_Mod_does 61 = .ok (.bipush 16, 2) := by decide +kernel
theorem d_Mod_does_63 : decode b_Mod_does 63 = .ok (.if_icmp .ne 32, 3) := by decide +kernel
theorem d_Mod_does_66 : decode b_Mod_does 66 = .ok (.aload_n 0, 1) := by decide +kernel
theorem d_Mod_does_67 : decode b_Mod_does 67 = .ok (.getfield 102, 3) := by decide +kernel
theorem d_Mod_does_70 : decode b_Mod_does 70 = .ok (.aload_n 0, 1) := by decide +kernel
theorem d_Mod_does_71 : decode b_Mod_does 71 = .ok (.getfield 36, 3) := by decide +kernel
theorem d_Mod_does_74 : decode b_Mod_does 74 = .ok (.aload_n 0, 1) := by decide +kernel
theorem d_Mod_does_75 : decode b_Mod_does 75 = .ok (.getfield 102, 3) := by decide +kernel
theorem d_Mod_does_78 : decode b_Mod_does 78 = .ok (.iconst 0, 1) := by decide +kernel
theorem d_Mod_does_79 : decode b_Mod_does 79 = .ok (.iaload, 1) := by decide +kernel
theorem d_Mod_does_80 : decode b_Mod_does 80 = .ok (.laload, 1) := by decide +kernel
theorem d_Mod_does_81 : decode b_Mod_does 81 = .ok (.lconst 1, 1) := by decide +kernel
theorem d_Mod_does_82 : decode b_Mod_does 82 = .ok (.lcmp, 1) := by decide +kernel
theorem d_Mod_does_83 : decode b_Mod_does 83 = .ok (.ifCond .ne 7, 3) := by decide +kernel
theorem d_Mod_does_86 : decode b_Mod_does 86 = .ok (.iconst 1, 1) := by decide +kernel
theorem d_Mod_does_87 : decode b_Mod_does 87 = .ok (.goto 4, 3) := by decide +kernel
theorem d_Mod_does_90 : decode b_Mod_does 90 = .ok (.iconst 2, 1) := by decide +kernel
theorem d_Mod_does_91 : decode b_Mod_does 91 = .ok (.iaload, 1) := by decide +kernel
theorem d_Mod_does_92 : decode b_Mod_does 92 = .ok (.goto 8, 3) := by decide +kernel
theorem d_Mod_does_95 : decode b_Mod_does 95 = .ok (.aload_n 0, 1) := by decide +kernel
theorem d_Mod_does_96 : decode b_Mod_does 96 = .ok (.iload_n 1, 1) := by decide +kernel
theorem d_Mod_does_97 : decode b_Mod_does 97 = .ok (.invokevirtual 244, 3) := by decide +kernel
theorem d_Mod_does_100 : decode b_Mod_does 100 = .ok (.ireturn, 1) := by decide +kernel
def f_Mod_does (N : Nat) (R_values : Int) (R_textEnd : Int) (R_dataEnd : Int) (R_fault : Int) (R_puts : Int) (R_valueKinds : Int → Int) (R_valueNumbers : Int → Int) (R_from : Int → Int) (R_length : Int → Int) (R_given : Int → Int) (R_texts : Int → Int) (R_forms : Int → Int) (R_tags : Int → Int) (R_counts : Int → Int) (R_textsAt : Int → Int) (R_of : Int → Int) (R_comes : Int → Int) (p1 : Int) : Option (Int × Int × Int × Int × Int × Int × (Int → Int) × (Int → Int) × (Int → Int) × (Int → Int) × (Int → Int) × (Int → Int) × (Int → Int) × (Int → Int) × (Int → Int) × (Int → Int) × (Int → Int)) :=
  Option.bind (f_Mod_fits R_valueKinds R_from R_forms R_of p1) (fun r1 =>
   if rI r1 = true then (if r1 = 0 then (
    ob2 (f_Mod_fail R_fault 2) (fun r53 R_fault_54 =>
     some (r53, R_values, R_textEnd, R_dataEnd, R_fault_54, R_puts, R_valueKinds, R_valueNumbers, R_from, R_length, R_given, R_texts, R_forms, R_tags, R_counts, R_textsAt, R_comes))) else (
    if jr2 p1 10 = true then (if 10 ≤ p1 then (
     if jr2 p1 16 = true then (if 16 ≤ p1 then (
      if jr2 p1 16 = true then (if p1 = 16 then (
       if jix 0 3 = true then (
        if jix (R_of 0) 3700 = true then (
         if jl2 (R_valueNumbers (R_of 0)) 1 = true then (if (R_valueNumbers (R_of 0)) = 1 then (
          if jix 1 3 = true then (
           some ((R_of 1), R_values, R_textEnd, R_dataEnd, R_fault, R_puts, R_valueKinds, R_valueNumbers, R_from, R_length, R_given, R_texts, R_forms, R_tags, R_counts, R_textsAt, R_comes)) else none) else (
          if jix 2 3 = true then (
           some ((R_of 2), R_values, R_textEnd, R_dataEnd, R_fault, R_puts, R_valueKinds, R_valueNumbers, R_from, R_length, R_given, R_texts, R_forms, R_tags, R_counts, R_textsAt, R_comes)) else none)) else none) else none) else none) else (
       ob17 (f_Mod_ofData N R_values R_textEnd R_dataEnd R_fault R_puts R_valueKinds R_valueNumbers R_from R_length R_given R_texts R_forms R_tags R_counts R_textsAt R_of R_comes p1) (fun r7 R_values_8 R_textEnd_9 R_dataEnd_10 R_fault_11 R_puts_12 R_valueKinds_13 R_valueNumbers_14 R_from_15 R_length_16 R_given_17 R_texts_18 R_forms_19 R_tags_20 R_counts_21 R_textsAt_22 R_comes_23 =>
        some (r7, R_values_8, R_textEnd_9, R_dataEnd_10, R_fault_11, R_puts_12, R_valueKinds_13, R_valueNumbers_14, R_from_15, R_length_16, R_given_17, R_texts_18, R_forms_19, R_tags_20, R_counts_21, R_textsAt_22, R_comes_23)))) else none) else (
      ob11 (f_Mod_ofBytes N R_values R_textEnd R_fault R_puts R_valueKinds R_valueNumbers R_from R_length R_given R_texts R_of p1) (fun r30 R_values_31 R_textEnd_32 R_fault_33 R_puts_34 R_valueKinds_35 R_valueNumbers_36 R_from_37 R_length_38 R_given_39 R_texts_40 =>
       some (r30, R_values_31, R_textEnd_32, R_dataEnd, R_fault_33, R_puts_34, R_valueKinds_35, R_valueNumbers_36, R_from_37, R_length_38, R_given_39, R_texts_40, R_forms, R_tags, R_counts, R_textsAt, R_comes)))) else none) else (
     if jix 0 3 = true then (
      if jix (R_of 0) 3700 = true then (
       if jix 1 3 = true then (
        if jix (R_of 1) 3700 = true then (
         ob6 (f_Mod_sums R_values R_fault R_valueKinds R_valueNumbers R_given p1 (R_valueNumbers (R_of 0)) (R_valueNumbers (R_of 1))) (fun r46 R_values_47 R_fault_48 R_valueKinds_49 R_valueNumbers_50 R_given_51 =>
          some (r46, R_values_47, R_textEnd, R_dataEnd, R_fault_48, R_puts, R_valueKinds_49, R_valueNumbers_50, R_from, R_length, R_given_51, R_texts, R_forms, R_tags, R_counts, R_textsAt, R_comes))) else none) else none) else none) else none)) else none)) else none)
set_option maxHeartbeats 4000000 in
set_option maxRecDepth 100000 in
theorem c_Mod_does {l : Launch} {D : va_G} {cI cL cB : ClassId} {ad : Nat → Nat} {N : Nat} {R_thrown : Int} {R_used : Int} {R_many : Int} {R_values : Int} {R_textEnd : Int} {R_dataEnd : Int} {R_rowEnd : Int} {R_rowMany : Int} {R_waiting : Int} {R_mostWaiting : Int} {R_answer : Int} {R_steps : Int} {R_memory : Int} {R_maxSteps : Int} {R_maxMemory : Int} {R_fault : Int} {R_result : Int} {R_now : Int} {R_nowRow : Int} {R_come : Int} {R_puts : Int} {R_valueKinds : Int → Int} {R_valueNumbers : Int → Int} {R_from : Int → Int} {R_length : Int → Int} {R_given : Int → Int} {R_texts : Int → Int} {R_forms : Int → Int} {R_tags : Int → Int} {R_counts : Int → Int} {R_textsAt : Int → Int} {R_of : Int → Int} {R_comes : Int → Int} {p1 : Int} {out : Int × Int × Int × Int × Int × Int × (Int → Int) × (Int → Int) × (Int → Int) × (Int → Int) × (Int → Int) × (Int → Int) × (Int → Int) × (Int → Int) × (Int → Int) × (Int → Int) × (Int → Int)} (h : f_Mod_does N R_values R_textEnd R_dataEnd R_fault R_puts R_valueKinds R_valueNumbers R_from R_length R_given R_texts R_forms R_tags R_counts R_textsAt R_of R_comes p1 = some out) : CT jF0 false l D [(cI, .int), (cL, .long), (cB, .byte)] y_Mod_does w_Mod_does ({ frames := 5, cells := 0, slots := 0, locals := 126 } : Room) [.ref (ad 0), .int (zI p1)] [(ad 0, .inr (10, [.int (zI R_thrown), .ref (ad 1), .ref (ad 2), .ref (ad 3), .ref (ad 4), .ref (ad 5), .ref (ad 6), .int (zI R_used), .ref (ad 7), .int (zI R_many), .ref (ad 8), .ref (ad 9), .ref (ad 10), .ref (ad 11), .ref (ad 12), .ref (ad 13), .ref (ad 14), .ref (ad 15), .ref (ad 16), .int (zI R_values), .ref (ad 17), .int (zI R_textEnd), .ref (ad 18), .ref (ad 19), .ref (ad 20), .ref (ad 21), .int (zI R_dataEnd), .ref (ad 22), .int (zI R_rowEnd), .ref (ad 23), .ref (ad 24), .int (zI R_rowMany), .ref (ad 25), .ref (ad 26), .ref (ad 27), .ref (ad 28), .int (zI R_waiting), .int (zI R_mostWaiting), .int (zI R_answer), .int (zI R_steps), .int (zI R_memory), .int (zI R_maxSteps), .int (zI R_maxMemory), .int (zI R_fault), .int (zI R_result), .int (zI R_now), .int (zI R_nowRow), .int (zI R_come), .ref (ad 29), .ref (ad 30), .int (zI R_puts), .ref (ad 31)])), (ad 8, .inl (cI, 3700, .inl (zA R_valueKinds))), (ad 9, .inl (cL, 3700, .inr (.inl (zB R_valueNumbers)))), (ad 10, .inl (cI, 3700, .inl (zA R_from))), (ad 11, .inl (cI, 3700, .inl (zA R_length))), (ad 14, .inl (cI, 3700, .inl (zA R_given))), (ad 17, .inl (cB, 70000, .inl (zA R_texts))), (ad 18, .inl (cI, 5000, .inl (zA R_forms))), (ad 19, .inl (cL, 5000, .inr (.inl (zB R_tags)))), (ad 20, .inl (cI, 5000, .inl (zA R_counts))), (ad 21, .inl (cI, 5000, .inl (zA R_textsAt))), (ad 29, .inl (cI, 3, .inl (zA R_of))), (ad 31, .inl (cI, 220, .inl (zA R_comes)))] (some (.int (zI out.1))) [(ad 0, .inr (10, [.int (zI R_thrown), .ref (ad 1), .ref (ad 2), .ref (ad 3), .ref (ad 4), .ref (ad 5), .ref (ad 6), .int (zI R_used), .ref (ad 7), .int (zI R_many), .ref (ad 8), .ref (ad 9), .ref (ad 10), .ref (ad 11), .ref (ad 12), .ref (ad 13), .ref (ad 14), .ref (ad 15), .ref (ad 16), .int (zI (out.2.1)), .ref (ad 17), .int (zI (out.2.2.1)), .ref (ad 18), .ref (ad 19), .ref (ad 20), .ref (ad 21), .int (zI (out.2.2.2.1)), .ref (ad 22), .int (zI R_rowEnd), .ref (ad 23), .ref (ad 24), .int (zI R_rowMany), .ref (ad 25), .ref (ad 26), .ref (ad 27), .ref (ad 28), .int (zI R_waiting), .int (zI R_mostWaiting), .int (zI R_answer), .int (zI R_steps), .int (zI R_memory), .int (zI R_maxSteps), .int (zI R_maxMemory), .int (zI (out.2.2.2.2.1)), .int (zI R_result), .int (zI R_now), .int (zI R_nowRow), .int (zI R_come), .ref (ad 29), .ref (ad 30), .int (zI (out.2.2.2.2.2.1)), .ref (ad 31)])), (ad 8, .inl (cI, 3700, .inl (zA (out.2.2.2.2.2.2.1)))), (ad 9, .inl (cL, 3700, .inr (.inl (zB (out.2.2.2.2.2.2.2.1))))), (ad 10, .inl (cI, 3700, .inl (zA (out.2.2.2.2.2.2.2.2.1)))), (ad 11, .inl (cI, 3700, .inl (zA (out.2.2.2.2.2.2.2.2.2.1)))), (ad 14, .inl (cI, 3700, .inl (zA (out.2.2.2.2.2.2.2.2.2.2.1)))), (ad 17, .inl (cB, 70000, .inl (zA (out.2.2.2.2.2.2.2.2.2.2.2.1)))), (ad 18, .inl (cI, 5000, .inl (zA (out.2.2.2.2.2.2.2.2.2.2.2.2.1)))), (ad 19, .inl (cL, 5000, .inr (.inl (zB (out.2.2.2.2.2.2.2.2.2.2.2.2.2.1))))), (ad 20, .inl (cI, 5000, .inl (zA (out.2.2.2.2.2.2.2.2.2.2.2.2.2.2.1)))), (ad 21, .inl (cI, 5000, .inl (zA (out.2.2.2.2.2.2.2.2.2.2.2.2.2.2.2.1)))), (ad 29, .inl (cI, 3, .inl (zA R_of))), (ad 31, .inl (cI, 220, .inl (zA (out.2.2.2.2.2.2.2.2.2.2.2.2.2.2.2.2))))] 0 0 := by
  refine CT_of_J (cc := b_Mod_does) (maxL := 2) (ret := (some .int)) jF0_k (plainFor_of_name (by decide)) rfl (Nat.le_of_ble_eq_true rfl) ?_
  intro K hKl hKD X E
  subst hKl; subst hKD
  unfold f_Mod_does at h
  refine J_aload_n X d_Mod_does_0 rfl 0 rfl ?_
  refine J_iload_n X d_Mod_does_1 rfl 1 rfl ?_
  obtain ⟨r1, q2, h⟩ := wk_b h
  refine J_afterP (jrunV X (c_Mod_fits (ad := ad) q2) jF0_k (fun _ _ _ _ => trivial) (jgV own_Mod_does (by decide +kernel)) rfl rfl rfl pd_Mod_fits (by decide) [0, 1, 3, 7, 11] rfl (by decide) 0 10 rfl rfl rfl rfl (Nat.le_of_ble_eq_true rfl) d_Mod_does_2 (by decide)) ?_
  refine J_if_ne (tgt := 14) X d_Mod_does_5 (by decide) h (fun c3 h => ?_) (fun c3 h => ?_)
  · refine J_iload_n X d_Mod_does_14 rfl 1 rfl ?_
    refine J_bipush X d_Mod_does_15 (by decide) ?_
    refine J_icmp_ge (tgt := 48) X d_Mod_does_17 (by decide) h (fun c4 h => ?_) (fun c4 h => ?_)
    · refine J_iload_n X d_Mod_does_48 rfl 1 rfl ?_
      refine J_bipush X d_Mod_does_49 (by decide) ?_
      refine J_icmp_ge (tgt := 60) X d_Mod_does_51 (by decide) h (fun c5 h => ?_) (fun c5 h => ?_)
      · refine J_iload_n X d_Mod_does_60 rfl 1 rfl ?_
        refine J_bipush X d_Mod_does_61 (by decide) ?_
        refine J_icmp_ne (tgt := 95) X d_Mod_does_63 (by decide) h (fun c6 h => ?_) (fun c6 h => ?_)
        · refine J_aload_n X d_Mod_does_95 rfl 0 rfl ?_
          refine J_iload_n X d_Mod_does_96 rfl 1 rfl ?_
          obtain ⟨r7, R_values_8, R_textEnd_9, R_dataEnd_10, R_fault_11, R_puts_12, R_valueKinds_13, R_valueNumbers_14, R_from_15, R_length_16, R_given_17, R_texts_18, R_forms_19, R_tags_20, R_counts_21, R_textsAt_22, R_comes_23, q24, h⟩ := wk_b17 h
          refine J_afterI0 (ws' := [(ad 0, .inr (10, [.int (zI R_thrown), .ref (ad 1), .ref (ad 2), .ref (ad 3), .ref (ad 4), .ref (ad 5), .ref (ad 6), .int (zI R_used), .ref (ad 7), .int (zI R_many), .ref (ad 8), .ref (ad 9), .ref (ad 10), .ref (ad 11), .ref (ad 12), .ref (ad 13), .ref (ad 14), .ref (ad 15), .ref (ad 16), .int (zI R_values_8), .ref (ad 17), .int (zI R_textEnd_9), .ref (ad 18), .ref (ad 19), .ref (ad 20), .ref (ad 21), .int (zI R_dataEnd_10), .ref (ad 22), .int (zI R_rowEnd), .ref (ad 23), .ref (ad 24), .int (zI R_rowMany), .ref (ad 25), .ref (ad 26), .ref (ad 27), .ref (ad 28), .int (zI R_waiting), .int (zI R_mostWaiting), .int (zI R_answer), .int (zI R_steps), .int (zI R_memory), .int (zI R_maxSteps), .int (zI R_maxMemory), .int (zI R_fault_11), .int (zI R_result), .int (zI R_now), .int (zI R_nowRow), .int (zI R_come), .ref (ad 29), .ref (ad 30), .int (zI R_puts_12), .ref (ad 31)])), (ad 8, .inl (cI, 3700, .inl (zA R_valueKinds_13))), (ad 9, .inl (cL, 3700, .inr (.inl (zB R_valueNumbers_14)))), (ad 10, .inl (cI, 3700, .inl (zA R_from_15))), (ad 11, .inl (cI, 3700, .inl (zA R_length_16))), (ad 14, .inl (cI, 3700, .inl (zA R_given_17))), (ad 17, .inl (cB, 70000, .inl (zA R_texts_18))), (ad 18, .inl (cI, 5000, .inl (zA R_forms_19))), (ad 19, .inl (cL, 5000, .inr (.inl (zB R_tags_20)))), (ad 20, .inl (cI, 5000, .inl (zA R_counts_21))), (ad 21, .inl (cI, 5000, .inl (zA R_textsAt_22))), (ad 29, .inl (cI, 3, .inl (zA R_of))), (ad 31, .inl (cI, 220, .inl (zA R_comes_23)))]) X (jrunV X (c_Mod_ofData (ad := ad) q24) jF0_k (fun _ _ _ _ => trivial) (jgV own_Mod_does (by decide +kernel)) rfl rfl rfl pd_Mod_ofData (by decide) [0, 1, 2, 3, 4, 5, 6, 7, 8, 9, 10, 11, 12] rfl (by decide) 0 10 rfl rfl rfl rfl (Nat.le_of_ble_eq_true rfl) d_Mod_does_97 (by decide)) [0, 1, 2, 3, 4, 5, 6, 7, 8, 9, 10, 11, 12] [] [0, 1, 2, 3, 4, 5, 6, 7, 8, 9, 10, 11, 12] rfl rfl (by decide) (by decide) rfl (by decide) ?_
          cases h
          exact J_ret E ⟨_, rfl, rfl⟩ d_Mod_does_100 (Nat.le_refl _) (Nat.le_refl _) rfl
        · refine J_aload_n X d_Mod_does_66 rfl 0 rfl ?_
          refine J_get X (j_in in_Mod) 0 rfl rfl 48 (by decide) (j_m own_Mod_does (by decide +kernel)) rfl d_Mod_does_67 ?_
          refine J_aload_n X d_Mod_does_70 rfl 0 rfl ?_
          refine J_get X (j_in in_Mod) 0 rfl rfl 11 (by decide) (j_m own_Mod_does (by decide +kernel)) rfl d_Mod_does_71 ?_
          refine J_aload_n X d_Mod_does_74 rfl 0 rfl ?_
          refine J_get X (j_in in_Mod) 0 rfl rfl 48 (by decide) (j_m own_Mod_does (by decide +kernel)) rfl d_Mod_does_75 ?_
          refine J_iconst X d_Mod_does_78 ?_
          obtain ⟨g25, h⟩ := wk_g h
          refine J_iald X 11 0 rfl rfl g25 d_Mod_does_79 ?_
          obtain ⟨g26, h⟩ := wk_g h
          refine J_lald X 2 1 rfl rfl g26 d_Mod_does_80 ?_
          refine J_lconst (v := 1) X d_Mod_does_81 (by decide) ?_
          refine J_lc_ne (tgt := 90) X d_Mod_does_82 d_Mod_does_83 (by decide) h (fun c27 h => ?_) (fun c27 h => ?_)
          · refine J_iconst X d_Mod_does_90 ?_
            obtain ⟨g28, h⟩ := wk_g h
            refine J_iald X 11 0 rfl rfl g28 d_Mod_does_91 ?_
            refine J_goto (tgt := 100) X d_Mod_does_92 (by decide) ?_
            cases h
            exact J_ret E ⟨_, rfl, rfl⟩ d_Mod_does_100 (Nat.le_refl _) (Nat.le_refl _) rfl
          · refine J_iconst X d_Mod_does_86 ?_
            refine J_goto (tgt := 91) X d_Mod_does_87 (by decide) ?_
            obtain ⟨g29, h⟩ := wk_g h
            refine J_iald X 11 0 rfl rfl g29 d_Mod_does_91 ?_
            refine J_goto (tgt := 100) X d_Mod_does_92 (by decide) ?_
            cases h
            exact J_ret E ⟨_, rfl, rfl⟩ d_Mod_does_100 (Nat.le_refl _) (Nat.le_refl _) rfl
      · refine J_aload_n X d_Mod_does_54 rfl 0 rfl ?_
        refine J_iload_n X d_Mod_does_55 rfl 1 rfl ?_
        obtain ⟨r30, R_values_31, R_textEnd_32, R_fault_33, R_puts_34, R_valueKinds_35, R_valueNumbers_36, R_from_37, R_length_38, R_given_39, R_texts_40, q41, h⟩ := wk_b11 h
        refine J_afterI0 (ws' := [(ad 0, .inr (10, [.int (zI R_thrown), .ref (ad 1), .ref (ad 2), .ref (ad 3), .ref (ad 4), .ref (ad 5), .ref (ad 6), .int (zI R_used), .ref (ad 7), .int (zI R_many), .ref (ad 8), .ref (ad 9), .ref (ad 10), .ref (ad 11), .ref (ad 12), .ref (ad 13), .ref (ad 14), .ref (ad 15), .ref (ad 16), .int (zI R_values_31), .ref (ad 17), .int (zI R_textEnd_32), .ref (ad 18), .ref (ad 19), .ref (ad 20), .ref (ad 21), .int (zI R_dataEnd), .ref (ad 22), .int (zI R_rowEnd), .ref (ad 23), .ref (ad 24), .int (zI R_rowMany), .ref (ad 25), .ref (ad 26), .ref (ad 27), .ref (ad 28), .int (zI R_waiting), .int (zI R_mostWaiting), .int (zI R_answer), .int (zI R_steps), .int (zI R_memory), .int (zI R_maxSteps), .int (zI R_maxMemory), .int (zI R_fault_33), .int (zI R_result), .int (zI R_now), .int (zI R_nowRow), .int (zI R_come), .ref (ad 29), .ref (ad 30), .int (zI R_puts_34), .ref (ad 31)])), (ad 8, .inl (cI, 3700, .inl (zA R_valueKinds_35))), (ad 9, .inl (cL, 3700, .inr (.inl (zB R_valueNumbers_36)))), (ad 10, .inl (cI, 3700, .inl (zA R_from_37))), (ad 11, .inl (cI, 3700, .inl (zA R_length_38))), (ad 14, .inl (cI, 3700, .inl (zA R_given_39))), (ad 17, .inl (cB, 70000, .inl (zA R_texts_40))), (ad 18, .inl (cI, 5000, .inl (zA R_forms))), (ad 19, .inl (cL, 5000, .inr (.inl (zB R_tags)))), (ad 20, .inl (cI, 5000, .inl (zA R_counts))), (ad 21, .inl (cI, 5000, .inl (zA R_textsAt))), (ad 29, .inl (cI, 3, .inl (zA R_of))), (ad 31, .inl (cI, 220, .inl (zA R_comes)))]) X (jrunV X (c_Mod_ofBytes (ad := ad) q41) jF0_k (fun _ _ _ _ => trivial) (jgV own_Mod_does (by decide +kernel)) rfl rfl rfl pd_Mod_ofBytes (by decide) [0, 1, 2, 3, 4, 5, 6, 11] rfl (by decide) 0 10 rfl rfl rfl rfl (Nat.le_of_ble_eq_true rfl) d_Mod_does_56 (by decide)) [0, 1, 2, 3, 4, 5, 6, 11] [7, 8, 9, 10, 12] [5, 6, 7, 8, 9, 10, 11, 0, 1, 2, 3, 12, 4] rfl rfl (by decide) (by decide) rfl (by decide) ?_
        cases h
        exact J_ret E ⟨_, rfl, rfl⟩ d_Mod_does_59 (Nat.le_refl _) (Nat.le_refl _) rfl
    · refine J_aload_n X d_Mod_does_20 rfl 0 rfl ?_
      refine J_iload_n X d_Mod_does_21 rfl 1 rfl ?_
      refine J_aload_n X d_Mod_does_22 rfl 0 rfl ?_
      refine J_get X (j_in in_Mod) 0 rfl rfl 11 (by decide) (j_m own_Mod_does (by decide +kernel)) rfl d_Mod_does_23 ?_
      refine J_aload_n X d_Mod_does_26 rfl 0 rfl ?_
      refine J_get X (j_in in_Mod) 0 rfl rfl 48 (by decide) (j_m own_Mod_does (by decide +kernel)) rfl d_Mod_does_27 ?_
      refine J_iconst X d_Mod_does_30 ?_
      obtain ⟨g42, h⟩ := wk_g h
      refine J_iald X 11 0 rfl rfl g42 d_Mod_does_31 ?_
      obtain ⟨g43, h⟩ := wk_g h
      refine J_lald X 2 1 rfl rfl g43 d_Mod_does_32 ?_
      refine J_aload_n X d_Mod_does_33 rfl 0 rfl ?_
      refine J_get X (j_in in_Mod) 0 rfl rfl 11 (by decide) (j_m own_Mod_does (by decide +kernel)) rfl d_Mod_does_34 ?_
      refine J_aload_n X d_Mod_does_37 rfl 0 rfl ?_
      refine J_get X (j_in in_Mod) 0 rfl rfl 48 (by decide) (j_m own_Mod_does (by decide +kernel)) rfl d_Mod_does_38 ?_
      refine J_iconst X d_Mod_does_41 ?_
      obtain ⟨g44, h⟩ := wk_g h
      refine J_iald X 11 0 rfl rfl g44 d_Mod_does_42 ?_
      obtain ⟨g45, h⟩ := wk_g h
      refine J_lald X 2 1 rfl rfl g45 d_Mod_does_43 ?_
      obtain ⟨r46, R_values_47, R_fault_48, R_valueKinds_49, R_valueNumbers_50, R_given_51, q52, h⟩ := wk_b6 h
      refine J_afterI0 (ws' := [(ad 0, .inr (10, [.int (zI R_thrown), .ref (ad 1), .ref (ad 2), .ref (ad 3), .ref (ad 4), .ref (ad 5), .ref (ad 6), .int (zI R_used), .ref (ad 7), .int (zI R_many), .ref (ad 8), .ref (ad 9), .ref (ad 10), .ref (ad 11), .ref (ad 12), .ref (ad 13), .ref (ad 14), .ref (ad 15), .ref (ad 16), .int (zI R_values_47), .ref (ad 17), .int (zI R_textEnd), .ref (ad 18), .ref (ad 19), .ref (ad 20), .ref (ad 21), .int (zI R_dataEnd), .ref (ad 22), .int (zI R_rowEnd), .ref (ad 23), .ref (ad 24), .int (zI R_rowMany), .ref (ad 25), .ref (ad 26), .ref (ad 27), .ref (ad 28), .int (zI R_waiting), .int (zI R_mostWaiting), .int (zI R_answer), .int (zI R_steps), .int (zI R_memory), .int (zI R_maxSteps), .int (zI R_maxMemory), .int (zI R_fault_48), .int (zI R_result), .int (zI R_now), .int (zI R_nowRow), .int (zI R_come), .ref (ad 29), .ref (ad 30), .int (zI R_puts), .ref (ad 31)])), (ad 8, .inl (cI, 3700, .inl (zA R_valueKinds_49))), (ad 9, .inl (cL, 3700, .inr (.inl (zB R_valueNumbers_50)))), (ad 10, .inl (cI, 3700, .inl (zA R_from))), (ad 11, .inl (cI, 3700, .inl (zA R_length))), (ad 14, .inl (cI, 3700, .inl (zA R_given_51))), (ad 17, .inl (cB, 70000, .inl (zA R_texts))), (ad 18, .inl (cI, 5000, .inl (zA R_forms))), (ad 19, .inl (cL, 5000, .inr (.inl (zB R_tags)))), (ad 20, .inl (cI, 5000, .inl (zA R_counts))), (ad 21, .inl (cI, 5000, .inl (zA R_textsAt))), (ad 29, .inl (cI, 3, .inl (zA R_of))), (ad 31, .inl (cI, 220, .inl (zA R_comes)))]) X (jrunV X (c_Mod_sums (ad := ad) q52) jF0_k (fun _ _ _ _ => trivial) (jgV own_Mod_does (by decide +kernel)) rfl rfl rfl pd_Mod_sums (by decide) [0, 1, 2, 5] rfl (by decide) 0 10 rfl rfl rfl rfl (Nat.le_of_ble_eq_true rfl) d_Mod_does_44 (by decide)) [0, 1, 2, 5] [3, 4, 6, 7, 8, 9, 10, 11, 12] [9, 10, 11, 0, 1, 12, 2, 3, 4, 5, 6, 7, 8] rfl rfl (by decide) (by decide) rfl (by decide) ?_
      cases h
      exact J_ret E ⟨_, rfl, rfl⟩ d_Mod_does_47 (Nat.le_refl _) (Nat.le_refl _) rfl
  · refine J_aload_n X d_Mod_does_8 rfl 0 rfl ?_
    refine J_iconst X d_Mod_does_9 ?_
    obtain ⟨r53, R_fault_54, q55, h⟩ := wk_b2 h
    refine J_afterI0 (ws' := [(ad 0, .inr (10, [.int (zI R_thrown), .ref (ad 1), .ref (ad 2), .ref (ad 3), .ref (ad 4), .ref (ad 5), .ref (ad 6), .int (zI R_used), .ref (ad 7), .int (zI R_many), .ref (ad 8), .ref (ad 9), .ref (ad 10), .ref (ad 11), .ref (ad 12), .ref (ad 13), .ref (ad 14), .ref (ad 15), .ref (ad 16), .int (zI R_values), .ref (ad 17), .int (zI R_textEnd), .ref (ad 18), .ref (ad 19), .ref (ad 20), .ref (ad 21), .int (zI R_dataEnd), .ref (ad 22), .int (zI R_rowEnd), .ref (ad 23), .ref (ad 24), .int (zI R_rowMany), .ref (ad 25), .ref (ad 26), .ref (ad 27), .ref (ad 28), .int (zI R_waiting), .int (zI R_mostWaiting), .int (zI R_answer), .int (zI R_steps), .int (zI R_memory), .int (zI R_maxSteps), .int (zI R_maxMemory), .int (zI R_fault_54), .int (zI R_result), .int (zI R_now), .int (zI R_nowRow), .int (zI R_come), .ref (ad 29), .ref (ad 30), .int (zI R_puts), .ref (ad 31)])), (ad 8, .inl (cI, 3700, .inl (zA R_valueKinds))), (ad 9, .inl (cL, 3700, .inr (.inl (zB R_valueNumbers)))), (ad 10, .inl (cI, 3700, .inl (zA R_from))), (ad 11, .inl (cI, 3700, .inl (zA R_length))), (ad 14, .inl (cI, 3700, .inl (zA R_given))), (ad 17, .inl (cB, 70000, .inl (zA R_texts))), (ad 18, .inl (cI, 5000, .inl (zA R_forms))), (ad 19, .inl (cL, 5000, .inr (.inl (zB R_tags)))), (ad 20, .inl (cI, 5000, .inl (zA R_counts))), (ad 21, .inl (cI, 5000, .inl (zA R_textsAt))), (ad 29, .inl (cI, 3, .inl (zA R_of))), (ad 31, .inl (cI, 220, .inl (zA R_comes)))]) X (jrunV X (c_Mod_fail (ad := ad) q55) jF0_k (fun _ _ _ _ => trivial) (jgV own_Mod_does (by decide +kernel)) rfl rfl rfl pd_Mod_fail (by decide) [0] rfl (by decide) 0 10 rfl rfl rfl rfl (Nat.le_of_ble_eq_true rfl) d_Mod_does_10 (by decide)) [0] [1, 2, 3, 4, 5, 6, 7, 8, 9, 10, 11, 12] [12, 0, 1, 2, 3, 4, 5, 6, 7, 8, 9, 10, 11] rfl rfl (by decide) (by decide) rfl (by decide) ?_
    cases h
    exact J_ret E ⟨_, rfl, rfl⟩ d_Mod_does_13 (Nat.le_refl _) (Nat.le_refl _) rfl

theorem d_Mod_step_0 : decode b_Mod_step 0 = .ok (.aload_n 0, 1) := by decide +kernel
theorem d_Mod_step_1 : decode b_Mod_step 1 = .ok (.getfield 247, 3) := by decide +kernel
theorem d_Mod_step_4 : decode b_Mod_step 4 = .ok (.iload_n 1, 1) := by decide +kernel
theorem d_Mod_step_5 : decode b_Mod_step 5 = .ok (.iadd, 1) := by decide +kernel
theorem d_Mod_step_6 : decode b_Mod_step 6 = .ok (.aload_n 0, 1) := by decide +kernel
theorem d_Mod_step_7 : decode b_Mod_step 7 = .ok (.getfield 250, 3) := by decide +kernel
theorem d_Mod_step_10 : decode b_Mod_step 10 = .ok (.if_icmp .le 11, 3) := by decide +kernel
theorem d_Mod_step_13 : decode b_Mod_step 13 = .ok (.aload_n 0, 1) := by decide +kernel
theorem d_Mod_step_14 : decode b_Mod_step 14 = .ok (.iconst 4, 1) := by decide +kernel
theorem d_Mod_step_15 : decode b_Mod_step 15 = .ok (.invokevirtual 183, 3) := by decide +kernel
theorem d_Mod_step_18 : decode b_Mod_step 18 = .ok (.istore_n 2, 1) := by decide +kernel
theorem d_Mod_step_19 : decode b_Mod_step 19 = .ok (.iconst 0, 1) := by decide +kernel
theorem d_Mod_step_20 : decode b_Mod_step 20 = .ok (.ireturn, 1) := by decide +kernel
theorem d_Mod_step_21 : decode b_Mod_step 21 = .ok (.aload_n 0, 1) := by decide +kernel
theorem d_Mod_step_22 : decode b_Mod_step 22 = .ok (.dup, 1) := by decide +kernel
theorem d_Mod_step_23 : decode b_Mod_step 23 = .ok (.getfield 247, 3) := by decide +kernel
theorem d_Mod_step_26 : decode b_Mod_step 26 = .ok (.iload_n 1, 1) := by decide +kernel
theorem d_Mod_step_27 : decode b_Mod_step 27 = .ok (.iadd, 1) := by decide +kernel
theorem d_Mod_step_28 : decode b_Mod_step 28 = .ok (.putfield 247, 3) := by decide +kernel
theorem d_Mod_step_31 : decode b_Mod_step 31 = .ok (.iconst 1, 1) := by decide +kernel
theorem d_Mod_step_32 : decode b_Mod_step 32 = .ok (.ireturn, 1) := by decide +kernel
def f_Mod_step (R_steps : Int) (R_maxSteps : Int) (R_fault : Int) (p1 : Int) : Option (Int × Int × Int) :=
  if jr2 (R_steps + p1) R_maxSteps = true then (if (R_steps + p1) ≤ R_maxSteps then (
   some (1, (R_steps + p1), R_fault)) else (
   ob2 (f_Mod_fail R_fault 4) (fun r2 R_fault_3 =>
    some (0, R_steps, R_fault_3)))) else none
set_option maxHeartbeats 4000000 in
set_option maxRecDepth 100000 in
theorem c_Mod_step {l : Launch} {D : va_G} {cI cL cB : ClassId} {ad : Nat → Nat} {R_thrown : Int} {R_used : Int} {R_many : Int} {R_values : Int} {R_textEnd : Int} {R_dataEnd : Int} {R_rowEnd : Int} {R_rowMany : Int} {R_waiting : Int} {R_mostWaiting : Int} {R_answer : Int} {R_steps : Int} {R_memory : Int} {R_maxSteps : Int} {R_maxMemory : Int} {R_fault : Int} {R_result : Int} {R_now : Int} {R_nowRow : Int} {R_come : Int} {R_puts : Int} {p1 : Int} {out : Int × Int × Int} (h : f_Mod_step R_steps R_maxSteps R_fault p1 = some out) : CT jF0 false l D [(cI, .int), (cL, .long), (cB, .byte)] y_Mod_step w_Mod_step ({ frames := 1, cells := 0, slots := 0, locals := 21 } : Room) [.ref (ad 0), .int (zI p1)] [(ad 0, .inr (10, [.int (zI R_thrown), .ref (ad 1), .ref (ad 2), .ref (ad 3), .ref (ad 4), .ref (ad 5), .ref (ad 6), .int (zI R_used), .ref (ad 7), .int (zI R_many), .ref (ad 8), .ref (ad 9), .ref (ad 10), .ref (ad 11), .ref (ad 12), .ref (ad 13), .ref (ad 14), .ref (ad 15), .ref (ad 16), .int (zI R_values), .ref (ad 17), .int (zI R_textEnd), .ref (ad 18), .ref (ad 19), .ref (ad 20), .ref (ad 21), .int (zI R_dataEnd), .ref (ad 22), .int (zI R_rowEnd), .ref (ad 23), .ref (ad 24), .int (zI R_rowMany), .ref (ad 25), .ref (ad 26), .ref (ad 27), .ref (ad 28), .int (zI R_waiting), .int (zI R_mostWaiting), .int (zI R_answer), .int (zI R_steps), .int (zI R_memory), .int (zI R_maxSteps), .int (zI R_maxMemory), .int (zI R_fault), .int (zI R_result), .int (zI R_now), .int (zI R_nowRow), .int (zI R_come), .ref (ad 29), .ref (ad 30), .int (zI R_puts), .ref (ad 31)]))] (some (.int (zI out.1))) [(ad 0, .inr (10, [.int (zI R_thrown), .ref (ad 1), .ref (ad 2), .ref (ad 3), .ref (ad 4), .ref (ad 5), .ref (ad 6), .int (zI R_used), .ref (ad 7), .int (zI R_many), .ref (ad 8), .ref (ad 9), .ref (ad 10), .ref (ad 11), .ref (ad 12), .ref (ad 13), .ref (ad 14), .ref (ad 15), .ref (ad 16), .int (zI R_values), .ref (ad 17), .int (zI R_textEnd), .ref (ad 18), .ref (ad 19), .ref (ad 20), .ref (ad 21), .int (zI R_dataEnd), .ref (ad 22), .int (zI R_rowEnd), .ref (ad 23), .ref (ad 24), .int (zI R_rowMany), .ref (ad 25), .ref (ad 26), .ref (ad 27), .ref (ad 28), .int (zI R_waiting), .int (zI R_mostWaiting), .int (zI R_answer), .int (zI (out.2.1)), .int (zI R_memory), .int (zI R_maxSteps), .int (zI R_maxMemory), .int (zI (out.2.2)), .int (zI R_result), .int (zI R_now), .int (zI R_nowRow), .int (zI R_come), .ref (ad 29), .ref (ad 30), .int (zI R_puts), .ref (ad 31)]))] 0 0 := by
  refine CT_of_J (cc := b_Mod_step) (maxL := 3) (ret := (some .boolean)) jF0_k (plainFor_of_name (by decide)) rfl (Nat.le_of_ble_eq_true rfl) ?_
  intro K hKl hKD X E
  subst hKl; subst hKD
  unfold f_Mod_step at h
  refine J_aload_n X d_Mod_step_0 rfl 0 rfl ?_
  refine J_get X (j_in in_Mod) 0 rfl rfl 39 (by decide) (j_m own_Mod_step (by decide +kernel)) rfl d_Mod_step_1 ?_
  refine J_iload_n X d_Mod_step_4 rfl 1 rfl ?_
  refine J_iadd X d_Mod_step_5 ?_
  refine J_aload_n X d_Mod_step_6 rfl 0 rfl ?_
  refine J_get X (j_in in_Mod) 0 rfl rfl 41 (by decide) (j_m own_Mod_step (by decide +kernel)) rfl d_Mod_step_7 ?_
  refine J_icmp_le (tgt := 21) X d_Mod_step_10 (by decide) h (fun c1 h => ?_) (fun c1 h => ?_)
  · refine J_aload_n X d_Mod_step_21 rfl 0 rfl ?_
    refine J_dup X d_Mod_step_22 rfl ?_
    refine J_get X (j_in in_Mod) 0 rfl rfl 39 (by decide) (j_m own_Mod_step (by decide +kernel)) rfl d_Mod_step_23 ?_
    refine J_iload_n X d_Mod_step_26 rfl 1 rfl ?_
    refine J_iadd X d_Mod_step_27 ?_
    refine J_put (ws' := [(ad 0, .inr (10, [.int (zI R_thrown), .ref (ad 1), .ref (ad 2), .ref (ad 3), .ref (ad 4), .ref (ad 5), .ref (ad 6), .int (zI R_used), .ref (ad 7), .int (zI R_many), .ref (ad 8), .ref (ad 9), .ref (ad 10), .ref (ad 11), .ref (ad 12), .ref (ad 13), .ref (ad 14), .ref (ad 15), .ref (ad 16), .int (zI R_values), .ref (ad 17), .int (zI R_textEnd), .ref (ad 18), .ref (ad 19), .ref (ad 20), .ref (ad 21), .int (zI R_dataEnd), .ref (ad 22), .int (zI R_rowEnd), .ref (ad 23), .ref (ad 24), .int (zI R_rowMany), .ref (ad 25), .ref (ad 26), .ref (ad 27), .ref (ad 28), .int (zI R_waiting), .int (zI R_mostWaiting), .int (zI R_answer), .int (zI (R_steps + p1)), .int (zI R_memory), .int (zI R_maxSteps), .int (zI R_maxMemory), .int (zI R_fault), .int (zI R_result), .int (zI R_now), .int (zI R_nowRow), .int (zI R_come), .ref (ad 29), .ref (ad 30), .int (zI R_puts), .ref (ad 31)]))]) X (j_in in_Mod) ty_Mod tok_Mod nm_Mod 0 rfl rfl 39 (by decide) (j_m own_Mod_step (by decide +kernel)) rfl rfl rfl (Nat.le_of_ble_eq_true rfl) d_Mod_step_28 rfl ?_
    refine J_iconst X d_Mod_step_31 ?_
    cases h
    exact J_ret E ⟨_, rfl, j_bool (Or.inr rfl)⟩ d_Mod_step_32 (Nat.le_refl _) (Nat.le_refl _) rfl
  · refine J_aload_n X d_Mod_step_13 rfl 0 rfl ?_
    refine J_iconst X d_Mod_step_14 ?_
    obtain ⟨r2, R_fault_3, q4, h⟩ := wk_b2 h
    refine J_afterI0 (ws' := [(ad 0, .inr (10, [.int (zI R_thrown), .ref (ad 1), .ref (ad 2), .ref (ad 3), .ref (ad 4), .ref (ad 5), .ref (ad 6), .int (zI R_used), .ref (ad 7), .int (zI R_many), .ref (ad 8), .ref (ad 9), .ref (ad 10), .ref (ad 11), .ref (ad 12), .ref (ad 13), .ref (ad 14), .ref (ad 15), .ref (ad 16), .int (zI R_values), .ref (ad 17), .int (zI R_textEnd), .ref (ad 18), .ref (ad 19), .ref (ad 20), .ref (ad 21), .int (zI R_dataEnd), .ref (ad 22), .int (zI R_rowEnd), .ref (ad 23), .ref (ad 24), .int (zI R_rowMany), .ref (ad 25), .ref (ad 26), .ref (ad 27), .ref (ad 28), .int (zI R_waiting), .int (zI R_mostWaiting), .int (zI R_answer), .int (zI R_steps), .int (zI R_memory), .int (zI R_maxSteps), .int (zI R_maxMemory), .int (zI R_fault_3), .int (zI R_result), .int (zI R_now), .int (zI R_nowRow), .int (zI R_come), .ref (ad 29), .ref (ad 30), .int (zI R_puts), .ref (ad 31)]))]) X (jrunV X (c_Mod_fail (ad := ad) q4) jF0_k (fun _ _ _ _ => trivial) (jgV own_Mod_step (by decide +kernel)) rfl rfl rfl pd_Mod_fail (by decide) [0] rfl (by decide) 0 10 rfl rfl rfl rfl (Nat.le_of_ble_eq_true rfl) d_Mod_step_15 (by decide)) [0] [] [0] rfl rfl (by decide) (by decide) rfl (by decide) ?_
    refine J_istore_n (lv' := [(2, .int (zI r2)), (0, .ref (ad 0)), (1, .int (zI p1))]) X d_Mod_step_18 rfl (by decide) rfl ?_
    refine J_iconst X d_Mod_step_19 ?_
    cases h
    exact J_ret E ⟨_, rfl, j_bool (Or.inl rfl)⟩ d_Mod_step_20 (Nat.le_refl _) (Nat.le_refl _) rfl

theorem d_Mod_keep_0 : decode b_Mod_keep 0 = .ok (.aload_n 0, 1) := by decide +kernel
theorem d_Mod_keep_1 : decode b_Mod_keep 1 = .ok (.getfield 253, 3) := by decide +kernel
theorem d_Mod_keep_4 : decode b_Mod_keep 4 = .ok (.iload_n 1, 1) := by decide +kernel
theorem d_Mod_keep_5 : decode b_Mod_keep 5 = .ok (.iadd, 1) := by decide +kernel
theorem d_Mod_keep_6 : decode b_Mod_keep 6 = .ok (.aload_n 0, 1) := by decide +kernel
theorem d_Mod_keep_7 : decode b_Mod_keep 7 = .ok (.getfield 256, 3) := by decide +kernel
theorem d_Mod_keep_10 : decode b_Mod_keep 10 = .ok (.if_icmp .le 11, 3) := by decide +kernel
theorem d_Mod_keep_13 : decode b_Mod_keep 13 = .ok (.aload_n 0, 1) := by decide +kernel
theorem d_Mod_keep_14 : decode b_Mod_keep 14 = .ok (.iconst 5, 1) := by decide +kernel
theorem d_Mod_keep_15 : decode b_Mod_keep 15 = .ok (.invokevirtual 183, 3) := by decide +kernel
theorem d_Mod_keep_18 : decode b_Mod_keep 18 = .ok (.istore_n 2, 1) := by decide +kernel
theorem d_Mod_keep_19 : decode b_Mod_keep 19 = .ok (.iconst 0, 1) := by decide +kernel
theorem d_Mod_keep_20 : decode b_Mod_keep 20 = .ok (.ireturn, 1) := by decide +kernel
theorem d_Mod_keep_21 : decode b_Mod_keep 21 = .ok (.aload_n 0, 1) := by decide +kernel
theorem d_Mod_keep_22 : decode b_Mod_keep 22 = .ok (.dup, 1) := by decide +kernel
theorem d_Mod_keep_23 : decode b_Mod_keep 23 = .ok (.getfield 253, 3) := by decide +kernel
theorem d_Mod_keep_26 : decode b_Mod_keep 26 = .ok (.iload_n 1, 1) := by decide +kernel
theorem d_Mod_keep_27 : decode b_Mod_keep 27 = .ok (.iadd, 1) := by decide +kernel
theorem d_Mod_keep_28 : decode b_Mod_keep 28 = .ok (.putfield 253, 3) := by decide +kernel
theorem d_Mod_keep_31 : decode b_Mod_keep 31 = .ok (.iconst 1, 1) := by decide +kernel
theorem d_Mod_keep_32 : decode b_Mod_keep 32 = .ok (.ireturn, 1) := by decide +kernel
def f_Mod_keep (R_memory : Int) (R_maxMemory : Int) (R_fault : Int) (p1 : Int) : Option (Int × Int × Int) :=
  if jr2 (R_memory + p1) R_maxMemory = true then (if (R_memory + p1) ≤ R_maxMemory then (
   some (1, (R_memory + p1), R_fault)) else (
   ob2 (f_Mod_fail R_fault 5) (fun r2 R_fault_3 =>
    some (0, R_memory, R_fault_3)))) else none
set_option maxHeartbeats 4000000 in
set_option maxRecDepth 100000 in
theorem c_Mod_keep {l : Launch} {D : va_G} {cI cL cB : ClassId} {ad : Nat → Nat} {R_thrown : Int} {R_used : Int} {R_many : Int} {R_values : Int} {R_textEnd : Int} {R_dataEnd : Int} {R_rowEnd : Int} {R_rowMany : Int} {R_waiting : Int} {R_mostWaiting : Int} {R_answer : Int} {R_steps : Int} {R_memory : Int} {R_maxSteps : Int} {R_maxMemory : Int} {R_fault : Int} {R_result : Int} {R_now : Int} {R_nowRow : Int} {R_come : Int} {R_puts : Int} {p1 : Int} {out : Int × Int × Int} (h : f_Mod_keep R_memory R_maxMemory R_fault p1 = some out) : CT jF0 false l D [(cI, .int), (cL, .long), (cB, .byte)] y_Mod_keep w_Mod_keep ({ frames := 1, cells := 0, slots := 0, locals := 21 } : Room) [.ref (ad 0), .int (zI p1)] [(ad 0, .inr (10, [.int (zI R_thrown), .ref (ad 1), .ref (ad 2), .ref (ad 3), .ref (ad 4), .ref (ad 5), .ref (ad 6), .int (zI R_used), .ref (ad 7), .int (zI R_many), .ref (ad 8), .ref (ad 9), .ref (ad 10), .ref (ad 11), .ref (ad 12), .ref (ad 13), .ref (ad 14), .ref (ad 15), .ref (ad 16), .int (zI R_values), .ref (ad 17), .int (zI R_textEnd), .ref (ad 18), .ref (ad 19), .ref (ad 20), .ref (ad 21), .int (zI R_dataEnd), .ref (ad 22), .int (zI R_rowEnd), .ref (ad 23), .ref (ad 24), .int (zI R_rowMany), .ref (ad 25), .ref (ad 26), .ref (ad 27), .ref (ad 28), .int (zI R_waiting), .int (zI R_mostWaiting), .int (zI R_answer), .int (zI R_steps), .int (zI R_memory), .int (zI R_maxSteps), .int (zI R_maxMemory), .int (zI R_fault), .int (zI R_result), .int (zI R_now), .int (zI R_nowRow), .int (zI R_come), .ref (ad 29), .ref (ad 30), .int (zI R_puts), .ref (ad 31)]))] (some (.int (zI out.1))) [(ad 0, .inr (10, [.int (zI R_thrown), .ref (ad 1), .ref (ad 2), .ref (ad 3), .ref (ad 4), .ref (ad 5), .ref (ad 6), .int (zI R_used), .ref (ad 7), .int (zI R_many), .ref (ad 8), .ref (ad 9), .ref (ad 10), .ref (ad 11), .ref (ad 12), .ref (ad 13), .ref (ad 14), .ref (ad 15), .ref (ad 16), .int (zI R_values), .ref (ad 17), .int (zI R_textEnd), .ref (ad 18), .ref (ad 19), .ref (ad 20), .ref (ad 21), .int (zI R_dataEnd), .ref (ad 22), .int (zI R_rowEnd), .ref (ad 23), .ref (ad 24), .int (zI R_rowMany), .ref (ad 25), .ref (ad 26), .ref (ad 27), .ref (ad 28), .int (zI R_waiting), .int (zI R_mostWaiting), .int (zI R_answer), .int (zI R_steps), .int (zI (out.2.1)), .int (zI R_maxSteps), .int (zI R_maxMemory), .int (zI (out.2.2)), .int (zI R_result), .int (zI R_now), .int (zI R_nowRow), .int (zI R_come), .ref (ad 29), .ref (ad 30), .int (zI R_puts), .ref (ad 31)]))] 0 0 := by
  refine CT_of_J (cc := b_Mod_keep) (maxL := 3) (ret := (some .boolean)) jF0_k (plainFor_of_name (by decide)) rfl (Nat.le_of_ble_eq_true rfl) ?_
  intro K hKl hKD X E
  subst hKl; subst hKD
  unfold f_Mod_keep at h
  refine J_aload_n X d_Mod_keep_0 rfl 0 rfl ?_
  refine J_get X (j_in in_Mod) 0 rfl rfl 40 (by decide) (j_m own_Mod_keep (by decide +kernel)) rfl d_Mod_keep_1 ?_
  refine J_iload_n X d_Mod_keep_4 rfl 1 rfl ?_
  refine J_iadd X d_Mod_keep_5 ?_
  refine J_aload_n X d_Mod_keep_6 rfl 0 rfl ?_
  refine J_get X (j_in in_Mod) 0 rfl rfl 42 (by decide) (j_m own_Mod_keep (by decide +kernel)) rfl d_Mod_keep_7 ?_
  refine J_icmp_le (tgt := 21) X d_Mod_keep_10 (by decide) h (fun c1 h => ?_) (fun c1 h => ?_)
  · refine J_aload_n X d_Mod_keep_21 rfl 0 rfl ?_
    refine J_dup X d_Mod_keep_22 rfl ?_
    refine J_get X (j_in in_Mod) 0 rfl rfl 40 (by decide) (j_m own_Mod_keep (by decide +kernel)) rfl d_Mod_keep_23 ?_
    refine J_iload_n X d_Mod_keep_26 rfl 1 rfl ?_
    refine J_iadd X d_Mod_keep_27 ?_
    refine J_put (ws' := [(ad 0, .inr (10, [.int (zI R_thrown), .ref (ad 1), .ref (ad 2), .ref (ad 3), .ref (ad 4), .ref (ad 5), .ref (ad 6), .int (zI R_used), .ref (ad 7), .int (zI R_many), .ref (ad 8), .ref (ad 9), .ref (ad 10), .ref (ad 11), .ref (ad 12), .ref (ad 13), .ref (ad 14), .ref (ad 15), .ref (ad 16), .int (zI R_values), .ref (ad 17), .int (zI R_textEnd), .ref (ad 18), .ref (ad 19), .ref (ad 20), .ref (ad 21), .int (zI R_dataEnd), .ref (ad 22), .int (zI R_rowEnd), .ref (ad 23), .ref (ad 24), .int (zI R_rowMany), .ref (ad 25), .ref (ad 26), .ref (ad 27), .ref (ad 28), .int (zI R_waiting), .int (zI R_mostWaiting), .int (zI R_answer), .int (zI R_steps), .int (zI (R_memory + p1)), .int (zI R_maxSteps), .int (zI R_maxMemory), .int (zI R_fault), .int (zI R_result), .int (zI R_now), .int (zI R_nowRow), .int (zI R_come), .ref (ad 29), .ref (ad 30), .int (zI R_puts), .ref (ad 31)]))]) X (j_in in_Mod) ty_Mod tok_Mod nm_Mod 0 rfl rfl 40 (by decide) (j_m own_Mod_keep (by decide +kernel)) rfl rfl rfl (Nat.le_of_ble_eq_true rfl) d_Mod_keep_28 rfl ?_
    refine J_iconst X d_Mod_keep_31 ?_
    cases h
    exact J_ret E ⟨_, rfl, j_bool (Or.inr rfl)⟩ d_Mod_keep_32 (Nat.le_refl _) (Nat.le_refl _) rfl
  · refine J_aload_n X d_Mod_keep_13 rfl 0 rfl ?_
    refine J_iconst X d_Mod_keep_14 ?_
    obtain ⟨r2, R_fault_3, q4, h⟩ := wk_b2 h
    refine J_afterI0 (ws' := [(ad 0, .inr (10, [.int (zI R_thrown), .ref (ad 1), .ref (ad 2), .ref (ad 3), .ref (ad 4), .ref (ad 5), .ref (ad 6), .int (zI R_used), .ref (ad 7), .int (zI R_many), .ref (ad 8), .ref (ad 9), .ref (ad 10), .ref (ad 11), .ref (ad 12), .ref (ad 13), .ref (ad 14), .ref (ad 15), .ref (ad 16), .int (zI R_values), .ref (ad 17), .int (zI R_textEnd), .ref (ad 18), .ref (ad 19), .ref (ad 20), .ref (ad 21), .int (zI R_dataEnd), .ref (ad 22), .int (zI R_rowEnd), .ref (ad 23), .ref (ad 24), .int (zI R_rowMany), .ref (ad 25), .ref (ad 26), .ref (ad 27), .ref (ad 28), .int (zI R_waiting), .int (zI R_mostWaiting), .int (zI R_answer), .int (zI R_steps), .int (zI R_memory), .int (zI R_maxSteps), .int (zI R_maxMemory), .int (zI R_fault_3), .int (zI R_result), .int (zI R_now), .int (zI R_nowRow), .int (zI R_come), .ref (ad 29), .ref (ad 30), .int (zI R_puts), .ref (ad 31)]))]) X (jrunV X (c_Mod_fail (ad := ad) q4) jF0_k (fun _ _ _ _ => trivial) (jgV own_Mod_keep (by decide +kernel)) rfl rfl rfl pd_Mod_fail (by decide) [0] rfl (by decide) 0 10 rfl rfl rfl rfl (Nat.le_of_ble_eq_true rfl) d_Mod_keep_15 (by decide)) [0] [] [0] rfl rfl (by decide) (by decide) rfl (by decide) ?_
    refine J_istore_n (lv' := [(2, .int (zI r2)), (0, .ref (ad 0)), (1, .int (zI p1))]) X d_Mod_keep_18 rfl (by decide) rfl ?_
    refine J_iconst X d_Mod_keep_19 ?_
    cases h
    exact J_ret E ⟨_, rfl, j_bool (Or.inl rfl)⟩ d_Mod_keep_20 (Nat.le_refl _) (Nat.le_refl _) rfl

theorem d_Mod_comes_0 : decode b_Mod_comes 0 = .ok (.aload_n 0, 1) := by decide +kernel
theorem d_Mod_comes_1 : decode b_Mod_comes 1 = .ok (.iconst (-1), 1) := by decide +kernel
theorem d_Mod_comes_2 : decode b_Mod_comes 2 = .ok (.putfield 259, 3) := by decide +kernel
theorem d_Mod_comes_5 : decode b_Mod_comes 5 = .ok (.aload_n 0, 1) := by decide +kernel
theorem d_Mod_comes_6 : decode b_Mod_comes 6 = .ok (.iload_n 1, 1) := by decide +kernel
theorem d_Mod_comes_7 : decode b_Mod_comes 7 = .ok (.putfield 262, 3) := by decide +kernel
theorem d_Mod_comes_10 : decode b_Mod_comes 10 = .ok (.return_, 1) := by decide +kernel
def f_Mod_comes (R_now : Int) (R_come : Int) (p1 : Int) : Option (Int × Int) :=
  some ((-1), p1)
set_option maxHeartbeats 4000000 in
set_option maxRecDepth 100000 in
theorem c_Mod_comes {l : Launch} {D : va_G} {cI cL cB : ClassId} {ad : Nat → Nat} {R_thrown : Int} {R_used : Int} {R_many : Int} {R_values : Int} {R_textEnd : Int} {R_dataEnd : Int} {R_rowEnd : Int} {R_rowMany : Int} {R_waiting : Int} {R_mostWaiting : Int} {R_answer : Int} {R_steps : Int} {R_memory : Int} {R_maxSteps : Int} {R_maxMemory : Int} {R_fault : Int} {R_result : Int} {R_now : Int} {R_nowRow : Int} {R_come : Int} {R_puts : Int} {p1 : Int} {out : Int × Int} (h : f_Mod_comes R_now R_come p1 = some out) : CT jF0 false l D [(cI, .int), (cL, .long), (cB, .byte)] y_Mod_comes w_Mod_comes ({ frames := 0, cells := 0, slots := 0, locals := 0 } : Room) [.ref (ad 0), .int (zI p1)] [(ad 0, .inr (10, [.int (zI R_thrown), .ref (ad 1), .ref (ad 2), .ref (ad 3), .ref (ad 4), .ref (ad 5), .ref (ad 6), .int (zI R_used), .ref (ad 7), .int (zI R_many), .ref (ad 8), .ref (ad 9), .ref (ad 10), .ref (ad 11), .ref (ad 12), .ref (ad 13), .ref (ad 14), .ref (ad 15), .ref (ad 16), .int (zI R_values), .ref (ad 17), .int (zI R_textEnd), .ref (ad 18), .ref (ad 19), .ref (ad 20), .ref (ad 21), .int (zI R_dataEnd), .ref (ad 22), .int (zI R_rowEnd), .ref (ad 23), .ref (ad 24), .int (zI R_rowMany), .ref (ad 25), .ref (ad 26), .ref (ad 27), .ref (ad 28), .int (zI R_waiting), .int (zI R_mostWaiting), .int (zI R_answer), .int (zI R_steps), .int (zI R_memory), .int (zI R_maxSteps), .int (zI R_maxMemory), .int (zI R_fault), .int (zI R_result), .int (zI R_now), .int (zI R_nowRow), .int (zI R_come), .ref (ad 29), .ref (ad 30), .int (zI R_puts), .ref (ad 31)]))] none [(ad 0, .inr (10, [.int (zI R_thrown), .ref (ad 1), .ref (ad 2), .ref (ad 3), .ref (ad 4), .ref (ad 5), .ref (ad 6), .int (zI R_used), .ref (ad 7), .int (zI R_many), .ref (ad 8), .ref (ad 9), .ref (ad 10), .ref (ad 11), .ref (ad 12), .ref (ad 13), .ref (ad 14), .ref (ad 15), .ref (ad 16), .int (zI R_values), .ref (ad 17), .int (zI R_textEnd), .ref (ad 18), .ref (ad 19), .ref (ad 20), .ref (ad 21), .int (zI R_dataEnd), .ref (ad 22), .int (zI R_rowEnd), .ref (ad 23), .ref (ad 24), .int (zI R_rowMany), .ref (ad 25), .ref (ad 26), .ref (ad 27), .ref (ad 28), .int (zI R_waiting), .int (zI R_mostWaiting), .int (zI R_answer), .int (zI R_steps), .int (zI R_memory), .int (zI R_maxSteps), .int (zI R_maxMemory), .int (zI R_fault), .int (zI R_result), .int (zI (out.1)), .int (zI R_nowRow), .int (zI (out.2)), .ref (ad 29), .ref (ad 30), .int (zI R_puts), .ref (ad 31)]))] 0 0 := by
  refine CT_of_J (cc := b_Mod_comes) (maxL := 2) (ret := none) jF0_k (plainFor_of_name (by decide)) rfl (Nat.le_of_ble_eq_true rfl) ?_
  intro K hKl hKD X E
  subst hKl; subst hKD
  unfold f_Mod_comes at h
  refine J_aload_n X d_Mod_comes_0 rfl 0 rfl ?_
  refine J_iconst X d_Mod_comes_1 ?_
  refine J_put (ws' := [(ad 0, .inr (10, [.int (zI R_thrown), .ref (ad 1), .ref (ad 2), .ref (ad 3), .ref (ad 4), .ref (ad 5), .ref (ad 6), .int (zI R_used), .ref (ad 7), .int (zI R_many), .ref (ad 8), .ref (ad 9), .ref (ad 10), .ref (ad 11), .ref (ad 12), .ref (ad 13), .ref (ad 14), .ref (ad 15), .ref (ad 16), .int (zI R_values), .ref (ad 17), .int (zI R_textEnd), .ref (ad 18), .ref (ad 19), .ref (ad 20), .ref (ad 21), .int (zI R_dataEnd), .ref (ad 22), .int (zI R_rowEnd), .ref (ad 23), .ref (ad 24), .int (zI R_rowMany), .ref (ad 25), .ref (ad 26), .ref (ad 27), .ref (ad 28), .int (zI R_waiting), .int (zI R_mostWaiting), .int (zI R_answer), .int (zI R_steps), .int (zI R_memory), .int (zI R_maxSteps), .int (zI R_maxMemory), .int (zI R_fault), .int (zI R_result), .int (zI (-1)), .int (zI R_nowRow), .int (zI R_come), .ref (ad 29), .ref (ad 30), .int (zI R_puts), .ref (ad 31)]))]) X (j_in in_Mod) ty_Mod tok_Mod nm_Mod 0 rfl rfl 45 (by decide) (j_m own_Mod_comes (by decide +kernel)) rfl rfl rfl (Nat.le_of_ble_eq_true rfl) d_Mod_comes_2 rfl ?_
  refine J_aload_n X d_Mod_comes_5 rfl 0 rfl ?_
  refine J_iload_n X d_Mod_comes_6 rfl 1 rfl ?_
  refine J_put (ws' := [(ad 0, .inr (10, [.int (zI R_thrown), .ref (ad 1), .ref (ad 2), .ref (ad 3), .ref (ad 4), .ref (ad 5), .ref (ad 6), .int (zI R_used), .ref (ad 7), .int (zI R_many), .ref (ad 8), .ref (ad 9), .ref (ad 10), .ref (ad 11), .ref (ad 12), .ref (ad 13), .ref (ad 14), .ref (ad 15), .ref (ad 16), .int (zI R_values), .ref (ad 17), .int (zI R_textEnd), .ref (ad 18), .ref (ad 19), .ref (ad 20), .ref (ad 21), .int (zI R_dataEnd), .ref (ad 22), .int (zI R_rowEnd), .ref (ad 23), .ref (ad 24), .int (zI R_rowMany), .ref (ad 25), .ref (ad 26), .ref (ad 27), .ref (ad 28), .int (zI R_waiting), .int (zI R_mostWaiting), .int (zI R_answer), .int (zI R_steps), .int (zI R_memory), .int (zI R_maxSteps), .int (zI R_maxMemory), .int (zI R_fault), .int (zI R_result), .int (zI (-1)), .int (zI R_nowRow), .int (zI p1), .ref (ad 29), .ref (ad 30), .int (zI R_puts), .ref (ad 31)]))]) X (j_in in_Mod) ty_Mod tok_Mod nm_Mod 0 rfl rfl 47 (by decide) (j_m own_Mod_comes (by decide +kernel)) rfl rfl rfl (Nat.le_of_ble_eq_true rfl) d_Mod_comes_7 rfl ?_
  cases h
  exact J_ret E rfl d_Mod_comes_10 (Nat.le_refl _) (Nat.le_refl _) rfl

theorem d_Mod_wait_0 : decode b_Mod_wait 0 = .ok (.aload_n 0, 1) := by decide +kernel
theorem d_Mod_wait_1 : decode b_Mod_wait 1 = .ok (.getfield 89, 3) := by decide +kernel
theorem d_Mod_wait_4 : decode b_Mod_wait 4 = .ok (.aload_n 0, 1) := by decide +kernel
theorem d_Mod_wait_5 : decode b_Mod_wait 5 = .ok (.getfield 265, 3) := by decide +kernel
theorem d_Mod_wait_8 : decode b_Mod_wait 8 = .ok (.iload_n 1, 1) := by decide +kernel
theorem d_Mod_wait_9 : decode b_Mod_wait 9 = .ok (.iastore, 1) := by decide +kernel
theorem d_Mod_wait_10 : decode b_Mod_wait 10 = .ok (.aload_n 0, 1) := by decide +kernel
theorem d_Mod_wait_11 : decode b_Mod_wait 11 = .ok (.getfield 92, 3) := by decide +kernel
theorem d_Mod_wait_14 : decode b_Mod_wait 14 = .ok (.aload_n 0, 1) := by decide +kernel
theorem d_Mod_wait_15 : decode b_Mod_wait 15 = .ok (.getfield 265, 3) := by decide +kernel
theorem d_Mod_wait_18 : decode b_Mod_wait 18 = .ok (.iload_n 2, 1) := by decide +kernel
theorem d_Mod_wait_19 : decode b_Mod_wait 19 = .ok (.iastore, 1) := by decide +kernel
theorem d_Mod_wait_20 : decode b_Mod_wait 20 = .ok (.aload_n 0, 1) := by decide +kernel
theorem d_Mod_wait_21 : decode b_Mod_wait 21 = .ok (.getfield 95, 3) := by decide +kernel
theorem d_Mod_wait_24 : decode b_Mod_wait 24 = .ok (.aload_n 0, 1) := by decide +kernel
theorem d_Mod_wait_25 : decode b_Mod_wait 25 = .ok (.getfield 265, 3) := by decide +kernel
theorem d_Mod_wait_28 : decode b_Mod_wait 28 = .ok (.iload_n 3, 1) := by decide +kernel
theorem d_Mod_wait_29 : decode b_Mod_wait 29 = .ok (.iastore, 1) := by decide +kernel
theorem d_Mod_wait_30 : decode b_Mod_wait 30 = .ok (.aload_n 0, 1) := by decide +kernel
theorem d_Mod_wait_31 : decode b_Mod_wait 31 = .ok (.dup, 1) := by decide +kernel
theorem d_Mod_wait_32 : decode b_Mod_wait 32 = .ok (.getfield 265, 3) := by decide +kernel
theorem d_Mod_wait_35 : decode b_Mod_wait 35 = .ok (.iconst 1, 1) := by decide +kernel
theorem d_Mod_wait_36 : decode b_Mod_wait 36 = .ok (.iadd, 1) := by decide +kernel
theorem d_Mod_wait_37 : decode b_Mod_wait 37 = .ok (.putfield 265, 3) := by decide +kernel
theorem d_Mod_wait_40 : decode b_Mod_wait 40 = .ok (.aload_n 0, 1) := by decide +kernel
theorem d_Mod_wait_41 : decode b_Mod_wait 41 = .ok (.aload_n 0, 1) := by decide +kernel
theorem d_Mod_wait_42 : decode b_Mod_wait 42 = .ok (.getfield 265, 3) := by decide +kernel
theorem d_Mod_wait_45 : decode b_Mod_wait 45 = .ok (.aload_n 0, 1) := by decide +kernel
theorem d_Mod_wait_46 : decode b_Mod_wait 46 = .ok (.getfield 268, 3) := by decide +kernel
theorem d_Mod_wait_49 : decode b_Mod_wait 49 = .ok (.if_icmp .le 10, 3) := by decide +kernel
theorem d_Mod_wait_52 : decode b_Mod_wait 52 = .ok (.aload_n 0, 1) := by decide +kernel
theorem d_Mod_wait_53 : decode b_Mod_wait 53 = .ok (.getfield 265, 3) := by decide +kernel
theorem d_Mod_wait_56 : decode b_Mod_wait 56 = .ok (.goto 7, 3) := by decide +kernel
theorem d_Mod_wait_59 : decode b_Mod_wait 59 = .ok (.aload_n 0, 1) := by decide +kernel
theorem d_Mod_wait_60 : decode b_Mod_wait 60 = .ok (.getfield 268, 3) := by decide +kernel
theorem d_Mod_wait_63 : decode b_Mod_wait 63 = .ok (.putfield 268, 3) := by decide +kernel
theorem d_Mod_wait_66 : decode b_Mod_wait 66 = .ok (.return_, 1) := by decide +kernel
def f_Mod_wait (R_waiting : Int) (R_mostWaiting : Int) (R_waitKinds : Int → Int) (R_waitNodes : Int → Int) (R_waitOf : Int → Int) (p1 : Int) (p2 : Int) (p3 : Int) : Option (Int × Int × (Int → Int) × (Int → Int) × (Int → Int)) :=
  if jix R_waiting 400 = true then (
   if jix R_waiting 400 = true then (
    if jix R_waiting 400 = true then (
     if jr2 (R_waiting + 1) R_mostWaiting = true then (if (R_waiting + 1) ≤ R_mostWaiting then (
      some ((R_waiting + 1), R_mostWaiting, (upZ R_waitKinds R_waiting p1), (upZ R_waitNodes R_waiting p2), (upZ R_waitOf R_waiting p3))) else (
      some ((R_waiting + 1), (R_waiting + 1), (upZ R_waitKinds R_waiting p1), (upZ R_waitNodes R_waiting p2), (upZ R_waitOf R_waiting p3)))) else none) else none) else none) else none
set_option maxHeartbeats 4000000 in
set_option maxRecDepth 100000 in
theorem c_Mod_wait {l : Launch} {D : va_G} {cI cL cB : ClassId} {ad : Nat → Nat} {R_thrown : Int} {R_used : Int} {R_many : Int} {R_values : Int} {R_textEnd : Int} {R_dataEnd : Int} {R_rowEnd : Int} {R_rowMany : Int} {R_waiting : Int} {R_mostWaiting : Int} {R_answer : Int} {R_steps : Int} {R_memory : Int} {R_maxSteps : Int} {R_maxMemory : Int} {R_fault : Int} {R_result : Int} {R_now : Int} {R_nowRow : Int} {R_come : Int} {R_puts : Int} {R_waitKinds : Int → Int} {R_waitNodes : Int → Int} {R_waitOf : Int → Int} {p1 : Int} {p2 : Int} {p3 : Int} {out : Int × Int × (Int → Int) × (Int → Int) × (Int → Int)} (h : f_Mod_wait R_waiting R_mostWaiting R_waitKinds R_waitNodes R_waitOf p1 p2 p3 = some out) : CT jF0 false l D [(cI, .int), (cL, .long), (cB, .byte)] y_Mod_wait w_Mod_wait ({ frames := 0, cells := 0, slots := 0, locals := 0 } : Room) [.ref (ad 0), .int (zI p1), .int (zI p2), .int (zI p3)] [(ad 0, .inr (10, [.int (zI R_thrown), .ref (ad 1), .ref (ad 2), .ref (ad 3), .ref (ad 4), .ref (ad 5), .ref (ad 6), .int (zI R_used), .ref (ad 7), .int (zI R_many), .ref (ad 8), .ref (ad 9), .ref (ad 10), .ref (ad 11), .ref (ad 12), .ref (ad 13), .ref (ad 14), .ref (ad 15), .ref (ad 16), .int (zI R_values), .ref (ad 17), .int (zI R_textEnd), .ref (ad 18), .ref (ad 19), .ref (ad 20), .ref (ad 21), .int (zI R_dataEnd), .ref (ad 22), .int (zI R_rowEnd), .ref (ad 23), .ref (ad 24), .int (zI R_rowMany), .ref (ad 25), .ref (ad 26), .ref (ad 27), .ref (ad 28), .int (zI R_waiting), .int (zI R_mostWaiting), .int (zI R_answer), .int (zI R_steps), .int (zI R_memory), .int (zI R_maxSteps), .int (zI R_maxMemory), .int (zI R_fault), .int (zI R_result), .int (zI R_now), .int (zI R_nowRow), .int (zI R_come), .ref (ad 29), .ref (ad 30), .int (zI R_puts), .ref (ad 31)])), (ad 26, .inl (cI, 400, .inl (zA R_waitKinds))), (ad 27, .inl (cI, 400, .inl (zA R_waitNodes))), (ad 28, .inl (cI, 400, .inl (zA R_waitOf)))] none [(ad 0, .inr (10, [.int (zI R_thrown), .ref (ad 1), .ref (ad 2), .ref (ad 3), .ref (ad 4), .ref (ad 5), .ref (ad 6), .int (zI R_used), .ref (ad 7), .int (zI R_many), .ref (ad 8), .ref (ad 9), .ref (ad 10), .ref (ad 11), .ref (ad 12), .ref (ad 13), .ref (ad 14), .ref (ad 15), .ref (ad 16), .int (zI R_values), .ref (ad 17), .int (zI R_textEnd), .ref (ad 18), .ref (ad 19), .ref (ad 20), .ref (ad 21), .int (zI R_dataEnd), .ref (ad 22), .int (zI R_rowEnd), .ref (ad 23), .ref (ad 24), .int (zI R_rowMany), .ref (ad 25), .ref (ad 26), .ref (ad 27), .ref (ad 28), .int (zI (out.1)), .int (zI (out.2.1)), .int (zI R_answer), .int (zI R_steps), .int (zI R_memory), .int (zI R_maxSteps), .int (zI R_maxMemory), .int (zI R_fault), .int (zI R_result), .int (zI R_now), .int (zI R_nowRow), .int (zI R_come), .ref (ad 29), .ref (ad 30), .int (zI R_puts), .ref (ad 31)])), (ad 26, .inl (cI, 400, .inl (zA (out.2.2.1)))), (ad 27, .inl (cI, 400, .inl (zA (out.2.2.2.1)))), (ad 28, .inl (cI, 400, .inl (zA (out.2.2.2.2))))] 0 0 := by
  refine CT_of_J (cc := b_Mod_wait) (maxL := 4) (ret := none) jF0_k (plainFor_of_name (by decide)) rfl (Nat.le_of_ble_eq_true rfl) ?_
  intro K hKl hKD X E
  subst hKl; subst hKD
  unfold f_Mod_wait at h
  refine J_aload_n X d_Mod_wait_0 rfl 0 rfl ?_
  refine J_get X (j_in in_Mod) 0 rfl rfl 33 (by decide) (j_m own_Mod_wait (by decide +kernel)) rfl d_Mod_wait_1 ?_
  refine J_aload_n X d_Mod_wait_4 rfl 0 rfl ?_
  refine J_get X (j_in in_Mod) 0 rfl rfl 36 (by decide) (j_m own_Mod_wait (by decide +kernel)) rfl d_Mod_wait_5 ?_
  refine J_iload_n X d_Mod_wait_8 rfl 1 rfl ?_
  obtain ⟨g1, h⟩ := wk_g h
  refine J_iast (ws' := [(ad 0, .inr (10, [.int (zI R_thrown), .ref (ad 1), .ref (ad 2), .ref (ad 3), .ref (ad 4), .ref (ad 5), .ref (ad 6), .int (zI R_used), .ref (ad 7), .int (zI R_many), .ref (ad 8), .ref (ad 9), .ref (ad 10), .ref (ad 11), .ref (ad 12), .ref (ad 13), .ref (ad 14), .ref (ad 15), .ref (ad 16), .int (zI R_values), .ref (ad 17), .int (zI R_textEnd), .ref (ad 18), .ref (ad 19), .ref (ad 20), .ref (ad 21), .int (zI R_dataEnd), .ref (ad 22), .int (zI R_rowEnd), .ref (ad 23), .ref (ad 24), .int (zI R_rowMany), .ref (ad 25), .ref (ad 26), .ref (ad 27), .ref (ad 28), .int (zI R_waiting), .int (zI R_mostWaiting), .int (zI R_answer), .int (zI R_steps), .int (zI R_memory), .int (zI R_maxSteps), .int (zI R_maxMemory), .int (zI R_fault), .int (zI R_result), .int (zI R_now), .int (zI R_nowRow), .int (zI R_come), .ref (ad 29), .ref (ad 30), .int (zI R_puts), .ref (ad 31)])), (ad 26, .inl (cI, 400, .inl (zA (upZ R_waitKinds R_waiting p1)))), (ad 27, .inl (cI, 400, .inl (zA R_waitNodes))), (ad 28, .inl (cI, 400, .inl (zA R_waitOf)))]) X 1 0 rfl rfl g1 d_Mod_wait_9 rfl ?_
  refine J_aload_n X d_Mod_wait_10 rfl 0 rfl ?_
  refine J_get X (j_in in_Mod) 0 rfl rfl 34 (by decide) (j_m own_Mod_wait (by decide +kernel)) rfl d_Mod_wait_11 ?_
  refine J_aload_n X d_Mod_wait_14 rfl 0 rfl ?_
  refine J_get X (j_in in_Mod) 0 rfl rfl 36 (by decide) (j_m own_Mod_wait (by decide +kernel)) rfl d_Mod_wait_15 ?_
  refine J_iload_n X d_Mod_wait_18 rfl 2 rfl ?_
  obtain ⟨g2, h⟩ := wk_g h
  refine J_iast (ws' := [(ad 0, .inr (10, [.int (zI R_thrown), .ref (ad 1), .ref (ad 2), .ref (ad 3), .ref (ad 4), .ref (ad 5), .ref (ad 6), .int (zI R_used), .ref (ad 7), .int (zI R_many), .ref (ad 8), .ref (ad 9), .ref (ad 10), .ref (ad 11), .ref (ad 12), .ref (ad 13), .ref (ad 14), .ref (ad 15), .ref (ad 16), .int (zI R_values), .ref (ad 17), .int (zI R_textEnd), .ref (ad 18), .ref (ad 19), .ref (ad 20), .ref (ad 21), .int (zI R_dataEnd), .ref (ad 22), .int (zI R_rowEnd), .ref (ad 23), .ref (ad 24), .int (zI R_rowMany), .ref (ad 25), .ref (ad 26), .ref (ad 27), .ref (ad 28), .int (zI R_waiting), .int (zI R_mostWaiting), .int (zI R_answer), .int (zI R_steps), .int (zI R_memory), .int (zI R_maxSteps), .int (zI R_maxMemory), .int (zI R_fault), .int (zI R_result), .int (zI R_now), .int (zI R_nowRow), .int (zI R_come), .ref (ad 29), .ref (ad 30), .int (zI R_puts), .ref (ad 31)])), (ad 26, .inl (cI, 400, .inl (zA (upZ R_waitKinds R_waiting p1)))), (ad 27, .inl (cI, 400, .inl (zA (upZ R_waitNodes R_waiting p2)))), (ad 28, .inl (cI, 400, .inl (zA R_waitOf)))]) X 2 0 rfl rfl g2 d_Mod_wait_19 rfl ?_
  refine J_aload_n X d_Mod_wait_20 rfl 0 rfl ?_
  refine J_get X (j_in in_Mod) 0 rfl rfl 35 (by decide) (j_m own_Mod_wait (by decide +kernel)) rfl d_Mod_wait_21 ?_
  refine J_aload_n X d_Mod_wait_24 rfl 0 rfl ?_
  refine J_get X (j_in in_Mod) 0 rfl rfl 36 (by decide) (j_m own_Mod_wait (by decide +kernel)) rfl d_Mod_wait_25 ?_
  refine J_iload_n X d_Mod_wait_28 rfl 3 rfl ?_
  obtain ⟨g3, h⟩ := wk_g h
  refine J_iast (ws' := [(ad 0, .inr (10, [.int (zI R_thrown), .ref (ad 1), .ref (ad 2), .ref (ad 3), .ref (ad 4), .ref (ad 5), .ref (ad 6), .int (zI R_used), .ref (ad 7), .int (zI R_many), .ref (ad 8), .ref (ad 9), .ref (ad 10), .ref (ad 11), .ref (ad 12), .ref (ad 13), .ref (ad 14), .ref (ad 15), .ref (ad 16), .int (zI R_values), .ref (ad 17), .int (zI R_textEnd), .ref (ad 18), .ref (ad 19), .ref (ad 20), .ref (ad 21), .int (zI R_dataEnd), .ref (ad 22), .int (zI R_rowEnd), .ref (ad 23), .ref (ad 24), .int (zI R_rowMany), .ref (ad 25), .ref (ad 26), .ref (ad 27), .ref (ad 28), .int (zI R_waiting), .int (zI R_mostWaiting), .int (zI R_answer), .int (zI R_steps), .int (zI R_memory), .int (zI R_maxSteps), .int (zI R_maxMemory), .int (zI R_fault), .int (zI R_result), .int (zI R_now), .int (zI R_nowRow), .int (zI R_come), .ref (ad 29), .ref (ad 30), .int (zI R_puts), .ref (ad 31)])), (ad 26, .inl (cI, 400, .inl (zA (upZ R_waitKinds R_waiting p1)))), (ad 27, .inl (cI, 400, .inl (zA (upZ R_waitNodes R_waiting p2)))), (ad 28, .inl (cI, 400, .inl (zA (upZ R_waitOf R_waiting p3))))]) X 3 0 rfl rfl g3 d_Mod_wait_29 rfl ?_
  refine J_aload_n X d_Mod_wait_30 rfl 0 rfl ?_
  refine J_dup X d_Mod_wait_31 rfl ?_
  refine J_get X (j_in in_Mod) 0 rfl rfl 36 (by decide) (j_m own_Mod_wait (by decide +kernel)) rfl d_Mod_wait_32 ?_
  refine J_iconst X d_Mod_wait_35 ?_
  refine J_iadd X d_Mod_wait_36 ?_
  refine J_put (ws' := [(ad 0, .inr (10, [.int (zI R_thrown), .ref (ad 1), .ref (ad 2), .ref (ad 3), .ref (ad 4), .ref (ad 5), .ref (ad 6), .int (zI R_used), .ref (ad 7), .int (zI R_many), .ref (ad 8), .ref (ad 9), .ref (ad 10), .ref (ad 11), .ref (ad 12), .ref (ad 13), .ref (ad 14), .ref (ad 15), .ref (ad 16), .int (zI R_values), .ref (ad 17), .int (zI R_textEnd), .ref (ad 18), .ref (ad 19), .ref (ad 20), .ref (ad 21), .int (zI R_dataEnd), .ref (ad 22), .int (zI R_rowEnd), .ref (ad 23), .ref (ad 24), .int (zI R_rowMany), .ref (ad 25), .ref (ad 26), .ref (ad 27), .ref (ad 28), .int (zI (R_waiting + 1)), .int (zI R_mostWaiting), .int (zI R_answer), .int (zI R_steps), .int (zI R_memory), .int (zI R_maxSteps), .int (zI R_maxMemory), .int (zI R_fault), .int (zI R_result), .int (zI R_now), .int (zI R_nowRow), .int (zI R_come), .ref (ad 29), .ref (ad 30), .int (zI R_puts), .ref (ad 31)])), (ad 26, .inl (cI, 400, .inl (zA (upZ R_waitKinds R_waiting p1)))), (ad 27, .inl (cI, 400, .inl (zA (upZ R_waitNodes R_waiting p2)))), (ad 28, .inl (cI, 400, .inl (zA (upZ R_waitOf R_waiting p3))))]) X (j_in in_Mod) ty_Mod tok_Mod nm_Mod 0 rfl rfl 36 (by decide) (j_m own_Mod_wait (by decide +kernel)) rfl rfl rfl (Nat.le_of_ble_eq_true rfl) d_Mod_wait_37 rfl ?_
  refine J_aload_n X d_Mod_wait_40 rfl 0 rfl ?_
  refine J_aload_n X d_Mod_wait_41 rfl 0 rfl ?_
  refine J_get X (j_in in_Mod) 0 rfl rfl 36 (by decide) (j_m own_Mod_wait (by decide +kernel)) rfl d_Mod_wait_42 ?_
  refine J_aload_n X d_Mod_wait_45 rfl 0 rfl ?_
  refine J_get X (j_in in_Mod) 0 rfl rfl 37 (by decide) (j_m own_Mod_wait (by decide +kernel)) rfl d_Mod_wait_46 ?_
  refine J_icmp_le (tgt := 59) X d_Mod_wait_49 (by decide) h (fun c4 h => ?_) (fun c4 h => ?_)
  · refine J_aload_n X d_Mod_wait_59 rfl 0 rfl ?_
    refine J_get X (j_in in_Mod) 0 rfl rfl 37 (by decide) (j_m own_Mod_wait (by decide +kernel)) rfl d_Mod_wait_60 ?_
    refine J_put (ws' := [(ad 0, .inr (10, [.int (zI R_thrown), .ref (ad 1), .ref (ad 2), .ref (ad 3), .ref (ad 4), .ref (ad 5), .ref (ad 6), .int (zI R_used), .ref (ad 7), .int (zI R_many), .ref (ad 8), .ref (ad 9), .ref (ad 10), .ref (ad 11), .ref (ad 12), .ref (ad 13), .ref (ad 14), .ref (ad 15), .ref (ad 16), .int (zI R_values), .ref (ad 17), .int (zI R_textEnd), .ref (ad 18), .ref (ad 19), .ref (ad 20), .ref (ad 21), .int (zI R_dataEnd), .ref (ad 22), .int (zI R_rowEnd), .ref (ad 23), .ref (ad 24), .int (zI R_rowMany), .ref (ad 25), .ref (ad 26), .ref (ad 27), .ref (ad 28), .int (zI (R_waiting + 1)), .int (zI R_mostWaiting), .int (zI R_answer), .int (zI R_steps), .int (zI R_memory), .int (zI R_maxSteps), .int (zI R_maxMemory), .int (zI R_fault), .int (zI R_result), .int (zI R_now), .int (zI R_nowRow), .int (zI R_come), .ref (ad 29), .ref (ad 30), .int (zI R_puts), .ref (ad 31)])), (ad 26, .inl (cI, 400, .inl (zA (upZ R_waitKinds R_waiting p1)))), (ad 27, .inl (cI, 400, .inl (zA (upZ R_waitNodes R_waiting p2)))), (ad 28, .inl (cI, 400, .inl (zA (upZ R_waitOf R_waiting p3))))]) X (j_in in_Mod) ty_Mod tok_Mod nm_Mod 0 rfl rfl 37 (by decide) (j_m own_Mod_wait (by decide +kernel)) rfl rfl rfl (Nat.le_of_ble_eq_true rfl) d_Mod_wait_63 rfl ?_
    cases h
    exact J_ret E rfl d_Mod_wait_66 (Nat.le_refl _) (Nat.le_refl _) rfl
  · refine J_aload_n X d_Mod_wait_52 rfl 0 rfl ?_
    refine J_get X (j_in in_Mod) 0 rfl rfl 36 (by decide) (j_m own_Mod_wait (by decide +kernel)) rfl d_Mod_wait_53 ?_
    refine J_goto (tgt := 63) X d_Mod_wait_56 (by decide) ?_
    refine J_put (ws' := [(ad 0, .inr (10, [.int (zI R_thrown), .ref (ad 1), .ref (ad 2), .ref (ad 3), .ref (ad 4), .ref (ad 5), .ref (ad 6), .int (zI R_used), .ref (ad 7), .int (zI R_many), .ref (ad 8), .ref (ad 9), .ref (ad 10), .ref (ad 11), .ref (ad 12), .ref (ad 13), .ref (ad 14), .ref (ad 15), .ref (ad 16), .int (zI R_values), .ref (ad 17), .int (zI R_textEnd), .ref (ad 18), .ref (ad 19), .ref (ad 20), .ref (ad 21), .int (zI R_dataEnd), .ref (ad 22), .int (zI R_rowEnd), .ref (ad 23), .ref (ad 24), .int (zI R_rowMany), .ref (ad 25), .ref (ad 26), .ref (ad 27), .ref (ad 28), .int (zI (R_waiting + 1)), .int (zI (R_waiting + 1)), .int (zI R_answer), .int (zI R_steps), .int (zI R_memory), .int (zI R_maxSteps), .int (zI R_maxMemory), .int (zI R_fault), .int (zI R_result), .int (zI R_now), .int (zI R_nowRow), .int (zI R_come), .ref (ad 29), .ref (ad 30), .int (zI R_puts), .ref (ad 31)])), (ad 26, .inl (cI, 400, .inl (zA (upZ R_waitKinds R_waiting p1)))), (ad 27, .inl (cI, 400, .inl (zA (upZ R_waitNodes R_waiting p2)))), (ad 28, .inl (cI, 400, .inl (zA (upZ R_waitOf R_waiting p3))))]) X (j_in in_Mod) ty_Mod tok_Mod nm_Mod 0 rfl rfl 37 (by decide) (j_m own_Mod_wait (by decide +kernel)) rfl rfl rfl (Nat.le_of_ble_eq_true rfl) d_Mod_wait_63 rfl ?_
    cases h
    exact J_ret E rfl d_Mod_wait_66 (Nat.le_refl _) (Nat.le_refl _) rfl

