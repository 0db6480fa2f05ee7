theorem d_Mod_fits_0 : decode b_Mod_fits 0 = .ok (.iload_n 1, 1) := by decide +kernel
theorem d_Mod_fits_1 : decode b_Mod_fits 1 = .ok (.bipush 10, 2) := by decide +kernel
theorem d_Mod_fits_3 : decode b_Mod_fits 3 = .ok (.if_icmp .ge 27, 3) := by decide +kernel
theorem d_Mod_fits_6 : decode b_Mod_fits 6 = .ok (.aload_n 0, 1) := by decide +kernel
theorem d_Mod_fits_7 : decode b_Mod_fits 7 = .ok (.iconst 0, 1) := by decide +kernel
theorem d_Mod_fits_8 : decode b_Mod_fits 8 = .ok (.iconst 0, 1) := by decide +kernel
theorem d_Mod_fits_9 : decode b_Mod_fits 9 = .ok (.invokevirtual 168, 3) := by decide +kernel
theorem d_Mod_fits_12 : decode b_Mod_fits 12 = .ok (.ifCond .eq 16, 3) := by decide +kernel
theorem d_Mod_fits_15 : decode b_Mod_fits 15 = .ok (.aload_n 0, 1) := by decide +kernel
theorem d_Mod_fits_16 : decode b_Mod_fits 16 = .ok (.iconst 1, 1) := by decide +kernel
theorem d_Mod_fits_17 : decode b_Mod_fits 17 = .ok (.iconst 0, 1) := by decide +kernel
theorem d_Mod_fits_18 : decode b_Mod_fits 18 = .ok (.invokevirtual 168, 3) := by decide +kernel
theorem d_Mod_fits_21 : decode b_Mod_fits 21 = .ok (.ifCond .eq 7, 3) := by decide +kernel
theorem d_Mod_fits_24 : decode b_Mod_fits 24 = .ok (.iconst 1, 1) := by decide +kernel
theorem d_Mod_fits_25 : decode b_Mod_fits 25 = .ok (.goto 4, 3) := by decide +kernel
theorem d_Mod_fits_28 : decode b_Mod_fits 28 = .ok (.iconst 0, 1) := by decide +kernel
theorem d_Mod_fits_29 : decode b_Mod_fits 29 = .ok (.ireturn, 1) := by decide +kernel
theorem d_Mod_fits_30 : decode b_Mod_fits 30 = .ok (.iload_n 1, 1) := by decide +kernel
theorem d_Mod_fits_31 : decode b_Mod_fits 31 = .ok (.bipush 10, 2) := by decide +kernel
theorem d_Mod_fits_33 : decode b_Mod_fits 33 = .ok (.if_icmp .eq 15, 3) := by decide +kernel
theorem d_Mod_fits_36 : decode b_Mod_fits 36 = .ok (.iload_n 1, 1) := by decide +kernel
theorem d_Mod_fits_37 : decode b_Mod_fits 37 = .ok (.bipush 14, 2) := by decide +kernel
theorem d_Mod_fits_39 : decode b_Mod_fits 39 = .ok (.if_icmp .eq 9, 3) := by decide +kernel
theorem d_Mod_fits_42 : decode b_Mod_fits 42 = .ok (.iload_n 1, 1) := by decide +kernel
theorem d_Mod_fits_43 : decode b_Mod_fits 43 = .ok (.bipush 15, 2) := by decide +kernel
theorem d_Mod_fits_45 : decode b_Mod_fits 45 = .ok (.if_icmp .ne 27, 3) := by decide +kernel
theorem d_Mod_fits_48 : decode b_Mod_fits 48 = .ok (.aload_n 0, 1) := by decide +kernel
theorem d_Mod_fits_49 : decode b_Mod_fits 49 = .ok (.iconst 0, 1) := by decide +kernel
theorem d_Mod_fits_50 : decode b_Mod_fits 50 = .ok (.iconst 1, 1) := by decide +kernel
theorem d_Mod_fits_51 : decode b_Mod_fits 51 = .ok (.invokevirtual 168, 3) := by decide +kernel
theorem d_Mod_fits_54 : decode b_Mod_fits 54 = .ok (.ifCond .eq 16, 3) := by decide +kernel
theorem d_Mod_fits_57 : decode b_Mod_fits 57 = .ok (.aload_n 0, 1) := by decide +kernel
theorem d_Mod_fits_58 : decode b_Mod_fits 58 = .ok (.iconst 1, 1) := by decide +kernel
theorem d_Mod_fits_59 : decode b_Mod_fits 59 = .ok (.iconst 1, 1) := by decide +kernel
theorem d_Mod_fits_60 : decode b_Mod_fits 60 = .ok (.invokevirtual 168, 3) := by decide +kernel
theorem d_Mod_fits_63 : decode b_Mod_fits 63 = .ok (.ifCond .eq 7, 3) := by decide +kernel
theorem d_Mod_fits_66 : decode b_Mod_fits 66 = .ok (.iconst 1, 1) := by decide +kernel
theorem d_Mod_fits_67 : decode b_Mod_fits 67 = .ok (.goto 4, 3) := by decide +kernel
theorem d_Mod_fits_70 : decode b_Mod_fits 70 = .ok (.iconst 0, 1) := by decide +kernel
theorem d_Mod_fits_71 : decode b_Mod_fits 71 = .ok (.ireturn, 1) := by decide +kernel
theorem d_Mod_fits_72 : decode b_Mod_fits 72 = .ok (.iload_n 1, 1) := by decide +kernel
theorem d_Mod_fits_73 : decode b_Mod_fits 73 = .ok (.tableswitch 284 11 31 #[99, 106, 130, 284, 284, 163, 170, 194, 201, 201, 208, 232, 99, 239, 246, 284, 284, 253, 284, 284, 277], 99) := by decide +kernel
theorem d_Mod_fits_172 : decode b_Mod_fits 172 = .ok (.aload_n 0, 1) := by decide +kernel
theorem d_Mod_fits_173 : decode b_Mod_fits 173 = .ok (.iconst 0, 1) := by decide +kernel
theorem d_Mod_fits_174 : decode b_Mod_fits 174 = .ok (.iconst 1, 1) := by decide +kernel
theorem d_Mod_fits_175 : decode b_Mod_fits 175 = .ok (.invokevirtual 168, 3) := by decide +kernel
theorem d_Mod_fits_178 : decode b_Mod_fits 178 = .ok (.ireturn, 1) := by decide +kernel
theorem d_Mod_fits_179 : decode b_Mod_fits 179 = .ok (.aload_n 0, 1) := by decide +kernel
theorem d_Mod_fits_180 : decode b_Mod_fits 180 = .ok (.iconst 0, 1) := by decide +kernel
theorem d_Mod_fits_181 : decode b_Mod_fits 181 = .ok (.iconst 1, 1) := by decide +kernel
theorem d_Mod_fits_182 : decode b_Mod_fits 182 = .ok (.invokevirtual 168, 3) := by decide +kernel
theorem d_Mod_fits_185 : decode b_Mod_fits 185 = .ok (.ifCond .eq 16, 3) := by decide +kernel
theorem d_Mod_fits_188 : decode b_Mod_fits 188 = .ok (.aload_n 0, 1) := by decide +kernel
theorem d_Mod_fits_189 : decode b_Mod_fits 189 = .ok (.iconst 1, 1) := by decide +kernel
theorem d_Mod_fits_190 : decode b_Mod_fits 190 = .ok (.iconst 0, 1) := by decide +kernel
theorem d_Mod_fits_191 : decode b_Mod_fits 191 = .ok (.invokevirtual 168, 3) := by decide +kernel
theorem d_Mod_fits_194 : decode b_Mod_fits 194 = .ok (.ifCond .eq 7, 3) := by decide +kernel
theorem d_Mod_fits_197 : decode b_Mod_fits 197 = .ok (.iconst 1, 1) := by decide +kernel
theorem d_Mod_fits_198 : decode b_Mod_fits 198 = .ok (.goto 4, 3) := by decide +kernel
theorem d_Mod_fits_201 : decode b_Mod_fits 201 = .ok (.iconst 0, 1) := by decide +kernel
theorem d_Mod_fits_202 : decode b_Mod_fits 202 = .ok (.ireturn, 1) := by decide +kernel
theorem d_Mod_fits_203 : decode b_Mod_fits 203 = .ok (.aload_n 0, 1) := by decide +kernel
theorem d_Mod_fits_204 : decode b_Mod_fits 204 = .ok (.iconst 0, 1) := by decide +kernel
theorem d_Mod_fits_205 : decode b_Mod_fits 205 = .ok (.iconst 0, 1) := by decide +kernel
theorem d_Mod_fits_206 : decode b_Mod_fits 206 = .ok (.invokevirtual 168, 3) := by decide +kernel
theorem d_Mod_fits_209 : decode b_Mod_fits 209 = .ok (.ifCond .eq 25, 3) := by decide +kernel
theorem d_Mod_fits_212 : decode b_Mod_fits 212 = .ok (.aload_n 0, 1) := by decide +kernel
theorem d_Mod_fits_213 : decode b_Mod_fits 213 = .ok (.iconst 1, 1) := by decide +kernel
theorem d_Mod_fits_214 : decode b_Mod_fits 214 = .ok (.iconst 0, 1) := by decide +kernel
theorem d_Mod_fits_215 : decode b_Mod_fits 215 = .ok (.invokevirtual 168, 3) := by decide +kernel
theorem d_Mod_fits_218 : decode b_Mod_fits 218 = .ok (.ifCond .eq 16, 3) := by decide +kernel
theorem d_Mod_fits_221 : decode b_Mod_fits 221 = .ok (.aload_n 0, 1) := by decide +kernel
theorem d_Mod_fits_222 : decode b_Mod_fits 222 = .ok (.iconst 2, 1) := by decide +kernel
theorem d_Mod_fits_223 : decode b_Mod_fits 223 = .ok (.iconst 1, 1) := by decide +kernel
theorem d_Mod_fits_224 : decode b_Mod_fits 224 = .ok (.invokevirtual 168, 3) := by decide +kernel
theorem d_Mod_fits_227 : decode b_Mod_fits 227 = .ok (.ifCond .eq 7, 3) := by decide +kernel
theorem d_Mod_fits_230 : decode b_Mod_fits 230 = .ok (.iconst 1, 1) := by decide +kernel
theorem d_Mod_fits_231 : decode b_Mod_fits 231 = .ok (.goto 4, 3) := by decide +kernel
theorem d_Mod_fits_234 : decode b_Mod_fits 234 = .ok (.iconst 0, 1) := by decide +kernel
theorem d_Mod_fits_235 : decode b_Mod_fits 235 = .ok (.ireturn, 1) := by decide +kernel
theorem d_Mod_fits_236 : decode b_Mod_fits 236 = .ok (.aload_n 0, 1) := by decide +kernel
theorem d_Mod_fits_237 : decode b_Mod_fits 237 = .ok (.iconst 0, 1) := by decide +kernel
theorem d_Mod_fits_238 : decode b_Mod_fits 238 = .ok (.iconst 2, 1) := by decide +kernel
theorem d_Mod_fits_239 : decode b_Mod_fits 239 = .ok (.invokevirtual 168, 3) := by decide +kernel
theorem d_Mod_fits_242 : decode b_Mod_fits 242 = .ok (.ireturn, 1) := by decide +kernel
theorem d_Mod_fits_243 : decode b_Mod_fits 243 = .ok (.aload_n 0, 1) := by decide +kernel
theorem d_Mod_fits_244 : decode b_Mod_fits 244 = .ok (.iconst 0, 1) := by decide +kernel
theorem d_Mod_fits_245 : decode b_Mod_fits 245 = .ok (.iconst 4, 1) := by decide +kernel
theorem d_Mod_fits_246 : decode b_Mod_fits 246 = .ok (.invokevirtual 168, 3) := by decide +kernel
theorem d_Mod_fits_249 : decode b_Mod_fits 249 = .ok (.ifCond .eq 16, 3) := by decide +kernel
theorem d_Mod_fits_252 : decode b_Mod_fits 252 = .ok (.aload_n 0, 1) := by decide +kernel
theorem d_Mod_fits_253 : decode b_Mod_fits 253 = .ok (.iconst 1, 1) := by decide +kernel
theorem d_Mod_fits_254 : decode b_Mod_fits 254 = .ok (.iconst 4, 1) := by decide +kernel
theorem d_Mod_fits_255 : decode b_Mod_fits 255 = .ok (.invokevirtual 168, 3) := by decide +kernel
theorem d_Mod_fits_258 : decode b_Mod_fits 258 = .ok (.ifCond .eq 7, 3) := by decide +kernel
theorem d_Mod_fits_261 : decode b_Mod_fits 261 = .ok (.iconst 1, 1) := by decide +kernel
theorem d_Mod_fits_262 : decode b_Mod_fits 262 = .ok (.goto 4, 3) := by decide +kernel
theorem d_Mod_fits_265 : decode b_Mod_fits 265 = .ok (.iconst 0, 1) := by decide +kernel
theorem d_Mod_fits_266 : decode b_Mod_fits 266 = .ok (.ireturn, 1) := by decide +kernel
theorem d_Mod_fits_267 : decode b_Mod_fits 267 = .ok (.aload_n 0, 1) := by decide +kernel
theorem d_Mod_fits_268 : decode b_Mod_fits 268 = .ok (.iconst 0, 1) := by decide +kernel
theorem d_Mod_fits_269 : decode b_Mod_fits 269 = .ok (.iconst 4, 1) := by decide +kernel
theorem d_Mod_fits_270 : decode b_Mod_fits 270 = .ok (.invokevirtual 168, 3) := by decide +kernel
theorem d_Mod_fits_273 : decode b_Mod_fits 273 = .ok (.ireturn, 1) := by decide +kernel
theorem d_Mod_fits_274 : decode b_Mod_fits 274 = .ok (.aload_n 0, 1) := by decide +kernel
theorem d_Mod_fits_275 : decode b_Mod_fits 275 = .ok (.iconst 0, 1) := by decide +kernel
theorem d_Mod_fits_276 : decode b_Mod_fits 276 = .ok (.iconst 0, 1) := by decide +kernel
theorem d_Mod_fits_277 : decode b_Mod_fits 277 = .ok (.invokevirtual 172, 3) := by decide +kernel
theorem d_Mod_fits_280 : decode b_Mod_fits 280 = .ok (.ireturn, 1) := by decide +kernel
theorem d_Mod_fits_281 : decode b_Mod_fits 281 = .ok (.aload_n 0, 1) := by decide +kernel
theorem d_Mod_fits_282 : decode b_Mod_fits 282 = .ok (.iconst 0, 1) := by decide +kernel
theorem d_Mod_fits_283 : decode b_Mod_fits 283 = .ok (.iconst 0, 1) := by decide +kernel
theorem d_Mod_fits_284 : decode b_Mod_fits 284 = .ok (.invokevirtual 168, 3) := by decide +kernel
theorem d_Mod_fits_287 : decode b_Mod_fits 287 = .ok (.ifCond .eq 16, 3) := by decide +kernel
theorem d_Mod_fits_290 : decode b_Mod_fits 290 = .ok (.aload_n 0, 1) := by decide +kernel
theorem d_Mod_fits_291 : decode b_Mod_fits 291 = .ok (.iconst 1, 1) := by decide +kernel
theorem d_Mod_fits_292 : decode b_Mod_fits 292 = .ok (.iconst 2, 1) := by decide +kernel
theorem d_Mod_fits_293 : decode b_Mod_fits 293 = .ok (.invokevirtual 172, 3) := by decide +kernel
theorem d_Mod_fits_296 : decode b_Mod_fits 296 = .ok (.ifCond .eq 7, 3) := by decide +kernel
theorem d_Mod_fits_299 : decode b_Mod_fits 299 = .ok (.iconst 1, 1) := by decide +kernel
theorem d_Mod_fits_300 : decode b_Mod_fits 300 = .ok (.goto 4, 3) := by decide +kernel
theorem d_Mod_fits_303 : decode b_Mod_fits 303 = .ok (.iconst 0, 1) := by decide +kernel
theorem d_Mod_fits_304 : decode b_Mod_fits 304 = .ok (.ireturn, 1) := by decide +kernel
theorem d_Mod_fits_305 : decode b_Mod_fits 305 = .ok (.aload_n 0, 1) := by decide +kernel
theorem d_Mod_fits_306 : decode b_Mod_fits 306 = .ok (.iconst 0, 1) := by decide +kernel
theorem d_Mod_fits_307 : decode b_Mod_fits 307 = .ok (.iconst 0, 1) := by decide +kernel
theorem d_Mod_fits_308 : decode b_Mod_fits 308 = .ok (.invokevirtual 168, 3) := by decide +kernel
theorem d_Mod_fits_311 : decode b_Mod_fits 311 = .ok (.ireturn, 1) := by decide +kernel
theorem d_Mod_fits_312 : decode b_Mod_fits 312 = .ok (.aload_n 0, 1) := by decide +kernel
theorem d_Mod_fits_313 : decode b_Mod_fits 313 = .ok (.iconst 0, 1) := by decide +kernel
theorem d_Mod_fits_314 : decode b_Mod_fits 314 = .ok (.iconst 3, 1) := by decide +kernel
theorem d_Mod_fits_315 : decode b_Mod_fits 315 = .ok (.invokevirtual 172, 3) := by decide +kernel
theorem d_Mod_fits_318 : decode b_Mod_fits 318 = .ok (.ireturn, 1) := by decide +kernel
theorem d_Mod_fits_319 : decode b_Mod_fits 319 = .ok (.aload_n 0, 1) := by decide +kernel
theorem d_Mod_fits_320 : decode b_Mod_fits 320 = .ok (.iconst 0, 1) := by decide +kernel
theorem d_Mod_fits_321 : decode b_Mod_fits 321 = .ok (.iconst 4, 1) := by decide +kernel
theorem d_Mod_fits_322 : decode b_Mod_fits 322 = .ok (.invokevirtual 172, 3) := by decide +kernel
theorem d_Mod_fits_325 : decode b_Mod_fits 325 = .ok (.ireturn, 1) := by decide +kernel
theorem d_Mod_fits_326 : decode b_Mod_fits 326 = .ok (.aload_n 0, 1) := by decide +kernel
theorem d_Mod_fits_327 : decode b_Mod_fits 327 = .ok (.iconst 0, 1) := by decide +kernel
theorem d_Mod_fits_328 : decode b_Mod_fits 328 = .ok (.iconst 4, 1) := by decide +kernel
theorem d_Mod_fits_329 : decode b_Mod_fits 329 = .ok (.invokevirtual 168, 3) := by decide +kernel
theorem d_Mod_fits_332 : decode b_Mod_fits 332 = .ok (.ifCond .eq 16, 3) := by decide +kernel
theorem d_Mod_fits_335 : decode b_Mod_fits 335 = .ok (.aload_n 0, 1) := by decide +kernel
theorem d_Mod_fits_336 : decode b_Mod_fits 336 = .ok (.iconst 1, 1) := by decide +kernel
theorem d_Mod_fits_337 : decode b_Mod_fits 337 = .ok (.iconst 2, 1) := by decide +kernel
theorem d_Mod_fits_338 : decode b_Mod_fits 338 = .ok (.invokevirtual 172, 3) := by decide +kernel
theorem d_Mod_fits_341 : decode b_Mod_fits 341 = .ok (.ifCond .eq 7, 3) := by decide +kernel
theorem d_Mod_fits_344 : decode b_Mod_fits 344 = .ok (.iconst 1, 1) := by decide +kernel
theorem d_Mod_fits_345 : decode b_Mod_fits 345 = .ok (.goto 4, 3) := by decide +kernel
theorem d_Mod_fits_348 : decode b_Mod_fits 348 = .ok (.iconst 0, 1) := by decide +kernel
theorem d_Mod_fits_349 : decode b_Mod_fits 349 = .ok (.ireturn, 1) := by decide +kernel
theorem d_Mod_fits_350 : decode b_Mod_fits 350 = .ok (.aload_n 0, 1) := by decide +kernel
theorem d_Mod_fits_351 : decode b_Mod_fits 351 = .ok (.iconst 0, 1) := by decide +kernel
theorem d_Mod_fits_352 : decode b_Mod_fits 352 = .ok (.iconst 1, 1) := by decide +kernel
theorem d_Mod_fits_353 : decode b_Mod_fits 353 = .ok (.invokevirtual 172, 3) := by decide +kernel
theorem d_Mod_fits_356 : decode b_Mod_fits 356 = .ok (.ireturn, 1) := by decide +kernel
theorem d_Mod_fits_357 : decode b_Mod_fits 357 = .ok (.aload_n 0, 1) := by decide +kernel
theorem d_Mod_fits_358 : decode b_Mod_fits 358 = .ok (.iconst 0, 1) := by decide +kernel
theorem d_Mod_fits_359 : decode b_Mod_fits 359 = .ok (.iconst 2, 1) := by decide +kernel
theorem d_Mod_fits_360 : decode b_Mod_fits 360 = .ok (.invokevirtual 172, 3) := by decide +kernel
theorem d_Mod_fits_363 : decode b_Mod_fits 363 = .ok (.ireturn, 1) := by decide +kernel
def f_Mod_fits (R_valueKinds : Int → Int) (R_from : Int → Int) (R_forms : Int → Int) (R_of : Int → Int) (p1 : Int) : Option (Int) :=
  if jr2 p1 10 = true then (if 10 ≤ p1 then (
   if jr2 p1 10 = true then (if p1 = 10 then (
    Option.bind (f_Mod_isKind R_valueKinds R_of 0 1) (fun r3 =>
     if rI r3 = true then (if r3 = 0 then (
      some 0) else (
      Option.bind (f_Mod_isKind R_valueKinds R_of 1 1) (fun r6 =>
       if rI r6 = true then (if r6 = 0 then (
        some 0) else (
        some 1)) else none))) else none)) else (
    if jr2 p1 14 = true then (if p1 = 14 then (
     Option.bind (f_Mod_isKind R_valueKinds R_of 0 1) (fun r10 =>
      if rI r10 = true then (if r10 = 0 then (
       some 0) else (
       Option.bind (f_Mod_isKind R_valueKinds R_of 1 1) (fun r13 =>
        if rI r13 = true then (if r13 = 0 then (
         some 0) else (
         some 1)) else none))) else none)) else (
     if jr2 p1 15 = true then (if p1 = 15 then (
      Option.bind (f_Mod_isKind R_valueKinds R_of 0 1) (fun r123 =>
       if rI r123 = true then (if r123 = 0 then (
        some 0) else (
        Option.bind (f_Mod_isKind R_valueKinds R_of 1 1) (fun r126 =>
         if rI r126 = true then (if r126 = 0 then (
          some 0) else (
          some 1)) else none))) else none)) else (
      if rI p1 = true then (
       if p1 = 11 then (
        Option.bind (f_Mod_isKind R_valueKinds R_of 0 1) (fun r19 =>
         if r19 = 0 ∨ r19 = 1 then some r19 else none)) else (
        if p1 = 12 then (
         Option.bind (f_Mod_isKind R_valueKinds R_of 0 1) (fun r23 =>
          if rI r23 = true then (if r23 = 0 then (
           some 0) else (
           Option.bind (f_Mod_isKind R_valueKinds R_of 1 0) (fun r26 =>
            if rI r26 = true then (if r26 = 0 then (
             some 0) else (
             some 1)) else none))) else none)) else (
         if p1 = 13 then (
          Option.bind (f_Mod_isKind R_valueKinds R_of 0 0) (fun r30 =>
           if rI r30 = true then (if r30 = 0 then (
            some 0) else (
            Option.bind (f_Mod_isKind R_valueKinds R_of 1 0) (fun r33 =>
             if rI r33 = true then (if r33 = 0 then (
              some 0) else (
              Option.bind (f_Mod_isKind R_valueKinds R_of 2 1) (fun r36 =>
               if rI r36 = true then (if r36 = 0 then (
                some 0) else (
                some 1)) else none))) else none))) else none)) else (
          if p1 = 14 then (
           Option.bind (f_Mod_isForm R_valueKinds R_from R_forms R_of 0 2) (fun r40 =>
            if r40 = 0 ∨ r40 = 1 then some r40 else none)) else (
           if p1 = 15 then (
            Option.bind (f_Mod_isForm R_valueKinds R_from R_forms R_of 0 2) (fun r44 =>
             if r44 = 0 ∨ r44 = 1 then some r44 else none)) else (
            if p1 = 16 then (
             Option.bind (f_Mod_isKind R_valueKinds R_of 0 2) (fun r48 =>
              if r48 = 0 ∨ r48 = 1 then some r48 else none)) else (
             if p1 = 17 then (
              Option.bind (f_Mod_isKind R_valueKinds R_of 0 4) (fun r52 =>
               if rI r52 = true then (if r52 = 0 then (
                some 0) else (
                Option.bind (f_Mod_isKind R_valueKinds R_of 1 4) (fun r55 =>
                 if rI r55 = true then (if r55 = 0 then (
                  some 0) else (
                  some 1)) else none))) else none)) else (
              if p1 = 18 then (
               Option.bind (f_Mod_isKind R_valueKinds R_of 0 4) (fun r59 =>
                if r59 = 0 ∨ r59 = 1 then some r59 else none)) else (
               if p1 = 19 then (
                Option.bind (f_Mod_isForm R_valueKinds R_from R_forms R_of 0 0) (fun r63 =>
                 if r63 = 0 ∨ r63 = 1 then some r63 else none)) else (
                if p1 = 20 then (
                 Option.bind (f_Mod_isForm R_valueKinds R_from R_forms R_of 0 0) (fun r67 =>
                  if r67 = 0 ∨ r67 = 1 then some r67 else none)) else (
                 if p1 = 21 then (
                  Option.bind (f_Mod_isKind R_valueKinds R_of 0 0) (fun r71 =>
                   if rI r71 = true then (if r71 = 0 then (
                    some 0) else (
                    Option.bind (f_Mod_isForm R_valueKinds R_from R_forms R_of 1 2) (fun r74 =>
                     if rI r74 = true then (if r74 = 0 then (
                      some 0) else (
                      some 1)) else none))) else none)) else (
                  if p1 = 22 then (
                   Option.bind (f_Mod_isKind R_valueKinds R_of 0 0) (fun r78 =>
                    if r78 = 0 ∨ r78 = 1 then some r78 else none)) else (
                   if p1 = 23 then (
                    Option.bind (f_Mod_isKind R_valueKinds R_of 0 1) (fun r82 =>
                     if r82 = 0 ∨ r82 = 1 then some r82 else none)) else (
                    if p1 = 24 then (
                     Option.bind (f_Mod_isForm R_valueKinds R_from R_forms R_of 0 3) (fun r86 =>
                      if r86 = 0 ∨ r86 = 1 then some r86 else none)) else (
                     if p1 = 25 then (
                      Option.bind (f_Mod_isForm R_valueKinds R_from R_forms R_of 0 4) (fun r90 =>
                       if r90 = 0 ∨ r90 = 1 then some r90 else none)) else (
                      if p1 = 26 then (
                       Option.bind (f_Mod_isForm R_valueKinds R_from R_forms R_of 0 2) (fun r94 =>
                        if r94 = 0 ∨ r94 = 1 then some r94 else none)) else (
                       if p1 = 27 then (
                        Option.bind (f_Mod_isForm R_valueKinds R_from R_forms R_of 0 2) (fun r98 =>
                         if r98 = 0 ∨ r98 = 1 then some r98 else none)) else (
                        if p1 = 28 then (
                         Option.bind (f_Mod_isKind R_valueKinds R_of 0 4) (fun r102 =>
                          if rI r102 = true then (if r102 = 0 then (
                           some 0) else (
                           Option.bind (f_Mod_isForm R_valueKinds R_from R_forms R_of 1 2) (fun r105 =>
                            if rI r105 = true then (if r105 = 0 then (
                             some 0) else (
                             some 1)) else none))) else none)) else (
                         if p1 = 29 then (
                          Option.bind (f_Mod_isForm R_valueKinds R_from R_forms R_of 0 2) (fun r109 =>
                           if r109 = 0 ∨ r109 = 1 then some r109 else none)) else (
                          if p1 = 30 then (
                           Option.bind (f_Mod_isForm R_valueKinds R_from R_forms R_of 0 2) (fun r113 =>
                            if r113 = 0 ∨ r113 = 1 then some r113 else none)) else (
                           if p1 = 31 then (
                            Option.bind (f_Mod_isForm R_valueKinds R_from R_forms R_of 0 1) (fun r117 =>
                             if r117 = 0 ∨ r117 = 1 then some r117 else none)) else (
                            Option.bind (f_Mod_isForm R_valueKinds R_from R_forms R_of 0 2) (fun r120 =>
                             if r120 = 0 ∨ r120 = 1 then some r120 else none))))))))))))))))))))))) else none)) else none)) else none)) else none) else (
   Option.bind (f_Mod_isKind R_valueKinds R_of 0 0) (fun r129 =>
    if rI r129 = true then (if r129 = 0 then (
     some 0) else (
     Option.bind (f_Mod_isKind R_valueKinds R_of 1 0) (fun r132 =>
      if rI r132 = true then (if r132 = 0 then (
       some 0) else (
       some 1)) else none))) else none))) else none
set_option maxHeartbeats 4000000 in
set_option maxRecDepth 100000 in
theorem c_Mod_fits {l : Launch} {D : va_G} {cI cL cB : ClassId} {ad : Nat → Nat} {R_thrown : Int} {R_used : Int} {R_many : Int} {R_values : Int} {R_textEnd : Int} {R_dataEnd : Int} {R_rowEnd : Int} {R_rowMany : Int} {R_waiting : Int} {R_mostWaiting : Int} {R_answer : Int} {R_steps : Int} {R_memory : Int} {R_maxSteps : Int} {R_maxMemory : Int} {R_fault : Int} {R_result : Int} {R_now : Int} {R_nowRow : Int} {R_come : Int} {R_puts : Int} {R_valueKinds : Int → Int} {R_from : Int → Int} {R_forms : Int → Int} {R_of : Int → Int} {p1 : Int} {out : Int} (h : f_Mod_fits R_valueKinds R_from R_forms R_of p1 = some out) : CT jF0 true l D [(cI, .int), (cL, .long), (cB, .byte)] y_Mod_fits w_Mod_fits ({ frames := 2, cells := 0, slots := 0, locals := 44 } : Room) [.ref (ad 0), .int (zI p1)] [(ad 0, .inr (10, [.int (zI R_thrown), .ref (ad 1), .ref (ad 2), .ref (ad 3), .ref (ad 4), .ref (ad 5), .ref (ad 6), .int (zI R_used), .ref (ad 7), .int (zI R_many), .ref (ad 8), .ref (ad 9), .ref (ad 10), .ref (ad 11), .ref (ad 12), .ref (ad 13), .ref (ad 14), .ref (ad 15), .ref (ad 16), .int (zI R_values), .ref (ad 17), .int (zI R_textEnd), .ref (ad 18), .ref (ad 19), .ref (ad 20), .ref (ad 21), .int (zI R_dataEnd), .ref (ad 22), .int (zI R_rowEnd), .ref (ad 23), .ref (ad 24), .int (zI R_rowMany), .ref (ad 25), .ref (ad 26), .ref (ad 27), .ref (ad 28), .int (zI R_waiting), .int (zI R_mostWaiting), .int (zI R_answer), .int (zI R_steps), .int (zI R_memory), .int (zI R_maxSteps), .int (zI R_maxMemory), .int (zI R_fault), .int (zI R_result), .int (zI R_now), .int (zI R_nowRow), .int (zI R_come), .ref (ad 29), .ref (ad 30), .int (zI R_puts), .ref (ad 31)])), (ad 8, .inl (cI, 3700, .inl (zA R_valueKinds))), (ad 10, .inl (cI, 3700, .inl (zA R_from))), (ad 18, .inl (cI, 5000, .inl (zA R_forms))), (ad 29, .inl (cI, 3, .inl (zA R_of)))] (some (.int (zI out))) [(ad 0, .inr (10, [.int (zI R_thrown), .ref (ad 1), .ref (ad 2), .ref (ad 3), .ref (ad 4), .ref (ad 5), .ref (ad 6), .int (zI R_used), .ref (ad 7), .int (zI R_many), .ref (ad 8), .ref (ad 9), .ref (ad 10), .ref (ad 11), .ref (ad 12), .ref (ad 13), .ref (ad 14), .ref (ad 15), .ref (ad 16), .int (zI R_values), .ref (ad 17), .int (zI R_textEnd), .ref (ad 18), .ref (ad 19), .ref (ad 20), .ref (ad 21), .int (zI R_dataEnd), .ref (ad 22), .int (zI R_rowEnd), .ref (ad 23), .ref (ad 24), .int (zI R_rowMany), .ref (ad 25), .ref (ad 26), .ref (ad 27), .ref (ad 28), .int (zI R_waiting), .int (zI R_mostWaiting), .int (zI R_answer), .int (zI R_steps), .int (zI R_memory), .int (zI R_maxSteps), .int (zI R_maxMemory), .int (zI R_fault), .int (zI R_result), .int (zI R_now), .int (zI R_nowRow), .int (zI R_come), .ref (ad 29), .ref (ad 30), .int (zI R_puts), .ref (ad 31)])), (ad 8, .inl (cI, 3700, .inl (zA R_valueKinds))), (ad 10, .inl (cI, 3700, .inl (zA R_from))), (ad 18, .inl (cI, 5000, .inl (zA R_forms))), (ad 29, .inl (cI, 3, .inl (zA R_of)))] 0 0 := by
  refine CT_of_J (cc := b_Mod_fits) (maxL := 2) (ret := (some .boolean)) jF0_k (plainFor_of_name (by decide)) rfl (Nat.le_of_ble_eq_true rfl) ?_
  intro K hKl hKD X E
  subst hKl; subst hKD
  unfold f_Mod_fits at h
  refine J_iload_n X d_Mod_fits_0 rfl 1 rfl ?_
  refine J_bipush X d_Mod_fits_1 (by decide) ?_
  refine J_icmp_ge (tgt := 30) X d_Mod_fits_3 (by decide) h (fun c1 h => ?_) (fun c1 h => ?_)
  · refine J_iload_n X d_Mod_fits_30 rfl 1 rfl ?_
    refine J_bipush X d_Mod_fits_31 (by decide) ?_
    refine J_icmp_eq (tgt := 48) X d_Mod_fits_33 (by decide) h (fun c2 h => ?_) (fun c2 h => ?_)
    · refine J_aload_n X d_Mod_fits_48 rfl 0 rfl ?_
      refine J_iconst X d_Mod_fits_49 ?_
      refine J_iconst X d_Mod_fits_50 ?_
      obtain ⟨r3, q4, h⟩ := wk_b h
      refine J_afterP (jrunV X (c_Mod_isKind (ad := ad) q4) jF0_k (fun _ _ _ _ => trivial) (jgV own_Mod_fits (by decide +kernel)) rfl rfl rfl pd_Mod_isKind (by decide) [0, 1, 4] rfl (by decide) 0 10 rfl rfl rfl rfl (Nat.le_of_ble_eq_true rfl) d_Mod_fits_51 (by decide)) ?_
      refine J_if_eq (tgt := 70) X d_Mod_fits_54 (by decide) h (fun c5 h => ?_) (fun c5 h => ?_)
      · refine J_iconst X d_Mod_fits_70 ?_
        cases h
        exact J_ret E ⟨_, rfl, j_bool (Or.inl rfl)⟩ d_Mod_fits_71 (Nat.le_refl _) (Nat.le_refl _) rfl
      · refine J_aload_n X d_Mod_fits_57 rfl 0 rfl ?_
        refine J_iconst X d_Mod_fits_58 ?_
        refine J_iconst X d_Mod_fits_59 ?_
        obtain ⟨r6, q7, h⟩ := wk_b h
        refine J_afterP (jrunV X (c_Mod_isKind (ad := ad) q7) jF0_k (fun _ _ _ _ => trivial) (jgV own_Mod_fits (by decide +kernel)) rfl rfl rfl pd_Mod_isKind (by decide) [0, 1, 4] rfl (by decide) 0 10 rfl rfl rfl rfl (Nat.le_of_ble_eq_true rfl) d_Mod_fits_60 (by decide)) ?_
        refine J_if_eq (tgt := 70) X d_Mod_fits_63 (by decide) h (fun c8 h => ?_) (fun c8 h => ?_)
        · refine J_iconst X d_Mod_fits_70 ?_
          cases h
          exact J_ret E ⟨_, rfl, j_bool (Or.inl rfl)⟩ d_Mod_fits_71 (Nat.le_refl _) (Nat.le_refl _) rfl
        · refine J_iconst X d_Mod_fits_66 ?_
          refine J_goto (tgt := 71) X d_Mod_fits_67 (by decide) ?_
          cases h
          exact J_ret E ⟨_, rfl, j_bool (Or.inr rfl)⟩ d_Mod_fits_71 (Nat.le_refl _) (Nat.le_refl _) rfl
    · refine J_iload_n X d_Mod_fits_36 rfl 1 rfl ?_
      refine J_bipush X d_Mod_fits_37 (by decide) ?_
      refine J_icmp_eq (tgt := 48) X d_Mod_fits_39 (by decide) h (fun c9 h => ?_) (fun c9 h => ?_)
      · refine J_aload_n X d_Mod_fits_48 rfl 0 rfl ?_
        refine J_iconst X d_Mod_fits_49 ?_
        refine J_iconst X d_Mod_fits_50 ?_
        obtain ⟨r10, q11, h⟩ := wk_b h
        refine J_afterP (jrunV X (c_Mod_isKind (ad := ad) q11) jF0_k (fun _ _ _ _ => trivial) (jgV own_Mod_fits (by decide +kernel)) rfl rfl rfl pd_Mod_isKind (by decide) [0, 1, 4] rfl (by decide) 0 10 rfl rfl rfl rfl (Nat.le_of_ble_eq_true rfl) d_Mod_fits_51 (by decide)) ?_
        refine J_if_eq (tgt := 70) X d_Mod_fits_54 (by decide) h (fun c12 h => ?_) (fun c12 h => ?_)
        · refine J_iconst X d_Mod_fits_70 ?_
          cases h
          exact J_ret E ⟨_, rfl, j_bool (Or.inl rfl)⟩ d_Mod_fits_71 (Nat.le_refl _) (Nat.le_refl _) rfl
        · refine J_aload_n X d_Mod_fits_57 rfl 0 rfl ?_
          refine J_iconst X d_Mod_fits_58 ?_
          refine J_iconst X d_Mod_fits_59 ?_
          obtain ⟨r13, q14, h⟩ := wk_b h
          refine J_afterP (jrunV X (c_Mod_isKind (ad := ad) q14) jF0_k (fun _ _ _ _ => trivial) (jgV own_Mod_fits (by decide +kernel)) rfl rfl rfl pd_Mod_isKind (by decide) [0, 1, 4] rfl (by decide) 0 10 rfl rfl rfl rfl (Nat.le_of_ble_eq_true rfl) d_Mod_fits_60 (by decide)) ?_
          refine J_if_eq (tgt := 70) X d_Mod_fits_63 (by decide) h (fun c15 h => ?_) (fun c15 h => ?_)
          · refine J_iconst X d_Mod_fits_70 ?_
            cases h
            exact J_ret E ⟨_, rfl, j_bool (Or.inl rfl)⟩ d_Mod_fits_71 (Nat.le_refl _) (Nat.le_refl _) rfl
          · refine J_iconst X d_Mod_fits_66 ?_
            refine J_goto (tgt := 71) X d_Mod_fits_67 (by decide) ?_
            cases h
            exact J_ret E ⟨_, rfl, j_bool (Or.inr rfl)⟩ d_Mod_fits_71 (Nat.le_refl _) (Nat.le_refl _) rfl
      · refine J_iload_n X d_Mod_fits_42 rfl 1 rfl ?_
        refine J_bipush X d_Mod_fits_43 (by decide) ?_
        refine J_icmp_ne (tgt := 72) X d_Mod_fits_45 (by decide) h (fun c16 h => ?_) (fun c16 h => ?_)
        · refine J_iload_n X d_Mod_fits_72 rfl 1 rfl ?_
          obtain ⟨g17, h⟩ := wk_g h
          rcases wk_c h with ⟨c18, h⟩ | ⟨c18, h⟩
          · refine J_tsIn (tgt := 172) X 11 c18 g17 d_Mod_fits_73 (by decide) (by decide) rfl (by decide) ?_
            refine J_aload_n X d_Mod_fits_172 rfl 0 rfl ?_
            refine J_iconst X d_Mod_fits_173 ?_
            refine J_iconst X d_Mod_fits_174 ?_
            obtain ⟨r19, q20, h⟩ := wk_b h
            refine J_afterP (jrunV X (c_Mod_isKind (ad := ad) q20) jF0_k (fun _ _ _ _ => trivial) (jgV own_Mod_fits (by decide +kernel)) rfl rfl rfl pd_Mod_isKind (by decide) [0, 1, 4] rfl (by decide) 0 10 rfl rfl rfl rfl (Nat.le_of_ble_eq_true rfl) d_Mod_fits_175 (by decide)) ?_
            obtain ⟨g21, h⟩ := wk_g h
            cases h
            exact J_ret E ⟨_, rfl, j_bool g21⟩ d_Mod_fits_178 (Nat.le_refl _) (Nat.le_refl _) rfl
          · rcases wk_c h with ⟨c22, h⟩ | ⟨c22, h⟩
            · refine J_tsIn (tgt := 179) X 12 c22 g17 d_Mod_fits_73 (by decide) (by decide) rfl (by decide) ?_
              refine J_aload_n X d_Mod_fits_179 rfl 0 rfl ?_
              refine J_iconst X d_Mod_fits_180 ?_
              refine J_iconst X d_Mod_fits_181 ?_
              obtain ⟨r23, q24, h⟩ := wk_b h
              refine J_afterP (jrunV X (c_Mod_isKind (ad := ad) q24) jF0_k (fun _ _ _ _ => trivial) (jgV own_Mod_fits (by decide +kernel)) rfl rfl rfl pd_Mod_isKind (by decide) [0, 1, 4] rfl (by decide) 0 10 rfl rfl rfl rfl (Nat.le_of_ble_eq_true rfl) d_Mod_fits_182 (by decide)) ?_
              refine J_if_eq (tgt := 201) X d_Mod_fits_185 (by decide) h (fun c25 h => ?_) (fun c25 h => ?_)
              · refine J_iconst X d_Mod_fits_201 ?_
                cases h
                exact J_ret E ⟨_, rfl, j_bool (Or.inl rfl)⟩ d_Mod_fits_202 (Nat.le_refl _) (Nat.le_refl _) rfl
              · refine J_aload_n X d_Mod_fits_188 rfl 0 rfl ?_
                refine J_iconst X d_Mod_fits_189 ?_
                refine J_iconst X d_Mod_fits_190 ?_
                obtain ⟨r26, q27, h⟩ := wk_b h
                refine J_afterP (jrunV X (c_Mod_isKind (ad := ad) q27) jF0_k (fun _ _ _ _ => trivial) (jgV own_Mod_fits (by decide +kernel)) rfl rfl rfl pd_Mod_isKind (by decide) [0, 1, 4] rfl (by decide) 0 10 rfl rfl rfl rfl (Nat.le_of_ble_eq_true rfl) d_Mod_fits_191 (by decide)) ?_
                refine J_if_eq (tgt := 201) X d_Mod_fits_194 (by decide) h (fun c28 h => ?_) (fun c28 h => ?_)
                · refine J_iconst X d_Mod_fits_201 ?_
                  cases h
                  exact J_ret E ⟨_, rfl, j_bool (Or.inl rfl)⟩ d_Mod_fits_202 (Nat.le_refl _) (Nat.le_refl _) rfl
                · refine J_iconst X d_Mod_fits_197 ?_
                  refine J_goto (tgt := 202) X d_Mod_fits_198 (by decide) ?_
                  cases h
                  exact J_ret E ⟨_, rfl, j_bool (Or.inr rfl)⟩ d_Mod_fits_202 (Nat.le_refl _) (Nat.le_refl _) rfl
            · rcases wk_c h with ⟨c29, h⟩ | ⟨c29, h⟩
              · refine J_tsIn (tgt := 203) X 13 c29 g17 d_Mod_fits_73 (by decide) (by decide) rfl (by decide) ?_
                refine J_aload_n X d_Mod_fits_203 rfl 0 rfl ?_
                refine J_iconst X d_Mod_fits_204 ?_
                refine J_iconst X d_Mod_fits_205 ?_
                obtain ⟨r30, q31, h⟩ := wk_b h
                refine J_afterP (jrunV X (c_Mod_isKind (ad := ad) q31) jF0_k (fun _ _ _ _ => trivial) (jgV own_Mod_fits (by decide +kernel)) rfl rfl rfl pd_Mod_isKind (by decide) [0, 1, 4] rfl (by decide) 0 10 rfl rfl rfl rfl (Nat.le_of_ble_eq_true rfl) d_Mod_fits_206 (by decide)) ?_
                refine J_if_eq (tgt := 234) X d_Mod_fits_209 (by decide) h (fun c32 h => ?_) (fun c32 h => ?_)
                · refine J_iconst X d_Mod_fits_234 ?_
                  cases h
                  exact J_ret E ⟨_, rfl, j_bool (Or.inl rfl)⟩ d_Mod_fits_235 (Nat.le_refl _) (Nat.le_refl _) rfl
                · refine J_aload_n X d_Mod_fits_212 rfl 0 rfl ?_
                  refine J_iconst X d_Mod_fits_213 ?_
                  refine J_iconst X d_Mod_fits_214 ?_
                  obtain ⟨r33, q34, h⟩ := wk_b h
                  refine J_afterP (jrunV X (c_Mod_isKind (ad := ad) q34) jF0_k (fun _ _ _ _ => trivial) (jgV own_Mod_fits (by decide +kernel)) rfl rfl rfl pd_Mod_isKind (by decide) [0, 1, 4] rfl (by decide) 0 10 rfl rfl rfl rfl (Nat.le_of_ble_eq_true rfl) d_Mod_fits_215 (by decide)) ?_
                  refine J_if_eq (tgt := 234) X d_Mod_fits_218 (by decide) h (fun c35 h => ?_) (fun c35 h => ?_)
                  · refine J_iconst X d_Mod_fits_234 ?_
                    cases h
                    exact J_ret E ⟨_, rfl, j_bool (Or.inl rfl)⟩ d_Mod_fits_235 (Nat.le_refl _) (Nat.le_refl _) rfl
                  · refine J_aload_n X d_Mod_fits_221 rfl 0 rfl ?_
                    refine J_iconst X d_Mod_fits_222 ?_
                    refine J_iconst X d_Mod_fits_223 ?_
                    obtain ⟨r36, q37, h⟩ := wk_b h
                    refine J_afterP (jrunV X (c_Mod_isKind (ad := ad) q37) jF0_k (fun _ _ _ _ => trivial) (jgV own_Mod_fits (by decide +kernel)) rfl rfl rfl pd_Mod_isKind (by decide) [0, 1, 4] rfl (by decide) 0 10 rfl rfl rfl rfl (Nat.le_of_ble_eq_true rfl) d_Mod_fits_224 (by decide)) ?_
                    refine J_if_eq (tgt := 234) X d_Mod_fits_227 (by decide) h (fun c38 h => ?_) (fun c38 h => ?_)
                    · refine J_iconst X d_Mod_fits_234 ?_
                      cases h
                      exact J_ret E ⟨_, rfl, j_bool (Or.inl rfl)⟩ d_Mod_fits_235 (Nat.le_refl _) (Nat.le_refl _) rfl
                    · refine J_iconst X d_Mod_fits_230 ?_
                      refine J_goto (tgt := 235) X d_Mod_fits_231 (by decide) ?_
                      cases h
                      exact J_ret E ⟨_, rfl, j_bool (Or.inr rfl)⟩ d_Mod_fits_235 (Nat.le_refl _) (Nat.le_refl _) rfl
              · rcases wk_c h with ⟨c39, h⟩ | ⟨c39, h⟩
                · refine J_tsIn (tgt := 357) X 14 c39 g17 d_Mod_fits_73 (by decide) (by decide) rfl (by decide) ?_
                  refine J_aload_n X d_Mod_fits_357 rfl 0 rfl ?_
                  refine J_iconst X d_Mod_fits_358 ?_
                  refine J_iconst X d_Mod_fits_359 ?_
                  obtain ⟨r40, q41, h⟩ := wk_b h
                  refine J_afterP (jrunV X (c_Mod_isForm (ad := ad) q41) jF0_k (fun _ _ _ _ => trivial) (jgV own_Mod_fits (by decide +kernel)) rfl rfl rfl pd_Mod_isForm (by decide) [0, 1, 2, 3, 4] rfl (by decide) 0 10 rfl rfl rfl rfl (Nat.le_of_ble_eq_true rfl) d_Mod_fits_360 (by decide)) ?_
                  obtain ⟨g42, h⟩ := wk_g h
                  cases h
                  exact J_ret E ⟨_, rfl, j_bool g42⟩ d_Mod_fits_363 (Nat.le_refl _) (Nat.le_refl _) rfl
                · rcases wk_c h with ⟨c43, h⟩ | ⟨c43, h⟩
                  · refine J_tsIn (tgt := 357) X 15 c43 g17 d_Mod_fits_73 (by decide) (by decide) rfl (by decide) ?_
                    refine J_aload_n X d_Mod_fits_357 rfl 0 rfl ?_
                    refine J_iconst X d_Mod_fits_358 ?_
                    refine J_iconst X d_Mod_fits_359 ?_
                    obtain ⟨r44, q45, h⟩ := wk_b h
                    refine J_afterP (jrunV X (c_Mod_isForm (ad := ad) q45) jF0_k (fun _ _ _ _ => trivial) (jgV own_Mod_fits (by decide +kernel)) rfl rfl rfl pd_Mod_isForm (by decide) [0, 1, 2, 3, 4] rfl (by decide) 0 10 rfl rfl rfl rfl (Nat.le_of_ble_eq_true rfl) d_Mod_fits_360 (by decide)) ?_
                    obtain ⟨g46, h⟩ := wk_g h
                    cases h
                    exact J_ret E ⟨_, rfl, j_bool g46⟩ d_Mod_fits_363 (Nat.le_refl _) (Nat.le_refl _) rfl
                  · rcases wk_c h with ⟨c47, h⟩ | ⟨c47, h⟩
                    · refine J_tsIn (tgt := 236) X 16 c47 g17 d_Mod_fits_73 (by decide) (by decide) rfl (by decide) ?_
                      refine J_aload_n X d_Mod_fits_236 rfl 0 rfl ?_
                      refine J_iconst X d_Mod_fits_237 ?_
                      refine J_iconst X d_Mod_fits_238 ?_
                      obtain ⟨r48, q49, h⟩ := wk_b h
                      refine J_afterP (jrunV X (c_Mod_isKind (ad := ad) q49) jF0_k (fun _ _ _ _ => trivial) (jgV own_Mod_fits (by decide +kernel)) rfl rfl rfl pd_Mod_isKind (by decide) [0, 1, 4] rfl (by decide) 0 10 rfl rfl rfl rfl (Nat.le_of_ble_eq_true rfl) d_Mod_fits_239 (by decide)) ?_
                      obtain ⟨g50, h⟩ := wk_g h
                      cases h
                      exact J_ret E ⟨_, rfl, j_bool g50⟩ d_Mod_fits_242 (Nat.le_refl _) (Nat.le_refl _) rfl
                    · rcases wk_c h with ⟨c51, h⟩ | ⟨c51, h⟩
                      · refine J_tsIn (tgt := 243) X 17 c51 g17 d_Mod_fits_73 (by decide) (by decide) rfl (by decide) ?_
                        refine J_aload_n X d_Mod_fits_243 rfl 0 rfl ?_
                        refine J_iconst X d_Mod_fits_244 ?_
                        refine J_iconst X d_Mod_fits_245 ?_
                        obtain ⟨r52, q53, h⟩ := wk_b h
                        refine J_afterP (jrunV X (c_Mod_isKind (ad := ad) q53) jF0_k (fun _ _ _ _ => trivial) (jgV own_Mod_fits (by decide +kernel)) rfl rfl rfl pd_Mod_isKind (by decide) [0, 1, 4] rfl (by decide) 0 10 rfl rfl rfl rfl (Nat.le_of_ble_eq_true rfl) d_Mod_fits_246 (by decide)) ?_
                        refine J_if_eq (tgt := 265) X d_Mod_fits_249 (by decide) h (fun c54 h => ?_) (fun c54 h => ?_)
                        · refine J_iconst X d_Mod_fits_265 ?_
                          cases h
                          exact J_ret E ⟨_, rfl, j_bool (Or.inl rfl)⟩ d_Mod_fits_266 (Nat.le_refl _) (Nat.le_refl _) rfl
                        · refine J_aload_n X d_Mod_fits_252 rfl 0 rfl ?_
                          refine J_iconst X d_Mod_fits_253 ?_
                          refine J_iconst X d_Mod_fits_254 ?_
                          obtain ⟨r55, q56, h⟩ := wk_b h
                          refine J_afterP (jrunV X (c_Mod_isKind (ad := ad) q56) jF0_k (fun _ _ _ _ => trivial) (jgV own_Mod_fits (by decide +kernel)) rfl rfl rfl pd_Mod_isKind (by decide) [0, 1, 4] rfl (by decide) 0 10 rfl rfl rfl rfl (Nat.le_of_ble_eq_true rfl) d_Mod_fits_255 (by decide)) ?_
                          refine J_if_eq (tgt := 265) X d_Mod_fits_258 (by decide) h (fun c57 h => ?_) (fun c57 h => ?_)
                          · refine J_iconst X d_Mod_fits_265 ?_
                            cases h
                            exact J_ret E ⟨_, rfl, j_bool (Or.inl rfl)⟩ d_Mod_fits_266 (Nat.le_refl _) (Nat.le_refl _) rfl
                          · refine J_iconst X d_Mod_fits_261 ?_
                            refine J_goto (tgt := 266) X d_Mod_fits_262 (by decide) ?_
                            cases h
                            exact J_ret E ⟨_, rfl, j_bool (Or.inr rfl)⟩ d_Mod_fits_266 (Nat.le_refl _) (Nat.le_refl _) rfl
                      · rcases wk_c h with ⟨c58, h⟩ | ⟨c58, h⟩
                        · refine J_tsIn (tgt := 267) X 18 c58 g17 d_Mod_fits_73 (by decide) (by decide) rfl (by decide) ?_
                          refine J_aload_n X d_Mod_fits_267 rfl 0 rfl ?_
                          refine J_iconst X d_Mod_fits_268 ?_
                          refine J_iconst X d_Mod_fits_269 ?_
                          obtain ⟨r59, q60, h⟩ := wk_b h
                          refine J_afterP (jrunV X (c_Mod_isKind (ad := ad) q60) jF0_k (fun _ _ _ _ => trivial) (jgV own_Mod_fits (by decide +kernel)) rfl rfl rfl pd_Mod_isKind (by decide) [0, 1, 4] rfl (by decide) 0 10 rfl rfl rfl rfl (Nat.le_of_ble_eq_true rfl) d_Mod_fits_270 (by decide)) ?_
                          obtain ⟨g61, h⟩ := wk_g h
                          cases h
                          exact J_ret E ⟨_, rfl, j_bool g61⟩ d_Mod_fits_273 (Nat.le_refl _) (Nat.le_refl _) rfl
                        · rcases wk_c h with ⟨c62, h⟩ | ⟨c62, h⟩
                          · refine J_tsIn (tgt := 274) X 19 c62 g17 d_Mod_fits_73 (by decide) (by decide) rfl (by decide) ?_
                            refine J_aload_n X d_Mod_fits_274 rfl 0 rfl ?_
                            refine J_iconst X d_Mod_fits_275 ?_
                            refine J_iconst X d_Mod_fits_276 ?_
                            obtain ⟨r63, q64, h⟩ := wk_b h
                            refine J_afterP (jrunV X (c_Mod_isForm (ad := ad) q64) jF0_k (fun _ _ _ _ => trivial) (jgV own_Mod_fits (by decide +kernel)) rfl rfl rfl pd_Mod_isForm (by decide) [0, 1, 2, 3, 4] rfl (by decide) 0 10 rfl rfl rfl rfl (Nat.le_of_ble_eq_true rfl) d_Mod_fits_277 (by decide)) ?_
                            obtain ⟨g65, h⟩ := wk_g h
                            cases h
                            exact J_ret E ⟨_, rfl, j_bool g65⟩ d_Mod_fits_280 (Nat.le_refl _) (Nat.le_refl _) rfl
                          · rcases wk_c h with ⟨c66, h⟩ | ⟨c66, h⟩
                            · refine J_tsIn (tgt := 274) X 20 c66 g17 d_Mod_fits_73 (by decide) (by decide) rfl (by decide) ?_
                              refine J_aload_n X d_Mod_fits_274 rfl 0 rfl ?_
                              refine J_iconst X d_Mod_fits_275 ?_
                              refine J_iconst X d_Mod_fits_276 ?_
                              obtain ⟨r67, q68, h⟩ := wk_b h
                              refine J_afterP (jrunV X (c_Mod_isForm (ad := ad) q68) jF0_k (fun _ _ _ _ => trivial) (jgV own_Mod_fits (by decide +kernel)) rfl rfl rfl pd_Mod_isForm (by decide) [0, 1, 2, 3, 4] rfl (by decide) 0 10 rfl rfl rfl rfl (Nat.le_of_ble_eq_true rfl) d_Mod_fits_277 (by decide)) ?_
                              obtain ⟨g69, h⟩ := wk_g h
                              cases h
                              exact J_ret E ⟨_, rfl, j_bool g69⟩ d_Mod_fits_280 (Nat.le_refl _) (Nat.le_refl _) rfl
                            · rcases wk_c h with ⟨c70, h⟩ | ⟨c70, h⟩
                              · refine J_tsIn (tgt := 281) X 21 c70 g17 d_Mod_fits_73 (by decide) (by decide) rfl (by decide) ?_
                                refine J_aload_n X d_Mod_fits_281 rfl 0 rfl ?_
                                refine J_iconst X d_Mod_fits_282 ?_
                                refine J_iconst X d_Mod_fits_283 ?_
                                obtain ⟨r71, q72, h⟩ := wk_b h
                                refine J_afterP (jrunV X (c_Mod_isKind (ad := ad) q72) jF0_k (fun _ _ _ _ => trivial) (jgV own_Mod_fits (by decide +kernel)) rfl rfl rfl pd_Mod_isKind (by decide) [0, 1, 4] rfl (by decide) 0 10 rfl rfl rfl rfl (Nat.le_of_ble_eq_true rfl) d_Mod_fits_284 (by decide)) ?_
                                refine J_if_eq (tgt := 303) X d_Mod_fits_287 (by decide) h (fun c73 h => ?_) (fun c73 h => ?_)
                                · refine J_iconst X d_Mod_fits_303 ?_
                                  cases h
                                  exact J_ret E ⟨_, rfl, j_bool (Or.inl rfl)⟩ d_Mod_fits_304 (Nat.le_refl _) (Nat.le_refl _) rfl
                                · refine J_aload_n X d_Mod_fits_290 rfl 0 rfl ?_
                                  refine J_iconst X d_Mod_fits_291 ?_
                                  refine J_iconst X d_Mod_fits_292 ?_
                                  obtain ⟨r74, q75, h⟩ := wk_b h
                                  refine J_afterP (jrunV X (c_Mod_isForm (ad := ad) q75) jF0_k (fun _ _ _ _ => trivial) (jgV own_Mod_fits (by decide +kernel)) rfl rfl rfl pd_Mod_isForm (by decide) [0, 1, 2, 3, 4] rfl (by decide) 0 10 rfl rfl rfl rfl (Nat.le_of_ble_eq_true rfl) d_Mod_fits_293 (by decide)) ?_
                                  refine J_if_eq (tgt := 303) X d_Mod_fits_296 (by decide) h (fun c76 h => ?_) (fun c76 h => ?_)
                                  · refine J_iconst X d_Mod_fits_303 ?_
                                    cases h
                                    exact J_ret E ⟨_, rfl, j_bool (Or.inl rfl)⟩ d_Mod_fits_304 (Nat.le_refl _) (Nat.le_refl _) rfl
                                  · refine J_iconst X d_Mod_fits_299 ?_
                                    refine J_goto (tgt := 304) X d_Mod_fits_300 (by decide) ?_
                                    cases h
                                    exact J_ret E ⟨_, rfl, j_bool (Or.inr rfl)⟩ d_Mod_fits_304 (Nat.le_refl _) (Nat.le_refl _) rfl
                              · rcases wk_c h with ⟨c77, h⟩ | ⟨c77, h⟩
                                · refine J_tsIn (tgt := 305) X 22 c77 g17 d_Mod_fits_73 (by decide) (by decide) rfl (by decide) ?_
                                  refine J_aload_n X d_Mod_fits_305 rfl 0 rfl ?_
                                  refine J_iconst X d_Mod_fits_306 ?_
                                  refine J_iconst X d_Mod_fits_307 ?_
                                  obtain ⟨r78, q79, h⟩ := wk_b h
                                  refine J_afterP (jrunV X (c_Mod_isKind (ad := ad) q79) jF0_k (fun _ _ _ _ => trivial) (jgV own_Mod_fits (by decide +kernel)) rfl rfl rfl pd_Mod_isKind (by decide) [0, 1, 4] rfl (by decide) 0 10 rfl rfl rfl rfl (Nat.le_of_ble_eq_true rfl) d_Mod_fits_308 (by decide)) ?_
                                  obtain ⟨g80, h⟩ := wk_g h
                                  cases h
                                  exact J_ret E ⟨_, rfl, j_bool g80⟩ d_Mod_fits_311 (Nat.le_refl _) (Nat.le_refl _) rfl
                                · rcases wk_c h with ⟨c81, h⟩ | ⟨c81, h⟩
                                  · refine J_tsIn (tgt := 172) X 23 c81 g17 d_Mod_fits_73 (by decide) (by decide) rfl (by decide) ?_
                                    refine J_aload_n X d_Mod_fits_172 rfl 0 rfl ?_
                                    refine J_iconst X d_Mod_fits_173 ?_
                                    refine J_iconst X d_Mod_fits_174 ?_
                                    obtain ⟨r82, q83, h⟩ := wk_b h
                                    refine J_afterP (jrunV X (c_Mod_isKind (ad := ad) q83) jF0_k (fun _ _ _ _ => trivial) (jgV own_Mod_fits (by decide +kernel)) rfl rfl rfl pd_Mod_isKind (by decide) [0, 1, 4] rfl (by decide) 0 10 rfl rfl rfl rfl (Nat.le_of_ble_eq_true rfl) d_Mod_fits_175 (by decide)) ?_
                                    obtain ⟨g84, h⟩ := wk_g h
                                    cases h
                                    exact J_ret E ⟨_, rfl, j_bool g84⟩ d_Mod_fits_178 (Nat.le_refl _) (Nat.le_refl _) rfl
                                  · rcases wk_c h with ⟨c85, h⟩ | ⟨c85, h⟩
                                    · refine J_tsIn (tgt := 312) X 24 c85 g17 d_Mod_fits_73 (by decide) (by decide) rfl (by decide) ?_
                                      refine J_aload_n X d_Mod_fits_312 rfl 0 rfl ?_
                                      refine J_iconst X d_Mod_fits_313 ?_
                                      refine J_iconst X d_Mod_fits_314 ?_
                                      obtain ⟨r86, q87, h⟩ := wk_b h
                                      refine J_afterP (jrunV X (c_Mod_isForm (ad := ad) q87) jF0_k (fun _ _ _ _ => trivial) (jgV own_Mod_fits (by decide +kernel)) rfl rfl rfl pd_Mod_isForm (by decide) [0, 1, 2, 3, 4] rfl (by decide) 0 10 rfl rfl rfl rfl (Nat.le_of_ble_eq_true rfl) d_Mod_fits_315 (by decide)) ?_
                                      obtain ⟨g88, h⟩ := wk_g h
                                      cases h
                                      exact J_ret E ⟨_, rfl, j_bool g88⟩ d_Mod_fits_318 (Nat.le_refl _) (Nat.le_refl _) rfl
                                    · rcases wk_c h with ⟨c89, h⟩ | ⟨c89, h⟩
                                      · refine J_tsIn (tgt := 319) X 25 c89 g17 d_Mod_fits_73 (by decide) (by decide) rfl (by decide) ?_
                                        refine J_aload_n X d_Mod_fits_319 rfl 0 rfl ?_
                                        refine J_iconst X d_Mod_fits_320 ?_
                                        refine J_iconst X d_Mod_fits_321 ?_
                                        obtain ⟨r90, q91, h⟩ := wk_b h
                                        refine J_afterP (jrunV X (c_Mod_isForm (ad := ad) q91) jF0_k (fun _ _ _ _ => trivial) (jgV own_Mod_fits (by decide +kernel)) rfl rfl rfl pd_Mod_isForm (by decide) [0, 1, 2, 3, 4] rfl (by decide) 0 10 rfl rfl rfl rfl (Nat.le_of_ble_eq_true rfl) d_Mod_fits_322 (by decide)) ?_
                                        obtain ⟨g92, h⟩ := wk_g h
                                        cases h
                                        exact J_ret E ⟨_, rfl, j_bool g92⟩ d_Mod_fits_325 (Nat.le_refl _) (Nat.le_refl _) rfl
                                      · rcases wk_c h with ⟨c93, h⟩ | ⟨c93, h⟩
                                        · refine J_tsIn (tgt := 357) X 26 c93 g17 d_Mod_fits_73 (by decide) (by decide) rfl (by decide) ?_
                                          refine J_aload_n X d_Mod_fits_357 rfl 0 rfl ?_
                                          refine J_iconst X d_Mod_fits_358 ?_
                                          refine J_iconst X d_Mod_fits_359 ?_
                                          obtain ⟨r94, q95, h⟩ := wk_b h
                                          refine J_afterP (jrunV X (c_Mod_isForm (ad := ad) q95) jF0_k (fun _ _ _ _ => trivial) (jgV own_Mod_fits (by decide +kernel)) rfl rfl rfl pd_Mod_isForm (by decide) [0, 1, 2, 3, 4] rfl (by decide) 0 10 rfl rfl rfl rfl (Nat.le_of_ble_eq_true rfl) d_Mod_fits_360 (by decide)) ?_
                                          obtain ⟨g96, h⟩ := wk_g h
                                          cases h
                                          exact J_ret E ⟨_, rfl, j_bool g96⟩ d_Mod_fits_363 (Nat.le_refl _) (Nat.le_refl _) rfl
                                        · rcases wk_c h with ⟨c97, h⟩ | ⟨c97, h⟩
                                          · refine J_tsIn (tgt := 357) X 27 c97 g17 d_Mod_fits_73 (by decide) (by decide) rfl (by decide) ?_
                                            refine J_aload_n X d_Mod_fits_357 rfl 0 rfl ?_
                                            refine J_iconst X d_Mod_fits_358 ?_
                                            refine J_iconst X d_Mod_fits_359 ?_
                                            obtain ⟨r98, q99, h⟩ := wk_b h
                                            refine J_afterP (jrunV X (c_Mod_isForm (ad := ad) q99) jF0_k (fun _ _ _ _ => trivial) (jgV own_Mod_fits (by decide +kernel)) rfl rfl rfl pd_Mod_isForm (by decide) [0, 1, 2, 3, 4] rfl (by decide) 0 10 rfl rfl rfl rfl (Nat.le_of_ble_eq_true rfl) d_Mod_fits_360 (by decide)) ?_
                                            obtain ⟨g100, h⟩ := wk_g h
                                            cases h
                                            exact J_ret E ⟨_, rfl, j_bool g100⟩ d_Mod_fits_363 (Nat.le_refl _) (Nat.le_refl _) rfl
                                          · rcases wk_c h with ⟨c101, h⟩ | ⟨c101, h⟩
                                            · refine J_tsIn (tgt := 326) X 28 c101 g17 d_Mod_fits_73 (by decide) (by decide) rfl (by decide) ?_
                                              refine J_aload_n X d_Mod_fits_326 rfl 0 rfl ?_
                                              refine J_iconst X d_Mod_fits_327 ?_
                                              refine J_iconst X d_Mod_fits_328 ?_
                                              obtain ⟨r102, q103, h⟩ := wk_b h
                                              refine J_afterP (jrunV X (c_Mod_isKind (ad := ad) q103) jF0_k (fun _ _ _ _ => trivial) (jgV own_Mod_fits (by decide +kernel)) rfl rfl rfl pd_Mod_isKind (by decide) [0, 1, 4] rfl (by decide) 0 10 rfl rfl rfl rfl (Nat.le_of_ble_eq_true rfl) d_Mod_fits_329 (by decide)) ?_
                                              refine J_if_eq (tgt := 348) X d_Mod_fits_332 (by decide) h (fun c104 h => ?_) (fun c104 h => ?_)
                                              · refine J_iconst X d_Mod_fits_348 ?_
                                                cases h
                                                exact J_ret E ⟨_, rfl, j_bool (Or.inl rfl)⟩ d_Mod_fits_349 (Nat.le_refl _) (Nat.le_refl _) rfl
                                              · refine J_aload_n X d_Mod_fits_335 rfl 0 rfl ?_
                                                refine J_iconst X d_Mod_fits_336 ?_
                                                refine J_iconst X d_Mod_fits_337 ?_
                                                obtain ⟨r105, q106, h⟩ := wk_b h
                                                refine J_afterP (jrunV X (c_Mod_isForm (ad := ad) q106) jF0_k (fun _ _ _ _ => trivial) (jgV own_Mod_fits (by decide +kernel)) rfl rfl rfl pd_Mod_isForm (by decide) [0, 1, 2, 3, 4] rfl (by decide) 0 10 rfl rfl rfl rfl (Nat.le_of_ble_eq_true rfl) d_Mod_fits_338 (by decide)) ?_
                                                refine J_if_eq (tgt := 348) X d_Mod_fits_341 (by decide) h (fun c107 h => ?_) (fun c107 h => ?_)
                                                · refine J_iconst X d_Mod_fits_348 ?_
                                                  cases h
                                                  exact J_ret E ⟨_, rfl, j_bool (Or.inl rfl)⟩ d_Mod_fits_349 (Nat.le_refl _) (Nat.le_refl _) rfl
                                                · refine J_iconst X d_Mod_fits_344 ?_
                                                  refine J_goto (tgt := 349) X d_Mod_fits_345 (by decide) ?_
                                                  cases h
                                                  exact J_ret E ⟨_, rfl, j_bool (Or.inr rfl)⟩ d_Mod_fits_349 (Nat.le_refl _) (Nat.le_refl _) rfl
                                            · rcases wk_c h with ⟨c108, h⟩ | ⟨c108, h⟩
                                              · refine J_tsIn (tgt := 357) X 29 c108 g17 d_Mod_fits_73 (by decide) (by decide) rfl (by decide) ?_
                                                refine J_aload_n X d_Mod_fits_357 rfl 0 rfl ?_
                                                refine J_iconst X d_Mod_fits_358 ?_
                                                refine J_iconst X d_Mod_fits_359 ?_
                                                obtain ⟨r109, q110, h⟩ := wk_b h
                                                refine J_afterP (jrunV X (c_Mod_isForm (ad := ad) q110) jF0_k (fun _ _ _ _ => trivial) (jgV own_Mod_fits (by decide +kernel)) rfl rfl rfl pd_Mod_isForm (by decide) [0, 1, 2, 3, 4] rfl (by decide) 0 10 rfl rfl rfl rfl (Nat.le_of_ble_eq_true rfl) d_Mod_fits_360 (by decide)) ?_
                                                obtain ⟨g111, h⟩ := wk_g h
                                                cases h
                                                exact J_ret E ⟨_, rfl, j_bool g111⟩ d_Mod_fits_363 (Nat.le_refl _) (Nat.le_refl _) rfl
                                              · rcases wk_c h with ⟨c112, h⟩ | ⟨c112, h⟩
                                                · refine J_tsIn (tgt := 357) X 30 c112 g17 d_Mod_fits_73 (by decide) (by decide) rfl (by decide) ?_
                                                  refine J_aload_n X d_Mod_fits_357 rfl 0 rfl ?_
                                                  refine J_iconst X d_Mod_fits_358 ?_
                                                  refine J_iconst X d_Mod_fits_359 ?_
                                                  obtain ⟨r113, q114, h⟩ := wk_b h
                                                  refine J_afterP (jrunV X (c_Mod_isForm (ad := ad) q114) jF0_k (fun _ _ _ _ => trivial) (jgV own_Mod_fits (by decide +kernel)) rfl rfl rfl pd_Mod_isForm (by decide) [0, 1, 2, 3, 4] rfl (by decide) 0 10 rfl rfl rfl rfl (Nat.le_of_ble_eq_true rfl) d_Mod_fits_360 (by decide)) ?_
                                                  obtain ⟨g115, h⟩ := wk_g h
                                                  cases h
                                                  exact J_ret E ⟨_, rfl, j_bool g115⟩ d_Mod_fits_363 (Nat.le_refl _) (Nat.le_refl _) rfl
                                                · rcases wk_c h with ⟨c116, h⟩ | ⟨c116, h⟩
                                                  · refine J_tsIn (tgt := 350) X 31 c116 g17 d_Mod_fits_73 (by decide) (by decide) rfl (by decide) ?_
                                                    refine J_aload_n X d_Mod_fits_350 rfl 0 rfl ?_
                                                    refine J_iconst X d_Mod_fits_351 ?_
                                                    refine J_iconst X d_Mod_fits_352 ?_
                                                    obtain ⟨r117, q118, h⟩ := wk_b h
                                                    refine J_afterP (jrunV X (c_Mod_isForm (ad := ad) q118) jF0_k (fun _ _ _ _ => trivial) (jgV own_Mod_fits (by decide +kernel)) rfl rfl rfl pd_Mod_isForm (by decide) [0, 1, 2, 3, 4] rfl (by decide) 0 10 rfl rfl rfl rfl (Nat.le_of_ble_eq_true rfl) d_Mod_fits_353 (by decide)) ?_
                                                    obtain ⟨g119, h⟩ := wk_g h
                                                    cases h
                                                    exact J_ret E ⟨_, rfl, j_bool g119⟩ d_Mod_fits_356 (Nat.le_refl _) (Nat.le_refl _) rfl
                                                  · refine J_tsOut (tgt := 357) X g17 d_Mod_fits_73 (by omega) (by decide) ?_
                                                    refine J_aload_n X d_Mod_fits_357 rfl 0 rfl ?_
                                                    refine J_iconst X d_Mod_fits_358 ?_
                                                    refine J_iconst X d_Mod_fits_359 ?_
                                                    obtain ⟨r120, q121, h⟩ := wk_b h
                                                    refine J_afterP (jrunV X (c_Mod_isForm (ad := ad) q121) jF0_k (fun _ _ _ _ => trivial) (jgV own_Mod_fits (by decide +kernel)) rfl rfl rfl pd_Mod_isForm (by decide) [0, 1, 2, 3, 4] rfl (by decide) 0 10 rfl rfl rfl rfl (Nat.le_of_ble_eq_true rfl) d_Mod_fits_360 (by decide)) ?_
                                                    obtain ⟨g122, h⟩ := wk_g h
                                                    cases h
                                                    exact J_ret E ⟨_, rfl, j_bool g122⟩ d_Mod_fits_363 (Nat.le_refl _) (Nat.le_refl _) rfl
        · refine J_aload_n X d_Mod_fits_48 rfl 0 rfl ?_
          refine J_iconst X d_Mod_fits_49 ?_
          refine J_iconst X d_Mod_fits_50 ?_
          obtain ⟨r123, q124, h⟩ := wk_b h
          refine J_afterP (jrunV X (c_Mod_isKind (ad := ad) q124) jF0_k (fun _ _ _ _ => trivial) (jgV own_Mod_fits (by decide +kernel)) rfl rfl rfl pd_Mod_isKind (by decide) [0, 1, 4] rfl (by decide) 0 10 rfl rfl rfl rfl (Nat.le_of_ble_eq_true rfl) d_Mod_fits_51 (by decide)) ?_
          refine J_if_eq (tgt := 70) X d_Mod_fits_54 (by decide) h (fun c125 h => ?_) (fun c125 h => ?_)
          · refine J_iconst X d_Mod_fits_70 ?_
            cases h
            exact J_ret E ⟨_, rfl, j_bool (Or.inl rfl)⟩ d_Mod_fits_71 (Nat.le_refl _) (Nat.le_refl _) rfl
          · refine J_aload_n X d_Mod_fits_57 rfl 0 rfl ?_
            refine J_iconst X d_Mod_fits_58 ?_
            refine J_iconst X d_Mod_fits_59 ?_
            obtain ⟨r126, q127, h⟩ := wk_b h
            refine J_afterP (jrunV X (c_Mod_isKind (ad := ad) q127) jF0_k (fun _ _ _ _ => trivial) (jgV own_Mod_fits (by decide +kernel)) rfl rfl rfl pd_Mod_isKind (by decide) [0, 1, 4] rfl (by decide) 0 10 rfl rfl rfl rfl (Nat.le_of_ble_eq_true rfl) d_Mod_fits_60 (by decide)) ?_
            refine J_if_eq (tgt := 70) X d_Mod_fits_63 (by decide) h (fun c128 h => ?_) (fun c128 h => ?_)
            · refine J_iconst X d_Mod_fits_70 ?_
              cases h
              exact J_ret E ⟨_, rfl, j_bool (Or.inl rfl)⟩ d_Mod_fits_71 (Nat.le_refl _) (Nat.le_refl _) rfl
            · refine J_iconst X d_Mod_fits_66 ?_
              refine J_goto (tgt := 71) X d_Mod_fits_67 (by decide) ?_
              cases h
              exact J_ret E ⟨_, rfl, j_bool (Or.inr rfl)⟩ d_Mod_fits_71 (Nat.le_refl _) (Nat.le_refl _) rfl
  · refine J_aload_n X d_Mod_fits_6 rfl 0 rfl ?_
    refine J_iconst X d_Mod_fits_7 ?_
    refine J_iconst X d_Mod_fits_8 ?_
    obtain ⟨r129, q130, h⟩ := wk_b h
    refine J_afterP (jrunV X (c_Mod_isKind (ad := ad) q130) jF0_k (fun _ _ _ _ => trivial) (jgV own_Mod_fits (by decide +kernel)) rfl rfl rfl pd_Mod_isKind (by decide) [0, 1, 4] rfl (by decide) 0 10 rfl rfl rfl rfl (Nat.le_of_ble_eq_true rfl) d_Mod_fits_9 (by decide)) ?_
    refine J_if_eq (tgt := 28) X d_Mod_fits_12 (by decide) h (fun c131 h => ?_) (fun c131 h => ?_)
    · refine J_iconst X d_Mod_fits_28 ?_
      cases h
      exact J_ret E ⟨_, rfl, j_bool (Or.inl rfl)⟩ d_Mod_fits_29 (Nat.le_refl _) (Nat.le_refl _) rfl
    · refine J_aload_n X d_Mod_fits_15 rfl 0 rfl ?_
      refine J_iconst X d_Mod_fits_16 ?_
      refine J_iconst X d_Mod_fits_17 ?_
      obtain ⟨r132, q133, h⟩ := wk_b h
      refine J_afterP (jrunV X (c_Mod_isKind (ad := ad) q133) jF0_k (fun _ _ _ _ => trivial) (jgV own_Mod_fits (by decide +kernel)) rfl rfl rfl pd_Mod_isKind (by decide) [0, 1, 4] rfl (by decide) 0 10 rfl rfl rfl rfl (Nat.le_of_ble_eq_true rfl) d_Mod_fits_18 (by decide)) ?_
      refine J_if_eq (tgt := 28) X d_Mod_fits_21 (by decide) h (fun c134 h => ?_) (fun c134 h => ?_)
      · refine J_iconst X d_Mod_fits_28 ?_
        cases h
        exact J_ret E ⟨_, rfl, j_bool (Or.inl rfl)⟩ d_Mod_fits_29 (Nat.le_refl _) (Nat.le_refl _) rfl
      · refine J_iconst X d_Mod_fits_24 ?_
        refine J_goto (tgt := 29) X d_Mod_fits_25 (by decide) ?_
        cases h
        exact J_ret E ⟨_, rfl, j_bool (Or.inr rfl)⟩ d_Mod_fits_29 (Nat.le_refl _) (Nat.le_refl _) rfl

theorem d_Mod_isProduct_0 : decode b_Mod_isProduct 0 = .ok (.lload_n 0, 1) := by decide +kernel
theorem d_Mod_isProduct_1 : decode b_Mod_isProduct 1 = .ok (.lconst 0, 1) := by decide +kernel
theorem d_Mod_isProduct_2 : decode b_Mod_isProduct 2 = .ok (.lcmp, 1) := by decide +kernel
theorem d_Mod_isProduct_3 : decode b_Mod_isProduct 3 = .ok (.ifCond .eq 9, 3) := by decide +kernel
theorem d_Mod_isProduct_6 : decode b_Mod_isProduct 6 = .ok (.lload_n 2, 1) := by decide +kernel
theorem d_Mod_isProduct_7 : decode b_Mod_isProduct 7 = .ok (.lconst 0, 1) := by decide +kernel
theorem d_Mod_isProduct_8 : decode b_Mod_isProduct 8 = .ok (.lcmp, 1) := by decide +kernel
theorem d_Mod_isProduct_9 : decode b_Mod_isProduct 9 = .ok (.ifCond .ne 5, 3) := by decide +kernel
theorem d_Mod_isProduct_12 : decode b_Mod_isProduct 12 = .ok (.iconst 1, 1) := by decide +kernel
theorem d_Mod_isProduct_13 : decode b_Mod_isProduct 13 = .ok (.ireturn, 1) := by decide +kernel
theorem d_Mod_isProduct_14 : decode b_Mod_isProduct 14 = .ok (.lload_n 0, 1) := by decide +kernel
theorem d_Mod_isProduct_15 : decode b_Mod_isProduct 15 = .ok (.lload_n 2, 1) := by decide +kernel
theorem d_Mod_isProduct_16 : decode b_Mod_isProduct 16 = .ok (.lmul, 1) := by decide +kernel
theorem d_Mod_isProduct_17 : decode b_Mod_isProduct 17 = .ok (.lstore 4, 2) := by decide +kernel
theorem d_Mod_isProduct_19 : decode b_Mod_isProduct 19 = .ok (.lload_n 0, 1) := by decide +kernel
theorem d_Mod_isProduct_20 : decode b_Mod_isProduct 20 = .ok (.ldc2_w 175, 3) := by decide +kernel
theorem d_Mod_isProduct_23 : decode b_Mod_isProduct 23 = .ok (.lcmp, 1) := by decide +kernel
theorem d_Mod_isProduct_24 : decode b_Mod_isProduct 24 = .ok (.ifCond .ne 11, 3) := by decide +kernel
theorem d_Mod_isProduct_27 : decode b_Mod_isProduct 27 = .ok (.lload_n 2, 1) := by decide +kernel
theorem d_Mod_isProduct_28 : decode b_Mod_isProduct 28 = .ok (.ldc2_w 179, 3) := by decide +kernel
theorem d_Mod_isProduct_31 : decode b_Mod_isProduct 31 = .ok (.lcmp, 1) := by decide +kernel
theorem d_Mod_isProduct_32 : decode b_Mod_isProduct 32 = .ok (.ifCond .eq 32, 3) := by decide +kernel
theorem d_Mod_isProduct_35 : decode b_Mod_isProduct 35 = .ok (.lload_n 2, 1) := by decide +kernel
theorem d_Mod_isProduct_36 : decode b_Mod_isProduct 36 = .ok (.ldc2_w 175, 3) := by decide +kernel
theorem d_Mod_isProduct_39 : decode b_Mod_isProduct 39 = .ok (.lcmp, 1) := by decide +kernel
theorem d_Mod_isProduct_40 : decode b_Mod_isProduct 40 = .ok (.ifCond .ne 11, 3) := by decide +kernel
theorem d_Mod_isProduct_43 : decode b_Mod_isProduct 43 = .ok (.lload_n 0, 1) := by decide +kernel
theorem d_Mod_isProduct_44 : decode b_Mod_isProduct 44 = .ok (.ldc2_w 179, 3) := by decide +kernel
theorem d_Mod_isProduct_47 : decode b_Mod_isProduct 47 = .ok (.lcmp, 1) := by decide +kernel
theorem d_Mod_isProduct_48 : decode b_Mod_isProduct 48 = .ok (.ifCond .eq 16, 3) := by decide +kernel
theorem d_Mod_isProduct_51 : decode b_Mod_isProduct 51 = .ok (.lload 4, 2) := by decide +kernel
theorem d_Mod_isProduct_53 : decode b_Mod_isProduct 53 = .ok (.lload_n 2, 1) := by decide +kernel
theorem d_Mod_isProduct_54 : decode b_Mod_isProduct 54 = .ok (.ldiv, 1) := by decide +kernel
theorem d_Mod_isProduct_55 : decode b_Mod_isProduct 55 = .ok (.lload_n 0, 1) := by decide +kernel
theorem d_Mod_isProduct_56 : decode b_Mod_isProduct 56 = .ok (.lcmp, 1) := by decide +kernel
theorem d_Mod_isProduct_57 : decode b_Mod_isProduct 57 = .ok (.ifCond .ne 7, 3) := by decide +kernel
theorem d_Mod_isProduct_60 : decode b_Mod_isProduct 60 = .ok (.iconst 1, 1) := by decide +kernel
theorem d_Mod_isProduct_61 : decode b_Mod_isProduct 61 = .ok (.goto 4, 3) := by decide +kernel
theorem d_Mod_isProduct_64 : decode b_Mod_isProduct 64 = .ok (.iconst 0, 1) := by decide +kernel
theorem d_Mod_isProduct_65 : decode b_Mod_isProduct 65 = .ok (.ireturn, 1) := by decide +kernel
def f_Mod_isProduct (p0 : Int) (p2 : Int) : Option (Int) :=
  if jl2 p0 0 = true then (if p0 = 0 then (
   some 1) else (
   if jl2 p2 0 = true then (if p2 = 0 then (
    some 1) else (
    if jl2 p0 (-1) = true then (if p0 = (-1) then (
     if jl2 p2 (-9223372036854775808) = true then (if p2 = (-9223372036854775808) then (
      some 0) else (
      if jl2 p2 (-1) = true then (if p2 = (-1) then (
       if jl2 p0 (-9223372036854775808) = true then (if p0 = (-9223372036854775808) then (
        some 0) else (
        if jdl (j_w64 (p0 * p2)) p2 = true then (
         if jl2 (Int.tdiv (j_w64 (p0 * p2)) p2) p0 = true then (if (Int.tdiv (j_w64 (p0 * p2)) p2) = p0 then (
          some 1) else (
          some 0)) else none) else none)) else none) else (
       if jdl (j_w64 (p0 * p2)) p2 = true then (
        if jl2 (Int.tdiv (j_w64 (p0 * p2)) p2) p0 = true then (if (Int.tdiv (j_w64 (p0 * p2)) p2) = p0 then (
         some 1) else (
         some 0)) else none) else none)) else none)) else none) else (
     if jl2 p2 (-1) = true then (if p2 = (-1) then (
      if jl2 p0 (-9223372036854775808) = true then (if p0 = (-9223372036854775808) then (
       some 0) else (
       if jdl (j_w64 (p0 * p2)) p2 = true then (
        if jl2 (Int.tdiv (j_w64 (p0 * p2)) p2) p0 = true then (if (Int.tdiv (j_w64 (p0 * p2)) p2) = p0 then (
         some 1) else (
         some 0)) else none) else none)) else none) else (
      if jdl (j_w64 (p0 * p2)) p2 = true then (
       if jl2 (Int.tdiv (j_w64 (p0 * p2)) p2) p0 = true then (if (Int.tdiv (j_w64 (p0 * p2)) p2) = p0 then (
        some 1) else (
        some 0)) else none) else none)) else none)) else none)) else none)) else none
set_option maxHeartbeats 4000000 in
set_option maxRecDepth 100000 in
theorem c_Mod_isProduct {l : Launch} {D : va_G} {cI cL cB : ClassId} {ad : Nat → Nat} {p0 : Int} {p2 : Int} {out : Int} (h : f_Mod_isProduct p0 p2 = some out) : CT jF0 true l D [(cI, .int), (cL, .long), (cB, .byte)] y_Mod_isProduct w_Mod_isProduct ({ frames := 0, cells := 0, slots := 0, locals := 0 } : Room) [.long (zL p0), .long (zL p2)] [] (some (.int (zI out))) [] 0 0 := by
  refine CT_of_J (cc := b_Mod_isProduct) (maxL := 6) (ret := (some .boolean)) jF0_k (plainFor_of_name (by decide)) rfl (Nat.le_of_ble_eq_true rfl) ?_
  intro K hKl hKD X E
  subst hKl; subst hKD
  unfold f_Mod_isProduct at h
  refine J_lload_n X d_Mod_isProduct_0 rfl 0 rfl ?_
  refine J_lconst (v := 0) X d_Mod_isProduct_1 (by decide) ?_
  refine J_lc_eq (tgt := 12) X d_Mod_isProduct_2 d_Mod_isProduct_3 (by decide) h (fun c1 h => ?_) (fun c1 h => ?_)
  · refine J_iconst X d_Mod_isProduct_12 ?_
    cases h
    exact J_ret E ⟨_, rfl, j_bool (Or.inr rfl)⟩ d_Mod_isProduct_13 (Nat.le_refl _) (Nat.le_refl _) rfl
  · refine J_lload_n X d_Mod_isProduct_6 rfl 1 rfl ?_
    refine J_lconst (v := 0) X d_Mod_isProduct_7 (by decide) ?_
    refine J_lc_ne (tgt := 14) X d_Mod_isProduct_8 d_Mod_isProduct_9 (by decide) h (fun c2 h => ?_) (fun c2 h => ?_)
    · refine J_lload_n X d_Mod_isProduct_14 rfl 0 rfl ?_
      refine J_lload_n X d_Mod_isProduct_15 rfl 1 rfl ?_
      refine J_lmulw X d_Mod_isProduct_16 ?_
      refine J_lstore (lv' := [(4, .long (zL (j_w64 (p0 * p2)))), (0, .long (zL p0)), (2, .long (zL p2))]) X d_Mod_isProduct_17 (by decide) rfl ?_
      refine J_lload_n X d_Mod_isProduct_19 rfl 1 rfl ?_
      refine J_ldc2 (v := (-1)) (n := (-1)) X (j_m own_Mod_isProduct (by decide +kernel)) (by decide) d_Mod_isProduct_20 ?_
      refine J_lc_ne (tgt := 35) X d_Mod_isProduct_23 d_Mod_isProduct_24 (by decide) h (fun c3 h => ?_) (fun c3 h => ?_)
      · refine J_lload_n X d_Mod_isProduct_35 rfl 2 rfl ?_
        refine J_ldc2 (v := (-1)) (n := (-1)) X (j_m own_Mod_isProduct (by decide +kernel)) (by decide) d_Mod_isProduct_36 ?_
        refine J_lc_ne (tgt := 51) X d_Mod_isProduct_39 d_Mod_isProduct_40 (by decide) h (fun c4 h => ?_) (fun c4 h => ?_)
        · refine J_lload X d_Mod_isProduct_51 0 rfl ?_
          refine J_lload_n X d_Mod_isProduct_53 rfl 2 rfl ?_
          obtain ⟨g5, h⟩ := wk_g h
          refine J_ldiv X g5 d_Mod_isProduct_54 ?_
          refine J_lload_n X d_Mod_isProduct_55 rfl 1 rfl ?_
          refine J_lc_ne (tgt := 64) X d_Mod_isProduct_56 d_Mod_isProduct_57 (by decide) h (fun c6 h => ?_) (fun c6 h => ?_)
          · refine J_iconst X d_Mod_isProduct_64 ?_
            cases h
            exact J_ret E ⟨_, rfl, j_bool (Or.inl rfl)⟩ d_Mod_isProduct_65 (Nat.le_refl _) (Nat.le_refl _) rfl
          · refine J_iconst X d_Mod_isProduct_60 ?_
            refine J_goto (tgt := 65) X d_Mod_isProduct_61 (by decide) ?_
            cases h
            exact J_ret E ⟨_, rfl, j_bool (Or.inr rfl)⟩ d_Mod_isProduct_65 (Nat.le_refl _) (Nat.le_refl _) rfl
        · refine J_lload_n X d_Mod_isProduct_43 rfl 1 rfl ?_
          refine J_ldc2 (v := (-9223372036854775808)) (n := (-9223372036854775808)) X (j_m own_Mod_isProduct (by decide +kernel)) (by decide) d_Mod_isProduct_44 ?_
          refine J_lc_eq (tgt := 64) X d_Mod_isProduct_47 d_Mod_isProduct_48 (by decide) h (fun c7 h => ?_) (fun c7 h => ?_)
          · refine J_iconst X d_Mod_isProduct_64 ?_
            cases h
            exact J_ret E ⟨_, rfl, j_bool (Or.inl rfl)⟩ d_Mod_isProduct_65 (Nat.le_refl _) (Nat.le_refl _) rfl
          · refine J_lload X d_Mod_isProduct_51 0 rfl ?_
            refine J_lload_n X d_Mod_isProduct_53 rfl 2 rfl ?_
            obtain ⟨g8, h⟩ := wk_g h
            refine J_ldiv X g8 d_Mod_isProduct_54 ?_
            refine J_lload_n X d_Mod_isProduct_55 rfl 1 rfl ?_
            refine J_lc_ne (tgt := 64) X d_Mod_isProduct_56 d_Mod_isProduct_57 (by decide) h (fun c9 h => ?_) (fun c9 h => ?_)
            · refine J_iconst X d_Mod_isProduct_64 ?_
              cases h
              exact J_ret E ⟨_, rfl, j_bool (Or.inl rfl)⟩ d_Mod_isProduct_65 (Nat.le_refl _) (Nat.le_refl _) rfl
            · refine J_iconst X d_Mod_isProduct_60 ?_
              refine J_goto (tgt := 65) X d_Mod_isProduct_61 (by decide) ?_
              cases h
              exact J_ret E ⟨_, rfl, j_bool (Or.inr rfl)⟩ d_Mod_isProduct_65 (Nat.le_refl _) (Nat.le_refl _) rfl
      · refine J_lload_n X d_Mod_isProduct_27 rfl 2 rfl ?_
        refine J_ldc2 (v := (-9223372036854775808)) (n := (-9223372036854775808)) X (j_m own_Mod_isProduct (by decide +kernel)) (by decide) d_Mod_isProduct_28 ?_
        refine J_lc_eq (tgt := 64) X d_Mod_isProduct_31 d_Mod_isProduct_32 (by decide) h (fun c10 h => ?_) (fun c10 h => ?_)
        · refine J_iconst X d_Mod_isProduct_64 ?_
          cases h
          exact J_ret E ⟨_, rfl, j_bool (Or.inl rfl)⟩ d_Mod_isProduct_65 (Nat.le_refl _) (Nat.le_refl _) rfl
        · refine J_lload_n X d_Mod_isProduct_35 rfl 2 rfl ?_
          refine J_ldc2 (v := (-1)) (n := (-1)) X (j_m own_Mod_isProduct (by decide +kernel)) (by decide) d_Mod_isProduct_36 ?_
          refine J_lc_ne (tgt := 51) X d_Mod_isProduct_39 d_Mod_isProduct_40 (by decide) h (fun c11 h => ?_) (fun c11 h => ?_)
          · refine J_lload X d_Mod_isProduct_51 0 rfl ?_
            refine J_lload_n X d_Mod_isProduct_53 rfl 2 rfl ?_
            obtain ⟨g12, h⟩ := wk_g h
            refine J_ldiv X g12 d_Mod_isProduct_54 ?_
            refine J_lload_n X d_Mod_isProduct_55 rfl 1 rfl ?_
            refine J_lc_ne (tgt := 64) X d_Mod_isProduct_56 d_Mod_isProduct_57 (by decide) h (fun c13 h => ?_) (fun c13 h => ?_)
            · refine J_iconst X d_Mod_isProduct_64 ?_
              cases h
              exact J_ret E ⟨_, rfl, j_bool (Or.inl rfl)⟩ d_Mod_isProduct_65 (Nat.le_refl _) (Nat.le_refl _) rfl
            · refine J_iconst X d_Mod_isProduct_60 ?_
              refine J_goto (tgt := 65) X d_Mod_isProduct_61 (by decide) ?_
              cases h
              exact J_ret E ⟨_, rfl, j_bool (Or.inr rfl)⟩ d_Mod_isProduct_65 (Nat.le_refl _) (Nat.le_refl _) rfl
          · refine J_lload_n X d_Mod_isProduct_43 rfl 1 rfl ?_
            refine J_ldc2 (v := (-9223372036854775808)) (n := (-9223372036854775808)) X (j_m own_Mod_isProduct (by decide +kernel)) (by decide) d_Mod_isProduct_44 ?_
            refine J_lc_eq (tgt := 64) X d_Mod_isProduct_47 d_Mod_isProduct_48 (by decide) h (fun c14 h => ?_) (fun c14 h => ?_)
            · refine J_iconst X d_Mod_isProduct_64 ?_
              cases h
              exact J_ret E ⟨_, rfl, j_bool (Or.inl rfl)⟩ d_Mod_isProduct_65 (Nat.le_refl _) (Nat.le_refl _) rfl
            · refine J_lload X d_Mod_isProduct_51 0 rfl ?_
              refine J_lload_n X d_Mod_isProduct_53 rfl 2 rfl ?_
              obtain ⟨g15, h⟩ := wk_g h
              refine J_ldiv X g15 d_Mod_isProduct_54 ?_
              refine J_lload_n X d_Mod_isProduct_55 rfl 1 rfl ?_
              refine J_lc_ne (tgt := 64) X d_Mod_isProduct_56 d_Mod_isProduct_57 (by decide) h (fun c16 h => ?_) (fun c16 h => ?_)
              · refine J_iconst X d_Mod_isProduct_64 ?_
                cases h
                exact J_ret E ⟨_, rfl, j_bool (Or.inl rfl)⟩ d_Mod_isProduct_65 (Nat.le_refl _) (Nat.le_refl _) rfl
              · refine J_iconst X d_Mod_isProduct_60 ?_
                refine J_goto (tgt := 65) X d_Mod_isProduct_61 (by decide) ?_
                cases h
                exact J_ret E ⟨_, rfl, j_bool (Or.inr rfl)⟩ d_Mod_isProduct_65 (Nat.le_refl _) (Nat.le_refl _) rfl
    · refine J_iconst X d_Mod_isProduct_12 ?_
      cases h
      exact J_ret E ⟨_, rfl, j_bool (Or.inr rfl)⟩ d_Mod_isProduct_13 (Nat.le_refl _) (Nat.le_refl _) rfl

