set_option maxHeartbeats 4000000 in
set_option maxRecDepth 100000 in
theorem lb_bytes {adK adV : Nat → Nat} {ro : Nat} {cI cL cB : ClassId} {b L : Nat} {xs : Nat → Int32} {K : jK} {ad am : Nat → Nat} {ao : Nat} {Inv : jInv} {ci : Nat → Int} {ca : Nat → Int → Int} {mi : Nat → Int} {ma : Nat → Int → Int} {o : Int → Int} {i : Int} {cells slots : Nat} (X : jX (jFl adK adV ro cI cL cB b L xs) K 8 code wLawT R_Law [(cI, .int), (cL, .long), (cB, .byte)]) (hS : Sim_bytes Inv) (hL : L ≤ 2048) (h0 : 0 ≤ i) (h4 : i + 4 ≤ L) (hc : cells + 1 ≤ 601024) (hs : slots + 6 ≤ 7293034) (hfl : (jL K).flags = pinnedFlags ++ [noTraceFlag]) (h : Inv ci ca mi ma) (k : ∀ ci ca mi ma o, Inv ci ca mi ma → J K 8 room_1 false (cells + 1) (slots + 6) (wLaw ad am ao cI cL cB ci ca mi ma o) [(4, .int (zI i)), (3, .ref ao), (2, .ref (am 0)), (1, .ref (ad 0)), (0, .ref b)] [] 700) : J K 8 room_1 false cells slots (wLaw ad am ao cI cL cB ci ca mi ma o) [(4, .int (zI i)), (3, .ref ao), (2, .ref (am 0)), (1, .ref (ad 0)), (0, .ref b)] [] 215 := by
  have hF := X.2.2.2.2.2
  have hc0 : cells ≤ 601024 := by omega
  have hs0 : slots ≤ 7293034 := by omega
  rcases hS ci ca mi ma (j_lor (j_lshl (sxZ xs (i + 1)) 32) (j_land (sxZ xs (i + 2)) 4294967295)) (sxZ xs (i + 3)) h (rL_of _) sxZ_r with ⟨N1, N2, o1, o2, h1, h2, hthr, hr, heq, hI⟩ | ⟨N2, o2, h1, h2, hthr, hI⟩ | ⟨N2, o2, h1, h2, hthr, hI⟩
  · have hj : jr2 o2.2.1 0 = true := by rw [hthr]; decide
    have hr2 : rI o2.1 = true := by rw [← heq]; exact hr
    have hout : (upZ o 0 (o1.1)) 0 = o2.1 := by rw [← heq]; simp [upZ]
    have hj2 : jl2 ((upZ o 0 (o1.1)) 0) o2.1 = true := by rw [hout]; simp only [jl2, Bool.and_self]; rw [rL_iff]; have := rI_iff.mp hr2; omega
    refine J_aload_n X d_law_215 rfl 3 rfl ?_
    refine J_aload_n X d_law_216 rfl 4 rfl ?_
    refine J_iload X d_law_217 0 rfl ?_
    refine J_iconst X d_law_219 ?_
    refine J_iadd X d_law_220 ?_
    refine J_xld X hF (jix_iff.mpr ⟨by omega, by omega, by omega⟩) d_law_221 ?_
    refine J_i2l X sxZ_r d_law_222 ?_
    refine J_bipush X d_law_223 (by decide) ?_
    refine J_lshl X d_law_225 ?_
    refine J_aload_n X d_law_226 rfl 4 rfl ?_
    refine J_iload X d_law_227 0 rfl ?_
    refine J_iconst X d_law_229 ?_
    refine J_iadd X d_law_230 ?_
    refine J_xld X hF (jix_iff.mpr ⟨by omega, by omega, by omega⟩) d_law_231 ?_
    refine J_i2l X sxZ_r d_law_232 ?_
    refine J_ldc2 (n := 4294967295) (v := 4294967295) X (jw_m (by decide +kernel)) (by decide) d_law_233 ?_
    refine J_land X d_law_236 ?_
    refine J_lor X d_law_237 ?_
    refine J_aload_n X d_law_238 rfl 4 rfl ?_
    refine J_iload X d_law_239 0 rfl ?_
    refine J_iconst X d_law_241 ?_
    refine J_iadd X d_law_242 ?_
    refine J_xld X hF (jix_iff.mpr ⟨by omega, by omega, by omega⟩) d_law_243 ?_
    refine J_aload_n X d_law_244 rfl 1 rfl ?_
    refine J_afterR (ws' := (wLaw ad am ao cI cL cB (li [ci 0, (o1.2.1), (o1.2.2.1), ci 3, ci 4, ci 5, ci 6, ci 7, ci 8, ci 9, ci 10, ci 11, ci 12, ci 13, ci 14, ci 15, ci 16, ci 17, ci 18]) (la [(o1.2.2.2.1), (o1.2.2.2.2.1), (o1.2.2.2.2.2.1), (o1.2.2.2.2.2.2.1), (o1.2.2.2.2.2.2.2), ca 5, ca 6, ca 7, ca 8, ca 9, ca 10, ca 11, ca 12, ca 13, ca 14, ca 15, ca 16, ca 17, ca 18, ca 19, ca 20, ca 21]) mi ma (upZ o 0 (o1.1)))) X (jrunSW X (cl_bytes (ad := ad) (ao := ao) (o := o) (N := N1) (C_answer := (ci 0)) (T_nodes := (ci 1)) (T_count := (ci 2)) (T_kinds := (ca 0)) (T_args := (ca 1)) (T_firsts := (ca 2)) (T_lacks := (ca 3)) (TB_top := (ci 3)) (TB_row := (ca 4)) (p1 := (j_lor (j_lshl (sxZ xs (i + 1)) 32) (j_land (sxZ xs (i + 2)) 4294967295))) (p3 := (sxZ xs (i + 3))) h1 hr) jFc_k (fun _ _ _ h => h.1.1) (jwS (by decide +kernel)) rfl rfl rfl pd_Law_bytes (by decide) [0, 1, 2, 3, 4, 5, 6, 7, 65] rfl (by decide) rfl rfl (Nat.le_of_ble_eq_true rfl) d_law_245 ⟨hc, hs⟩) [0, 1, 2, 3, 4, 5, 6, 7, 65] [8, 9, 10, 11, 12, 13, 14, 15, 16, 17, 18, 19, 20, 21, 22, 23, 24, 25, 26, 27, 28, 29, 30, 31, 32, 33, 34, 35, 36, 37, 38, 39, 40, 41, 42, 43, 44, 45, 46, 47, 48, 49, 50, 51, 52, 53, 54, 55, 56, 57, 58, 59, 60, 61, 62, 63, 64] [57, 58, 59, 60, 61, 62, 63, 64, 0, 1, 2, 3, 4, 5, 6, 7, 8, 9, 10, 11, 12, 13, 14, 15, 16, 17, 18, 19, 20, 21, 22, 23, 24, 25, 26, 27, 28, 29, 30, 31, 32, 33, 34, 35, 36, 37, 38, 39, 40, 41, 42, 43, 44, 45, 46, 47, 48, 49, 50, 51, 52, 53, 54, 55, 56, 65] rfl rfl rfl rfl rfl rfl ?_
    refine J_istore X d_law_248 (by decide) rfl ?_
    refine J_aload_n X d_law_250 rfl 3 rfl ?_
    refine J_aload_n X d_law_251 rfl 5 rfl ?_
    refine J_iload X d_law_252 1 rfl ?_
    refine J_iconst X d_law_254 ?_
    refine J_iadd X d_law_255 ?_
    refine J_xld X hF (jix_iff.mpr ⟨by omega, by omega, by omega⟩) d_law_256 ?_
    refine J_i2l X sxZ_r d_law_257 ?_
    refine J_bipush X d_law_258 (by decide) ?_
    refine J_lshl X d_law_260 ?_
    refine J_aload_n X d_law_261 rfl 5 rfl ?_
    refine J_iload X d_law_262 1 rfl ?_
    refine J_iconst X d_law_264 ?_
    refine J_iadd X d_law_265 ?_
    refine J_xld X hF (jix_iff.mpr ⟨by omega, by omega, by omega⟩) d_law_266 ?_
    refine J_i2l X sxZ_r d_law_267 ?_
    refine J_ldc2 (n := 4294967295) (v := 4294967295) X (jw_m (by decide +kernel)) (by decide) d_law_268 ?_
    refine J_land X d_law_271 ?_
    refine J_lor X d_law_272 ?_
    refine J_aload_n X d_law_273 rfl 5 rfl ?_
    refine J_iload X d_law_274 1 rfl ?_
    refine J_iconst X d_law_276 ?_
    refine J_iadd X d_law_277 ?_
    refine J_xld X hF (jix_iff.mpr ⟨by omega, by omega, by omega⟩) d_law_278 ?_
    refine J_afterR (ws' := (wLaw ad am ao cI cL cB (li [ci 0, (o1.2.1), (o1.2.2.1), ci 3, ci 4, ci 5, ci 6, ci 7, ci 8, ci 9, ci 10, ci 11, ci 12, ci 13, ci 14, ci 15, ci 16, ci 17, ci 18]) (la [(o1.2.2.2.1), (o1.2.2.2.2.1), (o1.2.2.2.2.2.1), (o1.2.2.2.2.2.2.1), (o1.2.2.2.2.2.2.2), ca 5, ca 6, ca 7, ca 8, ca 9, ca 10, ca 11, ca 12, ca 13, ca 14, ca 15, ca 16, ca 17, ca 18, ca 19, ca 20, ca 21]) (li [(o2.2.1), (o2.2.2.1), (o2.2.2.2.1), mi 3, mi 4, mi 5, mi 6, mi 7, mi 8, mi 9, mi 10, mi 11, mi 12, mi 13, mi 14, mi 15, mi 16, mi 17, mi 18, mi 19, mi 20]) (la [(o2.2.2.2.2.1), (o2.2.2.2.2.2.1), (o2.2.2.2.2.2.2.1), (o2.2.2.2.2.2.2.2.1), (o2.2.2.2.2.2.2.2.2.1), (o2.2.2.2.2.2.2.2.2.2.1), (o2.2.2.2.2.2.2.2.2.2.2), ma 7, ma 8, ma 9, ma 10, ma 11, ma 12, ma 13, ma 14, ma 15, ma 16, ma 17, ma 18, ma 19, ma 20, ma 21, ma 22, ma 23, ma 24, ma 25, ma 26, ma 27, ma 28, ma 29, ma 30]) (upZ o 0 (o1.1)))) X (jrunV X (c_Mod_bytes (ad := am) (N := N2) (R_thrown := (mi 0)) (R_used := (mi 1)) (R_many := (mi 2)) (R_values := (mi 3)) (R_textEnd := (mi 4)) (R_dataEnd := (mi 5)) (R_rowEnd := (mi 6)) (R_rowMany := (mi 7)) (R_waiting := (mi 8)) (R_mostWaiting := (mi 9)) (R_answer := (mi 10)) (R_steps := (mi 11)) (R_memory := (mi 12)) (R_maxSteps := (mi 13)) (R_maxMemory := (mi 14)) (R_fault := (mi 15)) (R_result := (mi 16)) (R_now := (mi 17)) (R_nowRow := (mi 18)) (R_come := (mi 19)) (R_puts := (mi 20)) (R_kinds := (ma 0)) (R_numbers := (ma 1)) (R_firsts := (ma 2)) (R_seconds := (ma 3)) (R_sizes := (ma 4)) (R_nodeTexts := (ma 5)) (R_terms := (ma 6)) (p1 := (j_lor (j_lshl (sxZ xs (i + 1)) 32) (j_land (sxZ xs (i + 2)) 4294967295))) (p3 := (sxZ xs (i + 3))) h2) jF0_k (fun _ _ _ _ => trivial) (jwV (by decide +kernel)) rfl rfl rfl pd_Mod_bytes (by decide) [33, 34, 35, 36, 37, 38, 39, 40] rfl (by decide) 0 10 rfl rfl rfl rfl (Nat.le_of_ble_eq_true rfl) d_law_279 ⟨hc, hs⟩) [33, 34, 35, 36, 37, 38, 39, 40] [0, 1, 2, 3, 4, 5, 6, 7, 8, 9, 10, 11, 12, 13, 14, 15, 16, 17, 18, 19, 20, 21, 22, 23, 24, 25, 26, 27, 28, 29, 30, 31, 32, 41, 42, 43, 44, 45, 46, 47, 48, 49, 50, 51, 52, 53, 54, 55, 56, 57, 58, 59, 60, 61, 62, 63, 64, 65] [0, 1, 2, 3, 4, 5, 6, 7, 8, 9, 10, 11, 12, 13, 14, 15, 16, 17, 18, 19, 20, 21, 22, 23, 24, 25, 26, 27, 28, 29, 30, 31, 32, 58, 59, 60, 61, 62, 63, 64, 65, 33, 34, 35, 36, 37, 38, 39, 40, 41, 42, 43, 44, 45, 46, 47, 48, 49, 50, 51, 52, 53, 54, 55, 56, 57] rfl rfl rfl rfl rfl rfl ?_
    refine J_istore X d_law_282 (by decide) rfl ?_
    refine J_aload_n X d_law_284 rfl 4 rfl ?_
    refine J_afterP (jrunV X (c_Mod_thrown (ad := am) (R_thrown := ((li [(o2.2.1), (o2.2.2.1), (o2.2.2.2.1), mi 3, mi 4, mi 5, mi 6, mi 7, mi 8, mi 9, mi 10, mi 11, mi 12, mi 13, mi 14, mi 15, mi 16, mi 17, mi 18, mi 19, mi 20]) 0)) (R_used := ((li [(o2.2.1), (o2.2.2.1), (o2.2.2.2.1), mi 3, mi 4, mi 5, mi 6, mi 7, mi 8, mi 9, mi 10, mi 11, mi 12, mi 13, mi 14, mi 15, mi 16, mi 17, mi 18, mi 19, mi 20]) 1)) (R_many := ((li [(o2.2.1), (o2.2.2.1), (o2.2.2.2.1), mi 3, mi 4, mi 5, mi 6, mi 7, mi 8, mi 9, mi 10, mi 11, mi 12, mi 13, mi 14, mi 15, mi 16, mi 17, mi 18, mi 19, mi 20]) 2)) (R_values := ((li [(o2.2.1), (o2.2.2.1), (o2.2.2.2.1), mi 3, mi 4, mi 5, mi 6, mi 7, mi 8, mi 9, mi 10, mi 11, mi 12, mi 13, mi 14, mi 15, mi 16, mi 17, mi 18, mi 19, mi 20]) 3)) (R_textEnd := ((li [(o2.2.1), (o2.2.2.1), (o2.2.2.2.1), mi 3, mi 4, mi 5, mi 6, mi 7, mi 8, mi 9, mi 10, mi 11, mi 12, mi 13, mi 14, mi 15, mi 16, mi 17, mi 18, mi 19, mi 20]) 4)) (R_dataEnd := ((li [(o2.2.1), (o2.2.2.1), (o2.2.2.2.1), mi 3, mi 4, mi 5, mi 6, mi 7, mi 8, mi 9, mi 10, mi 11, mi 12, mi 13, mi 14, mi 15, mi 16, mi 17, mi 18, mi 19, mi 20]) 5)) (R_rowEnd := ((li [(o2.2.1), (o2.2.2.1), (o2.2.2.2.1), mi 3, mi 4, mi 5, mi 6, mi 7, mi 8, mi 9, mi 10, mi 11, mi 12, mi 13, mi 14, mi 15, mi 16, mi 17, mi 18, mi 19, mi 20]) 6)) (R_rowMany := ((li [(o2.2.1), (o2.2.2.1), (o2.2.2.2.1), mi 3, mi 4, mi 5, mi 6, mi 7, mi 8, mi 9, mi 10, mi 11, mi 12, mi 13, mi 14, mi 15, mi 16, mi 17, mi 18, mi 19, mi 20]) 7)) (R_waiting := ((li [(o2.2.1), (o2.2.2.1), (o2.2.2.2.1), mi 3, mi 4, mi 5, mi 6, mi 7, mi 8, mi 9, mi 10, mi 11, mi 12, mi 13, mi 14, mi 15, mi 16, mi 17, mi 18, mi 19, mi 20]) 8)) (R_mostWaiting := ((li [(o2.2.1), (o2.2.2.1), (o2.2.2.2.1), mi 3, mi 4, mi 5, mi 6, mi 7, mi 8, mi 9, mi 10, mi 11, mi 12, mi 13, mi 14, mi 15, mi 16, mi 17, mi 18, mi 19, mi 20]) 9)) (R_answer := ((li [(o2.2.1), (o2.2.2.1), (o2.2.2.2.1), mi 3, mi 4, mi 5, mi 6, mi 7, mi 8, mi 9, mi 10, mi 11, mi 12, mi 13, mi 14, mi 15, mi 16, mi 17, mi 18, mi 19, mi 20]) 10)) (R_steps := ((li [(o2.2.1), (o2.2.2.1), (o2.2.2.2.1), mi 3, mi 4, mi 5, mi 6, mi 7, mi 8, mi 9, mi 10, mi 11, mi 12, mi 13, mi 14, mi 15, mi 16, mi 17, mi 18, mi 19, mi 20]) 11)) (R_memory := ((li [(o2.2.1), (o2.2.2.1), (o2.2.2.2.1), mi 3, mi 4, mi 5, mi 6, mi 7, mi 8, mi 9, mi 10, mi 11, mi 12, mi 13, mi 14, mi 15, mi 16, mi 17, mi 18, mi 19, mi 20]) 12)) (R_maxSteps := ((li [(o2.2.1), (o2.2.2.1), (o2.2.2.2.1), mi 3, mi 4, mi 5, mi 6, mi 7, mi 8, mi 9, mi 10, mi 11, mi 12, mi 13, mi 14, mi 15, mi 16, mi 17, mi 18, mi 19, mi 20]) 13)) (R_maxMemory := ((li [(o2.2.1), (o2.2.2.1), (o2.2.2.2.1), mi 3, mi 4, mi 5, mi 6, mi 7, mi 8, mi 9, mi 10, mi 11, mi 12, mi 13, mi 14, mi 15, mi 16, mi 17, mi 18, mi 19, mi 20]) 14)) (R_fault := ((li [(o2.2.1), (o2.2.2.1), (o2.2.2.2.1), mi 3, mi 4, mi 5, mi 6, mi 7, mi 8, mi 9, mi 10, mi 11, mi 12, mi 13, mi 14, mi 15, mi 16, mi 17, mi 18, mi 19, mi 20]) 15)) (R_result := ((li [(o2.2.1), (o2.2.2.1), (o2.2.2.2.1), mi 3, mi 4, mi 5, mi 6, mi 7, mi 8, mi 9, mi 10, mi 11, mi 12, mi 13, mi 14, mi 15, mi 16, mi 17, mi 18, mi 19, mi 20]) 16)) (R_now := ((li [(o2.2.1), (o2.2.2.1), (o2.2.2.2.1), mi 3, mi 4, mi 5, mi 6, mi 7, mi 8, mi 9, mi 10, mi 11, mi 12, mi 13, mi 14, mi 15, mi 16, mi 17, mi 18, mi 19, mi 20]) 17)) (R_nowRow := ((li [(o2.2.1), (o2.2.2.1), (o2.2.2.2.1), mi 3, mi 4, mi 5, mi 6, mi 7, mi 8, mi 9, mi 10, mi 11, mi 12, mi 13, mi 14, mi 15, mi 16, mi 17, mi 18, mi 19, mi 20]) 18)) (R_come := ((li [(o2.2.1), (o2.2.2.1), (o2.2.2.2.1), mi 3, mi 4, mi 5, mi 6, mi 7, mi 8, mi 9, mi 10, mi 11, mi 12, mi 13, mi 14, mi 15, mi 16, mi 17, mi 18, mi 19, mi 20]) 19)) (R_puts := ((li [(o2.2.1), (o2.2.2.1), (o2.2.2.2.1), mi 3, mi 4, mi 5, mi 6, mi 7, mi 8, mi 9, mi 10, mi 11, mi 12, mi 13, mi 14, mi 15, mi 16, mi 17, mi 18, mi 19, mi 20]) 20)) (show f_Mod_thrown _ = some _ from rfl)) jF0_k (fun _ _ _ _ => trivial) (jwV (by decide +kernel)) rfl rfl rfl pd_Mod_thrown (by decide) [33] rfl (by decide) 0 10 rfl rfl rfl rfl (Nat.le_of_ble_eq_true rfl) d_law_285 ⟨hc, hs⟩) ?_
    refine J_iload X d_law_288 1 rfl ?_
    refine J_icmp_eq (tgt := 295) X d_law_290 (by decide) (jbr hj) (fun _ _ => ?_) (fun z _ => absurd hthr z)
    refine J_iload X d_law_295 1 rfl ?_
    refine J_if_ne (tgt := 312) X d_law_297 (by decide) (jbr (by decide)) (fun z _ => absurd rfl z) (fun _ _ => ?_)
    refine J_aload_n X d_law_300 rfl 3 rfl ?_
    refine J_iconst X d_law_301 ?_
    refine J_lald X 65 1 rfl rfl (by decide) d_law_302 ?_
    refine J_iload X d_law_303 0 rfl ?_
    refine J_i2l X hr2 d_law_305 ?_
    refine J_lc_eq (tgt := 312) X d_law_306 d_law_307 (by decide) (jbr hj2) (fun _ _ => ?_) (fun z _ => absurd hout z)
    refine J_goto (tgt := 700) X d_law_312 (by decide) ?_
    refine J_sub [2, 3, 4, 5, 6] rfl ?_
    exact k _ _ _ _ _ hI
  · have hj : jr2 o2.2.1 1 = true := by rw [hthr]; decide
    refine J_aload_n X d_law_215 rfl 3 rfl ?_
    refine J_aload_n X d_law_216 rfl 4 rfl ?_
    refine J_iload X d_law_217 0 rfl ?_
    refine J_iconst X d_law_219 ?_
    refine J_iadd X d_law_220 ?_
    refine J_xld X hF (jix_iff.mpr ⟨by omega, by omega, by omega⟩) d_law_221 ?_
    refine J_i2l X sxZ_r d_law_222 ?_
    refine J_bipush X d_law_223 (by decide) ?_
    refine J_lshl X d_law_225 ?_
    refine J_aload_n X d_law_226 rfl 4 rfl ?_
    refine J_iload X d_law_227 0 rfl ?_
    refine J_iconst X d_law_229 ?_
    refine J_iadd X d_law_230 ?_
    refine J_xld X hF (jix_iff.mpr ⟨by omega, by omega, by omega⟩) d_law_231 ?_
    refine J_i2l X sxZ_r d_law_232 ?_
    refine J_ldc2 (n := 4294967295) (v := 4294967295) X (jw_m (by decide +kernel)) (by decide) d_law_233 ?_
    refine J_land X d_law_236 ?_
    refine J_lor X d_law_237 ?_
    refine J_aload_n X d_law_238 rfl 4 rfl ?_
    refine J_iload X d_law_239 0 rfl ?_
    refine J_iconst X d_law_241 ?_
    refine J_iadd X d_law_242 ?_
    refine J_xld X hF (jix_iff.mpr ⟨by omega, by omega, by omega⟩) d_law_243 ?_
    refine J_aload_n X d_law_244 rfl 1 rfl ?_
    refine J_afterR (ws' := (wLaw ad am ao cI cL cB ci ca mi ma o)) X (jrunSW X (cx1_bytes (ad := ad) (ao := ao) (o := o) (C_answer := (ci 0)) (T_nodes := (ci 1)) (T_count := (ci 2)) (T_kinds := (ca 0)) (T_args := (ca 1)) (T_firsts := (ca 2)) (T_lacks := (ca 3)) (TB_top := (ci 3)) (TB_row := (ca 4)) (p1 := (j_lor (j_lshl (sxZ xs (i + 1)) 32) (j_land (sxZ xs (i + 2)) 4294967295))) (p3 := (sxZ xs (i + 3))) hfl h1) jFc_k (fun _ _ _ h => h.1.1) (jwS (by decide +kernel)) rfl rfl rfl pd_Law_bytes (by decide) [0, 1, 2, 3, 4, 5, 6, 7, 65] rfl (by decide) rfl rfl (Nat.le_of_ble_eq_true rfl) d_law_245 ⟨hc, hs⟩) [0, 1, 2, 3, 4, 5, 6, 7, 65] [8, 9, 10, 11, 12, 13, 14, 15, 16, 17, 18, 19, 20, 21, 22, 23, 24, 25, 26, 27, 28, 29, 30, 31, 32, 33, 34, 35, 36, 37, 38, 39, 40, 41, 42, 43, 44, 45, 46, 47, 48, 49, 50, 51, 52, 53, 54, 55, 56, 57, 58, 59, 60, 61, 62, 63, 64] [57, 58, 59, 60, 61, 62, 63, 64, 0, 1, 2, 3, 4, 5, 6, 7, 8, 9, 10, 11, 12, 13, 14, 15, 16, 17, 18, 19, 20, 21, 22, 23, 24, 25, 26, 27, 28, 29, 30, 31, 32, 33, 34, 35, 36, 37, 38, 39, 40, 41, 42, 43, 44, 45, 46, 47, 48, 49, 50, 51, 52, 53, 54, 55, 56, 65] rfl rfl rfl rfl rfl rfl ?_
    refine J_istore X d_law_248 (by decide) rfl ?_
    refine J_aload_n X d_law_250 rfl 3 rfl ?_
    refine J_aload_n X d_law_251 rfl 5 rfl ?_
    refine J_iload X d_law_252 1 rfl ?_
    refine J_iconst X d_law_254 ?_
    refine J_iadd X d_law_255 ?_
    refine J_xld X hF (jix_iff.mpr ⟨by omega, by omega, by omega⟩) d_law_256 ?_
    refine J_i2l X sxZ_r d_law_257 ?_
    refine J_bipush X d_law_258 (by decide) ?_
    refine J_lshl X d_law_260 ?_
    refine J_aload_n X d_law_261 rfl 5 rfl ?_
    refine J_iload X d_law_262 1 rfl ?_
    refine J_iconst X d_law_264 ?_
    refine J_iadd X d_law_265 ?_
    refine J_xld X hF (jix_iff.mpr ⟨by omega, by omega, by omega⟩) d_law_266 ?_
    refine J_i2l X sxZ_r d_law_267 ?_
    refine J_ldc2 (n := 4294967295) (v := 4294967295) X (jw_m (by decide +kernel)) (by decide) d_law_268 ?_
    refine J_land X d_law_271 ?_
    refine J_lor X d_law_272 ?_
    refine J_aload_n X d_law_273 rfl 5 rfl ?_
    refine J_iload X d_law_274 1 rfl ?_
    refine J_iconst X d_law_276 ?_
    refine J_iadd X d_law_277 ?_
    refine J_xld X hF (jix_iff.mpr ⟨by omega, by omega, by omega⟩) d_law_278 ?_
    refine J_afterR (ws' := (wLaw ad am ao cI cL cB ci ca (li [(o2.2.1), (o2.2.2.1), (o2.2.2.2.1), mi 3, mi 4, mi 5, mi 6, mi 7, mi 8, mi 9, mi 10, mi 11, mi 12, mi 13, mi 14, mi 15, mi 16, mi 17, mi 18, mi 19, mi 20]) (la [(o2.2.2.2.2.1), (o2.2.2.2.2.2.1), (o2.2.2.2.2.2.2.1), (o2.2.2.2.2.2.2.2.1), (o2.2.2.2.2.2.2.2.2.1), (o2.2.2.2.2.2.2.2.2.2.1), (o2.2.2.2.2.2.2.2.2.2.2), ma 7, ma 8, ma 9, ma 10, ma 11, ma 12, ma 13, ma 14, ma 15, ma 16, ma 17, ma 18, ma 19, ma 20, ma 21, ma 22, ma 23, ma 24, ma 25, ma 26, ma 27, ma 28, ma 29, ma 30]) o)) X (jrunV X (c_Mod_bytes (ad := am) (N := N2) (R_thrown := (mi 0)) (R_used := (mi 1)) (R_many := (mi 2)) (R_values := (mi 3)) (R_textEnd := (mi 4)) (R_dataEnd := (mi 5)) (R_rowEnd := (mi 6)) (R_rowMany := (mi 7)) (R_waiting := (mi 8)) (R_mostWaiting := (mi 9)) (R_answer := (mi 10)) (R_steps := (mi 11)) (R_memory := (mi 12)) (R_maxSteps := (mi 13)) (R_maxMemory := (mi 14)) (R_fault := (mi 15)) (R_result := (mi 16)) (R_now := (mi 17)) (R_nowRow := (mi 18)) (R_come := (mi 19)) (R_puts := (mi 20)) (R_kinds := (ma 0)) (R_numbers := (ma 1)) (R_firsts := (ma 2)) (R_seconds := (ma 3)) (R_sizes := (ma 4)) (R_nodeTexts := (ma 5)) (R_terms := (ma 6)) (p1 := (j_lor (j_lshl (sxZ xs (i + 1)) 32) (j_land (sxZ xs (i + 2)) 4294967295))) (p3 := (sxZ xs (i + 3))) h2) jF0_k (fun _ _ _ _ => trivial) (jwV (by decide +kernel)) rfl rfl rfl pd_Mod_bytes (by decide) [33, 34, 35, 36, 37, 38, 39, 40] rfl (by decide) 0 10 rfl rfl rfl rfl (Nat.le_of_ble_eq_true rfl) d_law_279 ⟨hc, hs⟩) [33, 34, 35, 36, 37, 38, 39, 40] [0, 1, 2, 3, 4, 5, 6, 7, 8, 9, 10, 11, 12, 13, 14, 15, 16, 17, 18, 19, 20, 21, 22, 23, 24, 25, 26, 27, 28, 29, 30, 31, 32, 41, 42, 43, 44, 45, 46, 47, 48, 49, 50, 51, 52, 53, 54, 55, 56, 57, 58, 59, 60, 61, 62, 63, 64, 65] [0, 1, 2, 3, 4, 5, 6, 7, 8, 9, 10, 11, 12, 13, 14, 15, 16, 17, 18, 19, 20, 21, 22, 23, 24, 25, 26, 27, 28, 29, 30, 31, 32, 58, 59, 60, 61, 62, 63, 64, 65, 33, 34, 35, 36, 37, 38, 39, 40, 41, 42, 43, 44, 45, 46, 47, 48, 49, 50, 51, 52, 53, 54, 55, 56, 57] rfl rfl rfl rfl rfl rfl ?_
    refine J_istore X d_law_282 (by decide) rfl ?_
    refine J_aload_n X d_law_284 rfl 4 rfl ?_
    refine J_afterP (jrunV X (c_Mod_thrown (ad := am) (R_thrown := ((li [(o2.2.1), (o2.2.2.1), (o2.2.2.2.1), mi 3, mi 4, mi 5, mi 6, mi 7, mi 8, mi 9, mi 10, mi 11, mi 12, mi 13, mi 14, mi 15, mi 16, mi 17, mi 18, mi 19, mi 20]) 0)) (R_used := ((li [(o2.2.1), (o2.2.2.1), (o2.2.2.2.1), mi 3, mi 4, mi 5, mi 6, mi 7, mi 8, mi 9, mi 10, mi 11, mi 12, mi 13, mi 14, mi 15, mi 16, mi 17, mi 18, mi 19, mi 20]) 1)) (R_many := ((li [(o2.2.1), (o2.2.2.1), (o2.2.2.2.1), mi 3, mi 4, mi 5, mi 6, mi 7, mi 8, mi 9, mi 10, mi 11, mi 12, mi 13, mi 14, mi 15, mi 16, mi 17, mi 18, mi 19, mi 20]) 2)) (R_values := ((li [(o2.2.1), (o2.2.2.1), (o2.2.2.2.1), mi 3, mi 4, mi 5, mi 6, mi 7, mi 8, mi 9, mi 10, mi 11, mi 12, mi 13, mi 14, mi 15, mi 16, mi 17, mi 18, mi 19, mi 20]) 3)) (R_textEnd := ((li [(o2.2.1), (o2.2.2.1), (o2.2.2.2.1), mi 3, mi 4, mi 5, mi 6, mi 7, mi 8, mi 9, mi 10, mi 11, mi 12, mi 13, mi 14, mi 15, mi 16, mi 17, mi 18, mi 19, mi 20]) 4)) (R_dataEnd := ((li [(o2.2.1), (o2.2.2.1), (o2.2.2.2.1), mi 3, mi 4, mi 5, mi 6, mi 7, mi 8, mi 9, mi 10, mi 11, mi 12, mi 13, mi 14, mi 15, mi 16, mi 17, mi 18, mi 19, mi 20]) 5)) (R_rowEnd := ((li [(o2.2.1), (o2.2.2.1), (o2.2.2.2.1), mi 3, mi 4, mi 5, mi 6, mi 7, mi 8, mi 9, mi 10, mi 11, mi 12, mi 13, mi 14, mi 15, mi 16, mi 17, mi 18, mi 19, mi 20]) 6)) (R_rowMany := ((li [(o2.2.1), (o2.2.2.1), (o2.2.2.2.1), mi 3, mi 4, mi 5, mi 6, mi 7, mi 8, mi 9, mi 10, mi 11, mi 12, mi 13, mi 14, mi 15, mi 16, mi 17, mi 18, mi 19, mi 20]) 7)) (R_waiting := ((li [(o2.2.1), (o2.2.2.1), (o2.2.2.2.1), mi 3, mi 4, mi 5, mi 6, mi 7, mi 8, mi 9, mi 10, mi 11, mi 12, mi 13, mi 14, mi 15, mi 16, mi 17, mi 18, mi 19, mi 20]) 8)) (R_mostWaiting := ((li [(o2.2.1), (o2.2.2.1), (o2.2.2.2.1), mi 3, mi 4, mi 5, mi 6, mi 7, mi 8, mi 9, mi 10, mi 11, mi 12, mi 13, mi 14, mi 15, mi 16, mi 17, mi 18, mi 19, mi 20]) 9)) (R_answer := ((li [(o2.2.1), (o2.2.2.1), (o2.2.2.2.1), mi 3, mi 4, mi 5, mi 6, mi 7, mi 8, mi 9, mi 10, mi 11, mi 12, mi 13, mi 14, mi 15, mi 16, mi 17, mi 18, mi 19, mi 20]) 10)) (R_steps := ((li [(o2.2.1), (o2.2.2.1), (o2.2.2.2.1), mi 3, mi 4, mi 5, mi 6, mi 7, mi 8, mi 9, mi 10, mi 11, mi 12, mi 13, mi 14, mi 15, mi 16, mi 17, mi 18, mi 19, mi 20]) 11)) (R_memory := ((li [(o2.2.1), (o2.2.2.1), (o2.2.2.2.1), mi 3, mi 4, mi 5, mi 6, mi 7, mi 8, mi 9, mi 10, mi 11, mi 12, mi 13, mi 14, mi 15, mi 16, mi 17, mi 18, mi 19, mi 20]) 12)) (R_maxSteps := ((li [(o2.2.1), (o2.2.2.1), (o2.2.2.2.1), mi 3, mi 4, mi 5, mi 6, mi 7, mi 8, mi 9, mi 10, mi 11, mi 12, mi 13, mi 14, mi 15, mi 16, mi 17, mi 18, mi 19, mi 20]) 13)) (R_maxMemory := ((li [(o2.2.1), (o2.2.2.1), (o2.2.2.2.1), mi 3, mi 4, mi 5, mi 6, mi 7, mi 8, mi 9, mi 10, mi 11, mi 12, mi 13, mi 14, mi 15, mi 16, mi 17, mi 18, mi 19, mi 20]) 14)) (R_fault := ((li [(o2.2.1), (o2.2.2.1), (o2.2.2.2.1), mi 3, mi 4, mi 5, mi 6, mi 7, mi 8, mi 9, mi 10, mi 11, mi 12, mi 13, mi 14, mi 15, mi 16, mi 17, mi 18, mi 19, mi 20]) 15)) (R_result := ((li [(o2.2.1), (o2.2.2.1), (o2.2.2.2.1), mi 3, mi 4, mi 5, mi 6, mi 7, mi 8, mi 9, mi 10, mi 11, mi 12, mi 13, mi 14, mi 15, mi 16, mi 17, mi 18, mi 19, mi 20]) 16)) (R_now := ((li [(o2.2.1), (o2.2.2.1), (o2.2.2.2.1), mi 3, mi 4, mi 5, mi 6, mi 7, mi 8, mi 9, mi 10, mi 11, mi 12, mi 13, mi 14, mi 15, mi 16, mi 17, mi 18, mi 19, mi 20]) 17)) (R_nowRow := ((li [(o2.2.1), (o2.2.2.1), (o2.2.2.2.1), mi 3, mi 4, mi 5, mi 6, mi 7, mi 8, mi 9, mi 10, mi 11, mi 12, mi 13, mi 14, mi 15, mi 16, mi 17, mi 18, mi 19, mi 20]) 18)) (R_come := ((li [(o2.2.1), (o2.2.2.1), (o2.2.2.2.1), mi 3, mi 4, mi 5, mi 6, mi 7, mi 8, mi 9, mi 10, mi 11, mi 12, mi 13, mi 14, mi 15, mi 16, mi 17, mi 18, mi 19, mi 20]) 19)) (R_puts := ((li [(o2.2.1), (o2.2.2.1), (o2.2.2.2.1), mi 3, mi 4, mi 5, mi 6, mi 7, mi 8, mi 9, mi 10, mi 11, mi 12, mi 13, mi 14, mi 15, mi 16, mi 17, mi 18, mi 19, mi 20]) 20)) (show f_Mod_thrown _ = some _ from rfl)) jF0_k (fun _ _ _ _ => trivial) (jwV (by decide +kernel)) rfl rfl rfl pd_Mod_thrown (by decide) [33] rfl (by decide) 0 10 rfl rfl rfl rfl (Nat.le_of_ble_eq_true rfl) d_law_285 ⟨hc, hs⟩) ?_
    refine J_iload X d_law_288 1 rfl ?_
    refine J_icmp_eq (tgt := 295) X d_law_290 (by decide) (jbr hj) (fun _ _ => ?_) (fun z _ => absurd hthr z)
    refine J_iload X d_law_295 1 rfl ?_
    refine J_if_ne (tgt := 312) X d_law_297 (by decide) (jbr (by decide)) (fun _ _ => ?_) (fun z _ => absurd z (by decide))
    refine J_goto (tgt := 700) X d_law_312 (by decide) ?_
    refine J_sub [2, 3, 4, 5, 6] rfl ?_
    exact k _ _ _ _ _ hI
  · have hj : jr2 o2.2.1 2 = true := by rw [hthr]; decide
    refine J_aload_n X d_law_215 rfl 3 rfl ?_
    refine J_aload_n X d_law_216 rfl 4 rfl ?_
    refine J_iload X d_law_217 0 rfl ?_
    refine J_iconst X d_law_219 ?_
    refine J_iadd X d_law_220 ?_
    refine J_xld X hF (jix_iff.mpr ⟨by omega, by omega, by omega⟩) d_law_221 ?_
    refine J_i2l X sxZ_r d_law_222 ?_
    refine J_bipush X d_law_223 (by decide) ?_
    refine J_lshl X d_law_225 ?_
    refine J_aload_n X d_law_226 rfl 4 rfl ?_
    refine J_iload X d_law_227 0 rfl ?_
    refine J_iconst X d_law_229 ?_
    refine J_iadd X d_law_230 ?_
    refine J_xld X hF (jix_iff.mpr ⟨by omega, by omega, by omega⟩) d_law_231 ?_
    refine J_i2l X sxZ_r d_law_232 ?_
    refine J_ldc2 (n := 4294967295) (v := 4294967295) X (jw_m (by decide +kernel)) (by decide) d_law_233 ?_
    refine J_land X d_law_236 ?_
    refine J_lor X d_law_237 ?_
    refine J_aload_n X d_law_238 rfl 4 rfl ?_
    refine J_iload X d_law_239 0 rfl ?_
    refine J_iconst X d_law_241 ?_
    refine J_iadd X d_law_242 ?_
    refine J_xld X hF (jix_iff.mpr ⟨by omega, by omega, by omega⟩) d_law_243 ?_
    refine J_aload_n X d_law_244 rfl 1 rfl ?_
    refine J_afterR (ws' := (wLaw ad am ao cI cL cB ci ca mi ma o)) X (jrunSW X (cx2_bytes (ad := ad) (ao := ao) (o := o) (C_answer := (ci 0)) (T_nodes := (ci 1)) (T_count := (ci 2)) (T_kinds := (ca 0)) (T_args := (ca 1)) (T_firsts := (ca 2)) (T_lacks := (ca 3)) (TB_top := (ci 3)) (TB_row := (ca 4)) (p1 := (j_lor (j_lshl (sxZ xs (i + 1)) 32) (j_land (sxZ xs (i + 2)) 4294967295))) (p3 := (sxZ xs (i + 3))) hfl h1) jFc_k (fun _ _ _ h => h.1.1) (jwS (by decide +kernel)) rfl rfl rfl pd_Law_bytes (by decide) [0, 1, 2, 3, 4, 5, 6, 7, 65] rfl (by decide) rfl rfl (Nat.le_of_ble_eq_true rfl) d_law_245 ⟨hc, hs⟩) [0, 1, 2, 3, 4, 5, 6, 7, 65] [8, 9, 10, 11, 12, 13, 14, 15, 16, 17, 18, 19, 20, 21, 22, 23, 24, 25, 26, 27, 28, 29, 30, 31, 32, 33, 34, 35, 36, 37, 38, 39, 40, 41, 42, 43, 44, 45, 46, 47, 48, 49, 50, 51, 52, 53, 54, 55, 56, 57, 58, 59, 60, 61, 62, 63, 64] [57, 58, 59, 60, 61, 62, 63, 64, 0, 1, 2, 3, 4, 5, 6, 7, 8, 9, 10, 11, 12, 13, 14, 15, 16, 17, 18, 19, 20, 21, 22, 23, 24, 25, 26, 27, 28, 29, 30, 31, 32, 33, 34, 35, 36, 37, 38, 39, 40, 41, 42, 43, 44, 45, 46, 47, 48, 49, 50, 51, 52, 53, 54, 55, 56, 65] rfl rfl rfl rfl rfl rfl ?_
    refine J_istore X d_law_248 (by decide) rfl ?_
    refine J_aload_n X d_law_250 rfl 3 rfl ?_
    refine J_aload_n X d_law_251 rfl 5 rfl ?_
    refine J_iload X d_law_252 1 rfl ?_
    refine J_iconst X d_law_254 ?_
    refine J_iadd X d_law_255 ?_
    refine J_xld X hF (jix_iff.mpr ⟨by omega, by omega, by omega⟩) d_law_256 ?_
    refine J_i2l X sxZ_r d_law_257 ?_
    refine J_bipush X d_law_258 (by decide) ?_
    refine J_lshl X d_law_260 ?_
    refine J_aload_n X d_law_261 rfl 5 rfl ?_
    refine J_iload X d_law_262 1 rfl ?_
    refine J_iconst X d_law_264 ?_
    refine J_iadd X d_law_265 ?_
    refine J_xld X hF (jix_iff.mpr ⟨by omega, by omega, by omega⟩) d_law_266 ?_
    refine J_i2l X sxZ_r d_law_267 ?_
    refine J_ldc2 (n := 4294967295) (v := 4294967295) X (jw_m (by decide +kernel)) (by decide) d_law_268 ?_
    refine J_land X d_law_271 ?_
    refine J_lor X d_law_272 ?_
    refine J_aload_n X d_law_273 rfl 5 rfl ?_
    refine J_iload X d_law_274 1 rfl ?_
    refine J_iconst X d_law_276 ?_
    refine J_iadd X d_law_277 ?_
    refine J_xld X hF (jix_iff.mpr ⟨by omega, by omega, by omega⟩) d_law_278 ?_
    refine J_afterR (ws' := (wLaw ad am ao cI cL cB ci ca (li [(o2.2.1), (o2.2.2.1), (o2.2.2.2.1), mi 3, mi 4, mi 5, mi 6, mi 7, mi 8, mi 9, mi 10, mi 11, mi 12, mi 13, mi 14, mi 15, mi 16, mi 17, mi 18, mi 19, mi 20]) (la [(o2.2.2.2.2.1), (o2.2.2.2.2.2.1), (o2.2.2.2.2.2.2.1), (o2.2.2.2.2.2.2.2.1), (o2.2.2.2.2.2.2.2.2.1), (o2.2.2.2.2.2.2.2.2.2.1), (o2.2.2.2.2.2.2.2.2.2.2), ma 7, ma 8, ma 9, ma 10, ma 11, ma 12, ma 13, ma 14, ma 15, ma 16, ma 17, ma 18, ma 19, ma 20, ma 21, ma 22, ma 23, ma 24, ma 25, ma 26, ma 27, ma 28, ma 29, ma 30]) o)) X (jrunV X (c_Mod_bytes (ad := am) (N := N2) (R_thrown := (mi 0)) (R_used := (mi 1)) (R_many := (mi 2)) (R_values := (mi 3)) (R_textEnd := (mi 4)) (R_dataEnd := (mi 5)) (R_rowEnd := (mi 6)) (R_rowMany := (mi 7)) (R_waiting := (mi 8)) (R_mostWaiting := (mi 9)) (R_answer := (mi 10)) (R_steps := (mi 11)) (R_memory := (mi 12)) (R_maxSteps := (mi 13)) (R_maxMemory := (mi 14)) (R_fault := (mi 15)) (R_result := (mi 16)) (R_now := (mi 17)) (R_nowRow := (mi 18)) (R_come := (mi 19)) (R_puts := (mi 20)) (R_kinds := (ma 0)) (R_numbers := (ma 1)) (R_firsts := (ma 2)) (R_seconds := (ma 3)) (R_sizes := (ma 4)) (R_nodeTexts := (ma 5)) (R_terms := (ma 6)) (p1 := (j_lor (j_lshl (sxZ xs (i + 1)) 32) (j_land (sxZ xs (i + 2)) 4294967295))) (p3 := (sxZ xs (i + 3))) h2) jF0_k (fun _ _ _ _ => trivial) (jwV (by decide +kernel)) rfl rfl rfl pd_Mod_bytes (by decide) [33, 34, 35, 36, 37, 38, 39, 40] rfl (by decide) 0 10 rfl rfl rfl rfl (Nat.le_of_ble_eq_true rfl) d_law_279 ⟨hc, hs⟩) [33, 34, 35, 36, 37, 38, 39, 40] [0, 1, 2, 3, 4, 5, 6, 7, 8, 9, 10, 11, 12, 13, 14, 15, 16, 17, 18, 19, 20, 21, 22, 23, 24, 25, 26, 27, 28, 29, 30, 31, 32, 41, 42, 43, 44, 45, 46, 47, 48, 49, 50, 51, 52, 53, 54, 55, 56, 57, 58, 59, 60, 61, 62, 63, 64, 65] [0, 1, 2, 3, 4, 5, 6, 7, 8, 9, 10, 11, 12, 13, 14, 15, 16, 17, 18, 19, 20, 21, 22, 23, 24, 25, 26, 27, 28, 29, 30, 31, 32, 58, 59, 60, 61, 62, 63, 64, 65, 33, 34, 35, 36, 37, 38, 39, 40, 41, 42, 43, 44, 45, 46, 47, 48, 49, 50, 51, 52, 53, 54, 55, 56, 57] rfl rfl rfl rfl rfl rfl ?_
    refine J_istore X d_law_282 (by decide) rfl ?_
    refine J_aload_n X d_law_284 rfl 4 rfl ?_
    refine J_afterP (jrunV X (c_Mod_thrown (ad := am) (R_thrown := ((li [(o2.2.1), (o2.2.2.1), (o2.2.2.2.1), mi 3, mi 4, mi 5, mi 6, mi 7, mi 8, mi 9, mi 10, mi 11, mi 12, mi 13, mi 14, mi 15, mi 16, mi 17, mi 18, mi 19, mi 20]) 0)) (R_used := ((li [(o2.2.1), (o2.2.2.1), (o2.2.2.2.1), mi 3, mi 4, mi 5, mi 6, mi 7, mi 8, mi 9, mi 10, mi 11, mi 12, mi 13, mi 14, mi 15, mi 16, mi 17, mi 18, mi 19, mi 20]) 1)) (R_many := ((li [(o2.2.1), (o2.2.2.1), (o2.2.2.2.1), mi 3, mi 4, mi 5, mi 6, mi 7, mi 8, mi 9, mi 10, mi 11, mi 12, mi 13, mi 14, mi 15, mi 16, mi 17, mi 18, mi 19, mi 20]) 2)) (R_values := ((li [(o2.2.1), (o2.2.2.1), (o2.2.2.2.1), mi 3, mi 4, mi 5, mi 6, mi 7, mi 8, mi 9, mi 10, mi 11, mi 12, mi 13, mi 14, mi 15, mi 16, mi 17, mi 18, mi 19, mi 20]) 3)) (R_textEnd := ((li [(o2.2.1), (o2.2.2.1), (o2.2.2.2.1), mi 3, mi 4, mi 5, mi 6, mi 7, mi 8, mi 9, mi 10, mi 11, mi 12, mi 13, mi 14, mi 15, mi 16, mi 17, mi 18, mi 19, mi 20]) 4)) (R_dataEnd := ((li [(o2.2.1), (o2.2.2.1), (o2.2.2.2.1), mi 3, mi 4, mi 5, mi 6, mi 7, mi 8, mi 9, mi 10, mi 11, mi 12, mi 13, mi 14, mi 15, mi 16, mi 17, mi 18, mi 19, mi 20]) 5)) (R_rowEnd := ((li [(o2.2.1), (o2.2.2.1), (o2.2.2.2.1), mi 3, mi 4, mi 5, mi 6, mi 7, mi 8, mi 9, mi 10, mi 11, mi 12, mi 13, mi 14, mi 15, mi 16, mi 17, mi 18, mi 19, mi 20]) 6)) (R_rowMany := ((li [(o2.2.1), (o2.2.2.1), (o2.2.2.2.1), mi 3, mi 4, mi 5, mi 6, mi 7, mi 8, mi 9, mi 10, mi 11, mi 12, mi 13, mi 14, mi 15, mi 16, mi 17, mi 18, mi 19, mi 20]) 7)) (R_waiting := ((li [(o2.2.1), (o2.2.2.1), (o2.2.2.2.1), mi 3, mi 4, mi 5, mi 6, mi 7, mi 8, mi 9, mi 10, mi 11, mi 12, mi 13, mi 14, mi 15, mi 16, mi 17, mi 18, mi 19, mi 20]) 8)) (R_mostWaiting := ((li [(o2.2.1), (o2.2.2.1), (o2.2.2.2.1), mi 3, mi 4, mi 5, mi 6, mi 7, mi 8, mi 9, mi 10, mi 11, mi 12, mi 13, mi 14, mi 15, mi 16, mi 17, mi 18, mi 19, mi 20]) 9)) (R_answer := ((li [(o2.2.1), (o2.2.2.1), (o2.2.2.2.1), mi 3, mi 4, mi 5, mi 6, mi 7, mi 8, mi 9, mi 10, mi 11, mi 12, mi 13, mi 14, mi 15, mi 16, mi 17, mi 18, mi 19, mi 20]) 10)) (R_steps := ((li [(o2.2.1), (o2.2.2.1), (o2.2.2.2.1), mi 3, mi 4, mi 5, mi 6, mi 7, mi 8, mi 9, mi 10, mi 11, mi 12, mi 13, mi 14, mi 15, mi 16, mi 17, mi 18, mi 19, mi 20]) 11)) (R_memory := ((li [(o2.2.1), (o2.2.2.1), (o2.2.2.2.1), mi 3, mi 4, mi 5, mi 6, mi 7, mi 8, mi 9, mi 10, mi 11, mi 12, mi 13, mi 14, mi 15, mi 16, mi 17, mi 18, mi 19, mi 20]) 12)) (R_maxSteps := ((li [(o2.2.1), (o2.2.2.1), (o2.2.2.2.1), mi 3, mi 4, mi 5, mi 6, mi 7, mi 8, mi 9, mi 10, mi 11, mi 12, mi 13, mi 14, mi 15, mi 16, mi 17, mi 18, mi 19, mi 20]) 13)) (R_maxMemory := ((li [(o2.2.1), (o2.2.2.1), (o2.2.2.2.1), mi 3, mi 4, mi 5, mi 6, mi 7, mi 8, mi 9, mi 10, mi 11, mi 12, mi 13, mi 14, mi 15, mi 16, mi 17, mi 18, mi 19, mi 20]) 14)) (R_fault := ((li [(o2.2.1), (o2.2.2.1), (o2.2.2.2.1), mi 3, mi 4, mi 5, mi 6, mi 7, mi 8, mi 9, mi 10, mi 11, mi 12, mi 13, mi 14, mi 15, mi 16, mi 17, mi 18, mi 19, mi 20]) 15)) (R_result := ((li [(o2.2.1), (o2.2.2.1), (o2.2.2.2.1), mi 3, mi 4, mi 5, mi 6, mi 7, mi 8, mi 9, mi 10, mi 11, mi 12, mi 13, mi 14, mi 15, mi 16, mi 17, mi 18, mi 19, mi 20]) 16)) (R_now := ((li [(o2.2.1), (o2.2.2.1), (o2.2.2.2.1), mi 3, mi 4, mi 5, mi 6, mi 7, mi 8, mi 9, mi 10, mi 11, mi 12, mi 13, mi 14, mi 15, mi 16, mi 17, mi 18, mi 19, mi 20]) 17)) (R_nowRow := ((li [(o2.2.1), (o2.2.2.1), (o2.2.2.2.1), mi 3, mi 4, mi 5, mi 6, mi 7, mi 8, mi 9, mi 10, mi 11, mi 12, mi 13, mi 14, mi 15, mi 16, mi 17, mi 18, mi 19, mi 20]) 18)) (R_come := ((li [(o2.2.1), (o2.2.2.1), (o2.2.2.2.1), mi 3, mi 4, mi 5, mi 6, mi 7, mi 8, mi 9, mi 10, mi 11, mi 12, mi 13, mi 14, mi 15, mi 16, mi 17, mi 18, mi 19, mi 20]) 19)) (R_puts := ((li [(o2.2.1), (o2.2.2.1), (o2.2.2.2.1), mi 3, mi 4, mi 5, mi 6, mi 7, mi 8, mi 9, mi 10, mi 11, mi 12, mi 13, mi 14, mi 15, mi 16, mi 17, mi 18, mi 19, mi 20]) 20)) (show f_Mod_thrown _ = some _ from rfl)) jF0_k (fun _ _ _ _ => trivial) (jwV (by decide +kernel)) rfl rfl rfl pd_Mod_thrown (by decide) [33] rfl (by decide) 0 10 rfl rfl rfl rfl (Nat.le_of_ble_eq_true rfl) d_law_285 ⟨hc, hs⟩) ?_
    refine J_iload X d_law_288 1 rfl ?_
    refine J_icmp_eq (tgt := 295) X d_law_290 (by decide) (jbr hj) (fun _ _ => ?_) (fun z _ => absurd hthr z)
    refine J_iload X d_law_295 1 rfl ?_
    refine J_if_ne (tgt := 312) X d_law_297 (by decide) (jbr (by decide)) (fun _ _ => ?_) (fun z _ => absurd z (by decide))
    refine J_goto (tgt := 700) X d_law_312 (by decide) ?_
    refine J_sub [2, 3, 4, 5, 6] rfl ?_
    exact k _ _ _ _ _ hI
