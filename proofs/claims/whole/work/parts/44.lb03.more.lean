set_option maxHeartbeats 4000000 in
set_option maxRecDepth 100000 in
theorem lb_more {adK adV : Nat → Nat} {ro : Nat} {cI cL cB : ClassId} {b L : Nat} {xs : Nat → Int32} {K : jK} {ad am : Nat → Nat} {ao : Nat} {Inv : jInv} {ci : Nat → Int} {ca : Nat → Int → Int} {mi : Nat → Int} {ma : Nat → Int → Int} {o : Int → Int} {i : Int} {cells slots : Nat} (X : jX (jFl adK adV ro cI cL cB b L xs) K 8 code wLawT R_Law [(cI, .int), (cL, .long), (cB, .byte)]) (hS : Sim_more Inv) (hL : L ≤ 2048) (h0 : 0 ≤ i) (h4 : i + 4 ≤ L) (hc : cells + 1 ≤ 601024) (hs : slots + 6 ≤ 7293034) (h : Inv ci ca mi ma) (k : ∀ ci ca mi ma o, Inv ci ca mi ma → J K 8 room_1 false (cells + 1) (slots + 6) (wLaw ad am ao cI cL cB ci ca mi ma o) [(4, .int (zI i)), (3, .ref ao), (2, .ref (am 0)), (1, .ref (ad 0)), (0, .ref b)] [] 700) : J K 8 room_1 false cells slots (wLaw ad am ao cI cL cB ci ca mi ma o) [(4, .int (zI i)), (3, .ref ao), (2, .ref (am 0)), (1, .ref (ad 0)), (0, .ref b)] [] 315 := by
  have hF := X.2.2.2.2.2
  have hc0 : cells ≤ 601024 := by omega
  have hs0 : slots ≤ 7293034 := by omega
  obtain ⟨N1, N2, o1, o2, h1, h2, hr, heq, hI⟩ := hS ci ca mi ma (j_lor (j_lshl (sxZ xs (i + 1)) 32) (j_land (sxZ xs (i + 2)) 4294967295)) (sxZ xs (i + 3)) h (rL_of _) sxZ_r
  have hj : jr2 o1.1 o2.1 = true := by rw [← heq]; simp [jr2, hr]
  refine J_aload_n X d_law_315 rfl 3 rfl ?_
  refine J_aload_n X d_law_316 rfl 4 rfl ?_
  refine J_iload X d_law_317 0 rfl ?_
  refine J_iconst X d_law_319 ?_
  refine J_iadd X d_law_320 ?_
  refine J_xld X hF (jix_iff.mpr ⟨by omega, by omega, by omega⟩) d_law_321 ?_
  refine J_i2l X sxZ_r d_law_322 ?_
  refine J_bipush X d_law_323 (by decide) ?_
  refine J_lshl X d_law_325 ?_
  refine J_aload_n X d_law_326 rfl 4 rfl ?_
  refine J_iload X d_law_327 0 rfl ?_
  refine J_iconst X d_law_329 ?_
  refine J_iadd X d_law_330 ?_
  refine J_xld X hF (jix_iff.mpr ⟨by omega, by omega, by omega⟩) d_law_331 ?_
  refine J_i2l X sxZ_r d_law_332 ?_
  refine J_ldc2 (n := 4294967295) (v := 4294967295) X (jw_m (by decide +kernel)) (by decide) d_law_333 ?_
  refine J_land X d_law_336 ?_
  refine J_lor X d_law_337 ?_
  refine J_aload_n X d_law_338 rfl 4 rfl ?_
  refine J_iload X d_law_339 0 rfl ?_
  refine J_iconst X d_law_341 ?_
  refine J_iadd X d_law_342 ?_
  refine J_xld X hF (jix_iff.mpr ⟨by omega, by omega, by omega⟩) d_law_343 ?_
  refine J_afterR (ws' := (wLaw ad am ao cI cL cB ci (la [ca 0, (o1.2.1), ca 2, ca 3, (o1.2.2), ca 5, ca 6, ca 7, ca 8, ca 9, ca 10, ca 11, ca 12, ca 13, ca 14, ca 15, ca 16, ca 17, ca 18, ca 19, ca 20, ca 21]) mi ma o)) X (jrunV X (c_Cek_more (ad := ad) (N := N1) (C_answer := (ci 0)) (T_nodes := (ci 1)) (T_count := (ci 2)) (T_kinds := (ca 0)) (T_args := (ca 1)) (TB_top := (ci 3)) (TB_row := (ca 4)) (p1 := (j_lor (j_lshl (sxZ xs (i + 1)) 32) (j_land (sxZ xs (i + 2)) 4294967295))) (p3 := (sxZ xs (i + 3))) h1) jF0_k (fun _ _ _ _ => trivial) (jwV (by decide +kernel)) rfl rfl rfl pd_Cek_more (by decide) [0, 1, 2, 3, 6, 7] rfl (by decide) 0 0 rfl rfl rfl rfl (Nat.le_of_ble_eq_true rfl) d_law_344 ⟨hc0, hs0⟩) [0, 1, 2, 3, 6, 7] [4, 5, 8, 9, 10, 11, 12, 13, 14, 15, 16, 17, 18, 19, 20, 21, 22, 23, 24, 25, 26, 27, 28, 29, 30, 31, 32, 33, 34, 35, 36, 37, 38, 39, 40, 41, 42, 43, 44, 45, 46, 47, 48, 49, 50, 51, 52, 53, 54, 55, 56, 57, 58, 59, 60, 61, 62, 63, 64, 65] [60, 61, 62, 63, 0, 1, 64, 65, 2, 3, 4, 5, 6, 7, 8, 9, 10, 11, 12, 13, 14, 15, 16, 17, 18, 19, 20, 21, 22, 23, 24, 25, 26, 27, 28, 29, 30, 31, 32, 33, 34, 35, 36, 37, 38, 39, 40, 41, 42, 43, 44, 45, 46, 47, 48, 49, 50, 51, 52, 53, 54, 55, 56, 57, 58, 59] rfl rfl rfl rfl rfl rfl ?_
  refine J_aload_n X d_law_347 rfl 2 rfl ?_
  refine J_aload_n X d_law_348 rfl 4 rfl ?_
  refine J_iload X d_law_349 0 rfl ?_
  refine J_iconst X d_law_351 ?_
  refine J_iadd X d_law_352 ?_
  refine J_xld X hF (jix_iff.mpr ⟨by omega, by omega, by omega⟩) d_law_353 ?_
  refine J_i2l X sxZ_r d_law_354 ?_
  refine J_bipush X d_law_355 (by decide) ?_
  refine J_lshl X d_law_357 ?_
  refine J_aload_n X d_law_358 rfl 4 rfl ?_
  refine J_iload X d_law_359 0 rfl ?_
  refine J_iconst X d_law_361 ?_
  refine J_iadd X d_law_362 ?_
  refine J_xld X hF (jix_iff.mpr ⟨by omega, by omega, by omega⟩) d_law_363 ?_
  refine J_i2l X sxZ_r d_law_364 ?_
  refine J_ldc2 (n := 4294967295) (v := 4294967295) X (jw_m (by decide +kernel)) (by decide) d_law_365 ?_
  refine J_land X d_law_368 ?_
  refine J_lor X d_law_369 ?_
  refine J_aload_n X d_law_370 rfl 4 rfl ?_
  refine J_iload X d_law_371 0 rfl ?_
  refine J_iconst X d_law_373 ?_
  refine J_iadd X d_law_374 ?_
  refine J_xld X hF (jix_iff.mpr ⟨by omega, by omega, by omega⟩) d_law_375 ?_
  refine J_afterR (ws' := (wLaw ad am ao cI cL cB ci (la [ca 0, (o1.2.1), ca 2, ca 3, (o1.2.2), ca 5, ca 6, ca 7, ca 8, ca 9, ca 10, ca 11, ca 12, ca 13, ca 14, ca 15, ca 16, ca 17, ca 18, ca 19, ca 20, ca 21]) (li [(o2.2.1), mi 1, mi 2, mi 3, mi 4, mi 5, mi 6, mi 7, mi 8, mi 9, mi 10, mi 11, mi 12, mi 13, mi 14, mi 15, mi 16, mi 17, mi 18, mi 19, mi 20]) (la [ma 0, (o2.2.2.1), ma 2, ma 3, ma 4, (o2.2.2.2), ma 6, ma 7, ma 8, ma 9, ma 10, ma 11, ma 12, ma 13, ma 14, ma 15, ma 16, ma 17, ma 18, ma 19, ma 20, ma 21, ma 22, ma 23, ma 24, ma 25, ma 26, ma 27, ma 28, ma 29, ma 30]) o)) X (jrunV X (c_Mod_more (ad := am) (N := N2) (R_thrown := (mi 0)) (R_used := (mi 1)) (R_many := (mi 2)) (R_values := (mi 3)) (R_textEnd := (mi 4)) (R_dataEnd := (mi 5)) (R_rowEnd := (mi 6)) (R_rowMany := (mi 7)) (R_waiting := (mi 8)) (R_mostWaiting := (mi 9)) (R_answer := (mi 10)) (R_steps := (mi 11)) (R_memory := (mi 12)) (R_maxSteps := (mi 13)) (R_maxMemory := (mi 14)) (R_fault := (mi 15)) (R_result := (mi 16)) (R_now := (mi 17)) (R_nowRow := (mi 18)) (R_come := (mi 19)) (R_puts := (mi 20)) (R_kinds := (ma 0)) (R_numbers := (ma 1)) (R_nodeTexts := (ma 5)) (R_terms := (ma 6)) (p1 := (j_lor (j_lshl (sxZ xs (i + 1)) 32) (j_land (sxZ xs (i + 2)) 4294967295))) (p3 := (sxZ xs (i + 3))) h2) jF0_k (fun _ _ _ _ => trivial) (jwV (by decide +kernel)) rfl rfl rfl pd_Mod_more (by decide) [33, 34, 35, 39, 40] rfl (by decide) 0 10 rfl rfl rfl rfl (Nat.le_of_ble_eq_true rfl) d_law_376 ⟨hc0, hs0⟩) [33, 34, 35, 39, 40] [0, 1, 2, 3, 4, 5, 6, 7, 8, 9, 10, 11, 12, 13, 14, 15, 16, 17, 18, 19, 20, 21, 22, 23, 24, 25, 26, 27, 28, 29, 30, 31, 32, 36, 37, 38, 41, 42, 43, 44, 45, 46, 47, 48, 49, 50, 51, 52, 53, 54, 55, 56, 57, 58, 59, 60, 61, 62, 63, 64, 65] [0, 1, 2, 3, 4, 5, 6, 7, 8, 9, 10, 11, 12, 13, 14, 15, 16, 17, 18, 19, 20, 21, 22, 23, 24, 25, 26, 27, 28, 29, 30, 31, 32, 61, 62, 63, 33, 34, 35, 64, 65, 36, 37, 38, 39, 40, 41, 42, 43, 44, 45, 46, 47, 48, 49, 50, 51, 52, 53, 54, 55, 56, 57, 58, 59, 60] rfl rfl rfl rfl rfl rfl ?_
  refine J_icmp_eq (tgt := 700) X d_law_379 (by decide) (jbr hj) (fun _ _ => ?_) (fun z _ => absurd heq z)
  refine J_widen (c2 := cells + 1) (s2 := slots + 6) (by omega) (by omega) ?_
  exact k _ _ _ _ _ hI
