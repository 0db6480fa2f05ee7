set_option maxHeartbeats 4000000 in
set_option maxRecDepth 100000 in
theorem lb_dataByte {adK adV : Nat → Nat} {ro : Nat} {cI cL cB : ClassId} {b L : Nat} {xs : Nat → Int32} {K : jK} {ad am : Nat → Nat} {ao : Nat} {Inv : jInv} {ci : Nat → Int} {ca : Nat → Int → Int} {mi : Nat → Int} {ma : Nat → Int → Int} {o : Int → Int} {i : Int} {cells slots : Nat} (X : jX (jFl adK adV ro cI cL cB b L xs) K 8 code wLawT R_Law [(cI, .int), (cL, .long), (cB, .byte)]) (hS : Sim_dataByte Inv) (hL : L ≤ 2048) (h0 : 0 ≤ i) (h4 : i + 4 ≤ L) (hc : cells + 1 ≤ 601024) (hs : slots + 6 ≤ 7293034) (h : Inv ci ca mi ma) (k : ∀ ci ca mi ma o, Inv ci ca mi ma → J K 8 room_1 false (cells + 1) (slots + 6) (wLaw ad am ao cI cL cB ci ca mi ma o) [(4, .int (zI i)), (3, .ref ao), (2, .ref (am 0)), (1, .ref (ad 0)), (0, .ref b)] [] 700) : J K 8 room_1 false cells slots (wLaw ad am ao cI cL cB ci ca mi ma o) [(4, .int (zI i)), (3, .ref ao), (2, .ref (am 0)), (1, .ref (ad 0)), (0, .ref b)] [] 638 := by
  have hF := X.2.2.2.2.2
  have hc0 : cells ≤ 601024 := by omega
  have hs0 : slots ≤ 7293034 := by omega
  obtain ⟨o1, o2, h1, h2, hr, heq, hI⟩ := hS ci ca mi ma (sxZ xs (i + 1)) (sxZ xs (i + 2)) h sxZ_r sxZ_r
  have hj : jr2 o1 o2.1 = true := by rw [← heq]; simp [jr2, hr]
  refine J_aload_n X d_law_638 rfl 3 rfl ?_
  refine J_aload_n X d_law_639 rfl 4 rfl ?_
  refine J_iload X d_law_640 0 rfl ?_
  refine J_iconst X d_law_642 ?_
  refine J_iadd X d_law_643 ?_
  refine J_xld X hF (jix_iff.mpr ⟨by omega, by omega, by omega⟩) d_law_644 ?_
  refine J_aload_n X d_law_645 rfl 4 rfl ?_
  refine J_iload X d_law_646 0 rfl ?_
  refine J_iconst X d_law_648 ?_
  refine J_iadd X d_law_649 ?_
  refine J_xld X hF (jix_iff.mpr ⟨by omega, by omega, by omega⟩) d_law_650 ?_
  refine J_afterP (jrunV X (c_Cek_dataByte (ad := ad) (C_answer := (ci 0)) (E_node := (ci 4)) (E_scope := (ci 5)) (E_value := (ci 6)) (V_top := (ci 7)) (V_kinds := (ca 5)) (V_parts := (ca 7)) (VB_top := (ci 8)) (VB_row := (ca 9)) (D_top := (ci 9)) (D_forms := (ca 10)) (D_counts := (ca 11)) (D_numbers := (ca 12)) (D_nodes := (ca 13)) (p1 := (sxZ xs (i + 1))) (p2 := (sxZ xs (i + 2))) h1) jF0_k (fun _ _ _ _ => trivial) (jwV (by decide +kernel)) rfl rfl rfl pd_Cek_dataByte (by decide) [0, 8, 9, 10, 12, 14, 15, 16, 17, 18, 19, 20] rfl (by decide) 0 0 rfl rfl rfl rfl (Nat.le_of_ble_eq_true rfl) d_law_651 ⟨hc0, hs0⟩) ?_
  refine J_aload_n X d_law_654 rfl 2 rfl ?_
  refine J_aload_n X d_law_655 rfl 4 rfl ?_
  refine J_iload X d_law_656 0 rfl ?_
  refine J_iconst X d_law_658 ?_
  refine J_iadd X d_law_659 ?_
  refine J_xld X hF (jix_iff.mpr ⟨by omega, by omega, by omega⟩) d_law_660 ?_
  refine J_aload_n X d_law_661 rfl 4 rfl ?_
  refine J_iload X d_law_662 0 rfl ?_
  refine J_iconst X d_law_664 ?_
  refine J_iadd X d_law_665 ?_
  refine J_xld X hF (jix_iff.mpr ⟨by omega, by omega, by omega⟩) d_law_666 ?_
  refine J_afterR (ws' := (wLaw ad am ao cI cL cB ci ca (li [(o2.2), mi 1, mi 2, mi 3, mi 4, mi 5, mi 6, mi 7, mi 8, mi 9, mi 10, mi 11, mi 12, mi 13, mi 14, mi 15, mi 16, mi 17, mi 18, mi 19, mi 20]) ma o)) X (jrunV X (c_Mod_dataByte (ad := am) (R_thrown := (mi 0)) (R_used := (mi 1)) (R_many := (mi 2)) (R_values := (mi 3)) (R_textEnd := (mi 4)) (R_dataEnd := (mi 5)) (R_rowEnd := (mi 6)) (R_rowMany := (mi 7)) (R_waiting := (mi 8)) (R_mostWaiting := (mi 9)) (R_answer := (mi 10)) (R_steps := (mi 11)) (R_memory := (mi 12)) (R_maxSteps := (mi 13)) (R_maxMemory := (mi 14)) (R_fault := (mi 15)) (R_result := (mi 16)) (R_now := (mi 17)) (R_nowRow := (mi 18)) (R_come := (mi 19)) (R_puts := (mi 20)) (R_valueKinds := (ma 7)) (R_from := (ma 9)) (R_length := (ma 10)) (R_texts := (ma 16)) (R_forms := (ma 17)) (R_counts := (ma 19)) (R_textsAt := (ma 20)) (p1 := (sxZ xs (i + 1))) (p2 := (sxZ xs (i + 2))) h2) jF0_k (fun _ _ _ _ => trivial) (jwV (by decide +kernel)) rfl rfl rfl pd_Mod_dataByte (by decide) [33, 41, 43, 44, 50, 51, 53, 54] rfl (by decide) 0 10 rfl rfl rfl rfl (Nat.le_of_ble_eq_true rfl) d_law_667 ⟨hc0, hs0⟩) [33, 41, 43, 44, 50, 51, 53, 54] [0, 1, 2, 3, 4, 5, 6, 7, 8, 9, 10, 11, 12, 13, 14, 15, 16, 17, 18, 19, 20, 21, 22, 23, 24, 25, 26, 27, 28, 29, 30, 31, 32, 34, 35, 36, 37, 38, 39, 40, 42, 45, 46, 47, 48, 49, 52, 55, 56, 57, 58, 59, 60, 61, 62, 63, 64, 65] [0, 1, 2, 3, 4, 5, 6, 7, 8, 9, 10, 11, 12, 13, 14, 15, 16, 17, 18, 19, 20, 21, 22, 23, 24, 25, 26, 27, 28, 29, 30, 31, 32, 58, 33, 34, 35, 36, 37, 38, 39, 59, 40, 60, 61, 41, 42, 43, 44, 45, 62, 63, 46, 64, 65, 47, 48, 49, 50, 51, 52, 53, 54, 55, 56, 57] rfl rfl rfl rfl rfl rfl ?_
  refine J_icmp_eq (tgt := 700) X d_law_670 (by decide) (jbr hj) (fun _ _ => ?_) (fun z _ => absurd heq z)
  refine J_widen (c2 := cells + 1) (s2 := slots + 6) (by omega) (by omega) ?_
  exact k _ _ _ _ _ hI
