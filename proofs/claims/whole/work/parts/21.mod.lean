theorem d_Mod_more_0 : decode b_Mod_more 0 = .ok (.aload_n 0, 1) := by decide +kernel
theorem d_Mod_more_1 : decode b_Mod_more 1 = .ok (.iconst 0, 1) := by decide +kernel
theorem d_Mod_more_2 : decode b_Mod_more 2 = .ok (.putfield 111, 3) := by decide +kernel
theorem d_Mod_more_5 : decode b_Mod_more 5 = .ok (.aload_n 0, 1) := by decide +kernel
theorem d_Mod_more_6 : decode b_Mod_more 6 = .ok (.getfield 121, 3) := by decide +kernel
theorem d_Mod_more_9 : decode b_Mod_more 9 = .ok (.ifCond .ne 7, 3) := by decide +kernel
theorem d_Mod_more_12 : decode b_Mod_more 12 = .ok (.iconst 0, 1) := by decide +kernel
theorem d_Mod_more_13 : decode b_Mod_more 13 = .ok (.goto 14, 3) := by decide +kernel
theorem d_Mod_more_16 : decode b_Mod_more 16 = .ok (.aload_n 0, 1) := by decide +kernel
theorem d_Mod_more_17 : decode b_Mod_more 17 = .ok (.getfield 30, 3) := by decide +kernel
theorem d_Mod_more_20 : decode b_Mod_more 20 = .ok (.aload_n 0, 1) := by decide +kernel
theorem d_Mod_more_21 : decode b_Mod_more 21 = .ok (.getfield 121, 3) := by decide +kernel
theorem d_Mod_more_24 : decode b_Mod_more 24 = .ok (.iconst 1, 1) := by decide +kernel
theorem d_Mod_more_25 : decode b_Mod_more 25 = .ok (.isub, 1) := by decide +kernel
theorem d_Mod_more_26 : decode b_Mod_more 26 = .ok (.iaload, 1) := by decide +kernel
theorem d_Mod_more_27 : decode b_Mod_more 27 = .ok (.istore 4, 2) := by decide +kernel
theorem d_Mod_more_29 : decode b_Mod_more 29 = .ok (.aload_n 0, 1) := by decide +kernel
theorem d_Mod_more_30 : decode b_Mod_more 30 = .ok (.getfield 121, 3) := by decide +kernel
theorem d_Mod_more_33 : decode b_Mod_more 33 = .ok (.ifCond .eq 43, 3) := by decide +kernel
theorem d_Mod_more_36 : decode b_Mod_more 36 = .ok (.aload_n 0, 1) := by decide +kernel
theorem d_Mod_more_37 : decode b_Mod_more 37 = .ok (.getfield 7, 3) := by decide +kernel
theorem d_Mod_more_40 : decode b_Mod_more 40 = .ok (.iload 4, 2) := by decide +kernel
theorem d_Mod_more_42 : decode b_Mod_more 42 = .ok (.iaload, 1) := by decide +kernel
theorem d_Mod_more_43 : decode b_Mod_more 43 = .ok (.bipush 8, 2) := by decide +kernel
theorem d_Mod_more_45 : decode b_Mod_more 45 = .ok (.if_icmp .ne 31, 3) := by decide +kernel
theorem d_Mod_more_48 : decode b_Mod_more 48 = .ok (.iload_n 3, 1) := by decide +kernel
theorem d_Mod_more_49 : decode b_Mod_more 49 = .ok (.iconst 1, 1) := by decide +kernel
theorem d_Mod_more_50 : decode b_Mod_more 50 = .ok (.if_icmp .lt 26, 3) := by decide +kernel
theorem d_Mod_more_53 : decode b_Mod_more 53 = .ok (.iload_n 3, 1) := by decide +kernel
theorem d_Mod_more_54 : decode b_Mod_more 54 = .ok (.bipush 8, 2) := by decide +kernel
theorem d_Mod_more_56 : decode b_Mod_more 56 = .ok (.if_icmp .gt 20, 3) := by decide +kernel
theorem d_Mod_more_59 : decode b_Mod_more 59 = .ok (.aload_n 0, 1) := by decide +kernel
theorem d_Mod_more_60 : decode b_Mod_more 60 = .ok (.getfield 13, 3) := by decide +kernel
theorem d_Mod_more_63 : decode b_Mod_more 63 = .ok (.iload 4, 2) := by decide +kernel
theorem d_Mod_more_65 : decode b_Mod_more 65 = .ok (.laload, 1) := by decide +kernel
theorem d_Mod_more_66 : decode b_Mod_more 66 = .ok (.iload_n 3, 1) := by decide +kernel
theorem d_Mod_more_67 : decode b_Mod_more 67 = .ok (.i2l, 1) := by decide +kernel
theorem d_Mod_more_68 : decode b_Mod_more 68 = .ok (.ladd, 1) := by decide +kernel
theorem d_Mod_more_69 : decode b_Mod_more 69 = .ok (.ldc2_w 136, 3) := by decide +kernel
theorem d_Mod_more_72 : decode b_Mod_more 72 = .ok (.lcmp, 1) := by decide +kernel
theorem d_Mod_more_73 : decode b_Mod_more 73 = .ok (.ifCond .le 5, 3) := by decide +kernel
theorem d_Mod_more_76 : decode b_Mod_more 76 = .ok (.iconst 0, 1) := by decide +kernel
theorem d_Mod_more_77 : decode b_Mod_more 77 = .ok (.ireturn, 1) := by decide +kernel
theorem d_Mod_more_78 : decode b_Mod_more 78 = .ok (.aload_n 0, 1) := by decide +kernel
theorem d_Mod_more_79 : decode b_Mod_more 79 = .ok (.iload 4, 2) := by decide +kernel
theorem d_Mod_more_81 : decode b_Mod_more 81 = .ok (.lload_n 1, 1) := by decide +kernel
theorem d_Mod_more_82 : decode b_Mod_more 82 = .ok (.iload_n 3, 1) := by decide +kernel
theorem d_Mod_more_83 : decode b_Mod_more 83 = .ok (.invokevirtual 132, 3) := by decide +kernel
theorem d_Mod_more_86 : decode b_Mod_more 86 = .ok (.iconst 1, 1) := by decide +kernel
theorem d_Mod_more_87 : decode b_Mod_more 87 = .ok (.ireturn, 1) := by decide +kernel
def f_Mod_more (N : Nat) (R_thrown : Int) (R_many : Int) (R_kinds : Int → Int) (R_numbers : Int → Int) (R_nodeTexts : Int → Int) (R_terms : Int → Int) (p1 : Int) (p3 : Int) : Option (Int × Int × (Int → Int) × (Int → Int)) :=
  if rI R_many = true then (if R_many = 0 then (
   if rI R_many = true then (if R_many = 0 then (
    some (0, 0, R_numbers, R_nodeTexts)) else (
    if jix 0 200 = true then (
     if jr2 (R_kinds 0) 8 = true then (if (R_kinds 0) = 8 then (
      if jr2 p3 1 = true then (if p3 < 1 then (
       some (0, 0, R_numbers, R_nodeTexts)) else (
       if jr2 p3 8 = true then (if 8 < p3 then (
        some (0, 0, R_numbers, R_nodeTexts)) else (
        if jix 0 200 = true then (
         if rI p3 = true then (
          if jl2 ((R_numbers 0) + p3) 64 = true then (if ((R_numbers 0) + p3) ≤ 64 then (
           ob2 (f_Mod_append N R_numbers R_nodeTexts 0 p1 p3) (fun R_numbers_22 R_nodeTexts_23 =>
            some (1, 0, R_numbers_22, R_nodeTexts_23))) else (
           some (0, 0, R_numbers, R_nodeTexts))) else none) else none) else none)) else none)) else none) else (
      some (0, 0, R_numbers, R_nodeTexts))) else none) else none)) else none) else (
   if jix (R_many - 1) 200 = true then (
    if rI R_many = true then (if R_many = 0 then (
     some (0, 0, R_numbers, R_nodeTexts)) else (
     if jix (R_terms (R_many - 1)) 200 = true then (
      if jr2 (R_kinds (R_terms (R_many - 1))) 8 = true then (if (R_kinds (R_terms (R_many - 1))) = 8 then (
       if jr2 p3 1 = true then (if p3 < 1 then (
        some (0, 0, R_numbers, R_nodeTexts)) else (
        if jr2 p3 8 = true then (if 8 < p3 then (
         some (0, 0, R_numbers, R_nodeTexts)) else (
         if jix (R_terms (R_many - 1)) 200 = true then (
          if rI p3 = true then (
           if jl2 ((R_numbers (R_terms (R_many - 1))) + p3) 64 = true then (if ((R_numbers (R_terms (R_many - 1))) + p3) ≤ 64 then (
            ob2 (f_Mod_append N R_numbers R_nodeTexts (R_terms (R_many - 1)) p1 p3) (fun R_numbers_11 R_nodeTexts_12 =>
             some (1, 0, R_numbers_11, R_nodeTexts_12))) else (
            some (0, 0, R_numbers, R_nodeTexts))) else none) else none) else none)) else none)) else none) else (
       some (0, 0, R_numbers, R_nodeTexts))) else none) else none)) else none) else none)) else none
set_option maxHeartbeats 4000000 in
set_option maxRecDepth 100000 in
theorem c_Mod_more {l : Launch} {D : va_G} {cI cL cB : ClassId} {ad : Nat → Nat} {N : Nat} {R_thrown : Int} {R_used : Int} {R_many : Int} {R_values : Int} {R_textEnd : Int} {R_dataEnd : Int} {R_rowEnd : Int} {R_rowMany : Int} {R_waiting : Int} {R_mostWaiting : Int} {R_answer : Int} {R_steps : Int} {R_memory : Int} {R_maxSteps : Int} {R_maxMemory : Int} {R_fault : Int} {R_result : Int} {R_now : Int} {R_nowRow : Int} {R_come : Int} {R_puts : Int} {R_kinds : Int → Int} {R_numbers : Int → Int} {R_nodeTexts : Int → Int} {R_terms : Int → Int} {p1 : Int} {p3 : Int} {out : Int × Int × (Int → Int) × (Int → Int)} (h : f_Mod_more N R_thrown R_many R_kinds R_numbers R_nodeTexts R_terms p1 p3 = some out) : CT jF0 false l D [(cI, .int), (cL, .long), (cB, .byte)] y_Mod_more w_Mod_more ({ frames := 1, cells := 0, slots := 0, locals := 25 } : Room) [.ref (ad 0), .long (zL p1), .int (zI p3)] [(ad 0, .inr (10, [.int (zI R_thrown), .ref (ad 1), .ref (ad 2), .ref (ad 3), .ref (ad 4), .ref (ad 5), .ref (ad 6), .int (zI R_used), .ref (ad 7), .int (zI R_many), .ref (ad 8), .ref (ad 9), .ref (ad 10), .ref (ad 11), .ref (ad 12), .ref (ad 13), .ref (ad 14), .ref (ad 15), .ref (ad 16), .int (zI R_values), .ref (ad 17), .int (zI R_textEnd), .ref (ad 18), .ref (ad 19), .ref (ad 20), .ref (ad 21), .int (zI R_dataEnd), .ref (ad 22), .int (zI R_rowEnd), .ref (ad 23), .ref (ad 24), .int (zI R_rowMany), .ref (ad 25), .ref (ad 26), .ref (ad 27), .ref (ad 28), .int (zI R_waiting), .int (zI R_mostWaiting), .int (zI R_answer), .int (zI R_steps), .int (zI R_memory), .int (zI R_maxSteps), .int (zI R_maxMemory), .int (zI R_fault), .int (zI R_result), .int (zI R_now), .int (zI R_nowRow), .int (zI R_come), .ref (ad 29), .ref (ad 30), .int (zI R_puts), .ref (ad 31)])), (ad 1, .inl (cI, 200, .inl (zA R_kinds))), (ad 2, .inl (cL, 200, .inr (.inl (zB R_numbers)))), (ad 6, .inl (cB, 12800, .inl (zA R_nodeTexts))), (ad 7, .inl (cI, 200, .inl (zA R_terms)))] (some (.int (zI out.1))) [(ad 0, .inr (10, [.int (zI (out.2.1)), .ref (ad 1), .ref (ad 2), .ref (ad 3), .ref (ad 4), .ref (ad 5), .ref (ad 6), .int (zI R_used), .ref (ad 7), .int (zI R_many), .ref (ad 8), .ref (ad 9), .ref (ad 10), .ref (ad 11), .ref (ad 12), .ref (ad 13), .ref (ad 14), .ref (ad 15), .ref (ad 16), .int (zI R_values), .ref (ad 17), .int (zI R_textEnd), .ref (ad 18), .ref (ad 19), .ref (ad 20), .ref (ad 21), .int (zI R_dataEnd), .ref (ad 22), .int (zI R_rowEnd), .ref (ad 23), .ref (ad 24), .int (zI R_rowMany), .ref (ad 25), .ref (ad 26), .ref (ad 27), .ref (ad 28), .int (zI R_waiting), .int (zI R_mostWaiting), .int (zI R_answer), .int (zI R_steps), .int (zI R_memory), .int (zI R_maxSteps), .int (zI R_maxMemory), .int (zI R_fault), .int (zI R_result), .int (zI R_now), .int (zI R_nowRow), .int (zI R_come), .ref (ad 29), .ref (ad 30), .int (zI R_puts), .ref (ad 31)])), (ad 1, .inl (cI, 200, .inl (zA R_kinds))), (ad 2, .inl (cL, 200, .inr (.inl (zB (out.2.2.1))))), (ad 6, .inl (cB, 12800, .inl (zA (out.2.2.2)))), (ad 7, .inl (cI, 200, .inl (zA R_terms)))] 0 0 := by
  refine CT_of_J (cc := b_Mod_more) (maxL := 5) (ret := (some .boolean)) jF0_k (plainFor_of_name (by decide)) rfl (Nat.le_of_ble_eq_true rfl) ?_
  intro K hKl hKD X E
  subst hKl; subst hKD
  unfold f_Mod_more at h
  refine J_aload_n X d_Mod_more_0 rfl 0 rfl ?_
  refine J_iconst X d_Mod_more_1 ?_
  refine J_put (ws' := [(ad 0, .inr (10, [.int (zI 0), .ref (ad 1), .ref (ad 2), .ref (ad 3), .ref (ad 4), .ref (ad 5), .ref (ad 6), .int (zI R_used), .ref (ad 7), .int (zI R_many), .ref (ad 8), .ref (ad 9), .ref (ad 10), .ref (ad 11), .ref (ad 12), .ref (ad 13), .ref (ad 14), .ref (ad 15), .ref (ad 16), .int (zI R_values), .ref (ad 17), .int (zI R_textEnd), .ref (ad 18), .ref (ad 19), .ref (ad 20), .ref (ad 21), .int (zI R_dataEnd), .ref (ad 22), .int (zI R_rowEnd), .ref (ad 23), .ref (ad 24), .int (zI R_rowMany), .ref (ad 25), .ref (ad 26), .ref (ad 27), .ref (ad 28), .int (zI R_waiting), .int (zI R_mostWaiting), .int (zI R_answer), .int (zI R_steps), .int (zI R_memory), .int (zI R_maxSteps), .int (zI R_maxMemory), .int (zI R_fault), .int (zI R_result), .int (zI R_now), .int (zI R_nowRow), .int (zI R_come), .ref (ad 29), .ref (ad 30), .int (zI R_puts), .ref (ad 31)])), (ad 1, .inl (cI, 200, .inl (zA R_kinds))), (ad 2, .inl (cL, 200, .inr (.inl (zB R_numbers)))), (ad 6, .inl (cB, 12800, .inl (zA R_nodeTexts))), (ad 7, .inl (cI, 200, .inl (zA R_terms)))]) X (j_in in_Mod) ty_Mod tok_Mod nm_Mod 0 rfl rfl 0 (by decide) (j_m own_Mod_more (by decide +kernel)) rfl rfl rfl (Nat.le_of_ble_eq_true rfl) d_Mod_more_2 rfl ?_
  refine J_aload_n X d_Mod_more_5 rfl 0 rfl ?_
  refine J_get X (j_in in_Mod) 0 rfl rfl 9 (by decide) (j_m own_Mod_more (by decide +kernel)) rfl d_Mod_more_6 ?_
  refine J_if_ne (tgt := 16) X d_Mod_more_9 (by decide) h (fun c1 h => ?_) (fun c1 h => ?_)
  · refine J_aload_n X d_Mod_more_16 rfl 0 rfl ?_
    refine J_get X (j_in in_Mod) 0 rfl rfl 8 (by decide) (j_m own_Mod_more (by decide +kernel)) rfl d_Mod_more_17 ?_
    refine J_aload_n X d_Mod_more_20 rfl 0 rfl ?_
    refine J_get X (j_in in_Mod) 0 rfl rfl 9 (by decide) (j_m own_Mod_more (by decide +kernel)) rfl d_Mod_more_21 ?_
    refine J_iconst X d_Mod_more_24 ?_
    refine J_isub X d_Mod_more_25 ?_
    obtain ⟨g2, h⟩ := wk_g h
    refine J_iald X 4 0 rfl rfl g2 d_Mod_more_26 ?_
    refine J_istore (lv' := [(4, .int (zI (R_terms (R_many - 1)))), (0, .ref (ad 0)), (1, .long (zL p1)), (3, .int (zI p3))]) X d_Mod_more_27 (by decide) rfl ?_
    refine J_aload_n X d_Mod_more_29 rfl 1 rfl ?_
    refine J_get X (j_in in_Mod) 0 rfl rfl 9 (by decide) (j_m own_Mod_more (by decide +kernel)) rfl d_Mod_more_30 ?_
    refine J_if_eq (tgt := 76) X d_Mod_more_33 (by decide) h (fun c3 h => ?_) (fun c3 h => ?_)
    · refine J_iconst X d_Mod_more_76 ?_
      cases h
      exact J_ret E ⟨_, rfl, j_bool (Or.inl rfl)⟩ d_Mod_more_77 (Nat.le_refl _) (Nat.le_refl _) rfl
    · refine J_aload_n X d_Mod_more_36 rfl 1 rfl ?_
      refine J_get X (j_in in_Mod) 0 rfl rfl 1 (by decide) (j_m own_Mod_more (by decide +kernel)) rfl d_Mod_more_37 ?_
      refine J_iload X d_Mod_more_40 0 rfl ?_
      obtain ⟨g4, h⟩ := wk_g h
      refine J_iald X 1 0 rfl rfl g4 d_Mod_more_42 ?_
      refine J_bipush X d_Mod_more_43 (by decide) ?_
      refine J_icmp_ne (tgt := 76) X d_Mod_more_45 (by decide) h (fun c5 h => ?_) (fun c5 h => ?_)
      · refine J_iconst X d_Mod_more_76 ?_
        cases h
        exact J_ret E ⟨_, rfl, j_bool (Or.inl rfl)⟩ d_Mod_more_77 (Nat.le_refl _) (Nat.le_refl _) rfl
      · refine J_iload_n X d_Mod_more_48 rfl 3 rfl ?_
        refine J_iconst X d_Mod_more_49 ?_
        refine J_icmp_lt (tgt := 76) X d_Mod_more_50 (by decide) h (fun c6 h => ?_) (fun c6 h => ?_)
        · refine J_iconst X d_Mod_more_76 ?_
          cases h
          exact J_ret E ⟨_, rfl, j_bool (Or.inl rfl)⟩ d_Mod_more_77 (Nat.le_refl _) (Nat.le_refl _) rfl
        · refine J_iload_n X d_Mod_more_53 rfl 3 rfl ?_
          refine J_bipush X d_Mod_more_54 (by decide) ?_
          refine J_icmp_gt (tgt := 76) X d_Mod_more_56 (by decide) h (fun c7 h => ?_) (fun c7 h => ?_)
          · refine J_iconst X d_Mod_more_76 ?_
            cases h
            exact J_ret E ⟨_, rfl, j_bool (Or.inl rfl)⟩ d_Mod_more_77 (Nat.le_refl _) (Nat.le_refl _) rfl
          · refine J_aload_n X d_Mod_more_59 rfl 1 rfl ?_
            refine J_get X (j_in in_Mod) 0 rfl rfl 2 (by decide) (j_m own_Mod_more (by decide +kernel)) rfl d_Mod_more_60 ?_
            refine J_iload X d_Mod_more_63 0 rfl ?_
            obtain ⟨g8, h⟩ := wk_g h
            refine J_lald X 2 1 rfl rfl g8 d_Mod_more_65 ?_
            refine J_iload_n X d_Mod_more_66 rfl 3 rfl ?_
            obtain ⟨g9, h⟩ := wk_g h
            refine J_i2l X g9 d_Mod_more_67 ?_
            refine J_ladd X d_Mod_more_68 ?_
            refine J_ldc2 (v := 64) (n := 64) X (j_m own_Mod_more (by decide +kernel)) (by decide) d_Mod_more_69 ?_
            refine J_lc_le (tgt := 78) X d_Mod_more_72 d_Mod_more_73 (by decide) h (fun c10 h => ?_) (fun c10 h => ?_)
            · refine J_aload_n X d_Mod_more_78 rfl 1 rfl ?_
              refine J_iload X d_Mod_more_79 0 rfl ?_
              refine J_lload_n X d_Mod_more_81 rfl 2 rfl ?_
              refine J_iload_n X d_Mod_more_82 rfl 3 rfl ?_
              obtain ⟨R_numbers_11, R_nodeTexts_12, q13, h⟩ := wk_b2 h
              refine J_afterI0 (ws' := [(ad 0, .inr (10, [.int (zI 0), .ref (ad 1), .ref (ad 2), .ref (ad 3), .ref (ad 4), .ref (ad 5), .ref (ad 6), .int (zI R_used), .ref (ad 7), .int (zI R_many), .ref (ad 8), .ref (ad 9), .ref (ad 10), .ref (ad 11), .ref (ad 12), .ref (ad 13), .ref (ad 14), .ref (ad 15), .ref (ad 16), .int (zI R_values), .ref (ad 17), .int (zI R_textEnd), .ref (ad 18), .ref (ad 19), .ref (ad 20), .ref (ad 21), .int (zI R_dataEnd), .ref (ad 22), .int (zI R_rowEnd), .ref (ad 23), .ref (ad 24), .int (zI R_rowMany), .ref (ad 25), .ref (ad 26), .ref (ad 27), .ref (ad 28), .int (zI R_waiting), .int (zI R_mostWaiting), .int (zI R_answer), .int (zI R_steps), .int (zI R_memory), .int (zI R_maxSteps), .int (zI R_maxMemory), .int (zI R_fault), .int (zI R_result), .int (zI R_now), .int (zI R_nowRow), .int (zI R_come), .ref (ad 29), .ref (ad 30), .int (zI R_puts), .ref (ad 31)])), (ad 1, .inl (cI, 200, .inl (zA R_kinds))), (ad 2, .inl (cL, 200, .inr (.inl (zB R_numbers_11)))), (ad 6, .inl (cB, 12800, .inl (zA R_nodeTexts_12))), (ad 7, .inl (cI, 200, .inl (zA R_terms)))]) X (jrunV X (c_Mod_append (ad := ad) q13) jF0_k (fun _ _ _ _ => trivial) (jgV own_Mod_more (by decide +kernel)) rfl rfl rfl pd_Mod_append (by decide) [0, 2, 3] rfl (by decide) 0 10 rfl rfl rfl rfl (Nat.le_of_ble_eq_true rfl) d_Mod_more_83 (by decide)) [0, 2, 3] [1, 4] [2, 0, 3, 4, 1] rfl rfl (by decide) (by decide) rfl (by decide) ?_
              refine J_iconst X d_Mod_more_86 ?_
              cases h
              exact J_ret E ⟨_, rfl, j_bool (Or.inr rfl)⟩ d_Mod_more_87 (Nat.le_refl _) (Nat.le_refl _) rfl
            · refine J_iconst X d_Mod_more_76 ?_
              cases h
              exact J_ret E ⟨_, rfl, j_bool (Or.inl rfl)⟩ d_Mod_more_77 (Nat.le_refl _) (Nat.le_refl _) rfl
  · refine J_iconst X d_Mod_more_12 ?_
    refine J_goto (tgt := 27) X d_Mod_more_13 (by decide) ?_
    refine J_istore (lv' := [(4, .int (zI 0)), (0, .ref (ad 0)), (1, .long (zL p1)), (3, .int (zI p3))]) X d_Mod_more_27 (by decide) rfl ?_
    refine J_aload_n X d_Mod_more_29 rfl 1 rfl ?_
    refine J_get X (j_in in_Mod) 0 rfl rfl 9 (by decide) (j_m own_Mod_more (by decide +kernel)) rfl d_Mod_more_30 ?_
    refine J_if_eq (tgt := 76) X d_Mod_more_33 (by decide) h (fun c14 h => ?_) (fun c14 h => ?_)
    · refine J_iconst X d_Mod_more_76 ?_
      cases h
      exact J_ret E ⟨_, rfl, j_bool (Or.inl rfl)⟩ d_Mod_more_77 (Nat.le_refl _) (Nat.le_refl _) rfl
    · refine J_aload_n X d_Mod_more_36 rfl 1 rfl ?_
      refine J_get X (j_in in_Mod) 0 rfl rfl 1 (by decide) (j_m own_Mod_more (by decide +kernel)) rfl d_Mod_more_37 ?_
      refine J_iload X d_Mod_more_40 0 rfl ?_
      obtain ⟨g15, h⟩ := wk_g h
      refine J_iald X 1 0 rfl rfl g15 d_Mod_more_42 ?_
      refine J_bipush X d_Mod_more_43 (by decide) ?_
      refine J_icmp_ne (tgt := 76) X d_Mod_more_45 (by decide) h (fun c16 h => ?_) (fun c16 h => ?_)
      · refine J_iconst X d_Mod_more_76 ?_
        cases h
        exact J_ret E ⟨_, rfl, j_bool (Or.inl rfl)⟩ d_Mod_more_77 (Nat.le_refl _) (Nat.le_refl _) rfl
      · refine J_iload_n X d_Mod_more_48 rfl 3 rfl ?_
        refine J_iconst X d_Mod_more_49 ?_
        refine J_icmp_lt (tgt := 76) X d_Mod_more_50 (by decide) h (fun c17 h => ?_) (fun c17 h => ?_)
        · refine J_iconst X d_Mod_more_76 ?_
          cases h
          exact J_ret E ⟨_, rfl, j_bool (Or.inl rfl)⟩ d_Mod_more_77 (Nat.le_refl _) (Nat.le_refl _) rfl
        · refine J_iload_n X d_Mod_more_53 rfl 3 rfl ?_
          refine J_bipush X d_Mod_more_54 (by decide) ?_
          refine J_icmp_gt (tgt := 76) X d_Mod_more_56 (by decide) h (fun c18 h => ?_) (fun c18 h => ?_)
          · refine J_iconst X d_Mod_more_76 ?_
            cases h
            exact J_ret E ⟨_, rfl, j_bool (Or.inl rfl)⟩ d_Mod_more_77 (Nat.le_refl _) (Nat.le_refl _) rfl
          · refine J_aload_n X d_Mod_more_59 rfl 1 rfl ?_
            refine J_get X (j_in in_Mod) 0 rfl rfl 2 (by decide) (j_m own_Mod_more (by decide +kernel)) rfl d_Mod_more_60 ?_
            refine J_iload X d_Mod_more_63 0 rfl ?_
            obtain ⟨g19, h⟩ := wk_g h
            refine J_lald X 2 1 rfl rfl g19 d_Mod_more_65 ?_
            refine J_iload_n X d_Mod_more_66 rfl 3 rfl ?_
            obtain ⟨g20, h⟩ := wk_g h
            refine J_i2l X g20 d_Mod_more_67 ?_
            refine J_ladd X d_Mod_more_68 ?_
            refine J_ldc2 (v := 64) (n := 64) X (j_m own_Mod_more (by decide +kernel)) (by decide) d_Mod_more_69 ?_
            refine J_lc_le (tgt := 78) X d_Mod_more_72 d_Mod_more_73 (by decide) h (fun c21 h => ?_) (fun c21 h => ?_)
            · refine J_aload_n X d_Mod_more_78 rfl 1 rfl ?_
              refine J_iload X d_Mod_more_79 0 rfl ?_
              refine J_lload_n X d_Mod_more_81 rfl 2 rfl ?_
              refine J_iload_n X d_Mod_more_82 rfl 3 rfl ?_
              obtain ⟨R_numbers_22, R_nodeTexts_23, q24, h⟩ := wk_b2 h
              refine J_afterI0 (ws' := [(ad 0, .inr (10, [.int (zI 0), .ref (ad 1), .ref (ad 2), .ref (ad 3), .ref (ad 4), .ref (ad 5), .ref (ad 6), .int (zI R_used), .ref (ad 7), .int (zI R_many), .ref (ad 8), .ref (ad 9), .ref (ad 10), .ref (ad 11), .ref (ad 12), .ref (ad 13), .ref (ad 14), .ref (ad 15), .ref (ad 16), .int (zI R_values), .ref (ad 17), .int (zI R_textEnd), .ref (ad 18), .ref (ad 19), .ref (ad 20), .ref (ad 21), .int (zI R_dataEnd), .ref (ad 22), .int (zI R_rowEnd), .ref (ad 23), .ref (ad 24), .int (zI R_rowMany), .ref (ad 25), .ref (ad 26), .ref (ad 27), .ref (ad 28), .int (zI R_waiting), .int (zI R_mostWaiting), .int (zI R_answer), .int (zI R_steps), .int (zI R_memory), .int (zI R_maxSteps), .int (zI R_maxMemory), .int (zI R_fault), .int (zI R_result), .int (zI R_now), .int (zI R_nowRow), .int (zI R_come), .ref (ad 29), .ref (ad 30), .int (zI R_puts), .ref (ad 31)])), (ad 1, .inl (cI, 200, .inl (zA R_kinds))), (ad 2, .inl (cL, 200, .inr (.inl (zB R_numbers_22)))), (ad 6, .inl (cB, 12800, .inl (zA R_nodeTexts_23))), (ad 7, .inl (cI, 200, .inl (zA R_terms)))]) X (jrunV X (c_Mod_append (ad := ad) q24) jF0_k (fun _ _ _ _ => trivial) (jgV own_Mod_more (by decide +kernel)) rfl rfl rfl pd_Mod_append (by decide) [0, 2, 3] rfl (by decide) 0 10 rfl rfl rfl rfl (Nat.le_of_ble_eq_true rfl) d_Mod_more_83 (by decide)) [0, 2, 3] [1, 4] [2, 0, 3, 4, 1] rfl rfl (by decide) (by decide) rfl (by decide) ?_
              refine J_iconst X d_Mod_more_86 ?_
              cases h
              exact J_ret E ⟨_, rfl, j_bool (Or.inr rfl)⟩ d_Mod_more_87 (Nat.le_refl _) (Nat.le_refl _) rfl
            · refine J_iconst X d_Mod_more_76 ?_
              cases h
              exact J_ret E ⟨_, rfl, j_bool (Or.inl rfl)⟩ d_Mod_more_77 (Nat.le_refl _) (Nat.le_refl _) rfl

theorem d_Mod_drop_0 : decode b_Mod_drop 0 = .ok (.aload_n 0, 1) := by decide +kernel
theorem d_Mod_drop_1 : decode b_Mod_drop 1 = .ok (.iconst 0, 1) := by decide +kernel
theorem d_Mod_drop_2 : decode b_Mod_drop 2 = .ok (.putfield 111, 3) := by decide +kernel
theorem d_Mod_drop_5 : decode b_Mod_drop 5 = .ok (.aload_n 0, 1) := by decide +kernel
theorem d_Mod_drop_6 : decode b_Mod_drop 6 = .ok (.getfield 121, 3) := by decide +kernel
theorem d_Mod_drop_9 : decode b_Mod_drop 9 = .ok (.ifCond .ne 5, 3) := by decide +kernel
theorem d_Mod_drop_12 : decode b_Mod_drop 12 = .ok (.iconst 0, 1) := by decide +kernel
theorem d_Mod_drop_13 : decode b_Mod_drop 13 = .ok (.ireturn, 1) := by decide +kernel
theorem d_Mod_drop_14 : decode b_Mod_drop 14 = .ok (.aload_n 0, 1) := by decide +kernel
theorem d_Mod_drop_15 : decode b_Mod_drop 15 = .ok (.dup, 1) := by decide +kernel
theorem d_Mod_drop_16 : decode b_Mod_drop 16 = .ok (.getfield 121, 3) := by decide +kernel
theorem d_Mod_drop_19 : decode b_Mod_drop 19 = .ok (.iconst 1, 1) := by decide +kernel
theorem d_Mod_drop_20 : decode b_Mod_drop 20 = .ok (.isub, 1) := by decide +kernel
theorem d_Mod_drop_21 : decode b_Mod_drop 21 = .ok (.putfield 121, 3) := by decide +kernel
theorem d_Mod_drop_24 : decode b_Mod_drop 24 = .ok (.aload_n 0, 1) := by decide +kernel
theorem d_Mod_drop_25 : decode b_Mod_drop 25 = .ok (.dup, 1) := by decide +kernel
theorem d_Mod_drop_26 : decode b_Mod_drop 26 = .ok (.getfield 118, 3) := by decide +kernel
theorem d_Mod_drop_29 : decode b_Mod_drop 29 = .ok (.aload_n 0, 1) := by decide +kernel
theorem d_Mod_drop_30 : decode b_Mod_drop 30 = .ok (.getfield 23, 3) := by decide +kernel
theorem d_Mod_drop_33 : decode b_Mod_drop 33 = .ok (.aload_n 0, 1) := by decide +kernel
theorem d_Mod_drop_34 : decode b_Mod_drop 34 = .ok (.getfield 30, 3) := by decide +kernel
theorem d_Mod_drop_37 : decode b_Mod_drop 37 = .ok (.aload_n 0, 1) := by decide +kernel
theorem d_Mod_drop_38 : decode b_Mod_drop 38 = .ok (.getfield 121, 3) := by decide +kernel
theorem d_Mod_drop_41 : decode b_Mod_drop 41 = .ok (.iaload, 1) := by decide +kernel
theorem d_Mod_drop_42 : decode b_Mod_drop 42 = .ok (.iaload, 1) := by decide +kernel
theorem d_Mod_drop_43 : decode b_Mod_drop 43 = .ok (.isub, 1) := by decide +kernel
theorem d_Mod_drop_44 : decode b_Mod_drop 44 = .ok (.putfield 118, 3) := by decide +kernel
theorem d_Mod_drop_47 : decode b_Mod_drop 47 = .ok (.iconst 1, 1) := by decide +kernel
theorem d_Mod_drop_48 : decode b_Mod_drop 48 = .ok (.ireturn, 1) := by decide +kernel
def f_Mod_drop (R_thrown : Int) (R_used : Int) (R_many : Int) (R_sizes : Int → Int) (R_terms : Int → Int) : Option (Int × Int × Int × Int) :=
  if rI R_many = true then (if R_many = 0 then (
   some (0, 0, R_used, R_many)) else (
   if jix (R_many - 1) 200 = true then (
    if jix (R_terms (R_many - 1)) 200 = true then (
     some (1, 0, (R_used - (R_sizes (R_terms (R_many - 1)))), (R_many - 1))) else none) else none)) else none
set_option maxHeartbeats 4000000 in
set_option maxRecDepth 100000 in
theorem c_Mod_drop {l : Launch} {D : va_G} {cI cL cB : ClassId} {ad : Nat → Nat} {R_thrown : Int} {R_used : Int} {R_many : Int} {R_values : Int} {R_textEnd : Int} {R_dataEnd : Int} {R_rowEnd : Int} {R_rowMany : Int} {R_waiting : Int} {R_mostWaiting : Int} {R_answer : Int} {R_steps : Int} {R_memory : Int} {R_maxSteps : Int} {R_maxMemory : Int} {R_fault : Int} {R_result : Int} {R_now : Int} {R_nowRow : Int} {R_come : Int} {R_puts : Int} {R_sizes : Int → Int} {R_terms : Int → Int} {out : Int × Int × Int × Int} (h : f_Mod_drop R_thrown R_used R_many R_sizes R_terms = some out) : CT jF0 false l D [(cI, .int), (cL, .long), (cB, .byte)] y_Mod_drop w_Mod_drop ({ frames := 0, cells := 0, slots := 0, locals := 0 } : Room) [.ref (ad 0)] [(ad 0, .inr (10, [.int (zI R_thrown), .ref (ad 1), .ref (ad 2), .ref (ad 3), .ref (ad 4), .ref (ad 5), .ref (ad 6), .int (zI R_used), .ref (ad 7), .int (zI R_many), .ref (ad 8), .ref (ad 9), .ref (ad 10), .ref (ad 11), .ref (ad 12), .ref (ad 13), .ref (ad 14), .ref (ad 15), .ref (ad 16), .int (zI R_values), .ref (ad 17), .int (zI R_textEnd), .ref (ad 18), .ref (ad 19), .ref (ad 20), .ref (ad 21), .int (zI R_dataEnd), .ref (ad 22), .int (zI R_rowEnd), .ref (ad 23), .ref (ad 24), .int (zI R_rowMany), .ref (ad 25), .ref (ad 26), .ref (ad 27), .ref (ad 28), .int (zI R_waiting), .int (zI R_mostWaiting), .int (zI R_answer), .int (zI R_steps), .int (zI R_memory), .int (zI R_maxSteps), .int (zI R_maxMemory), .int (zI R_fault), .int (zI R_result), .int (zI R_now), .int (zI R_nowRow), .int (zI R_come), .ref (ad 29), .ref (ad 30), .int (zI R_puts), .ref (ad 31)])), (ad 5, .inl (cI, 200, .inl (zA R_sizes))), (ad 7, .inl (cI, 200, .inl (zA R_terms)))] (some (.int (zI out.1))) [(ad 0, .inr (10, [.int (zI (out.2.1)), .ref (ad 1), .ref (ad 2), .ref (ad 3), .ref (ad 4), .ref (ad 5), .ref (ad 6), .int (zI (out.2.2.1)), .ref (ad 7), .int (zI (out.2.2.2)), .ref (ad 8), .ref (ad 9), .ref (ad 10), .ref (ad 11), .ref (ad 12), .ref (ad 13), .ref (ad 14), .ref (ad 15), .ref (ad 16), .int (zI R_values), .ref (ad 17), .int (zI R_textEnd), .ref (ad 18), .ref (ad 19), .ref (ad 20), .ref (ad 21), .int (zI R_dataEnd), .ref (ad 22), .int (zI R_rowEnd), .ref (ad 23), .ref (ad 24), .int (zI R_rowMany), .ref (ad 25), .ref (ad 26), .ref (ad 27), .ref (ad 28), .int (zI R_waiting), .int (zI R_mostWaiting), .int (zI R_answer), .int (zI R_steps), .int (zI R_memory), .int (zI R_maxSteps), .int (zI R_maxMemory), .int (zI R_fault), .int (zI R_result), .int (zI R_now), .int (zI R_nowRow), .int (zI R_come), .ref (ad 29), .ref (ad 30), .int (zI R_puts), .ref (ad 31)])), (ad 5, .inl (cI, 200, .inl (zA R_sizes))), (ad 7, .inl (cI, 200, .inl (zA R_terms)))] 0 0 := by
  refine CT_of_J (cc := b_Mod_drop) (maxL := 1) (ret := (some .boolean)) jF0_k (plainFor_of_name (by decide)) rfl (Nat.le_of_ble_eq_true rfl) ?_
  intro K hKl hKD X E
  subst hKl; subst hKD
  unfold f_Mod_drop at h
  refine J_aload_n X d_Mod_drop_0 rfl 0 rfl ?_
  refine J_iconst X d_Mod_drop_1 ?_
  refine J_put (ws' := [(ad 0, .inr (10, [.int (zI 0), .ref (ad 1), .ref (ad 2), .ref (ad 3), .ref (ad 4), .ref (ad 5), .ref (ad 6), .int (zI R_used), .ref (ad 7), .int (zI R_many), .ref (ad 8), .ref (ad 9), .ref (ad 10), .ref (ad 11), .ref (ad 12), .ref (ad 13), .ref (ad 14), .ref (ad 15), .ref (ad 16), .int (zI R_values), .ref (ad 17), .int (zI R_textEnd), .ref (ad 18), .ref (ad 19), .ref (ad 20), .ref (ad 21), .int (zI R_dataEnd), .ref (ad 22), .int (zI R_rowEnd), .ref (ad 23), .ref (ad 24), .int (zI R_rowMany), .ref (ad 25), .ref (ad 26), .ref (ad 27), .ref (ad 28), .int (zI R_waiting), .int (zI R_mostWaiting), .int (zI R_answer), .int (zI R_steps), .int (zI R_memory), .int (zI R_maxSteps), .int (zI R_maxMemory), .int (zI R_fault), .int (zI R_result), .int (zI R_now), .int (zI R_nowRow), .int (zI R_come), .ref (ad 29), .ref (ad 30), .int (zI R_puts), .ref (ad 31)])), (ad 5, .inl (cI, 200, .inl (zA R_sizes))), (ad 7, .inl (cI, 200, .inl (zA R_terms)))]) X (j_in in_Mod) ty_Mod tok_Mod nm_Mod 0 rfl rfl 0 (by decide) (j_m own_Mod_drop (by decide +kernel)) rfl rfl rfl (Nat.le_of_ble_eq_true rfl) d_Mod_drop_2 rfl ?_
  refine J_aload_n X d_Mod_drop_5 rfl 0 rfl ?_
  refine J_get X (j_in in_Mod) 0 rfl rfl 9 (by decide) (j_m own_Mod_drop (by decide +kernel)) rfl d_Mod_drop_6 ?_
  refine J_if_ne (tgt := 14) X d_Mod_drop_9 (by decide) h (fun c1 h => ?_) (fun c1 h => ?_)
  · refine J_aload_n X d_Mod_drop_14 rfl 0 rfl ?_
    refine J_dup X d_Mod_drop_15 rfl ?_
    refine J_get X (j_in in_Mod) 0 rfl rfl 9 (by decide) (j_m own_Mod_drop (by decide +kernel)) rfl d_Mod_drop_16 ?_
    refine J_iconst X d_Mod_drop_19 ?_
    refine J_isub X d_Mod_drop_20 ?_
    refine J_put (ws' := [(ad 0, .inr (10, [.int (zI 0), .ref (ad 1), .ref (ad 2), .ref (ad 3), .ref (ad 4), .ref (ad 5), .ref (ad 6), .int (zI R_used), .ref (ad 7), .int (zI (R_many - 1)), .ref (ad 8), .ref (ad 9), .ref (ad 10), .ref (ad 11), .ref (ad 12), .ref (ad 13), .ref (ad 14), .ref (ad 15), .ref (ad 16), .int (zI R_values), .ref (ad 17), .int (zI R_textEnd), .ref (ad 18), .ref (ad 19), .ref (ad 20), .ref (ad 21), .int (zI R_dataEnd), .ref (ad 22), .int (zI R_rowEnd), .ref (ad 23), .ref (ad 24), .int (zI R_rowMany), .ref (ad 25), .ref (ad 26), .ref (ad 27), .ref (ad 28), .int (zI R_waiting), .int (zI R_mostWaiting), .int (zI R_answer), .int (zI R_steps), .int (zI R_memory), .int (zI R_maxSteps), .int (zI R_maxMemory), .int (zI R_fault), .int (zI R_result), .int (zI R_now), .int (zI R_nowRow), .int (zI R_come), .ref (ad 29), .ref (ad 30), .int (zI R_puts), .ref (ad 31)])), (ad 5, .inl (cI, 200, .inl (zA R_sizes))), (ad 7, .inl (cI, 200, .inl (zA R_terms)))]) X (j_in in_Mod) ty_Mod tok_Mod nm_Mod 0 rfl rfl 9 (by decide) (j_m own_Mod_drop (by decide +kernel)) rfl rfl rfl (Nat.le_of_ble_eq_true rfl) d_Mod_drop_21 rfl ?_
    refine J_aload_n X d_Mod_drop_24 rfl 0 rfl ?_
    refine J_dup X d_Mod_drop_25 rfl ?_
    refine J_get X (j_in in_Mod) 0 rfl rfl 7 (by decide) (j_m own_Mod_drop (by decide +kernel)) rfl d_Mod_drop_26 ?_
    refine J_aload_n X d_Mod_drop_29 rfl 0 rfl ?_
    refine J_get X (j_in in_Mod) 0 rfl rfl 5 (by decide) (j_m own_Mod_drop (by decide +kernel)) rfl d_Mod_drop_30 ?_
    refine J_aload_n X d_Mod_drop_33 rfl 0 rfl ?_
    refine J_get X (j_in in_Mod) 0 rfl rfl 8 (by decide) (j_m own_Mod_drop (by decide +kernel)) rfl d_Mod_drop_34 ?_
    refine J_aload_n X d_Mod_drop_37 rfl 0 rfl ?_
    refine J_get X (j_in in_Mod) 0 rfl rfl 9 (by decide) (j_m own_Mod_drop (by decide +kernel)) rfl d_Mod_drop_38 ?_
    obtain ⟨g2, h⟩ := wk_g h
    refine J_iald X 2 0 rfl rfl g2 d_Mod_drop_41 ?_
    obtain ⟨g3, h⟩ := wk_g h
    refine J_iald X 1 0 rfl rfl g3 d_Mod_drop_42 ?_
    refine J_isub X d_Mod_drop_43 ?_
    refine J_put (ws' := [(ad 0, .inr (10, [.int (zI 0), .ref (ad 1), .ref (ad 2), .ref (ad 3), .ref (ad 4), .ref (ad 5), .ref (ad 6), .int (zI (R_used - (R_sizes (R_terms (R_many - 1))))), .ref (ad 7), .int (zI (R_many - 1)), .ref (ad 8), .ref (ad 9), .ref (ad 10), .ref (ad 11), .ref (ad 12), .ref (ad 13), .ref (ad 14), .ref (ad 15), .ref (ad 16), .int (zI R_values), .ref (ad 17), .int (zI R_textEnd), .ref (ad 18), .ref (ad 19), .ref (ad 20), .ref (ad 21), .int (zI R_dataEnd), .ref (ad 22), .int (zI R_rowEnd), .ref (ad 23), .ref (ad 24), .int (zI R_rowMany), .ref (ad 25), .ref (ad 26), .ref (ad 27), .ref (ad 28), .int (zI R_waiting), .int (zI R_mostWaiting), .int (zI R_answer), .int (zI R_steps), .int (zI R_memory), .int (zI R_maxSteps), .int (zI R_maxMemory), .int (zI R_fault), .int (zI R_result), .int (zI R_now), .int (zI R_nowRow), .int (zI R_come), .ref (ad 29), .ref (ad 30), .int (zI R_puts), .ref (ad 31)])), (ad 5, .inl (cI, 200, .inl (zA R_sizes))), (ad 7, .inl (cI, 200, .inl (zA R_terms)))]) X (j_in in_Mod) ty_Mod tok_Mod nm_Mod 0 rfl rfl 7 (by decide) (j_m own_Mod_drop (by decide +kernel)) rfl rfl rfl (Nat.le_of_ble_eq_true rfl) d_Mod_drop_44 rfl ?_
    refine J_iconst X d_Mod_drop_47 ?_
    cases h
    exact J_ret E ⟨_, rfl, j_bool (Or.inr rfl)⟩ d_Mod_drop_48 (Nat.le_refl _) (Nat.le_refl _) rfl
  · refine J_iconst X d_Mod_drop_12 ?_
    cases h
    exact J_ret E ⟨_, rfl, j_bool (Or.inl rfl)⟩ d_Mod_drop_13 (Nat.le_refl _) (Nat.le_refl _) rfl

theorem d_Mod_lacking_0 : decode b_Mod_lacking 0 = .ok (.aload_n 0, 1) := by decide +kernel
theorem d_Mod_lacking_1 : decode b_Mod_lacking 1 = .ok (.getfield 30, 3) := by decide +kernel
theorem d_Mod_lacking_4 : decode b_Mod_lacking 4 = .ok (.aload_n 0, 1) := by decide +kernel
theorem d_Mod_lacking_5 : decode b_Mod_lacking 5 = .ok (.getfield 121, 3) := by decide +kernel
theorem d_Mod_lacking_8 : decode b_Mod_lacking 8 = .ok (.iconst 1, 1) := by decide +kernel
theorem d_Mod_lacking_9 : decode b_Mod_lacking 9 = .ok (.isub, 1) := by decide +kernel
theorem d_Mod_lacking_10 : decode b_Mod_lacking 10 = .ok (.iaload, 1) := by decide +kernel
theorem d_Mod_lacking_11 : decode b_Mod_lacking 11 = .ok (.istore_n 1, 1) := by decide +kernel
theorem d_Mod_lacking_12 : decode b_Mod_lacking 12 = .ok (.iload_n 1, 1) := by decide +kernel
theorem d_Mod_lacking_13 : decode b_Mod_lacking 13 = .ok (.aload_n 0, 1) := by decide +kernel
theorem d_Mod_lacking_14 : decode b_Mod_lacking 14 = .ok (.getfield 23, 3) := by decide +kernel
theorem d_Mod_lacking_17 : decode b_Mod_lacking 17 = .ok (.iload_n 1, 1) := by decide +kernel
theorem d_Mod_lacking_18 : decode b_Mod_lacking 18 = .ok (.iaload, 1) := by decide +kernel
theorem d_Mod_lacking_19 : decode b_Mod_lacking 19 = .ok (.isub, 1) := by decide +kernel
theorem d_Mod_lacking_20 : decode b_Mod_lacking 20 = .ok (.iconst 1, 1) := by decide +kernel
theorem d_Mod_lacking_21 : decode b_Mod_lacking 21 = .ok (.iadd, 1) := by decide +kernel
theorem d_Mod_lacking_22 : decode b_Mod_lacking 22 = .ok (.istore_n 2, 1) := by decide +kernel
theorem d_Mod_lacking_23 : decode b_Mod_lacking 23 = .ok (.iload_n 2, 1) := by decide +kernel
theorem d_Mod_lacking_24 : decode b_Mod_lacking 24 = .ok (.iload_n 1, 1) := by decide +kernel
theorem d_Mod_lacking_25 : decode b_Mod_lacking 25 = .ok (.if_icmp .gt 123, 3) := by decide +kernel
theorem d_Mod_lacking_28 : decode b_Mod_lacking 28 = .ok (.aload_n 0, 1) := by decide +kernel
theorem d_Mod_lacking_29 : decode b_Mod_lacking 29 = .ok (.getfield 17, 3) := by decide +kernel
theorem d_Mod_lacking_32 : decode b_Mod_lacking 32 = .ok (.iload_n 2, 1) := by decide +kernel
theorem d_Mod_lacking_33 : decode b_Mod_lacking 33 = .ok (.iaload, 1) := by decide +kernel
theorem d_Mod_lacking_34 : decode b_Mod_lacking 34 = .ok (.ifCond .ge 7, 3) := by decide +kernel
theorem d_Mod_lacking_37 : decode b_Mod_lacking 37 = .ok (.iconst 0, 1) := by decide +kernel
theorem d_Mod_lacking_38 : decode b_Mod_lacking 38 = .ok (.goto 14, 3) := by decide +kernel
theorem d_Mod_lacking_41 : decode b_Mod_lacking 41 = .ok (.aload_n 0, 1) := by decide +kernel
theorem d_Mod_lacking_42 : decode b_Mod_lacking 42 = .ok (.getfield 105, 3) := by decide +kernel
theorem d_Mod_lacking_45 : decode b_Mod_lacking 45 = .ok (.aload_n 0, 1) := by decide +kernel
theorem d_Mod_lacking_46 : decode b_Mod_lacking 46 = .ok (.getfield 17, 3) := by decide +kernel
theorem d_Mod_lacking_49 : decode b_Mod_lacking 49 = .ok (.iload_n 2, 1) := by decide +kernel
theorem d_Mod_lacking_50 : decode b_Mod_lacking 50 = .ok (.iaload, 1) := by decide +kernel
theorem d_Mod_lacking_51 : decode b_Mod_lacking 51 = .ok (.iaload, 1) := by decide +kernel
theorem d_Mod_lacking_52 : decode b_Mod_lacking 52 = .ok (.istore_n 3, 1) := by decide +kernel
theorem d_Mod_lacking_53 : decode b_Mod_lacking 53 = .ok (.aload_n 0, 1) := by decide +kernel
theorem d_Mod_lacking_54 : decode b_Mod_lacking 54 = .ok (.getfield 20, 3) := by decide +kernel
theorem d_Mod_lacking_57 : decode b_Mod_lacking 57 = .ok (.iload_n 2, 1) := by decide +kernel
theorem d_Mod_lacking_58 : decode b_Mod_lacking 58 = .ok (.iaload, 1) := by decide +kernel
theorem d_Mod_lacking_59 : decode b_Mod_lacking 59 = .ok (.ifCond .ge 7, 3) := by decide +kernel
theorem d_Mod_lacking_62 : decode b_Mod_lacking 62 = .ok (.iconst 0, 1) := by decide +kernel
theorem d_Mod_lacking_63 : decode b_Mod_lacking 63 = .ok (.goto 14, 3) := by decide +kernel
theorem d_Mod_lacking_66 : decode b_Mod_lacking 66 = .ok (.aload_n 0, 1) := by decide +kernel
theorem d_Mod_lacking_67 : decode b_Mod_lacking 67 = .ok (.getfield 105, 3) := by decide +kernel
theorem d_Mod_lacking_70 : decode b_Mod_lacking 70 = .ok (.aload_n 0, 1) := by decide +kernel
theorem d_Mod_lacking_71 : decode b_Mod_lacking 71 = .ok (.getfield 20, 3) := by decide +kernel
theorem d_Mod_lacking_74 : decode b_Mod_lacking 74 = .ok (.iload_n 2, 1) := by decide +kernel
theorem d_Mod_lacking_75 : decode b_Mod_lacking 75 = .ok (.iaload, 1) := by decide +kernel
theorem d_Mod_lacking_76 : decode b_Mod_lacking 76 = .ok (.iaload, 1) := by decide +kernel
theorem d_Mod_lacking_77 : decode b_Mod_lacking 77 = .ok (.istore 4, 2) := by decide +kernel
theorem d_Mod_lacking_79 : decode b_Mod_lacking 79 = .ok (.iload_n 3, 1) := by decide +kernel
theorem d_Mod_lacking_80 : decode b_Mod_lacking 80 = .ok (.iload 4, 2) := by decide +kernel
theorem d_Mod_lacking_82 : decode b_Mod_lacking 82 = .ok (.if_icmp .le 7, 3) := by decide +kernel
theorem d_Mod_lacking_85 : decode b_Mod_lacking 85 = .ok (.iload_n 3, 1) := by decide +kernel
theorem d_Mod_lacking_86 : decode b_Mod_lacking 86 = .ok (.goto 5, 3) := by decide +kernel
theorem d_Mod_lacking_89 : decode b_Mod_lacking 89 = .ok (.iload 4, 2) := by decide +kernel
theorem d_Mod_lacking_91 : decode b_Mod_lacking 91 = .ok (.istore 5, 2) := by decide +kernel
theorem d_Mod_lacking_93 : decode b_Mod_lacking 93 = .ok (.aload_n 0, 1) := by decide +kernel
theorem d_Mod_lacking_94 : decode b_Mod_lacking 94 = .ok (.getfield 105, 3) := by decide +kernel
theorem d_Mod_lacking_97 : decode b_Mod_lacking 97 = .ok (.iload_n 2, 1) := by decide +kernel
theorem d_Mod_lacking_98 : decode b_Mod_lacking 98 = .ok (.aload_n 0, 1) := by decide +kernel
theorem d_Mod_lacking_99 : decode b_Mod_lacking 99 = .ok (.getfield 7, 3) := by decide +kernel
theorem d_Mod_lacking_102 : decode b_Mod_lacking 102 = .ok (.iload_n 2, 1) := by decide +kernel
theorem d_Mod_lacking_103 : decode b_Mod_lacking 103 = .ok (.iaload, 1) := by decide +kernel
theorem d_Mod_lacking_104 : decode b_Mod_lacking 104 = .ok (.ifCond .ne 13, 3) := by decide +kernel
theorem d_Mod_lacking_107 : decode b_Mod_lacking 107 = .ok (.aload_n 0, 1) := by decide +kernel
theorem d_Mod_lacking_108 : decode b_Mod_lacking 108 = .ok (.getfield 13, 3) := by decide +kernel
theorem d_Mod_lacking_111 : decode b_Mod_lacking 111 = .ok (.iload_n 2, 1) := by decide +kernel
theorem d_Mod_lacking_112 : decode b_Mod_lacking 112 = .ok (.laload, 1) := by decide +kernel
theorem d_Mod_lacking_113 : decode b_Mod_lacking 113 = .ok (.l2i, 1) := by decide +kernel
theorem d_Mod_lacking_114 : decode b_Mod_lacking 114 = .ok (.goto 27, 3) := by decide +kernel
theorem d_Mod_lacking_117 : decode b_Mod_lacking 117 = .ok (.aload_n 0, 1) := by decide +kernel
theorem d_Mod_lacking_118 : decode b_Mod_lacking 118 = .ok (.getfield 7, 3) := by decide +kernel
theorem d_Mod_lacking_121 : decode b_Mod_lacking 121 = .ok (.iload_n 2, 1) := by decide +kernel
theorem d_Mod_lacking_122 : decode b_Mod_lacking 122 = .ok (.iaload, 1) := by decide +kernel
theorem d_Mod_lacking_123 : decode b_Mod_lacking 123 = .ok (.iconst 1, 1) := by decide +kernel
theorem d_Mod_lacking_124 : decode b_Mod_lacking 124 = .ok (.if_icmp .ne 15, 3) := by decide +kernel
theorem d_Mod_lacking_127 : decode b_Mod_lacking 127 = .ok (.iload 5, 2) := by decide +kernel
theorem d_Mod_lacking_129 : decode b_Mod_lacking 129 = .ok (.ifCond .le 10, 3) := by decide +kernel
theorem d_Mod_lacking_132 : decode b_Mod_lacking 132 = .ok (.iload 5, 2) := by decide +kernel
theorem d_Mod_lacking_134 : decode b_Mod_lacking 134 = .ok (.iconst 1, 1) := by decide +kernel
theorem d_Mod_lacking_135 : decode b_Mod_lacking 135 = .ok (.isub, 1) := by decide +kernel
theorem d_Mod_lacking_136 : decode b_Mod_lacking 136 = .ok (.goto 5, 3) := by decide +kernel
theorem d_Mod_lacking_139 : decode b_Mod_lacking 139 = .ok (.iload 5, 2) := by decide +kernel
theorem d_Mod_lacking_141 : decode b_Mod_lacking 141 = .ok (.iastore, 1) := by decide +kernel
theorem d_Mod_lacking_142 : decode b_Mod_lacking 142 = .ok (.iinc 2 1, 3) := by decide +kernel
theorem d_Mod_lacking_145 : decode b_Mod_lacking 145 = .ok (.goto (-122), 3) := by decide +kernel
theorem d_Mod_lacking_148 : decode b_Mod_lacking 148 = .ok (.aload_n 0, 1) := by decide +kernel
theorem d_Mod_lacking_149 : decode b_Mod_lacking 149 = .ok (.getfield 105, 3) := by decide +kernel
theorem d_Mod_lacking_152 : decode b_Mod_lacking 152 = .ok (.iload_n 1, 1) := by decide +kernel
theorem d_Mod_lacking_153 : decode b_Mod_lacking 153 = .ok (.iaload, 1) := by decide +kernel
theorem d_Mod_lacking_154 : decode b_Mod_lacking 154 = .ok (.ireturn, 1) := by decide +kernel
def f_Mod_lacking_L23 (R_kinds : Int → Int) (R_numbers : Int → Int) (R_firsts : Int → Int) (R_seconds : Int → Int) (x1 : Int) : Nat → Int → (Int → Int) → Option (Int × (Int → Int))
  | 0, _, _ => none
  | n + 1, x2, R_lacks =>
    if jr2 x2 x1 = true then (if x1 < x2 then (
     some (x2, R_lacks)) else (
     if jix x2 200 = true then (
      if rI (R_firsts x2) = true then (if 0 ≤ (R_firsts x2) then (
       if jix x2 200 = true then (
        if jix (R_firsts x2) 200 = true then (
         if jix x2 200 = true then (
          if rI (R_seconds x2) = true then (if 0 ≤ (R_seconds x2) then (
           if jix x2 200 = true then (
            if jix (R_seconds x2) 200 = true then (
             if jr2 (R_lacks (R_firsts x2)) (R_lacks (R_seconds x2)) = true then (if (R_lacks (R_firsts x2)) ≤ (R_lacks (R_seconds x2)) then (
              if jix x2 200 = true then (
               if rI (R_kinds x2) = true then (if (R_kinds x2) = 0 then (
                if jix x2 200 = true then (
                 if jix x2 200 = true then (
                  f_Mod_lacking_L23 R_kinds R_numbers R_firsts R_seconds x1 n (x2 + 1) (upZ R_lacks x2 (R_numbers x2))) else none) else none) else (
                if jix x2 200 = true then (
                 if jr2 (R_kinds x2) 1 = true then (if (R_kinds x2) = 1 then (
                  if rI (R_lacks (R_seconds x2)) = true then (if (R_lacks (R_seconds x2)) ≤ 0 then (
                   if jix x2 200 = true then (
                    f_Mod_lacking_L23 R_kinds R_numbers R_firsts R_seconds x1 n (x2 + 1) (upZ R_lacks x2 (R_lacks (R_seconds x2)))) else none) else (
                   if jix x2 200 = true then (
                    f_Mod_lacking_L23 R_kinds R_numbers R_firsts R_seconds x1 n (x2 + 1) (upZ R_lacks x2 ((R_lacks (R_seconds x2)) - 1))) else none)) else none) else (
                  if jix x2 200 = true then (
                   f_Mod_lacking_L23 R_kinds R_numbers R_firsts R_seconds x1 n (x2 + 1) (upZ R_lacks x2 (R_lacks (R_seconds x2)))) else none)) else none) else none)) else none) else none) else (
              if jix x2 200 = true then (
               if rI (R_kinds x2) = true then (if (R_kinds x2) = 0 then (
                if jix x2 200 = true then (
                 if jix x2 200 = true then (
                  f_Mod_lacking_L23 R_kinds R_numbers R_firsts R_seconds x1 n (x2 + 1) (upZ R_lacks x2 (R_numbers x2))) else none) else none) else (
                if jix x2 200 = true then (
                 if jr2 (R_kinds x2) 1 = true then (if (R_kinds x2) = 1 then (
                  if rI (R_lacks (R_firsts x2)) = true then (if (R_lacks (R_firsts x2)) ≤ 0 then (
                   if jix x2 200 = true then (
                    f_Mod_lacking_L23 R_kinds R_numbers R_firsts R_seconds x1 n (x2 + 1) (upZ R_lacks x2 (R_lacks (R_firsts x2)))) else none) else (
                   if jix x2 200 = true then (
                    f_Mod_lacking_L23 R_kinds R_numbers R_firsts R_seconds x1 n (x2 + 1) (upZ R_lacks x2 ((R_lacks (R_firsts x2)) - 1))) else none)) else none) else (
                  if jix x2 200 = true then (
                   f_Mod_lacking_L23 R_kinds R_numbers R_firsts R_seconds x1 n (x2 + 1) (upZ R_lacks x2 (R_lacks (R_firsts x2)))) else none)) else none) else none)) else none) else none)) else none) else none) else none) else (
           if jr2 (R_lacks (R_firsts x2)) 0 = true then (if (R_lacks (R_firsts x2)) ≤ 0 then (
            if jix x2 200 = true then (
             if rI (R_kinds x2) = true then (if (R_kinds x2) = 0 then (
              if jix x2 200 = true then (
               if jix x2 200 = true then (
                f_Mod_lacking_L23 R_kinds R_numbers R_firsts R_seconds x1 n (x2 + 1) (upZ R_lacks x2 (R_numbers x2))) else none) else none) else (
              if jix x2 200 = true then (
               if jr2 (R_kinds x2) 1 = true then (if (R_kinds x2) = 1 then (
                if jix x2 200 = true then (
                 f_Mod_lacking_L23 R_kinds R_numbers R_firsts R_seconds x1 n (x2 + 1) (upZ R_lacks x2 0)) else none) else (
                if jix x2 200 = true then (
                 f_Mod_lacking_L23 R_kinds R_numbers R_firsts R_seconds x1 n (x2 + 1) (upZ R_lacks x2 0)) else none)) else none) else none)) else none) else none) else (
            if jix x2 200 = true then (
             if rI (R_kinds x2) = true then (if (R_kinds x2) = 0 then (
              if jix x2 200 = true then (
               if jix x2 200 = true then (
                f_Mod_lacking_L23 R_kinds R_numbers R_firsts R_seconds x1 n (x2 + 1) (upZ R_lacks x2 (R_numbers x2))) else none) else none) else (
              if jix x2 200 = true then (
               if jr2 (R_kinds x2) 1 = true then (if (R_kinds x2) = 1 then (
                if rI (R_lacks (R_firsts x2)) = true then (if (R_lacks (R_firsts x2)) ≤ 0 then (
                 if jix x2 200 = true then (
                  f_Mod_lacking_L23 R_kinds R_numbers R_firsts R_seconds x1 n (x2 + 1) (upZ R_lacks x2 (R_lacks (R_firsts x2)))) else none) else (
                 if jix x2 200 = true then (
                  f_Mod_lacking_L23 R_kinds R_numbers R_firsts R_seconds x1 n (x2 + 1) (upZ R_lacks x2 ((R_lacks (R_firsts x2)) - 1))) else none)) else none) else (
                if jix x2 200 = true then (
                 f_Mod_lacking_L23 R_kinds R_numbers R_firsts R_seconds x1 n (x2 + 1) (upZ R_lacks x2 (R_lacks (R_firsts x2)))) else none)) else none) else none)) else none) else none)) else none)) else none) else none) else none) else none) else (
       if jix x2 200 = true then (
        if rI (R_seconds x2) = true then (if 0 ≤ (R_seconds x2) then (
         if jix x2 200 = true then (
          if jix (R_seconds x2) 200 = true then (
           if jr2 0 (R_lacks (R_seconds x2)) = true then (if 0 ≤ (R_lacks (R_seconds x2)) then (
            if jix x2 200 = true then (
             if rI (R_kinds x2) = true then (if (R_kinds x2) = 0 then (
              if jix x2 200 = true then (
               if jix x2 200 = true then (
                f_Mod_lacking_L23 R_kinds R_numbers R_firsts R_seconds x1 n (x2 + 1) (upZ R_lacks x2 (R_numbers x2))) else none) else none) else (
              if jix x2 200 = true then (
               if jr2 (R_kinds x2) 1 = true then (if (R_kinds x2) = 1 then (
                if rI (R_lacks (R_seconds x2)) = true then (if (R_lacks (R_seconds x2)) ≤ 0 then (
                 if jix x2 200 = true then (
                  f_Mod_lacking_L23 R_kinds R_numbers R_firsts R_seconds x1 n (x2 + 1) (upZ R_lacks x2 (R_lacks (R_seconds x2)))) else none) else (
                 if jix x2 200 = true then (
                  f_Mod_lacking_L23 R_kinds R_numbers R_firsts R_seconds x1 n (x2 + 1) (upZ R_lacks x2 ((R_lacks (R_seconds x2)) - 1))) else none)) else none) else (
                if jix x2 200 = true then (
                 f_Mod_lacking_L23 R_kinds R_numbers R_firsts R_seconds x1 n (x2 + 1) (upZ R_lacks x2 (R_lacks (R_seconds x2)))) else none)) else none) else none)) else none) else none) else (
            if jix x2 200 = true then (
             if rI (R_kinds x2) = true then (if (R_kinds x2) = 0 then (
              if jix x2 200 = true then (
               if jix x2 200 = true then (
                f_Mod_lacking_L23 R_kinds R_numbers R_firsts R_seconds x1 n (x2 + 1) (upZ R_lacks x2 (R_numbers x2))) else none) else none) else (
              if jix x2 200 = true then (
               if jr2 (R_kinds x2) 1 = true then (if (R_kinds x2) = 1 then (
                if jix x2 200 = true then (
                 f_Mod_lacking_L23 R_kinds R_numbers R_firsts R_seconds x1 n (x2 + 1) (upZ R_lacks x2 0)) else none) else (
                if jix x2 200 = true then (
                 f_Mod_lacking_L23 R_kinds R_numbers R_firsts R_seconds x1 n (x2 + 1) (upZ R_lacks x2 0)) else none)) else none) else none)) else none) else none)) else none) else none) else none) else (
         if jix x2 200 = true then (
          if rI (R_kinds x2) = true then (if (R_kinds x2) = 0 then (
           if jix x2 200 = true then (
            if jix x2 200 = true then (
             f_Mod_lacking_L23 R_kinds R_numbers R_firsts R_seconds x1 n (x2 + 1) (upZ R_lacks x2 (R_numbers x2))) else none) else none) else (
           if jix x2 200 = true then (
            if jr2 (R_kinds x2) 1 = true then (if (R_kinds x2) = 1 then (
             if jix x2 200 = true then (
              f_Mod_lacking_L23 R_kinds R_numbers R_firsts R_seconds x1 n (x2 + 1) (upZ R_lacks x2 0)) else none) else (
             if jix x2 200 = true then (
              f_Mod_lacking_L23 R_kinds R_numbers R_firsts R_seconds x1 n (x2 + 1) (upZ R_lacks x2 0)) else none)) else none) else none)) else none) else none)) else none) else none)) else none) else none)) else none
def f_Mod_lacking (N : Nat) (R_many : Int) (R_kinds : Int → Int) (R_numbers : Int → Int) (R_firsts : Int → Int) (R_seconds : Int → Int) (R_sizes : Int → Int) (R_terms : Int → Int) (R_lacks : Int → Int) : Option (Int × (Int → Int)) :=
  if jix (R_many - 1) 200 = true then (
   if jix (R_terms (R_many - 1)) 200 = true then (
    ob2 (f_Mod_lacking_L23 R_kinds R_numbers R_firsts R_seconds (R_terms (R_many - 1)) N (((R_terms (R_many - 1)) - (R_sizes (R_terms (R_many - 1)))) + 1) R_lacks) (fun x2_3 R_lacks_4 =>
     if jix (R_terms (R_many - 1)) 200 = true then (
      some ((R_lacks_4 (R_terms (R_many - 1))), R_lacks_4)) else none)) else none) else none
set_option maxHeartbeats 4000000 in
set_option maxRecDepth 100000 in
theorem k_Mod_lacking_L23 {K : jK} {cI cL cB : ClassId} {ad : Nat → Nat} {R_kinds : Int → Int} {R_numbers : Int → Int} {R_firsts : Int → Int} {R_seconds : Int → Int} {x1 : Int} {R_thrown : Int} {R_used : Int} {R_many : Int} {R_values : Int} {R_textEnd : Int} {R_dataEnd : Int} {R_rowEnd : Int} {R_rowMany : Int} {R_waiting : Int} {R_mostWaiting : Int} {R_answer : Int} {R_steps : Int} {R_memory : Int} {R_maxSteps : Int} {R_maxMemory : Int} {R_fault : Int} {R_result : Int} {R_now : Int} {R_nowRow : Int} {R_come : Int} {R_puts : Int} {R_sizes : Int → Int} {R_terms : Int → Int} {out : Int × (Int → Int)} (X : jX jF0 K 6 b_Mod_lacking w_Mod_lacking R_Mod [(cI, .int), (cL, .long), (cB, .byte)]) : ∀ (n : Nat) (x2 : Int) (R_lacks : (Int → Int)), f_Mod_lacking_L23 R_kinds R_numbers R_firsts R_seconds x1 n x2 R_lacks = some out → J K 6 ({ frames := 0, cells := 0, slots := 0, locals := 0 } : Room) false 0 0 [(ad 0, .inr (10, [.int (zI R_thrown), .ref (ad 1), .ref (ad 2), .ref (ad 3), .ref (ad 4), .ref (ad 5), .ref (ad 6), .int (zI R_used), .ref (ad 7), .int (zI R_many), .ref (ad 8), .ref (ad 9), .ref (ad 10), .ref (ad 11), .ref (ad 12), .ref (ad 13), .ref (ad 14), .ref (ad 15), .ref (ad 16), .int (zI R_values), .ref (ad 17), .int (zI R_textEnd), .ref (ad 18), .ref (ad 19), .ref (ad 20), .ref (ad 21), .int (zI R_dataEnd), .ref (ad 22), .int (zI R_rowEnd), .ref (ad 23), .ref (ad 24), .int (zI R_rowMany), .ref (ad 25), .ref (ad 26), .ref (ad 27), .ref (ad 28), .int (zI R_waiting), .int (zI R_mostWaiting), .int (zI R_answer), .int (zI R_steps), .int (zI R_memory), .int (zI R_maxSteps), .int (zI R_maxMemory), .int (zI R_fault), .int (zI R_result), .int (zI R_now), .int (zI R_nowRow), .int (zI R_come), .ref (ad 29), .ref (ad 30), .int (zI R_puts), .ref (ad 31)])), (ad 1, .inl (cI, 200, .inl (zA R_kinds))), (ad 2, .inl (cL, 200, .inr (.inl (zB R_numbers)))), (ad 3, .inl (cI, 200, .inl (zA R_firsts))), (ad 4, .inl (cI, 200, .inl (zA R_seconds))), (ad 5, .inl (cI, 200, .inl (zA R_sizes))), (ad 7, .inl (cI, 200, .inl (zA R_terms))), (ad 30, .inl (cI, 200, .inl (zA (out.2))))] [(0, .ref (ad 0)), (1, .int (zI x1)), (2, .int (zI (out.1)))] [] 148 → J K 6 ({ frames := 0, cells := 0, slots := 0, locals := 0 } : Room) false 0 0 [(ad 0, .inr (10, [.int (zI R_thrown), .ref (ad 1), .ref (ad 2), .ref (ad 3), .ref (ad 4), .ref (ad 5), .ref (ad 6), .int (zI R_used), .ref (ad 7), .int (zI R_many), .ref (ad 8), .ref (ad 9), .ref (ad 10), .ref (ad 11), .ref (ad 12), .ref (ad 13), .ref (ad 14), .ref (ad 15), .ref (ad 16), .int (zI R_values), .ref (ad 17), .int (zI R_textEnd), .ref (ad 18), .ref (ad 19), .ref (ad 20), .ref (ad 21), .int (zI R_dataEnd), .ref (ad 22), .int (zI R_rowEnd), .ref (ad 23), .ref (ad 24), .int (zI R_rowMany), .ref (ad 25), .ref (ad 26), .ref (ad 27), .ref (ad 28), .int (zI R_waiting), .int (zI R_mostWaiting), .int (zI R_answer), .int (zI R_steps), .int (zI R_memory), .int (zI R_maxSteps), .int (zI R_maxMemory), .int (zI R_fault), .int (zI R_result), .int (zI R_now), .int (zI R_nowRow), .int (zI R_come), .ref (ad 29), .ref (ad 30), .int (zI R_puts), .ref (ad 31)])), (ad 1, .inl (cI, 200, .inl (zA R_kinds))), (ad 2, .inl (cL, 200, .inr (.inl (zB R_numbers)))), (ad 3, .inl (cI, 200, .inl (zA R_firsts))), (ad 4, .inl (cI, 200, .inl (zA R_seconds))), (ad 5, .inl (cI, 200, .inl (zA R_sizes))), (ad 7, .inl (cI, 200, .inl (zA R_terms))), (ad 30, .inl (cI, 200, .inl (zA R_lacks)))] [(0, .ref (ad 0)), (1, .int (zI x1)), (2, .int (zI x2))] [] 23 := by
  intro n
  induction n with
  | zero =>
    intro x2 R_lacks h hk
    cases h
  | succ n ih =>
    intro x2 R_lacks h hk
    unfold f_Mod_lacking_L23 at h
    refine J_iload_n X d_Mod_lacking_23 rfl 2 rfl ?_
    refine J_iload_n X d_Mod_lacking_24 rfl 1 rfl ?_
    refine J_icmp_gt (tgt := 148) X d_Mod_lacking_25 (by decide) h (fun c7 h => ?_) (fun c7 h => ?_)
    · cases h
      refine J_lv (lv' := [(0, .ref (ad 0)), (1, .int (zI x1)), (2, .int (zI x2))]) [0, 1, 2] rfl ?_
      exact hk
    · refine J_aload_n X d_Mod_lacking_28 rfl 0 rfl ?_
      refine J_get X (j_in in_Mod) 0 rfl rfl 3 (by decide) (j_m own_Mod_lacking (by decide +kernel)) rfl d_Mod_lacking_29 ?_
      refine J_iload_n X d_Mod_lacking_32 rfl 2 rfl ?_
      obtain ⟨g8, h⟩ := wk_g h
      refine J_iald X 3 0 rfl rfl g8 d_Mod_lacking_33 ?_
      refine J_if_ge (tgt := 41) X d_Mod_lacking_34 (by decide) h (fun c9 h => ?_) (fun c9 h => ?_)
      · refine J_aload_n X d_Mod_lacking_41 rfl 0 rfl ?_
        refine J_get X (j_in in_Mod) 0 rfl rfl 49 (by decide) (j_m own_Mod_lacking (by decide +kernel)) rfl d_Mod_lacking_42 ?_
        refine J_aload_n X d_Mod_lacking_45 rfl 0 rfl ?_
        refine J_get X (j_in in_Mod) 0 rfl rfl 3 (by decide) (j_m own_Mod_lacking (by decide +kernel)) rfl d_Mod_lacking_46 ?_
        refine J_iload_n X d_Mod_lacking_49 rfl 2 rfl ?_
        obtain ⟨g10, h⟩ := wk_g h
        refine J_iald X 3 0 rfl rfl g10 d_Mod_lacking_50 ?_
        obtain ⟨g11, h⟩ := wk_g h
        refine J_iald X 7 0 rfl rfl g11 d_Mod_lacking_51 ?_
        refine J_istore_n (lv' := [(3, .int (zI (R_lacks (R_firsts x2)))), (0, .ref (ad 0)), (1, .int (zI x1)), (2, .int (zI x2))]) X d_Mod_lacking_52 rfl (by decide) rfl ?_
        refine J_aload_n X d_Mod_lacking_53 rfl 1 rfl ?_
        refine J_get X (j_in in_Mod) 0 rfl rfl 4 (by decide) (j_m own_Mod_lacking (by decide +kernel)) rfl d_Mod_lacking_54 ?_
        refine J_iload_n X d_Mod_lacking_57 rfl 3 rfl ?_
        obtain ⟨g12, h⟩ := wk_g h
        refine J_iald X 4 0 rfl rfl g12 d_Mod_lacking_58 ?_
        refine J_if_ge (tgt := 66) X d_Mod_lacking_59 (by decide) h (fun c13 h => ?_) (fun c13 h => ?_)
        · refine J_aload_n X d_Mod_lacking_66 rfl 1 rfl ?_
          refine J_get X (j_in in_Mod) 0 rfl rfl 49 (by decide) (j_m own_Mod_lacking (by decide +kernel)) rfl d_Mod_lacking_67 ?_
          refine J_aload_n X d_Mod_lacking_70 rfl 1 rfl ?_
          refine J_get X (j_in in_Mod) 0 rfl rfl 4 (by decide) (j_m own_Mod_lacking (by decide +kernel)) rfl d_Mod_lacking_71 ?_
          refine J_iload_n X d_Mod_lacking_74 rfl 3 rfl ?_
          obtain ⟨g14, h⟩ := wk_g h
          refine J_iald X 4 0 rfl rfl g14 d_Mod_lacking_75 ?_
          obtain ⟨g15, h⟩ := wk_g h
          refine J_iald X 7 0 rfl rfl g15 d_Mod_lacking_76 ?_
          refine J_istore (lv' := [(4, .int (zI (R_lacks (R_seconds x2)))), (3, .int (zI (R_lacks (R_firsts x2)))), (0, .ref (ad 0)), (1, .int (zI x1)), (2, .int (zI x2))]) X d_Mod_lacking_77 (by decide) rfl ?_
          refine J_iload_n X d_Mod_lacking_79 rfl 1 rfl ?_
          refine J_iload X d_Mod_lacking_80 0 rfl ?_
          refine J_icmp_le (tgt := 89) X d_Mod_lacking_82 (by decide) h (fun c16 h => ?_) (fun c16 h => ?_)
          · refine J_iload X d_Mod_lacking_89 0 rfl ?_
            refine J_istore (lv' := [(5, .int (zI (R_lacks (R_seconds x2)))), (4, .int (zI (R_lacks (R_seconds x2)))), (3, .int (zI (R_lacks (R_firsts x2)))), (0, .ref (ad 0)), (1, .int (zI x1)), (2, .int (zI x2))]) X d_Mod_lacking_91 (by decide) rfl ?_
            refine J_aload_n X d_Mod_lacking_93 rfl 3 rfl ?_
            refine J_get X (j_in in_Mod) 0 rfl rfl 49 (by decide) (j_m own_Mod_lacking (by decide +kernel)) rfl d_Mod_lacking_94 ?_
            refine J_iload_n X d_Mod_lacking_97 rfl 5 rfl ?_
            refine J_aload_n X d_Mod_lacking_98 rfl 3 rfl ?_
            refine J_get X (j_in in_Mod) 0 rfl rfl 1 (by decide) (j_m own_Mod_lacking (by decide +kernel)) rfl d_Mod_lacking_99 ?_
            refine J_iload_n X d_Mod_lacking_102 rfl 5 rfl ?_
            obtain ⟨g17, h⟩ := wk_g h
            refine J_iald X 1 0 rfl rfl g17 d_Mod_lacking_103 ?_
            refine J_if_ne (tgt := 117) X d_Mod_lacking_104 (by decide) h (fun c18 h => ?_) (fun c18 h => ?_)
            · refine J_aload_n X d_Mod_lacking_117 rfl 3 rfl ?_
              refine J_get X (j_in in_Mod) 0 rfl rfl 1 (by decide) (j_m own_Mod_lacking (by decide +kernel)) rfl d_Mod_lacking_118 ?_
              refine J_iload_n X d_Mod_lacking_121 rfl 5 rfl ?_
              obtain ⟨g19, h⟩ := wk_g h
              refine J_iald X 1 0 rfl rfl g19 d_Mod_lacking_122 ?_
              refine J_iconst X d_Mod_lacking_123 ?_
              refine J_icmp_ne (tgt := 139) X d_Mod_lacking_124 (by decide) h (fun c20 h => ?_) (fun c20 h => ?_)
              · refine J_iload X d_Mod_lacking_139 0 rfl ?_
                obtain ⟨g21, h⟩ := wk_g h
                refine J_iast (ws' := [(ad 0, .inr (10, [.int (zI R_thrown), .ref (ad 1), .ref (ad 2), .ref (ad 3), .ref (ad 4), .ref (ad 5), .ref (ad 6), .int (zI R_used), .ref (ad 7), .int (zI R_many), .ref (ad 8), .ref (ad 9), .ref (ad 10), .ref (ad 11), .ref (ad 12), .ref (ad 13), .ref (ad 14), .ref (ad 15), .ref (ad 16), .int (zI R_values), .ref (ad 17), .int (zI R_textEnd), .ref (ad 18), .ref (ad 19), .ref (ad 20), .ref (ad 21), .int (zI R_dataEnd), .ref (ad 22), .int (zI R_rowEnd), .ref (ad 23), .ref (ad 24), .int (zI R_rowMany), .ref (ad 25), .ref (ad 26), .ref (ad 27), .ref (ad 28), .int (zI R_waiting), .int (zI R_mostWaiting), .int (zI R_answer), .int (zI R_steps), .int (zI R_memory), .int (zI R_maxSteps), .int (zI R_maxMemory), .int (zI R_fault), .int (zI R_result), .int (zI R_now), .int (zI R_nowRow), .int (zI R_come), .ref (ad 29), .ref (ad 30), .int (zI R_puts), .ref (ad 31)])), (ad 1, .inl (cI, 200, .inl (zA R_kinds))), (ad 2, .inl (cL, 200, .inr (.inl (zB R_numbers)))), (ad 3, .inl (cI, 200, .inl (zA R_firsts))), (ad 4, .inl (cI, 200, .inl (zA R_seconds))), (ad 5, .inl (cI, 200, .inl (zA R_sizes))), (ad 7, .inl (cI, 200, .inl (zA R_terms))), (ad 30, .inl (cI, 200, .inl (zA (upZ R_lacks x2 (R_lacks (R_seconds x2))))))]) X 7 0 rfl rfl g21 d_Mod_lacking_141 rfl ?_
                refine J_iinc (lv' := [(2, .int (zI (x2 + 1))), (5, .int (zI (R_lacks (R_seconds x2)))), (4, .int (zI (R_lacks (R_seconds x2)))), (3, .int (zI (R_lacks (R_firsts x2)))), (0, .ref (ad 0)), (1, .int (zI x1))]) X d_Mod_lacking_142 5 rfl (by decide) rfl ?_
                refine J_goto (tgt := 23) X d_Mod_lacking_145 (by decide) ?_
                refine J_lv (lv' := [(0, .ref (ad 0)), (1, .int (zI x1)), (2, .int (zI (x2 + 1)))]) [4, 5, 0] rfl ?_
                exact ih _ _ h hk
              · refine J_iload X d_Mod_lacking_127 0 rfl ?_
                refine J_if_le (tgt := 139) X d_Mod_lacking_129 (by decide) h (fun c22 h => ?_) (fun c22 h => ?_)
                · refine J_iload X d_Mod_lacking_139 0 rfl ?_
                  obtain ⟨g23, h⟩ := wk_g h
                  refine J_iast (ws' := [(ad 0, .inr (10, [.int (zI R_thrown), .ref (ad 1), .ref (ad 2), .ref (ad 3), .ref (ad 4), .ref (ad 5), .ref (ad 6), .int (zI R_used), .ref (ad 7), .int (zI R_many), .ref (ad 8), .ref (ad 9), .ref (ad 10), .ref (ad 11), .ref (ad 12), .ref (ad 13), .ref (ad 14), .ref (ad 15), .ref (ad 16), .int (zI R_values), .ref (ad 17), .int (zI R_textEnd), .ref (ad 18), .ref (ad 19), .ref (ad 20), .ref (ad 21), .int (zI R_dataEnd), .ref (ad 22), .int (zI R_rowEnd), .ref (ad 23), .ref (ad 24), .int (zI R_rowMany), .ref (ad 25), .ref (ad 26), .ref (ad 27), .ref (ad 28), .int (zI R_waiting), .int (zI R_mostWaiting), .int (zI R_answer), .int (zI R_steps), .int (zI R_memory), .int (zI R_maxSteps), .int (zI R_maxMemory), .int (zI R_fault), .int (zI R_result), .int (zI R_now), .int (zI R_nowRow), .int (zI R_come), .ref (ad 29), .ref (ad 30), .int (zI R_puts), .ref (ad 31)])), (ad 1, .inl (cI, 200, .inl (zA R_kinds))), (ad 2, .inl (cL, 200, .inr (.inl (zB R_numbers)))), (ad 3, .inl (cI, 200, .inl (zA R_firsts))), (ad 4, .inl (cI, 200, .inl (zA R_seconds))), (ad 5, .inl (cI, 200, .inl (zA R_sizes))), (ad 7, .inl (cI, 200, .inl (zA R_terms))), (ad 30, .inl (cI, 200, .inl (zA (upZ R_lacks x2 (R_lacks (R_seconds x2))))))]) X 7 0 rfl rfl g23 d_Mod_lacking_141 rfl ?_
                  refine J_iinc (lv' := [(2, .int (zI (x2 + 1))), (5, .int (zI (R_lacks (R_seconds x2)))), (4, .int (zI (R_lacks (R_seconds x2)))), (3, .int (zI (R_lacks (R_firsts x2)))), (0, .ref (ad 0)), (1, .int (zI x1))]) X d_Mod_lacking_142 5 rfl (by decide) rfl ?_
                  refine J_goto (tgt := 23) X d_Mod_lacking_145 (by decide) ?_
                  refine J_lv (lv' := [(0, .ref (ad 0)), (1, .int (zI x1)), (2, .int (zI (x2 + 1)))]) [4, 5, 0] rfl ?_
                  exact ih _ _ h hk
                · refine J_iload X d_Mod_lacking_132 0 rfl ?_
                  refine J_iconst X d_Mod_lacking_134 ?_
                  refine J_isub X d_Mod_lacking_135 ?_
                  refine J_goto (tgt := 141) X d_Mod_lacking_136 (by decide) ?_
                  obtain ⟨g24, h⟩ := wk_g h
                  refine J_iast (ws' := [(ad 0, .inr (10, [.int (zI R_thrown), .ref (ad 1), .ref (ad 2), .ref (ad 3), .ref (ad 4), .ref (ad 5), .ref (ad 6), .int (zI R_used), .ref (ad 7), .int (zI R_many), .ref (ad 8), .ref (ad 9), .ref (ad 10), .ref (ad 11), .ref (ad 12), .ref (ad 13), .ref (ad 14), .ref (ad 15), .ref (ad 16), .int (zI R_values), .ref (ad 17), .int (zI R_textEnd), .ref (ad 18), .ref (ad 19), .ref (ad 20), .ref (ad 21), .int (zI R_dataEnd), .ref (ad 22), .int (zI R_rowEnd), .ref (ad 23), .ref (ad 24), .int (zI R_rowMany), .ref (ad 25), .ref (ad 26), .ref (ad 27), .ref (ad 28), .int (zI R_waiting), .int (zI R_mostWaiting), .int (zI R_answer), .int (zI R_steps), .int (zI R_memory), .int (zI R_maxSteps), .int (zI R_maxMemory), .int (zI R_fault), .int (zI R_result), .int (zI R_now), .int (zI R_nowRow), .int (zI R_come), .ref (ad 29), .ref (ad 30), .int (zI R_puts), .ref (ad 31)])), (ad 1, .inl (cI, 200, .inl (zA R_kinds))), (ad 2, .inl (cL, 200, .inr (.inl (zB R_numbers)))), (ad 3, .inl (cI, 200, .inl (zA R_firsts))), (ad 4, .inl (cI, 200, .inl (zA R_seconds))), (ad 5, .inl (cI, 200, .inl (zA R_sizes))), (ad 7, .inl (cI, 200, .inl (zA R_terms))), (ad 30, .inl (cI, 200, .inl (zA (upZ R_lacks x2 ((R_lacks (R_seconds x2)) - 1)))))]) X 7 0 rfl rfl g24 d_Mod_lacking_141 rfl ?_
                  refine J_iinc (lv' := [(2, .int (zI (x2 + 1))), (5, .int (zI (R_lacks (R_seconds x2)))), (4, .int (zI (R_lacks (R_seconds x2)))), (3, .int (zI (R_lacks (R_firsts x2)))), (0, .ref (ad 0)), (1, .int (zI x1))]) X d_Mod_lacking_142 5 rfl (by decide) rfl ?_
                  refine J_goto (tgt := 23) X d_Mod_lacking_145 (by decide) ?_
                  refine J_lv (lv' := [(0, .ref (ad 0)), (1, .int (zI x1)), (2, .int (zI (x2 + 1)))]) [4, 5, 0] rfl ?_
                  exact ih _ _ h hk
            · refine J_aload_n X d_Mod_lacking_107 rfl 3 rfl ?_
              refine J_get X (j_in in_Mod) 0 rfl rfl 2 (by decide) (j_m own_Mod_lacking (by decide +kernel)) rfl d_Mod_lacking_108 ?_
              refine J_iload_n X d_Mod_lacking_111 rfl 5 rfl ?_
              obtain ⟨g25, h⟩ := wk_g h
              refine J_lald X 2 1 rfl rfl g25 d_Mod_lacking_112 ?_
              refine J_l2i X d_Mod_lacking_113 ?_
              refine J_goto (tgt := 141) X d_Mod_lacking_114 (by decide) ?_
              obtain ⟨g26, h⟩ := wk_g h
              refine J_iast (ws' := [(ad 0, .inr (10, [.int (zI R_thrown), .ref (ad 1), .ref (ad 2), .ref (ad 3), .ref (ad 4), .ref (ad 5), .ref (ad 6), .int (zI R_used), .ref (ad 7), .int (zI R_many), .ref (ad 8), .ref (ad 9), .ref (ad 10), .ref (ad 11), .ref (ad 12), .ref (ad 13), .ref (ad 14), .ref (ad 15), .ref (ad 16), .int (zI R_values), .ref (ad 17), .int (zI R_textEnd), .ref (ad 18), .ref (ad 19), .ref (ad 20), .ref (ad 21), .int (zI R_dataEnd), .ref (ad 22), .int (zI R_rowEnd), .ref (ad 23), .ref (ad 24), .int (zI R_rowMany), .ref (ad 25), .ref (ad 26), .ref (ad 27), .ref (ad 28), .int (zI R_waiting), .int (zI R_mostWaiting), .int (zI R_answer), .int (zI R_steps), .int (zI R_memory), .int (zI R_maxSteps), .int (zI R_maxMemory), .int (zI R_fault), .int (zI R_result), .int (zI R_now), .int (zI R_nowRow), .int (zI R_come), .ref (ad 29), .ref (ad 30), .int (zI R_puts), .ref (ad 31)])), (ad 1, .inl (cI, 200, .inl (zA R_kinds))), (ad 2, .inl (cL, 200, .inr (.inl (zB R_numbers)))), (ad 3, .inl (cI, 200, .inl (zA R_firsts))), (ad 4, .inl (cI, 200, .inl (zA R_seconds))), (ad 5, .inl (cI, 200, .inl (zA R_sizes))), (ad 7, .inl (cI, 200, .inl (zA R_terms))), (ad 30, .inl (cI, 200, .inl (zA (upZ R_lacks x2 (R_numbers x2)))))]) X 7 0 rfl rfl g26 d_Mod_lacking_141 rfl ?_
              refine J_iinc (lv' := [(2, .int (zI (x2 + 1))), (5, .int (zI (R_lacks (R_seconds x2)))), (4, .int (zI (R_lacks (R_seconds x2)))), (3, .int (zI (R_lacks (R_firsts x2)))), (0, .ref (ad 0)), (1, .int (zI x1))]) X d_Mod_lacking_142 5 rfl (by decide) rfl ?_
              refine J_goto (tgt := 23) X d_Mod_lacking_145 (by decide) ?_
              refine J_lv (lv' := [(0, .ref (ad 0)), (1, .int (zI x1)), (2, .int (zI (x2 + 1)))]) [4, 5, 0] rfl ?_
              exact ih _ _ h hk
          · refine J_iload_n X d_Mod_lacking_85 rfl 1 rfl ?_
            refine J_goto (tgt := 91) X d_Mod_lacking_86 (by decide) ?_
            refine J_istore (lv' := [(5, .int (zI (R_lacks (R_firsts x2)))), (4, .int (zI (R_lacks (R_seconds x2)))), (3, .int (zI (R_lacks (R_firsts x2)))), (0, .ref (ad 0)), (1, .int (zI x1)), (2, .int (zI x2))]) X d_Mod_lacking_91 (by decide) rfl ?_
            refine J_aload_n X d_Mod_lacking_93 rfl 3 rfl ?_
            refine J_get X (j_in in_Mod) 0 rfl rfl 49 (by decide) (j_m own_Mod_lacking (by decide +kernel)) rfl d_Mod_lacking_94 ?_
            refine J_iload_n X d_Mod_lacking_97 rfl 5 rfl ?_
            refine J_aload_n X d_Mod_lacking_98 rfl 3 rfl ?_
            refine J_get X (j_in in_Mod) 0 rfl rfl 1 (by decide) (j_m own_Mod_lacking (by decide +kernel)) rfl d_Mod_lacking_99 ?_
            refine J_iload_n X d_Mod_lacking_102 rfl 5 rfl ?_
            obtain ⟨g27, h⟩ := wk_g h
            refine J_iald X 1 0 rfl rfl g27 d_Mod_lacking_103 ?_
            refine J_if_ne (tgt := 117) X d_Mod_lacking_104 (by decide) h (fun c28 h => ?_) (fun c28 h => ?_)
            · refine J_aload_n X d_Mod_lacking_117 rfl 3 rfl ?_
              refine J_get X (j_in in_Mod) 0 rfl rfl 1 (by decide) (j_m own_Mod_lacking (by decide +kernel)) rfl d_Mod_lacking_118 ?_
              refine J_iload_n X d_Mod_lacking_121 rfl 5 rfl ?_
              obtain ⟨g29, h⟩ := wk_g h
              refine J_iald X 1 0 rfl rfl g29 d_Mod_lacking_122 ?_
              refine J_iconst X d_Mod_lacking_123 ?_
              refine J_icmp_ne (tgt := 139) X d_Mod_lacking_124 (by decide) h (fun c30 h => ?_) (fun c30 h => ?_)
              · refine J_iload X d_Mod_lacking_139 0 rfl ?_
                obtain ⟨g31, h⟩ := wk_g h
                refine J_iast (ws' := [(ad 0, .inr (10, [.int (zI R_thrown), .ref (ad 1), .ref (ad 2), .ref (ad 3), .ref (ad 4), .ref (ad 5), .ref (ad 6), .int (zI R_used), .ref (ad 7), .int (zI R_many), .ref (ad 8), .ref (ad 9), .ref (ad 10), .ref (ad 11), .ref (ad 12), .ref (ad 13), .ref (ad 14), .ref (ad 15), .ref (ad 16), .int (zI R_values), .ref (ad 17), .int (zI R_textEnd), .ref (ad 18), .ref (ad 19), .ref (ad 20), .ref (ad 21), .int (zI R_dataEnd), .ref (ad 22), .int (zI R_rowEnd), .ref (ad 23), .ref (ad 24), .int (zI R_rowMany), .ref (ad 25), .ref (ad 26), .ref (ad 27), .ref (ad 28), .int (zI R_waiting), .int (zI R_mostWaiting), .int (zI R_answer), .int (zI R_steps), .int (zI R_memory), .int (zI R_maxSteps), .int (zI R_maxMemory), .int (zI R_fault), .int (zI R_result), .int (zI R_now), .int (zI R_nowRow), .int (zI R_come), .ref (ad 29), .ref (ad 30), .int (zI R_puts), .ref (ad 31)])), (ad 1, .inl (cI, 200, .inl (zA R_kinds))), (ad 2, .inl (cL, 200, .inr (.inl (zB R_numbers)))), (ad 3, .inl (cI, 200, .inl (zA R_firsts))), (ad 4, .inl (cI, 200, .inl (zA R_seconds))), (ad 5, .inl (cI, 200, .inl (zA R_sizes))), (ad 7, .inl (cI, 200, .inl (zA R_terms))), (ad 30, .inl (cI, 200, .inl (zA (upZ R_lacks x2 (R_lacks (R_firsts x2))))))]) X 7 0 rfl rfl g31 d_Mod_lacking_141 rfl ?_
                refine J_iinc (lv' := [(2, .int (zI (x2 + 1))), (5, .int (zI (R_lacks (R_firsts x2)))), (4, .int (zI (R_lacks (R_seconds x2)))), (3, .int (zI (R_lacks (R_firsts x2)))), (0, .ref (ad 0)), (1, .int (zI x1))]) X d_Mod_lacking_142 5 rfl (by decide) rfl ?_
                refine J_goto (tgt := 23) X d_Mod_lacking_145 (by decide) ?_
                refine J_lv (lv' := [(0, .ref (ad 0)), (1, .int (zI x1)), (2, .int (zI (x2 + 1)))]) [4, 5, 0] rfl ?_
                exact ih _ _ h hk
              · refine J_iload X d_Mod_lacking_127 0 rfl ?_
                refine J_if_le (tgt := 139) X d_Mod_lacking_129 (by decide) h (fun c32 h => ?_) (fun c32 h => ?_)
                · refine J_iload X d_Mod_lacking_139 0 rfl ?_
                  obtain ⟨g33, h⟩ := wk_g h
                  refine J_iast (ws' := [(ad 0, .inr (10, [.int (zI R_thrown), .ref (ad 1), .ref (ad 2), .ref (ad 3), .ref (ad 4), .ref (ad 5), .ref (ad 6), .int (zI R_used), .ref (ad 7), .int (zI R_many), .ref (ad 8), .ref (ad 9), .ref (ad 10), .ref (ad 11), .ref (ad 12), .ref (ad 13), .ref (ad 14), .ref (ad 15), .ref (ad 16), .int (zI R_values), .ref (ad 17), .int (zI R_textEnd), .ref (ad 18), .ref (ad 19), .ref (ad 20), .ref (ad 21), .int (zI R_dataEnd), .ref (ad 22), .int (zI R_rowEnd), .ref (ad 23), .ref (ad 24), .int (zI R_rowMany), .ref (ad 25), .ref (ad 26), .ref (ad 27), .ref (ad 28), .int (zI R_waiting), .int (zI R_mostWaiting), .int (zI R_answer), .int (zI R_steps), .int (zI R_memory), .int (zI R_maxSteps), .int (zI R_maxMemory), .int (zI R_fault), .int (zI R_result), .int (zI R_now), .int (zI R_nowRow), .int (zI R_come), .ref (ad 29), .ref (ad 30), .int (zI R_puts), .ref (ad 31)])), (ad 1, .inl (cI, 200, .inl (zA R_kinds))), (ad 2, .inl (cL, 200, .inr (.inl (zB R_numbers)))), (ad 3, .inl (cI, 200, .inl (zA R_firsts))), (ad 4, .inl (cI, 200, .inl (zA R_seconds))), (ad 5, .inl (cI, 200, .inl (zA R_sizes))), (ad 7, .inl (cI, 200, .inl (zA R_terms))), (ad 30, .inl (cI, 200, .inl (zA (upZ R_lacks x2 (R_lacks (R_firsts x2))))))]) X 7 0 rfl rfl g33 d_Mod_lacking_141 rfl ?_
                  refine J_iinc (lv' := [(2, .int (zI (x2 + 1))), (5, .int (zI (R_lacks (R_firsts x2)))), (4, .int (zI (R_lacks (R_seconds x2)))), (3, .int (zI (R_lacks (R_firsts x2)))), (0, .ref (ad 0)), (1, .int (zI x1))]) X d_Mod_lacking_142 5 rfl (by decide) rfl ?_
                  refine J_goto (tgt := 23) X d_Mod_lacking_145 (by decide) ?_
                  refine J_lv (lv' := [(0, .ref (ad 0)), (1, .int (zI x1)), (2, .int (zI (x2 + 1)))]) [4, 5, 0] rfl ?_
                  exact ih _ _ h hk
                · refine J_iload X d_Mod_lacking_132 0 rfl ?_
                  refine J_iconst X d_Mod_lacking_134 ?_
                  refine J_isub X d_Mod_lacking_135 ?_
                  refine J_goto (tgt := 141) X d_Mod_lacking_136 (by decide) ?_
                  obtain ⟨g34, h⟩ := wk_g h
                  refine J_iast (ws' := [(ad 0, .inr (10, [.int (zI R_thrown), .ref (ad 1), .ref (ad 2), .ref (ad 3), .ref (ad 4), .ref (ad 5), .ref (ad 6), .int (zI R_used), .ref (ad 7), .int (zI R_many), .ref (ad 8), .ref (ad 9), .ref (ad 10), .ref (ad 11), .ref (ad 12), .ref (ad 13), .ref (ad 14), .ref (ad 15), .ref (ad 16), .int (zI R_values), .ref (ad 17), .int (zI R_textEnd), .ref (ad 18), .ref (ad 19), .ref (ad 20), .ref (ad 21), .int (zI R_dataEnd), .ref (ad 22), .int (zI R_rowEnd), .ref (ad 23), .ref (ad 24), .int (zI R_rowMany), .ref (ad 25), .ref (ad 26), .ref (ad 27), .ref (ad 28), .int (zI R_waiting), .int (zI R_mostWaiting), .int (zI R_answer), .int (zI R_steps), .int (zI R_memory), .int (zI R_maxSteps), .int (zI R_maxMemory), .int (zI R_fault), .int (zI R_result), .int (zI R_now), .int (zI R_nowRow), .int (zI R_come), .ref (ad 29), .ref (ad 30), .int (zI R_puts), .ref (ad 31)])), (ad 1, .inl (cI, 200, .inl (zA R_kinds))), (ad 2, .inl (cL, 200, .inr (.inl (zB R_numbers)))), (ad 3, .inl (cI, 200, .inl (zA R_firsts))), (ad 4, .inl (cI, 200, .inl (zA R_seconds))), (ad 5, .inl (cI, 200, .inl (zA R_sizes))), (ad 7, .inl (cI, 200, .inl (zA R_terms))), (ad 30, .inl (cI, 200, .inl (zA (upZ R_lacks x2 ((R_lacks (R_firsts x2)) - 1)))))]) X 7 0 rfl rfl g34 d_Mod_lacking_141 rfl ?_
                  refine J_iinc (lv' := [(2, .int (zI (x2 + 1))), (5, .int (zI (R_lacks (R_firsts x2)))), (4, .int (zI (R_lacks (R_seconds x2)))), (3, .int (zI (R_lacks (R_firsts x2)))), (0, .ref (ad 0)), (1, .int (zI x1))]) X d_Mod_lacking_142 5 rfl (by decide) rfl ?_
                  refine J_goto (tgt := 23) X d_Mod_lacking_145 (by decide) ?_
                  refine J_lv (lv' := [(0, .ref (ad 0)), (1, .int (zI x1)), (2, .int (zI (x2 + 1)))]) [4, 5, 0] rfl ?_
                  exact ih _ _ h hk
            · refine J_aload_n X d_Mod_lacking_107 rfl 3 rfl ?_
              refine J_get X (j_in in_Mod) 0 rfl rfl 2 (by decide) (j_m own_Mod_lacking (by decide +kernel)) rfl d_Mod_lacking_108 ?_
              refine J_iload_n X d_Mod_lacking_111 rfl 5 rfl ?_
              obtain ⟨g35, h⟩ := wk_g h
              refine J_lald X 2 1 rfl rfl g35 d_Mod_lacking_112 ?_
              refine J_l2i X d_Mod_lacking_113 ?_
              refine J_goto (tgt := 141) X d_Mod_lacking_114 (by decide) ?_
              obtain ⟨g36, h⟩ := wk_g h
              refine J_iast (ws' := [(ad 0, .inr (10, [.int (zI R_thrown), .ref (ad 1), .ref (ad 2), .ref (ad 3), .ref (ad 4), .ref (ad 5), .ref (ad 6), .int (zI R_used), .ref (ad 7), .int (zI R_many), .ref (ad 8), .ref (ad 9), .ref (ad 10), .ref (ad 11), .ref (ad 12), .ref (ad 13), .ref (ad 14), .ref (ad 15), .ref (ad 16), .int (zI R_values), .ref (ad 17), .int (zI R_textEnd), .ref (ad 18), .ref (ad 19), .ref (ad 20), .ref (ad 21), .int (zI R_dataEnd), .ref (ad 22), .int (zI R_rowEnd), .ref (ad 23), .ref (ad 24), .int (zI R_rowMany), .ref (ad 25), .ref (ad 26), .ref (ad 27), .ref (ad 28), .int (zI R_waiting), .int (zI R_mostWaiting), .int (zI R_answer), .int (zI R_steps), .int (zI R_memory), .int (zI R_maxSteps), .int (zI R_maxMemory), .int (zI R_fault), .int (zI R_result), .int (zI R_now), .int (zI R_nowRow), .int (zI R_come), .ref (ad 29), .ref (ad 30), .int (zI R_puts), .ref (ad 31)])), (ad 1, .inl (cI, 200, .inl (zA R_kinds))), (ad 2, .inl (cL, 200, .inr (.inl (zB R_numbers)))), (ad 3, .inl (cI, 200, .inl (zA R_firsts))), (ad 4, .inl (cI, 200, .inl (zA R_seconds))), (ad 5, .inl (cI, 200, .inl (zA R_sizes))), (ad 7, .inl (cI, 200, .inl (zA R_terms))), (ad 30, .inl (cI, 200, .inl (zA (upZ R_lacks x2 (R_numbers x2)))))]) X 7 0 rfl rfl g36 d_Mod_lacking_141 rfl ?_
              refine J_iinc (lv' := [(2, .int (zI (x2 + 1))), (5, .int (zI (R_lacks (R_firsts x2)))), (4, .int (zI (R_lacks (R_seconds x2)))), (3, .int (zI (R_lacks (R_firsts x2)))), (0, .ref (ad 0)), (1, .int (zI x1))]) X d_Mod_lacking_142 5 rfl (by decide) rfl ?_
              refine J_goto (tgt := 23) X d_Mod_lacking_145 (by decide) ?_
              refine J_lv (lv' := [(0, .ref (ad 0)), (1, .int (zI x1)), (2, .int (zI (x2 + 1)))]) [4, 5, 0] rfl ?_
              exact ih _ _ h hk
        · refine J_iconst X d_Mod_lacking_62 ?_
          refine J_goto (tgt := 77) X d_Mod_lacking_63 (by decide) ?_
          refine J_istore (lv' := [(4, .int (zI 0)), (3, .int (zI (R_lacks (R_firsts x2)))), (0, .ref (ad 0)), (1, .int (zI x1)), (2, .int (zI x2))]) X d_Mod_lacking_77 (by decide) rfl ?_
          refine J_iload_n X d_Mod_lacking_79 rfl 1 rfl ?_
          refine J_iload X d_Mod_lacking_80 0 rfl ?_
          refine J_icmp_le (tgt := 89) X d_Mod_lacking_82 (by decide) h (fun c37 h => ?_) (fun c37 h => ?_)
          · refine J_iload X d_Mod_lacking_89 0 rfl ?_
            refine J_istore (lv' := [(5, .int (zI 0)), (4, .int (zI 0)), (3, .int (zI (R_lacks (R_firsts x2)))), (0, .ref (ad 0)), (1, .int (zI x1)), (2, .int (zI x2))]) X d_Mod_lacking_91 (by decide) rfl ?_
            refine J_aload_n X d_Mod_lacking_93 rfl 3 rfl ?_
            refine J_get X (j_in in_Mod) 0 rfl rfl 49 (by decide) (j_m own_Mod_lacking (by decide +kernel)) rfl d_Mod_lacking_94 ?_
            refine J_iload_n X d_Mod_lacking_97 rfl 5 rfl ?_
            refine J_aload_n X d_Mod_lacking_98 rfl 3 rfl ?_
            refine J_get X (j_in in_Mod) 0 rfl rfl 1 (by decide) (j_m own_Mod_lacking (by decide +kernel)) rfl d_Mod_lacking_99 ?_
            refine J_iload_n X d_Mod_lacking_102 rfl 5 rfl ?_
            obtain ⟨g38, h⟩ := wk_g h
            refine J_iald X 1 0 rfl rfl g38 d_Mod_lacking_103 ?_
            refine J_if_ne (tgt := 117) X d_Mod_lacking_104 (by decide) h (fun c39 h => ?_) (fun c39 h => ?_)
            · refine J_aload_n X d_Mod_lacking_117 rfl 3 rfl ?_
              refine J_get X (j_in in_Mod) 0 rfl rfl 1 (by decide) (j_m own_Mod_lacking (by decide +kernel)) rfl d_Mod_lacking_118 ?_
              refine J_iload_n X d_Mod_lacking_121 rfl 5 rfl ?_
              obtain ⟨g40, h⟩ := wk_g h
              refine J_iald X 1 0 rfl rfl g40 d_Mod_lacking_122 ?_
              refine J_iconst X d_Mod_lacking_123 ?_
              refine J_icmp_ne (tgt := 139) X d_Mod_lacking_124 (by decide) h (fun c41 h => ?_) (fun c41 h => ?_)
              · refine J_iload X d_Mod_lacking_139 0 rfl ?_
                obtain ⟨g42, h⟩ := wk_g h
                refine J_iast (ws' := [(ad 0, .inr (10, [.int (zI R_thrown), .ref (ad 1), .ref (ad 2), .ref (ad 3), .ref (ad 4), .ref (ad 5), .ref (ad 6), .int (zI R_used), .ref (ad 7), .int (zI R_many), .ref (ad 8), .ref (ad 9), .ref (ad 10), .ref (ad 11), .ref (ad 12), .ref (ad 13), .ref (ad 14), .ref (ad 15), .ref (ad 16), .int (zI R_values), .ref (ad 17), .int (zI R_textEnd), .ref (ad 18), .ref (ad 19), .ref (ad 20), .ref (ad 21), .int (zI R_dataEnd), .ref (ad 22), .int (zI R_rowEnd), .ref (ad 23), .ref (ad 24), .int (zI R_rowMany), .ref (ad 25), .ref (ad 26), .ref (ad 27), .ref (ad 28), .int (zI R_waiting), .int (zI R_mostWaiting), .int (zI R_answer), .int (zI R_steps), .int (zI R_memory), .int (zI R_maxSteps), .int (zI R_maxMemory), .int (zI R_fault), .int (zI R_result), .int (zI R_now), .int (zI R_nowRow), .int (zI R_come), .ref (ad 29), .ref (ad 30), .int (zI R_puts), .ref (ad 31)])), (ad 1, .inl (cI, 200, .inl (zA R_kinds))), (ad 2, .inl (cL, 200, .inr (.inl (zB R_numbers)))), (ad 3, .inl (cI, 200, .inl (zA R_firsts))), (ad 4, .inl (cI, 200, .inl (zA R_seconds))), (ad 5, .inl (cI, 200, .inl (zA R_sizes))), (ad 7, .inl (cI, 200, .inl (zA R_terms))), (ad 30, .inl (cI, 200, .inl (zA (upZ R_lacks x2 0))))]) X 7 0 rfl rfl g42 d_Mod_lacking_141 rfl ?_
                refine J_iinc (lv' := [(2, .int (zI (x2 + 1))), (5, .int (zI 0)), (4, .int (zI 0)), (3, .int (zI (R_lacks (R_firsts x2)))), (0, .ref (ad 0)), (1, .int (zI x1))]) X d_Mod_lacking_142 5 rfl (by decide) rfl ?_
                refine J_goto (tgt := 23) X d_Mod_lacking_145 (by decide) ?_
                refine J_lv (lv' := [(0, .ref (ad 0)), (1, .int (zI x1)), (2, .int (zI (x2 + 1)))]) [4, 5, 0] rfl ?_
                exact ih _ _ h hk
              · refine J_iload X d_Mod_lacking_127 0 rfl ?_
                refine J_if_le (pa := some ()) (pb := none) (o := ()) (tgt := 139) X d_Mod_lacking_129 (by decide) (by decide) (fun _ _ => ?_) (fun _ h => by cases h)
                refine J_iload X d_Mod_lacking_139 0 rfl ?_
                obtain ⟨g43, h⟩ := wk_g h
                refine J_iast (ws' := [(ad 0, .inr (10, [.int (zI R_thrown), .ref (ad 1), .ref (ad 2), .ref (ad 3), .ref (ad 4), .ref (ad 5), .ref (ad 6), .int (zI R_used), .ref (ad 7), .int (zI R_many), .ref (ad 8), .ref (ad 9), .ref (ad 10), .ref (ad 11), .ref (ad 12), .ref (ad 13), .ref (ad 14), .ref (ad 15), .ref (ad 16), .int (zI R_values), .ref (ad 17), .int (zI R_textEnd), .ref (ad 18), .ref (ad 19), .ref (ad 20), .ref (ad 21), .int (zI R_dataEnd), .ref (ad 22), .int (zI R_rowEnd), .ref (ad 23), .ref (ad 24), .int (zI R_rowMany), .ref (ad 25), .ref (ad 26), .ref (ad 27), .ref (ad 28), .int (zI R_waiting), .int (zI R_mostWaiting), .int (zI R_answer), .int (zI R_steps), .int (zI R_memory), .int (zI R_maxSteps), .int (zI R_maxMemory), .int (zI R_fault), .int (zI R_result), .int (zI R_now), .int (zI R_nowRow), .int (zI R_come), .ref (ad 29), .ref (ad 30), .int (zI R_puts), .ref (ad 31)])), (ad 1, .inl (cI, 200, .inl (zA R_kinds))), (ad 2, .inl (cL, 200, .inr (.inl (zB R_numbers)))), (ad 3, .inl (cI, 200, .inl (zA R_firsts))), (ad 4, .inl (cI, 200, .inl (zA R_seconds))), (ad 5, .inl (cI, 200, .inl (zA R_sizes))), (ad 7, .inl (cI, 200, .inl (zA R_terms))), (ad 30, .inl (cI, 200, .inl (zA (upZ R_lacks x2 0))))]) X 7 0 rfl rfl g43 d_Mod_lacking_141 rfl ?_
                refine J_iinc (lv' := [(2, .int (zI (x2 + 1))), (5, .int (zI 0)), (4, .int (zI 0)), (3, .int (zI (R_lacks (R_firsts x2)))), (0, .ref (ad 0)), (1, .int (zI x1))]) X d_Mod_lacking_142 5 rfl (by decide) rfl ?_
                refine J_goto (tgt := 23) X d_Mod_lacking_145 (by decide) ?_
                refine J_lv (lv' := [(0, .ref (ad 0)), (1, .int (zI x1)), (2, .int (zI (x2 + 1)))]) [4, 5, 0] rfl ?_
                exact ih _ _ h hk
            · refine J_aload_n X d_Mod_lacking_107 rfl 3 rfl ?_
              refine J_get X (j_in in_Mod) 0 rfl rfl 2 (by decide) (j_m own_Mod_lacking (by decide +kernel)) rfl d_Mod_lacking_108 ?_
              refine J_iload_n X d_Mod_lacking_111 rfl 5 rfl ?_
              obtain ⟨g44, h⟩ := wk_g h
              refine J_lald X 2 1 rfl rfl g44 d_Mod_lacking_112 ?_
              refine J_l2i X d_Mod_lacking_113 ?_
              refine J_goto (tgt := 141) X d_Mod_lacking_114 (by decide) ?_
              obtain ⟨g45, h⟩ := wk_g h
              refine J_iast (ws' := [(ad 0, .inr (10, [.int (zI R_thrown), .ref (ad 1), .ref (ad 2), .ref (ad 3), .ref (ad 4), .ref (ad 5), .ref (ad 6), .int (zI R_used), .ref (ad 7), .int (zI R_many), .ref (ad 8), .ref (ad 9), .ref (ad 10), .ref (ad 11), .ref (ad 12), .ref (ad 13), .ref (ad 14), .ref (ad 15), .ref (ad 16), .int (zI R_values), .ref (ad 17), .int (zI R_textEnd), .ref (ad 18), .ref (ad 19), .ref (ad 20), .ref (ad 21), .int (zI R_dataEnd), .ref (ad 22), .int (zI R_rowEnd), .ref (ad 23), .ref (ad 24), .int (zI R_rowMany), .ref (ad 25), .ref (ad 26), .ref (ad 27), .ref (ad 28), .int (zI R_waiting), .int (zI R_mostWaiting), .int (zI R_answer), .int (zI R_steps), .int (zI R_memory), .int (zI R_maxSteps), .int (zI R_maxMemory), .int (zI R_fault), .int (zI R_result), .int (zI R_now), .int (zI R_nowRow), .int (zI R_come), .ref (ad 29), .ref (ad 30), .int (zI R_puts), .ref (ad 31)])), (ad 1, .inl (cI, 200, .inl (zA R_kinds))), (ad 2, .inl (cL, 200, .inr (.inl (zB R_numbers)))), (ad 3, .inl (cI, 200, .inl (zA R_firsts))), (ad 4, .inl (cI, 200, .inl (zA R_seconds))), (ad 5, .inl (cI, 200, .inl (zA R_sizes))), (ad 7, .inl (cI, 200, .inl (zA R_terms))), (ad 30, .inl (cI, 200, .inl (zA (upZ R_lacks x2 (R_numbers x2)))))]) X 7 0 rfl rfl g45 d_Mod_lacking_141 rfl ?_
              refine J_iinc (lv' := [(2, .int (zI (x2 + 1))), (5, .int (zI 0)), (4, .int (zI 0)), (3, .int (zI (R_lacks (R_firsts x2)))), (0, .ref (ad 0)), (1, .int (zI x1))]) X d_Mod_lacking_142 5 rfl (by decide) rfl ?_
              refine J_goto (tgt := 23) X d_Mod_lacking_145 (by decide) ?_
              refine J_lv (lv' := [(0, .ref (ad 0)), (1, .int (zI x1)), (2, .int (zI (x2 + 1)))]) [4, 5, 0] rfl ?_
              exact ih _ _ h hk
          · refine J_iload_n X d_Mod_lacking_85 rfl 1 rfl ?_
            refine J_goto (tgt := 91) X d_Mod_lacking_86 (by decide) ?_
            refine J_istore (lv' := [(5, .int (zI (R_lacks (R_firsts x2)))), (4, .int (zI 0)), (3, .int (zI (R_lacks (R_firsts x2)))), (0, .ref (ad 0)), (1, .int (zI x1)), (2, .int (zI x2))]) X d_Mod_lacking_91 (by decide) rfl ?_
            refine J_aload_n X d_Mod_lacking_93 rfl 3 rfl ?_
            refine J_get X (j_in in_Mod) 0 rfl rfl 49 (by decide) (j_m own_Mod_lacking (by decide +kernel)) rfl d_Mod_lacking_94 ?_
            refine J_iload_n X d_Mod_lacking_97 rfl 5 rfl ?_
            refine J_aload_n X d_Mod_lacking_98 rfl 3 rfl ?_
            refine J_get X (j_in in_Mod) 0 rfl rfl 1 (by decide) (j_m own_Mod_lacking (by decide +kernel)) rfl d_Mod_lacking_99 ?_
            refine J_iload_n X d_Mod_lacking_102 rfl 5 rfl ?_
            obtain ⟨g46, h⟩ := wk_g h
            refine J_iald X 1 0 rfl rfl g46 d_Mod_lacking_103 ?_
            refine J_if_ne (tgt := 117) X d_Mod_lacking_104 (by decide) h (fun c47 h => ?_) (fun c47 h => ?_)
            · refine J_aload_n X d_Mod_lacking_117 rfl 3 rfl ?_
              refine J_get X (j_in in_Mod) 0 rfl rfl 1 (by decide) (j_m own_Mod_lacking (by decide +kernel)) rfl d_Mod_lacking_118 ?_
              refine J_iload_n X d_Mod_lacking_121 rfl 5 rfl ?_
              obtain ⟨g48, h⟩ := wk_g h
              refine J_iald X 1 0 rfl rfl g48 d_Mod_lacking_122 ?_
              refine J_iconst X d_Mod_lacking_123 ?_
              refine J_icmp_ne (tgt := 139) X d_Mod_lacking_124 (by decide) h (fun c49 h => ?_) (fun c49 h => ?_)
              · refine J_iload X d_Mod_lacking_139 0 rfl ?_
                obtain ⟨g50, h⟩ := wk_g h
                refine J_iast (ws' := [(ad 0, .inr (10, [.int (zI R_thrown), .ref (ad 1), .ref (ad 2), .ref (ad 3), .ref (ad 4), .ref (ad 5), .ref (ad 6), .int (zI R_used), .ref (ad 7), .int (zI R_many), .ref (ad 8), .ref (ad 9), .ref (ad 10), .ref (ad 11), .ref (ad 12), .ref (ad 13), .ref (ad 14), .ref (ad 15), .ref (ad 16), .int (zI R_values), .ref (ad 17), .int (zI R_textEnd), .ref (ad 18), .ref (ad 19), .ref (ad 20), .ref (ad 21), .int (zI R_dataEnd), .ref (ad 22), .int (zI R_rowEnd), .ref (ad 23), .ref (ad 24), .int (zI R_rowMany), .ref (ad 25), .ref (ad 26), .ref (ad 27), .ref (ad 28), .int (zI R_waiting), .int (zI R_mostWaiting), .int (zI R_answer), .int (zI R_steps), .int (zI R_memory), .int (zI R_maxSteps), .int (zI R_maxMemory), .int (zI R_fault), .int (zI R_result), .int (zI R_now), .int (zI R_nowRow), .int (zI R_come), .ref (ad 29), .ref (ad 30), .int (zI R_puts), .ref (ad 31)])), (ad 1, .inl (cI, 200, .inl (zA R_kinds))), (ad 2, .inl (cL, 200, .inr (.inl (zB R_numbers)))), (ad 3, .inl (cI, 200, .inl (zA R_firsts))), (ad 4, .inl (cI, 200, .inl (zA R_seconds))), (ad 5, .inl (cI, 200, .inl (zA R_sizes))), (ad 7, .inl (cI, 200, .inl (zA R_terms))), (ad 30, .inl (cI, 200, .inl (zA (upZ R_lacks x2 (R_lacks (R_firsts x2))))))]) X 7 0 rfl rfl g50 d_Mod_lacking_141 rfl ?_
                refine J_iinc (lv' := [(2, .int (zI (x2 + 1))), (5, .int (zI (R_lacks (R_firsts x2)))), (4, .int (zI 0)), (3, .int (zI (R_lacks (R_firsts x2)))), (0, .ref (ad 0)), (1, .int (zI x1))]) X d_Mod_lacking_142 5 rfl (by decide) rfl ?_
                refine J_goto (tgt := 23) X d_Mod_lacking_145 (by decide) ?_
                refine J_lv (lv' := [(0, .ref (ad 0)), (1, .int (zI x1)), (2, .int (zI (x2 + 1)))]) [4, 5, 0] rfl ?_
                exact ih _ _ h hk
              · refine J_iload X d_Mod_lacking_127 0 rfl ?_
                refine J_if_le (tgt := 139) X d_Mod_lacking_129 (by decide) h (fun c51 h => ?_) (fun c51 h => ?_)
                · refine J_iload X d_Mod_lacking_139 0 rfl ?_
                  obtain ⟨g52, h⟩ := wk_g h
                  refine J_iast (ws' := [(ad 0, .inr (10, [.int (zI R_thrown), .ref (ad 1), .ref (ad 2), .ref (ad 3), .ref (ad 4), .ref (ad 5), .ref (ad 6), .int (zI R_used), .ref (ad 7), .int (zI R_many), .ref (ad 8), .ref (ad 9), .ref (ad 10), .ref (ad 11), .ref (ad 12), .ref (ad 13), .ref (ad 14), .ref (ad 15), .ref (ad 16), .int (zI R_values), .ref (ad 17), .int (zI R_textEnd), .ref (ad 18), .ref (ad 19), .ref (ad 20), .ref (ad 21), .int (zI R_dataEnd), .ref (ad 22), .int (zI R_rowEnd), .ref (ad 23), .ref (ad 24), .int (zI R_rowMany), .ref (ad 25), .ref (ad 26), .ref (ad 27), .ref (ad 28), .int (zI R_waiting), .int (zI R_mostWaiting), .int (zI R_answer), .int (zI R_steps), .int (zI R_memory), .int (zI R_maxSteps), .int (zI R_maxMemory), .int (zI R_fault), .int (zI R_result), .int (zI R_now), .int (zI R_nowRow), .int (zI R_come), .ref (ad 29), .ref (ad 30), .int (zI R_puts), .ref (ad 31)])), (ad 1, .inl (cI, 200, .inl (zA R_kinds))), (ad 2, .inl (cL, 200, .inr (.inl (zB R_numbers)))), (ad 3, .inl (cI, 200, .inl (zA R_firsts))), (ad 4, .inl (cI, 200, .inl (zA R_seconds))), (ad 5, .inl (cI, 200, .inl (zA R_sizes))), (ad 7, .inl (cI, 200, .inl (zA R_terms))), (ad 30, .inl (cI, 200, .inl (zA (upZ R_lacks x2 (R_lacks (R_firsts x2))))))]) X 7 0 rfl rfl g52 d_Mod_lacking_141 rfl ?_
                  refine J_iinc (lv' := [(2, .int (zI (x2 + 1))), (5, .int (zI (R_lacks (R_firsts x2)))), (4, .int (zI 0)), (3, .int (zI (R_lacks (R_firsts x2)))), (0, .ref (ad 0)), (1, .int (zI x1))]) X d_Mod_lacking_142 5 rfl (by decide) rfl ?_
                  refine J_goto (tgt := 23) X d_Mod_lacking_145 (by decide) ?_
                  refine J_lv (lv' := [(0, .ref (ad 0)), (1, .int (zI x1)), (2, .int (zI (x2 + 1)))]) [4, 5, 0] rfl ?_
                  exact ih _ _ h hk
                · refine J_iload X d_Mod_lacking_132 0 rfl ?_
                  refine J_iconst X d_Mod_lacking_134 ?_
                  refine J_isub X d_Mod_lacking_135 ?_
                  refine J_goto (tgt := 141) X d_Mod_lacking_136 (by decide) ?_
                  obtain ⟨g53, h⟩ := wk_g h
                  refine J_iast (ws' := [(ad 0, .inr (10, [.int (zI R_thrown), .ref (ad 1), .ref (ad 2), .ref (ad 3), .ref (ad 4), .ref (ad 5), .ref (ad 6), .int (zI R_used), .ref (ad 7), .int (zI R_many), .ref (ad 8), .ref (ad 9), .ref (ad 10), .ref (ad 11), .ref (ad 12), .ref (ad 13), .ref (ad 14), .ref (ad 15), .ref (ad 16), .int (zI R_values), .ref (ad 17), .int (zI R_textEnd), .ref (ad 18), .ref (ad 19), .ref (ad 20), .ref (ad 21), .int (zI R_dataEnd), .ref (ad 22), .int (zI R_rowEnd), .ref (ad 23), .ref (ad 24), .int (zI R_rowMany), .ref (ad 25), .ref (ad 26), .ref (ad 27), .ref (ad 28), .int (zI R_waiting), .int (zI R_mostWaiting), .int (zI R_answer), .int (zI R_steps), .int (zI R_memory), .int (zI R_maxSteps), .int (zI R_maxMemory), .int (zI R_fault), .int (zI R_result), .int (zI R_now), .int (zI R_nowRow), .int (zI R_come), .ref (ad 29), .ref (ad 30), .int (zI R_puts), .ref (ad 31)])), (ad 1, .inl (cI, 200, .inl (zA R_kinds))), (ad 2, .inl (cL, 200, .inr (.inl (zB R_numbers)))), (ad 3, .inl (cI, 200, .inl (zA R_firsts))), (ad 4, .inl (cI, 200, .inl (zA R_seconds))), (ad 5, .inl (cI, 200, .inl (zA R_sizes))), (ad 7, .inl (cI, 200, .inl (zA R_terms))), (ad 30, .inl (cI, 200, .inl (zA (upZ R_lacks x2 ((R_lacks (R_firsts x2)) - 1)))))]) X 7 0 rfl rfl g53 d_Mod_lacking_141 rfl ?_
                  refine J_iinc (lv' := [(2, .int (zI (x2 + 1))), (5, .int (zI (R_lacks (R_firsts x2)))), (4, .int (zI 0)), (3, .int (zI (R_lacks (R_firsts x2)))), (0, .ref (ad 0)), (1, .int (zI x1))]) X d_Mod_lacking_142 5 rfl (by decide) rfl ?_
                  refine J_goto (tgt := 23) X d_Mod_lacking_145 (by decide) ?_
                  refine J_lv (lv' := [(0, .ref (ad 0)), (1, .int (zI x1)), (2, .int (zI (x2 + 1)))]) [4, 5, 0] rfl ?_
                  exact ih _ _ h hk
            · refine J_aload_n X d_Mod_lacking_107 rfl 3 rfl ?_
              refine J_get X (j_in in_Mod) 0 rfl rfl 2 (by decide) (j_m own_Mod_lacking (by decide +kernel)) rfl d_Mod_lacking_108 ?_
              refine J_iload_n X d_Mod_lacking_111 rfl 5 rfl ?_
              obtain ⟨g54, h⟩ := wk_g h
              refine J_lald X 2 1 rfl rfl g54 d_Mod_lacking_112 ?_
              refine J_l2i X d_Mod_lacking_113 ?_
              refine J_goto (tgt := 141) X d_Mod_lacking_114 (by decide) ?_
              obtain ⟨g55, h⟩ := wk_g h
              refine J_iast (ws' := [(ad 0, .inr (10, [.int (zI R_thrown), .ref (ad 1), .ref (ad 2), .ref (ad 3), .ref (ad 4), .ref (ad 5), .ref (ad 6), .int (zI R_used), .ref (ad 7), .int (zI R_many), .ref (ad 8), .ref (ad 9), .ref (ad 10), .ref (ad 11), .ref (ad 12), .ref (ad 13), .ref (ad 14), .ref (ad 15), .ref (ad 16), .int (zI R_values), .ref (ad 17), .int (zI R_textEnd), .ref (ad 18), .ref (ad 19), .ref (ad 20), .ref (ad 21), .int (zI R_dataEnd), .ref (ad 22), .int (zI R_rowEnd), .ref (ad 23), .ref (ad 24), .int (zI R_rowMany), .ref (ad 25), .ref (ad 26), .ref (ad 27), .ref (ad 28), .int (zI R_waiting), .int (zI R_mostWaiting), .int (zI R_answer), .int (zI R_steps), .int (zI R_memory), .int (zI R_maxSteps), .int (zI R_maxMemory), .int (zI R_fault), .int (zI R_result), .int (zI R_now), .int (zI R_nowRow), .int (zI R_come), .ref (ad 29), .ref (ad 30), .int (zI R_puts), .ref (ad 31)])), (ad 1, .inl (cI, 200, .inl (zA R_kinds))), (ad 2, .inl (cL, 200, .inr (.inl (zB R_numbers)))), (ad 3, .inl (cI, 200, .inl (zA R_firsts))), (ad 4, .inl (cI, 200, .inl (zA R_seconds))), (ad 5, .inl (cI, 200, .inl (zA R_sizes))), (ad 7, .inl (cI, 200, .inl (zA R_terms))), (ad 30, .inl (cI, 200, .inl (zA (upZ R_lacks x2 (R_numbers x2)))))]) X 7 0 rfl rfl g55 d_Mod_lacking_141 rfl ?_
              refine J_iinc (lv' := [(2, .int (zI (x2 + 1))), (5, .int (zI (R_lacks (R_firsts x2)))), (4, .int (zI 0)), (3, .int (zI (R_lacks (R_firsts x2)))), (0, .ref (ad 0)), (1, .int (zI x1))]) X d_Mod_lacking_142 5 rfl (by decide) rfl ?_
              refine J_goto (tgt := 23) X d_Mod_lacking_145 (by decide) ?_
              refine J_lv (lv' := [(0, .ref (ad 0)), (1, .int (zI x1)), (2, .int (zI (x2 + 1)))]) [4, 5, 0] rfl ?_
              exact ih _ _ h hk
      · refine J_iconst X d_Mod_lacking_37 ?_
        refine J_goto (tgt := 52) X d_Mod_lacking_38 (by decide) ?_
        refine J_istore_n (lv' := [(3, .int (zI 0)), (0, .ref (ad 0)), (1, .int (zI x1)), (2, .int (zI x2))]) X d_Mod_lacking_52 rfl (by decide) rfl ?_
        refine J_aload_n X d_Mod_lacking_53 rfl 1 rfl ?_
        refine J_get X (j_in in_Mod) 0 rfl rfl 4 (by decide) (j_m own_Mod_lacking (by decide +kernel)) rfl d_Mod_lacking_54 ?_
        refine J_iload_n X d_Mod_lacking_57 rfl 3 rfl ?_
        obtain ⟨g56, h⟩ := wk_g h
        refine J_iald X 4 0 rfl rfl g56 d_Mod_lacking_58 ?_
        refine J_if_ge (tgt := 66) X d_Mod_lacking_59 (by decide) h (fun c57 h => ?_) (fun c57 h => ?_)
        · refine J_aload_n X d_Mod_lacking_66 rfl 1 rfl ?_
          refine J_get X (j_in in_Mod) 0 rfl rfl 49 (by decide) (j_m own_Mod_lacking (by decide +kernel)) rfl d_Mod_lacking_67 ?_
          refine J_aload_n X d_Mod_lacking_70 rfl 1 rfl ?_
          refine J_get X (j_in in_Mod) 0 rfl rfl 4 (by decide) (j_m own_Mod_lacking (by decide +kernel)) rfl d_Mod_lacking_71 ?_
          refine J_iload_n X d_Mod_lacking_74 rfl 3 rfl ?_
          obtain ⟨g58, h⟩ := wk_g h
          refine J_iald X 4 0 rfl rfl g58 d_Mod_lacking_75 ?_
          obtain ⟨g59, h⟩ := wk_g h
          refine J_iald X 7 0 rfl rfl g59 d_Mod_lacking_76 ?_
          refine J_istore (lv' := [(4, .int (zI (R_lacks (R_seconds x2)))), (3, .int (zI 0)), (0, .ref (ad 0)), (1, .int (zI x1)), (2, .int (zI x2))]) X d_Mod_lacking_77 (by decide) rfl ?_
          refine J_iload_n X d_Mod_lacking_79 rfl 1 rfl ?_
          refine J_iload X d_Mod_lacking_80 0 rfl ?_
          refine J_icmp_le (tgt := 89) X d_Mod_lacking_82 (by decide) h (fun c60 h => ?_) (fun c60 h => ?_)
          · refine J_iload X d_Mod_lacking_89 0 rfl ?_
            refine J_istore (lv' := [(5, .int (zI (R_lacks (R_seconds x2)))), (4, .int (zI (R_lacks (R_seconds x2)))), (3, .int (zI 0)), (0, .ref (ad 0)), (1, .int (zI x1)), (2, .int (zI x2))]) X d_Mod_lacking_91 (by decide) rfl ?_
            refine J_aload_n X d_Mod_lacking_93 rfl 3 rfl ?_
            refine J_get X (j_in in_Mod) 0 rfl rfl 49 (by decide) (j_m own_Mod_lacking (by decide +kernel)) rfl d_Mod_lacking_94 ?_
            refine J_iload_n X d_Mod_lacking_97 rfl 5 rfl ?_
            refine J_aload_n X d_Mod_lacking_98 rfl 3 rfl ?_
            refine J_get X (j_in in_Mod) 0 rfl rfl 1 (by decide) (j_m own_Mod_lacking (by decide +kernel)) rfl d_Mod_lacking_99 ?_
            refine J_iload_n X d_Mod_lacking_102 rfl 5 rfl ?_
            obtain ⟨g61, h⟩ := wk_g h
            refine J_iald X 1 0 rfl rfl g61 d_Mod_lacking_103 ?_
            refine J_if_ne (tgt := 117) X d_Mod_lacking_104 (by decide) h (fun c62 h => ?_) (fun c62 h => ?_)
            · refine J_aload_n X d_Mod_lacking_117 rfl 3 rfl ?_
              refine J_get X (j_in in_Mod) 0 rfl rfl 1 (by decide) (j_m own_Mod_lacking (by decide +kernel)) rfl d_Mod_lacking_118 ?_
              refine J_iload_n X d_Mod_lacking_121 rfl 5 rfl ?_
              obtain ⟨g63, h⟩ := wk_g h
              refine J_iald X 1 0 rfl rfl g63 d_Mod_lacking_122 ?_
              refine J_iconst X d_Mod_lacking_123 ?_
              refine J_icmp_ne (tgt := 139) X d_Mod_lacking_124 (by decide) h (fun c64 h => ?_) (fun c64 h => ?_)
              · refine J_iload X d_Mod_lacking_139 0 rfl ?_
                obtain ⟨g65, h⟩ := wk_g h
                refine J_iast (ws' := [(ad 0, .inr (10, [.int (zI R_thrown), .ref (ad 1), .ref (ad 2), .ref (ad 3), .ref (ad 4), .ref (ad 5), .ref (ad 6), .int (zI R_used), .ref (ad 7), .int (zI R_many), .ref (ad 8), .ref (ad 9), .ref (ad 10), .ref (ad 11), .ref (ad 12), .ref (ad 13), .ref (ad 14), .ref (ad 15), .ref (ad 16), .int (zI R_values), .ref (ad 17), .int (zI R_textEnd), .ref (ad 18), .ref (ad 19), .ref (ad 20), .ref (ad 21), .int (zI R_dataEnd), .ref (ad 22), .int (zI R_rowEnd), .ref (ad 23), .ref (ad 24), .int (zI R_rowMany), .ref (ad 25), .ref (ad 26), .ref (ad 27), .ref (ad 28), .int (zI R_waiting), .int (zI R_mostWaiting), .int (zI R_answer), .int (zI R_steps), .int (zI R_memory), .int (zI R_maxSteps), .int (zI R_maxMemory), .int (zI R_fault), .int (zI R_result), .int (zI R_now), .int (zI R_nowRow), .int (zI R_come), .ref (ad 29), .ref (ad 30), .int (zI R_puts), .ref (ad 31)])), (ad 1, .inl (cI, 200, .inl (zA R_kinds))), (ad 2, .inl (cL, 200, .inr (.inl (zB R_numbers)))), (ad 3, .inl (cI, 200, .inl (zA R_firsts))), (ad 4, .inl (cI, 200, .inl (zA R_seconds))), (ad 5, .inl (cI, 200, .inl (zA R_sizes))), (ad 7, .inl (cI, 200, .inl (zA R_terms))), (ad 30, .inl (cI, 200, .inl (zA (upZ R_lacks x2 (R_lacks (R_seconds x2))))))]) X 7 0 rfl rfl g65 d_Mod_lacking_141 rfl ?_
                refine J_iinc (lv' := [(2, .int (zI (x2 + 1))), (5, .int (zI (R_lacks (R_seconds x2)))), (4, .int (zI (R_lacks (R_seconds x2)))), (3, .int (zI 0)), (0, .ref (ad 0)), (1, .int (zI x1))]) X d_Mod_lacking_142 5 rfl (by decide) rfl ?_
                refine J_goto (tgt := 23) X d_Mod_lacking_145 (by decide) ?_
                refine J_lv (lv' := [(0, .ref (ad 0)), (1, .int (zI x1)), (2, .int (zI (x2 + 1)))]) [4, 5, 0] rfl ?_
                exact ih _ _ h hk
              · refine J_iload X d_Mod_lacking_127 0 rfl ?_
                refine J_if_le (tgt := 139) X d_Mod_lacking_129 (by decide) h (fun c66 h => ?_) (fun c66 h => ?_)
                · refine J_iload X d_Mod_lacking_139 0 rfl ?_
                  obtain ⟨g67, h⟩ := wk_g h
                  refine J_iast (ws' := [(ad 0, .inr (10, [.int (zI R_thrown), .ref (ad 1), .ref (ad 2), .ref (ad 3), .ref (ad 4), .ref (ad 5), .ref (ad 6), .int (zI R_used), .ref (ad 7), .int (zI R_many), .ref (ad 8), .ref (ad 9), .ref (ad 10), .ref (ad 11), .ref (ad 12), .ref (ad 13), .ref (ad 14), .ref (ad 15), .ref (ad 16), .int (zI R_values), .ref (ad 17), .int (zI R_textEnd), .ref (ad 18), .ref (ad 19), .ref (ad 20), .ref (ad 21), .int (zI R_dataEnd), .ref (ad 22), .int (zI R_rowEnd), .ref (ad 23), .ref (ad 24), .int (zI R_rowMany), .ref (ad 25), .ref (ad 26), .ref (ad 27), .ref (ad 28), .int (zI R_waiting), .int (zI R_mostWaiting), .int (zI R_answer), .int (zI R_steps), .int (zI R_memory), .int (zI R_maxSteps), .int (zI R_maxMemory), .int (zI R_fault), .int (zI R_result), .int (zI R_now), .int (zI R_nowRow), .int (zI R_come), .ref (ad 29), .ref (ad 30), .int (zI R_puts), .ref (ad 31)])), (ad 1, .inl (cI, 200, .inl (zA R_kinds))), (ad 2, .inl (cL, 200, .inr (.inl (zB R_numbers)))), (ad 3, .inl (cI, 200, .inl (zA R_firsts))), (ad 4, .inl (cI, 200, .inl (zA R_seconds))), (ad 5, .inl (cI, 200, .inl (zA R_sizes))), (ad 7, .inl (cI, 200, .inl (zA R_terms))), (ad 30, .inl (cI, 200, .inl (zA (upZ R_lacks x2 (R_lacks (R_seconds x2))))))]) X 7 0 rfl rfl g67 d_Mod_lacking_141 rfl ?_
                  refine J_iinc (lv' := [(2, .int (zI (x2 + 1))), (5, .int (zI (R_lacks (R_seconds x2)))), (4, .int (zI (R_lacks (R_seconds x2)))), (3, .int (zI 0)), (0, .ref (ad 0)), (1, .int (zI x1))]) X d_Mod_lacking_142 5 rfl (by decide) rfl ?_
                  refine J_goto (tgt := 23) X d_Mod_lacking_145 (by decide) ?_
                  refine J_lv (lv' := [(0, .ref (ad 0)), (1, .int (zI x1)), (2, .int (zI (x2 + 1)))]) [4, 5, 0] rfl ?_
                  exact ih _ _ h hk
                · refine J_iload X d_Mod_lacking_132 0 rfl ?_
                  refine J_iconst X d_Mod_lacking_134 ?_
                  refine J_isub X d_Mod_lacking_135 ?_
                  refine J_goto (tgt := 141) X d_Mod_lacking_136 (by decide) ?_
                  obtain ⟨g68, h⟩ := wk_g h
                  refine J_iast (ws' := [(ad 0, .inr (10, [.int (zI R_thrown), .ref (ad 1), .ref (ad 2), .ref (ad 3), .ref (ad 4), .ref (ad 5), .ref (ad 6), .int (zI R_used), .ref (ad 7), .int (zI R_many), .ref (ad 8), .ref (ad 9), .ref (ad 10), .ref (ad 11), .ref (ad 12), .ref (ad 13), .ref (ad 14), .ref (ad 15), .ref (ad 16), .int (zI R_values), .ref (ad 17), .int (zI R_textEnd), .ref (ad 18), .ref (ad 19), .ref (ad 20), .ref (ad 21), .int (zI R_dataEnd), .ref (ad 22), .int (zI R_rowEnd), .ref (ad 23), .ref (ad 24), .int (zI R_rowMany), .ref (ad 25), .ref (ad 26), .ref (ad 27), .ref (ad 28), .int (zI R_waiting), .int (zI R_mostWaiting), .int (zI R_answer), .int (zI R_steps), .int (zI R_memory), .int (zI R_maxSteps), .int (zI R_maxMemory), .int (zI R_fault), .int (zI R_result), .int (zI R_now), .int (zI R_nowRow), .int (zI R_come), .ref (ad 29), .ref (ad 30), .int (zI R_puts), .ref (ad 31)])), (ad 1, .inl (cI, 200, .inl (zA R_kinds))), (ad 2, .inl (cL, 200, .inr (.inl (zB R_numbers)))), (ad 3, .inl (cI, 200, .inl (zA R_firsts))), (ad 4, .inl (cI, 200, .inl (zA R_seconds))), (ad 5, .inl (cI, 200, .inl (zA R_sizes))), (ad 7, .inl (cI, 200, .inl (zA R_terms))), (ad 30, .inl (cI, 200, .inl (zA (upZ R_lacks x2 ((R_lacks (R_seconds x2)) - 1)))))]) X 7 0 rfl rfl g68 d_Mod_lacking_141 rfl ?_
                  refine J_iinc (lv' := [(2, .int (zI (x2 + 1))), (5, .int (zI (R_lacks (R_seconds x2)))), (4, .int (zI (R_lacks (R_seconds x2)))), (3, .int (zI 0)), (0, .ref (ad 0)), (1, .int (zI x1))]) X d_Mod_lacking_142 5 rfl (by decide) rfl ?_
                  refine J_goto (tgt := 23) X d_Mod_lacking_145 (by decide) ?_
                  refine J_lv (lv' := [(0, .ref (ad 0)), (1, .int (zI x1)), (2, .int (zI (x2 + 1)))]) [4, 5, 0] rfl ?_
                  exact ih _ _ h hk
            · refine J_aload_n X d_Mod_lacking_107 rfl 3 rfl ?_
              refine J_get X (j_in in_Mod) 0 rfl rfl 2 (by decide) (j_m own_Mod_lacking (by decide +kernel)) rfl d_Mod_lacking_108 ?_
              refine J_iload_n X d_Mod_lacking_111 rfl 5 rfl ?_
              obtain ⟨g69, h⟩ := wk_g h
              refine J_lald X 2 1 rfl rfl g69 d_Mod_lacking_112 ?_
              refine J_l2i X d_Mod_lacking_113 ?_
              refine J_goto (tgt := 141) X d_Mod_lacking_114 (by decide) ?_
              obtain ⟨g70, h⟩ := wk_g h
              refine J_iast (ws' := [(ad 0, .inr (10, [.int (zI R_thrown), .ref (ad 1), .ref (ad 2), .ref (ad 3), .ref (ad 4), .ref (ad 5), .ref (ad 6), .int (zI R_used), .ref (ad 7), .int (zI R_many), .ref (ad 8), .ref (ad 9), .ref (ad 10), .ref (ad 11), .ref (ad 12), .ref (ad 13), .ref (ad 14), .ref (ad 15), .ref (ad 16), .int (zI R_values), .ref (ad 17), .int (zI R_textEnd), .ref (ad 18), .ref (ad 19), .ref (ad 20), .ref (ad 21), .int (zI R_dataEnd), .ref (ad 22), .int (zI R_rowEnd), .ref (ad 23), .ref (ad 24), .int (zI R_rowMany), .ref (ad 25), .ref (ad 26), .ref (ad 27), .ref (ad 28), .int (zI R_waiting), .int (zI R_mostWaiting), .int (zI R_answer), .int (zI R_steps), .int (zI R_memory), .int (zI R_maxSteps), .int (zI R_maxMemory), .int (zI R_fault), .int (zI R_result), .int (zI R_now), .int (zI R_nowRow), .int (zI R_come), .ref (ad 29), .ref (ad 30), .int (zI R_puts), .ref (ad 31)])), (ad 1, .inl (cI, 200, .inl (zA R_kinds))), (ad 2, .inl (cL, 200, .inr (.inl (zB R_numbers)))), (ad 3, .inl (cI, 200, .inl (zA R_firsts))), (ad 4, .inl (cI, 200, .inl (zA R_seconds))), (ad 5, .inl (cI, 200, .inl (zA R_sizes))), (ad 7, .inl (cI, 200, .inl (zA R_terms))), (ad 30, .inl (cI, 200, .inl (zA (upZ R_lacks x2 (R_numbers x2)))))]) X 7 0 rfl rfl g70 d_Mod_lacking_141 rfl ?_
              refine J_iinc (lv' := [(2, .int (zI (x2 + 1))), (5, .int (zI (R_lacks (R_seconds x2)))), (4, .int (zI (R_lacks (R_seconds x2)))), (3, .int (zI 0)), (0, .ref (ad 0)), (1, .int (zI x1))]) X d_Mod_lacking_142 5 rfl (by decide) rfl ?_
              refine J_goto (tgt := 23) X d_Mod_lacking_145 (by decide) ?_
              refine J_lv (lv' := [(0, .ref (ad 0)), (1, .int (zI x1)), (2, .int (zI (x2 + 1)))]) [4, 5, 0] rfl ?_
              exact ih _ _ h hk
          · refine J_iload_n X d_Mod_lacking_85 rfl 1 rfl ?_
            refine J_goto (tgt := 91) X d_Mod_lacking_86 (by decide) ?_
            refine J_istore (lv' := [(5, .int (zI 0)), (4, .int (zI (R_lacks (R_seconds x2)))), (3, .int (zI 0)), (0, .ref (ad 0)), (1, .int (zI x1)), (2, .int (zI x2))]) X d_Mod_lacking_91 (by decide) rfl ?_
            refine J_aload_n X d_Mod_lacking_93 rfl 3 rfl ?_
            refine J_get X (j_in in_Mod) 0 rfl rfl 49 (by decide) (j_m own_Mod_lacking (by decide +kernel)) rfl d_Mod_lacking_94 ?_
            refine J_iload_n X d_Mod_lacking_97 rfl 5 rfl ?_
            refine J_aload_n X d_Mod_lacking_98 rfl 3 rfl ?_
            refine J_get X (j_in in_Mod) 0 rfl rfl 1 (by decide) (j_m own_Mod_lacking (by decide +kernel)) rfl d_Mod_lacking_99 ?_
            refine J_iload_n X d_Mod_lacking_102 rfl 5 rfl ?_
            obtain ⟨g71, h⟩ := wk_g h
            refine J_iald X 1 0 rfl rfl g71 d_Mod_lacking_103 ?_
            refine J_if_ne (tgt := 117) X d_Mod_lacking_104 (by decide) h (fun c72 h => ?_) (fun c72 h => ?_)
            · refine J_aload_n X d_Mod_lacking_117 rfl 3 rfl ?_
              refine J_get X (j_in in_Mod) 0 rfl rfl 1 (by decide) (j_m own_Mod_lacking (by decide +kernel)) rfl d_Mod_lacking_118 ?_
              refine J_iload_n X d_Mod_lacking_121 rfl 5 rfl ?_
              obtain ⟨g73, h⟩ := wk_g h
              refine J_iald X 1 0 rfl rfl g73 d_Mod_lacking_122 ?_
              refine J_iconst X d_Mod_lacking_123 ?_
              refine J_icmp_ne (tgt := 139) X d_Mod_lacking_124 (by decide) h (fun c74 h => ?_) (fun c74 h => ?_)
              · refine J_iload X d_Mod_lacking_139 0 rfl ?_
                obtain ⟨g75, h⟩ := wk_g h
                refine J_iast (ws' := [(ad 0, .inr (10, [.int (zI R_thrown), .ref (ad 1), .ref (ad 2), .ref (ad 3), .ref (ad 4), .ref (ad 5), .ref (ad 6), .int (zI R_used), .ref (ad 7), .int (zI R_many), .ref (ad 8), .ref (ad 9), .ref (ad 10), .ref (ad 11), .ref (ad 12), .ref (ad 13), .ref (ad 14), .ref (ad 15), .ref (ad 16), .int (zI R_values), .ref (ad 17), .int (zI R_textEnd), .ref (ad 18), .ref (ad 19), .ref (ad 20), .ref (ad 21), .int (zI R_dataEnd), .ref (ad 22), .int (zI R_rowEnd), .ref (ad 23), .ref (ad 24), .int (zI R_rowMany), .ref (ad 25), .ref (ad 26), .ref (ad 27), .ref (ad 28), .int (zI R_waiting), .int (zI R_mostWaiting), .int (zI R_answer), .int (zI R_steps), .int (zI R_memory), .int (zI R_maxSteps), .int (zI R_maxMemory), .int (zI R_fault), .int (zI R_result), .int (zI R_now), .int (zI R_nowRow), .int (zI R_come), .ref (ad 29), .ref (ad 30), .int (zI R_puts), .ref (ad 31)])), (ad 1, .inl (cI, 200, .inl (zA R_kinds))), (ad 2, .inl (cL, 200, .inr (.inl (zB R_numbers)))), (ad 3, .inl (cI, 200, .inl (zA R_firsts))), (ad 4, .inl (cI, 200, .inl (zA R_seconds))), (ad 5, .inl (cI, 200, .inl (zA R_sizes))), (ad 7, .inl (cI, 200, .inl (zA R_terms))), (ad 30, .inl (cI, 200, .inl (zA (upZ R_lacks x2 0))))]) X 7 0 rfl rfl g75 d_Mod_lacking_141 rfl ?_
                refine J_iinc (lv' := [(2, .int (zI (x2 + 1))), (5, .int (zI 0)), (4, .int (zI (R_lacks (R_seconds x2)))), (3, .int (zI 0)), (0, .ref (ad 0)), (1, .int (zI x1))]) X d_Mod_lacking_142 5 rfl (by decide) rfl ?_
                refine J_goto (tgt := 23) X d_Mod_lacking_145 (by decide) ?_
                refine J_lv (lv' := [(0, .ref (ad 0)), (1, .int (zI x1)), (2, .int (zI (x2 + 1)))]) [4, 5, 0] rfl ?_
                exact ih _ _ h hk
              · refine J_iload X d_Mod_lacking_127 0 rfl ?_
                refine J_if_le (pa := some ()) (pb := none) (o := ()) (tgt := 139) X d_Mod_lacking_129 (by decide) (by decide) (fun _ _ => ?_) (fun _ h => by cases h)
                refine J_iload X d_Mod_lacking_139 0 rfl ?_
                obtain ⟨g76, h⟩ := wk_g h
                refine J_iast (ws' := [(ad 0, .inr (10, [.int (zI R_thrown), .ref (ad 1), .ref (ad 2), .ref (ad 3), .ref (ad 4), .ref (ad 5), .ref (ad 6), .int (zI R_used), .ref (ad 7), .int (zI R_many), .ref (ad 8), .ref (ad 9), .ref (ad 10), .ref (ad 11), .ref (ad 12), .ref (ad 13), .ref (ad 14), .ref (ad 15), .ref (ad 16), .int (zI R_values), .ref (ad 17), .int (zI R_textEnd), .ref (ad 18), .ref (ad 19), .ref (ad 20), .ref (ad 21), .int (zI R_dataEnd), .ref (ad 22), .int (zI R_rowEnd), .ref (ad 23), .ref (ad 24), .int (zI R_rowMany), .ref (ad 25), .ref (ad 26), .ref (ad 27), .ref (ad 28), .int (zI R_waiting), .int (zI R_mostWaiting), .int (zI R_answer), .int (zI R_steps), .int (zI R_memory), .int (zI R_maxSteps), .int (zI R_maxMemory), .int (zI R_fault), .int (zI R_result), .int (zI R_now), .int (zI R_nowRow), .int (zI R_come), .ref (ad 29), .ref (ad 30), .int (zI R_puts), .ref (ad 31)])), (ad 1, .inl (cI, 200, .inl (zA R_kinds))), (ad 2, .inl (cL, 200, .inr (.inl (zB R_numbers)))), (ad 3, .inl (cI, 200, .inl (zA R_firsts))), (ad 4, .inl (cI, 200, .inl (zA R_seconds))), (ad 5, .inl (cI, 200, .inl (zA R_sizes))), (ad 7, .inl (cI, 200, .inl (zA R_terms))), (ad 30, .inl (cI, 200, .inl (zA (upZ R_lacks x2 0))))]) X 7 0 rfl rfl g76 d_Mod_lacking_141 rfl ?_
                refine J_iinc (lv' := [(2, .int (zI (x2 + 1))), (5, .int (zI 0)), (4, .int (zI (R_lacks (R_seconds x2)))), (3, .int (zI 0)), (0, .ref (ad 0)), (1, .int (zI x1))]) X d_Mod_lacking_142 5 rfl (by decide) rfl ?_
                refine J_goto (tgt := 23) X d_Mod_lacking_145 (by decide) ?_
                refine J_lv (lv' := [(0, .ref (ad 0)), (1, .int (zI x1)), (2, .int (zI (x2 + 1)))]) [4, 5, 0] rfl ?_
                exact ih _ _ h hk
            · refine J_aload_n X d_Mod_lacking_107 rfl 3 rfl ?_
              refine J_get X (j_in in_Mod) 0 rfl rfl 2 (by decide) (j_m own_Mod_lacking (by decide +kernel)) rfl d_Mod_lacking_108 ?_
              refine J_iload_n X d_Mod_lacking_111 rfl 5 rfl ?_
              obtain ⟨g77, h⟩ := wk_g h
              refine J_lald X 2 1 rfl rfl g77 d_Mod_lacking_112 ?_
              refine J_l2i X d_Mod_lacking_113 ?_
              refine J_goto (tgt := 141) X d_Mod_lacking_114 (by decide) ?_
              obtain ⟨g78, h⟩ := wk_g h
              refine J_iast (ws' := [(ad 0, .inr (10, [.int (zI R_thrown), .ref (ad 1), .ref (ad 2), .ref (ad 3), .ref (ad 4), .ref (ad 5), .ref (ad 6), .int (zI R_used), .ref (ad 7), .int (zI R_many), .ref (ad 8), .ref (ad 9), .ref (ad 10), .ref (ad 11), .ref (ad 12), .ref (ad 13), .ref (ad 14), .ref (ad 15), .ref (ad 16), .int (zI R_values), .ref (ad 17), .int (zI R_textEnd), .ref (ad 18), .ref (ad 19), .ref (ad 20), .ref (ad 21), .int (zI R_dataEnd), .ref (ad 22), .int (zI R_rowEnd), .ref (ad 23), .ref (ad 24), .int (zI R_rowMany), .ref (ad 25), .ref (ad 26), .ref (ad 27), .ref (ad 28), .int (zI R_waiting), .int (zI R_mostWaiting), .int (zI R_answer), .int (zI R_steps), .int (zI R_memory), .int (zI R_maxSteps), .int (zI R_maxMemory), .int (zI R_fault), .int (zI R_result), .int (zI R_now), .int (zI R_nowRow), .int (zI R_come), .ref (ad 29), .ref (ad 30), .int (zI R_puts), .ref (ad 31)])), (ad 1, .inl (cI, 200, .inl (zA R_kinds))), (ad 2, .inl (cL, 200, .inr (.inl (zB R_numbers)))), (ad 3, .inl (cI, 200, .inl (zA R_firsts))), (ad 4, .inl (cI, 200, .inl (zA R_seconds))), (ad 5, .inl (cI, 200, .inl (zA R_sizes))), (ad 7, .inl (cI, 200, .inl (zA R_terms))), (ad 30, .inl (cI, 200, .inl (zA (upZ R_lacks x2 (R_numbers x2)))))]) X 7 0 rfl rfl g78 d_Mod_lacking_141 rfl ?_
              refine J_iinc (lv' := [(2, .int (zI (x2 + 1))), (5, .int (zI 0)), (4, .int (zI (R_lacks (R_seconds x2)))), (3, .int (zI 0)), (0, .ref (ad 0)), (1, .int (zI x1))]) X d_Mod_lacking_142 5 rfl (by decide) rfl ?_
              refine J_goto (tgt := 23) X d_Mod_lacking_145 (by decide) ?_
              refine J_lv (lv' := [(0, .ref (ad 0)), (1, .int (zI x1)), (2, .int (zI (x2 + 1)))]) [4, 5, 0] rfl ?_
              exact ih _ _ h hk
        · refine J_iconst X d_Mod_lacking_62 ?_
          refine J_goto (tgt := 77) X d_Mod_lacking_63 (by decide) ?_
          refine J_istore (lv' := [(4, .int (zI 0)), (3, .int (zI 0)), (0, .ref (ad 0)), (1, .int (zI x1)), (2, .int (zI x2))]) X d_Mod_lacking_77 (by decide) rfl ?_
          refine J_iload_n X d_Mod_lacking_79 rfl 1 rfl ?_
          refine J_iload X d_Mod_lacking_80 0 rfl ?_
          refine J_icmp_le (pa := some ()) (pb := none) (o := ()) (tgt := 89) X d_Mod_lacking_82 (by decide) (by decide) (fun _ _ => ?_) (fun _ h => by cases h)
          refine J_iload X d_Mod_lacking_89 0 rfl ?_
          refine J_istore (lv' := [(5, .int (zI 0)), (4, .int (zI 0)), (3, .int (zI 0)), (0, .ref (ad 0)), (1, .int (zI x1)), (2, .int (zI x2))]) X d_Mod_lacking_91 (by decide) rfl ?_
          refine J_aload_n X d_Mod_lacking_93 rfl 3 rfl ?_
          refine J_get X (j_in in_Mod) 0 rfl rfl 49 (by decide) (j_m own_Mod_lacking (by decide +kernel)) rfl d_Mod_lacking_94 ?_
          refine J_iload_n X d_Mod_lacking_97 rfl 5 rfl ?_
          refine J_aload_n X d_Mod_lacking_98 rfl 3 rfl ?_
          refine J_get X (j_in in_Mod) 0 rfl rfl 1 (by decide) (j_m own_Mod_lacking (by decide +kernel)) rfl d_Mod_lacking_99 ?_
          refine J_iload_n X d_Mod_lacking_102 rfl 5 rfl ?_
          obtain ⟨g79, h⟩ := wk_g h
          refine J_iald X 1 0 rfl rfl g79 d_Mod_lacking_103 ?_
          refine J_if_ne (tgt := 117) X d_Mod_lacking_104 (by decide) h (fun c80 h => ?_) (fun c80 h => ?_)
          · refine J_aload_n X d_Mod_lacking_117 rfl 3 rfl ?_
            refine J_get X (j_in in_Mod) 0 rfl rfl 1 (by decide) (j_m own_Mod_lacking (by decide +kernel)) rfl d_Mod_lacking_118 ?_
            refine J_iload_n X d_Mod_lacking_121 rfl 5 rfl ?_
            obtain ⟨g81, h⟩ := wk_g h
            refine J_iald X 1 0 rfl rfl g81 d_Mod_lacking_122 ?_
            refine J_iconst X d_Mod_lacking_123 ?_
            refine J_icmp_ne (tgt := 139) X d_Mod_lacking_124 (by decide) h (fun c82 h => ?_) (fun c82 h => ?_)
            · refine J_iload X d_Mod_lacking_139 0 rfl ?_
              obtain ⟨g83, h⟩ := wk_g h
              refine J_iast (ws' := [(ad 0, .inr (10, [.int (zI R_thrown), .ref (ad 1), .ref (ad 2), .ref (ad 3), .ref (ad 4), .ref (ad 5), .ref (ad 6), .int (zI R_used), .ref (ad 7), .int (zI R_many), .ref (ad 8), .ref (ad 9), .ref (ad 10), .ref (ad 11), .ref (ad 12), .ref (ad 13), .ref (ad 14), .ref (ad 15), .ref (ad 16), .int (zI R_values), .ref (ad 17), .int (zI R_textEnd), .ref (ad 18), .ref (ad 19), .ref (ad 20), .ref (ad 21), .int (zI R_dataEnd), .ref (ad 22), .int (zI R_rowEnd), .ref (ad 23), .ref (ad 24), .int (zI R_rowMany), .ref (ad 25), .ref (ad 26), .ref (ad 27), .ref (ad 28), .int (zI R_waiting), .int (zI R_mostWaiting), .int (zI R_answer), .int (zI R_steps), .int (zI R_memory), .int (zI R_maxSteps), .int (zI R_maxMemory), .int (zI R_fault), .int (zI R_result), .int (zI R_now), .int (zI R_nowRow), .int (zI R_come), .ref (ad 29), .ref (ad 30), .int (zI R_puts), .ref (ad 31)])), (ad 1, .inl (cI, 200, .inl (zA R_kinds))), (ad 2, .inl (cL, 200, .inr (.inl (zB R_numbers)))), (ad 3, .inl (cI, 200, .inl (zA R_firsts))), (ad 4, .inl (cI, 200, .inl (zA R_seconds))), (ad 5, .inl (cI, 200, .inl (zA R_sizes))), (ad 7, .inl (cI, 200, .inl (zA R_terms))), (ad 30, .inl (cI, 200, .inl (zA (upZ R_lacks x2 0))))]) X 7 0 rfl rfl g83 d_Mod_lacking_141 rfl ?_
              refine J_iinc (lv' := [(2, .int (zI (x2 + 1))), (5, .int (zI 0)), (4, .int (zI 0)), (3, .int (zI 0)), (0, .ref (ad 0)), (1, .int (zI x1))]) X d_Mod_lacking_142 5 rfl (by decide) rfl ?_
              refine J_goto (tgt := 23) X d_Mod_lacking_145 (by decide) ?_
              refine J_lv (lv' := [(0, .ref (ad 0)), (1, .int (zI x1)), (2, .int (zI (x2 + 1)))]) [4, 5, 0] rfl ?_
              exact ih _ _ h hk
            · refine J_iload X d_Mod_lacking_127 0 rfl ?_
              refine J_if_le (pa := some ()) (pb := none) (o := ()) (tgt := 139) X d_Mod_lacking_129 (by decide) (by decide) (fun _ _ => ?_) (fun _ h => by cases h)
              refine J_iload X d_Mod_lacking_139 0 rfl ?_
              obtain ⟨g84, h⟩ := wk_g h
              refine J_iast (ws' := [(ad 0, .inr (10, [.int (zI R_thrown), .ref (ad 1), .ref (ad 2), .ref (ad 3), .ref (ad 4), .ref (ad 5), .ref (ad 6), .int (zI R_used), .ref (ad 7), .int (zI R_many), .ref (ad 8), .ref (ad 9), .ref (ad 10), .ref (ad 11), .ref (ad 12), .ref (ad 13), .ref (ad 14), .ref (ad 15), .ref (ad 16), .int (zI R_values), .ref (ad 17), .int (zI R_textEnd), .ref (ad 18), .ref (ad 19), .ref (ad 20), .ref (ad 21), .int (zI R_dataEnd), .ref (ad 22), .int (zI R_rowEnd), .ref (ad 23), .ref (ad 24), .int (zI R_rowMany), .ref (ad 25), .ref (ad 26), .ref (ad 27), .ref (ad 28), .int (zI R_waiting), .int (zI R_mostWaiting), .int (zI R_answer), .int (zI R_steps), .int (zI R_memory), .int (zI R_maxSteps), .int (zI R_maxMemory), .int (zI R_fault), .int (zI R_result), .int (zI R_now), .int (zI R_nowRow), .int (zI R_come), .ref (ad 29), .ref (ad 30), .int (zI R_puts), .ref (ad 31)])), (ad 1, .inl (cI, 200, .inl (zA R_kinds))), (ad 2, .inl (cL, 200, .inr (.inl (zB R_numbers)))), (ad 3, .inl (cI, 200, .inl (zA R_firsts))), (ad 4, .inl (cI, 200, .inl (zA R_seconds))), (ad 5, .inl (cI, 200, .inl (zA R_sizes))), (ad 7, .inl (cI, 200, .inl (zA R_terms))), (ad 30, .inl (cI, 200, .inl (zA (upZ R_lacks x2 0))))]) X 7 0 rfl rfl g84 d_Mod_lacking_141 rfl ?_
              refine J_iinc (lv' := [(2, .int (zI (x2 + 1))), (5, .int (zI 0)), (4, .int (zI 0)), (3, .int (zI 0)), (0, .ref (ad 0)), (1, .int (zI x1))]) X d_Mod_lacking_142 5 rfl (by decide) rfl ?_
              refine J_goto (tgt := 23) X d_Mod_lacking_145 (by decide) ?_
              refine J_lv (lv' := [(0, .ref (ad 0)), (1, .int (zI x1)), (2, .int (zI (x2 + 1)))]) [4, 5, 0] rfl ?_
              exact ih _ _ h hk
          · refine J_aload_n X d_Mod_lacking_107 rfl 3 rfl ?_
            refine J_get X (j_in in_Mod) 0 rfl rfl 2 (by decide) (j_m own_Mod_lacking (by decide +kernel)) rfl d_Mod_lacking_108 ?_
            refine J_iload_n X d_Mod_lacking_111 rfl 5 rfl ?_
            obtain ⟨g85, h⟩ := wk_g h
            refine J_lald X 2 1 rfl rfl g85 d_Mod_lacking_112 ?_
            refine J_l2i X d_Mod_lacking_113 ?_
            refine J_goto (tgt := 141) X d_Mod_lacking_114 (by decide) ?_
            obtain ⟨g86, h⟩ := wk_g h
            refine J_iast (ws' := [(ad 0, .inr (10, [.int (zI R_thrown), .ref (ad 1), .ref (ad 2), .ref (ad 3), .ref (ad 4), .ref (ad 5), .ref (ad 6), .int (zI R_used), .ref (ad 7), .int (zI R_many), .ref (ad 8), .ref (ad 9), .ref (ad 10), .ref (ad 11), .ref (ad 12), .ref (ad 13), .ref (ad 14), .ref (ad 15), .ref (ad 16), .int (zI R_values), .ref (ad 17), .int (zI R_textEnd), .ref (ad 18), .ref (ad 19), .ref (ad 20), .ref (ad 21), .int (zI R_dataEnd), .ref (ad 22), .int (zI R_rowEnd), .ref (ad 23), .ref (ad 24), .int (zI R_rowMany), .ref (ad 25), .ref (ad 26), .ref (ad 27), .ref (ad 28), .int (zI R_waiting), .int (zI R_mostWaiting), .int (zI R_answer), .int (zI R_steps), .int (zI R_memory), .int (zI R_maxSteps), .int (zI R_maxMemory), .int (zI R_fault), .int (zI R_result), .int (zI R_now), .int (zI R_nowRow), .int (zI R_come), .ref (ad 29), .ref (ad 30), .int (zI R_puts), .ref (ad 31)])), (ad 1, .inl (cI, 200, .inl (zA R_kinds))), (ad 2, .inl (cL, 200, .inr (.inl (zB R_numbers)))), (ad 3, .inl (cI, 200, .inl (zA R_firsts))), (ad 4, .inl (cI, 200, .inl (zA R_seconds))), (ad 5, .inl (cI, 200, .inl (zA R_sizes))), (ad 7, .inl (cI, 200, .inl (zA R_terms))), (ad 30, .inl (cI, 200, .inl (zA (upZ R_lacks x2 (R_numbers x2)))))]) X 7 0 rfl rfl g86 d_Mod_lacking_141 rfl ?_
            refine J_iinc (lv' := [(2, .int (zI (x2 + 1))), (5, .int (zI 0)), (4, .int (zI 0)), (3, .int (zI 0)), (0, .ref (ad 0)), (1, .int (zI x1))]) X d_Mod_lacking_142 5 rfl (by decide) rfl ?_
            refine J_goto (tgt := 23) X d_Mod_lacking_145 (by decide) ?_
            refine J_lv (lv' := [(0, .ref (ad 0)), (1, .int (zI x1)), (2, .int (zI (x2 + 1)))]) [4, 5, 0] rfl ?_
            exact ih _ _ h hk
set_option maxHeartbeats 4000000 in
set_option maxRecDepth 100000 in
theorem c_Mod_lacking {l : Launch} {D : va_G} {cI cL cB : ClassId} {ad : Nat → Nat} {N : Nat} {R_thrown : Int} {R_used : Int} {R_many : Int} {R_values : Int} {R_textEnd : Int} {R_dataEnd : Int} {R_rowEnd : Int} {R_rowMany : Int} {R_waiting : Int} {R_mostWaiting : Int} {R_answer : Int} {R_steps : Int} {R_memory : Int} {R_maxSteps : Int} {R_maxMemory : Int} {R_fault : Int} {R_result : Int} {R_now : Int} {R_nowRow : Int} {R_come : Int} {R_puts : Int} {R_kinds : Int → Int} {R_numbers : Int → Int} {R_firsts : Int → Int} {R_seconds : Int → Int} {R_sizes : Int → Int} {R_terms : Int → Int} {R_lacks : Int → Int} {out : Int × (Int → Int)} (h : f_Mod_lacking N R_many R_kinds R_numbers R_firsts R_seconds R_sizes R_terms R_lacks = some out) : CT jF0 false l D [(cI, .int), (cL, .long), (cB, .byte)] y_Mod_lacking w_Mod_lacking ({ frames := 0, cells := 0, slots := 0, locals := 0 } : Room) [.ref (ad 0)] [(ad 0, .inr (10, [.int (zI R_thrown), .ref (ad 1), .ref (ad 2), .ref (ad 3), .ref (ad 4), .ref (ad 5), .ref (ad 6), .int (zI R_used), .ref (ad 7), .int (zI R_many), .ref (ad 8), .ref (ad 9), .ref (ad 10), .ref (ad 11), .ref (ad 12), .ref (ad 13), .ref (ad 14), .ref (ad 15), .ref (ad 16), .int (zI R_values), .ref (ad 17), .int (zI R_textEnd), .ref (ad 18), .ref (ad 19), .ref (ad 20), .ref (ad 21), .int (zI R_dataEnd), .ref (ad 22), .int (zI R_rowEnd), .ref (ad 23), .ref (ad 24), .int (zI R_rowMany), .ref (ad 25), .ref (ad 26), .ref (ad 27), .ref (ad 28), .int (zI R_waiting), .int (zI R_mostWaiting), .int (zI R_answer), .int (zI R_steps), .int (zI R_memory), .int (zI R_maxSteps), .int (zI R_maxMemory), .int (zI R_fault), .int (zI R_result), .int (zI R_now), .int (zI R_nowRow), .int (zI R_come), .ref (ad 29), .ref (ad 30), .int (zI R_puts), .ref (ad 31)])), (ad 1, .inl (cI, 200, .inl (zA R_kinds))), (ad 2, .inl (cL, 200, .inr (.inl (zB R_numbers)))), (ad 3, .inl (cI, 200, .inl (zA R_firsts))), (ad 4, .inl (cI, 200, .inl (zA R_seconds))), (ad 5, .inl (cI, 200, .inl (zA R_sizes))), (ad 7, .inl (cI, 200, .inl (zA R_terms))), (ad 30, .inl (cI, 200, .inl (zA R_lacks)))] (some (.int (zI out.1))) [(ad 0, .inr (10, [.int (zI R_thrown), .ref (ad 1), .ref (ad 2), .ref (ad 3), .ref (ad 4), .ref (ad 5), .ref (ad 6), .int (zI R_used), .ref (ad 7), .int (zI R_many), .ref (ad 8), .ref (ad 9), .ref (ad 10), .ref (ad 11), .ref (ad 12), .ref (ad 13), .ref (ad 14), .ref (ad 15), .ref (ad 16), .int (zI R_values), .ref (ad 17), .int (zI R_textEnd), .ref (ad 18), .ref (ad 19), .ref (ad 20), .ref (ad 21), .int (zI R_dataEnd), .ref (ad 22), .int (zI R_rowEnd), .ref (ad 23), .ref (ad 24), .int (zI R_rowMany), .ref (ad 25), .ref (ad 26), .ref (ad 27), .ref (ad 28), .int (zI R_waiting), .int (zI R_mostWaiting), .int (zI R_answer), .int (zI R_steps), .int (zI R_memory), .int (zI R_maxSteps), .int (zI R_maxMemory), .int (zI R_fault), .int (zI R_result), .int (zI R_now), .int (zI R_nowRow), .int (zI R_come), .ref (ad 29), .ref (ad 30), .int (zI R_puts), .ref (ad 31)])), (ad 1, .inl (cI, 200, .inl (zA R_kinds))), (ad 2, .inl (cL, 200, .inr (.inl (zB R_numbers)))), (ad 3, .inl (cI, 200, .inl (zA R_firsts))), (ad 4, .inl (cI, 200, .inl (zA R_seconds))), (ad 5, .inl (cI, 200, .inl (zA R_sizes))), (ad 7, .inl (cI, 200, .inl (zA R_terms))), (ad 30, .inl (cI, 200, .inl (zA (out.2))))] 0 0 := by
  refine CT_of_J (cc := b_Mod_lacking) (maxL := 6) (ret := (some .int)) jF0_k (plainFor_of_name (by decide)) rfl (Nat.le_of_ble_eq_true rfl) ?_
  intro K hKl hKD X E
  subst hKl; subst hKD
  unfold f_Mod_lacking at h
  refine J_aload_n X d_Mod_lacking_0 rfl 0 rfl ?_
  refine J_get X (j_in in_Mod) 0 rfl rfl 8 (by decide) (j_m own_Mod_lacking (by decide +kernel)) rfl d_Mod_lacking_1 ?_
  refine J_aload_n X d_Mod_lacking_4 rfl 0 rfl ?_
  refine J_get X (j_in in_Mod) 0 rfl rfl 9 (by decide) (j_m own_Mod_lacking (by decide +kernel)) rfl d_Mod_lacking_5 ?_
  refine J_iconst X d_Mod_lacking_8 ?_
  refine J_isub X d_Mod_lacking_9 ?_
  obtain ⟨g1, h⟩ := wk_g h
  refine J_iald X 6 0 rfl rfl g1 d_Mod_lacking_10 ?_
  refine J_istore_n (lv' := [(1, .int (zI (R_terms (R_many - 1)))), (0, .ref (ad 0))]) X d_Mod_lacking_11 rfl (by decide) rfl ?_
  refine J_iload_n X d_Mod_lacking_12 rfl 0 rfl ?_
  refine J_aload_n X d_Mod_lacking_13 rfl 1 rfl ?_
  refine J_get X (j_in in_Mod) 0 rfl rfl 5 (by decide) (j_m own_Mod_lacking (by decide +kernel)) rfl d_Mod_lacking_14 ?_
  refine J_iload_n X d_Mod_lacking_17 rfl 0 rfl ?_
  obtain ⟨g2, h⟩ := wk_g h
  refine J_iald X 5 0 rfl rfl g2 d_Mod_lacking_18 ?_
  refine J_isub X d_Mod_lacking_19 ?_
  refine J_iconst X d_Mod_lacking_20 ?_
  refine J_iadd X d_Mod_lacking_21 ?_
  refine J_istore_n (lv' := [(2, .int (zI (((R_terms (R_many - 1)) - (R_sizes (R_terms (R_many - 1)))) + 1))), (1, .int (zI (R_terms (R_many - 1)))), (0, .ref (ad 0))]) X d_Mod_lacking_22 rfl (by decide) rfl ?_
  refine J_lv (lv' := [(0, .ref (ad 0)), (1, .int (zI (R_terms (R_many - 1)))), (2, .int (zI (((R_terms (R_many - 1)) - (R_sizes (R_terms (R_many - 1)))) + 1)))]) [2, 1, 0] rfl ?_
  obtain ⟨x2_3, R_lacks_4, q5, h⟩ := wk_b2 h
  refine k_Mod_lacking_L23 X _ _ _ q5 ?_
  refine J_aload_n X d_Mod_lacking_148 rfl 0 rfl ?_
  refine J_get X (j_in in_Mod) 0 rfl rfl 49 (by decide) (j_m own_Mod_lacking (by decide +kernel)) rfl d_Mod_lacking_149 ?_
  refine J_iload_n X d_Mod_lacking_152 rfl 1 rfl ?_
  obtain ⟨g6, h⟩ := wk_g h
  refine J_iald X 7 0 rfl rfl g6 d_Mod_lacking_153 ?_
  cases h
  exact J_ret E ⟨_, rfl, rfl⟩ d_Mod_lacking_154 (Nat.le_refl _) (Nat.le_refl _) rfl

theorem d_Mod_make_0 : decode b_Mod_make 0 = .ok (.aload_n 0, 1) := by decide +kernel
theorem d_Mod_make_1 : decode b_Mod_make 1 = .ok (.getfield 33, 3) := by decide +kernel
theorem d_Mod_make_4 : decode b_Mod_make 4 = .ok (.aload_n 0, 1) := by decide +kernel
theorem d_Mod_make_5 : decode b_Mod_make 5 = .ok (.getfield 138, 3) := by decide +kernel
theorem d_Mod_make_8 : decode b_Mod_make 8 = .ok (.iload_n 1, 1) := by decide +kernel
theorem d_Mod_make_9 : decode b_Mod_make 9 = .ok (.iastore, 1) := by decide +kernel
theorem d_Mod_make_10 : decode b_Mod_make 10 = .ok (.aload_n 0, 1) := by decide +kernel
theorem d_Mod_make_11 : decode b_Mod_make 11 = .ok (.getfield 36, 3) := by decide +kernel
theorem d_Mod_make_14 : decode b_Mod_make 14 = .ok (.aload_n 0, 1) := by decide +kernel
theorem d_Mod_make_15 : decode b_Mod_make 15 = .ok (.getfield 138, 3) := by decide +kernel
theorem d_Mod_make_18 : decode b_Mod_make 18 = .ok (.lload_n 2, 1) := by decide +kernel
theorem d_Mod_make_19 : decode b_Mod_make 19 = .ok (.lastore, 1) := by decide +kernel
theorem d_Mod_make_20 : decode b_Mod_make 20 = .ok (.aload_n 0, 1) := by decide +kernel
theorem d_Mod_make_21 : decode b_Mod_make 21 = .ok (.getfield 51, 3) := by decide +kernel
theorem d_Mod_make_24 : decode b_Mod_make 24 = .ok (.aload_n 0, 1) := by decide +kernel
theorem d_Mod_make_25 : decode b_Mod_make 25 = .ok (.getfield 138, 3) := by decide +kernel
theorem d_Mod_make_28 : decode b_Mod_make 28 = .ok (.iconst 0, 1) := by decide +kernel
theorem d_Mod_make_29 : decode b_Mod_make 29 = .ok (.iastore, 1) := by decide +kernel
theorem d_Mod_make_30 : decode b_Mod_make 30 = .ok (.aload_n 0, 1) := by decide +kernel
theorem d_Mod_make_31 : decode b_Mod_make 31 = .ok (.dup, 1) := by decide +kernel
theorem d_Mod_make_32 : decode b_Mod_make 32 = .ok (.getfield 138, 3) := by decide +kernel
theorem d_Mod_make_35 : decode b_Mod_make 35 = .ok (.iconst 1, 1) := by decide +kernel
theorem d_Mod_make_36 : decode b_Mod_make 36 = .ok (.iadd, 1) := by decide +kernel
theorem d_Mod_make_37 : decode b_Mod_make 37 = .ok (.putfield 138, 3) := by decide +kernel
theorem d_Mod_make_40 : decode b_Mod_make 40 = .ok (.aload_n 0, 1) := by decide +kernel
theorem d_Mod_make_41 : decode b_Mod_make 41 = .ok (.getfield 138, 3) := by decide +kernel
theorem d_Mod_make_44 : decode b_Mod_make 44 = .ok (.iconst 1, 1) := by decide +kernel
theorem d_Mod_make_45 : decode b_Mod_make 45 = .ok (.isub, 1) := by decide +kernel
theorem d_Mod_make_46 : decode b_Mod_make 46 = .ok (.ireturn, 1) := by decide +kernel
def f_Mod_make (R_values : Int) (R_valueKinds : Int → Int) (R_valueNumbers : Int → Int) (R_given : Int → Int) (p1 : Int) (p2 : Int) : Option (Int × Int × (Int → Int) × (Int → Int) × (Int → Int)) :=
  if jix R_values 3700 = true then (
   if jix R_values 3700 = true then (
    if jix R_values 3700 = true then (
     some (((R_values + 1) - 1), (R_values + 1), (upZ R_valueKinds R_values p1), (upZ R_valueNumbers R_values p2), (upZ R_given R_values 0))) else none) else none) else none
set_option maxHeartbeats 4000000 in
set_option maxRecDepth 100000 in
theorem c_Mod_make {l : Launch} {D : va_G} {cI cL cB : ClassId} {ad : Nat → Nat} {R_thrown : Int} {R_used : Int} {R_many : Int} {R_values : Int} {R_textEnd : Int} {R_dataEnd : Int} {R_rowEnd : Int} {R_rowMany : Int} {R_waiting : Int} {R_mostWaiting : Int} {R_answer : Int} {R_steps : Int} {R_memory : Int} {R_maxSteps : Int} {R_maxMemory : Int} {R_fault : Int} {R_result : Int} {R_now : Int} {R_nowRow : Int} {R_come : Int} {R_puts : Int} {R_valueKinds : Int → Int} {R_valueNumbers : Int → Int} {R_given : Int → Int} {p1 : Int} {p2 : Int} {out : Int × Int × (Int → Int) × (Int → Int) × (Int → Int)} (h : f_Mod_make R_values R_valueKinds R_valueNumbers R_given p1 p2 = some out) : CT jF0 false l D [(cI, .int), (cL, .long), (cB, .byte)] y_Mod_make w_Mod_make ({ frames := 0, cells := 0, slots := 0, locals := 0 } : Room) [.ref (ad 0), .int (zI p1), .long (zL p2)] [(ad 0, .inr (10, [.int (zI R_thrown), .ref (ad 1), .ref (ad 2), .ref (ad 3), .ref (ad 4), .ref (ad 5), .ref (ad 6), .int (zI R_used), .ref (ad 7), .int (zI R_many), .ref (ad 8), .ref (ad 9), .ref (ad 10), .ref (ad 11), .ref (ad 12), .ref (ad 13), .ref (ad 14), .ref (ad 15), .ref (ad 16), .int (zI R_values), .ref (ad 17), .int (zI R_textEnd), .ref (ad 18), .ref (ad 19), .ref (ad 20), .ref (ad 21), .int (zI R_dataEnd), .ref (ad 22), .int (zI R_rowEnd), .ref (ad 23), .ref (ad 24), .int (zI R_rowMany), .ref (ad 25), .ref (ad 26), .ref (ad 27), .ref (ad 28), .int (zI R_waiting), .int (zI R_mostWaiting), .int (zI R_answer), .int (zI R_steps), .int (zI R_memory), .int (zI R_maxSteps), .int (zI R_maxMemory), .int (zI R_fault), .int (zI R_result), .int (zI R_now), .int (zI R_nowRow), .int (zI R_come), .ref (ad 29), .ref (ad 30), .int (zI R_puts), .ref (ad 31)])), (ad 8, .inl (cI, 3700, .inl (zA R_valueKinds))), (ad 9, .inl (cL, 3700, .inr (.inl (zB R_valueNumbers)))), (ad 14, .inl (cI, 3700, .inl (zA R_given)))] (some (.int (zI out.1))) [(ad 0, .inr (10, [.int (zI R_thrown), .ref (ad 1), .ref (ad 2), .ref (ad 3), .ref (ad 4), .ref (ad 5), .ref (ad 6), .int (zI R_used), .ref (ad 7), .int (zI R_many), .ref (ad 8), .ref (ad 9), .ref (ad 10), .ref (ad 11), .ref (ad 12), .ref (ad 13), .ref (ad 14), .ref (ad 15), .ref (ad 16), .int (zI (out.2.1)), .ref (ad 17), .int (zI R_textEnd), .ref (ad 18), .ref (ad 19), .ref (ad 20), .ref (ad 21), .int (zI R_dataEnd), .ref (ad 22), .int (zI R_rowEnd), .ref (ad 23), .ref (ad 24), .int (zI R_rowMany), .ref (ad 25), .ref (ad 26), .ref (ad 27), .ref (ad 28), .int (zI R_waiting), .int (zI R_mostWaiting), .int (zI R_answer), .int (zI R_steps), .int (zI R_memory), .int (zI R_maxSteps), .int (zI R_maxMemory), .int (zI R_fault), .int (zI R_result), .int (zI R_now), .int (zI R_nowRow), .int (zI R_come), .ref (ad 29), .ref (ad 30), .int (zI R_puts), .ref (ad 31)])), (ad 8, .inl (cI, 3700, .inl (zA (out.2.2.1)))), (ad 9, .inl (cL, 3700, .inr (.inl (zB (out.2.2.2.1))))), (ad 14, .inl (cI, 3700, .inl (zA (out.2.2.2.2))))] 0 0 := by
  refine CT_of_J (cc := b_Mod_make) (maxL := 4) (ret := (some .int)) jF0_k (plainFor_of_name (by decide)) rfl (Nat.le_of_ble_eq_true rfl) ?_
  intro K hKl hKD X E
  subst hKl; subst hKD
  unfold f_Mod_make at h
  refine J_aload_n X d_Mod_make_0 rfl 0 rfl ?_
  refine J_get X (j_in in_Mod) 0 rfl rfl 10 (by decide) (j_m own_Mod_make (by decide +kernel)) rfl d_Mod_make_1 ?_
  refine J_aload_n X d_Mod_make_4 rfl 0 rfl ?_
  refine J_get X (j_in in_Mod) 0 rfl rfl 19 (by decide) (j_m own_Mod_make (by decide +kernel)) rfl d_Mod_make_5 ?_
  refine J_iload_n X d_Mod_make_8 rfl 1 rfl ?_
  obtain ⟨g1, h⟩ := wk_g h
  refine J_iast (ws' := [(ad 0, .inr (10, [.int (zI R_thrown), .ref (ad 1), .ref (ad 2), .ref (ad 3), .ref (ad 4), .ref (ad 5), .ref (ad 6), .int (zI R_used), .ref (ad 7), .int (zI R_many), .ref (ad 8), .ref (ad 9), .ref (ad 10), .ref (ad 11), .ref (ad 12), .ref (ad 13), .ref (ad 14), .ref (ad 15), .ref (ad 16), .int (zI R_values), .ref (ad 17), .int (zI R_textEnd), .ref (ad 18), .ref (ad 19), .ref (ad 20), .ref (ad 21), .int (zI R_dataEnd), .ref (ad 22), .int (zI R_rowEnd), .ref (ad 23), .ref (ad 24), .int (zI R_rowMany), .ref (ad 25), .ref (ad 26), .ref (ad 27), .ref (ad 28), .int (zI R_waiting), .int (zI R_mostWaiting), .int (zI R_answer), .int (zI R_steps), .int (zI R_memory), .int (zI R_maxSteps), .int (zI R_maxMemory), .int (zI R_fault), .int (zI R_result), .int (zI R_now), .int (zI R_nowRow), .int (zI R_come), .ref (ad 29), .ref (ad 30), .int (zI R_puts), .ref (ad 31)])), (ad 8, .inl (cI, 3700, .inl (zA (upZ R_valueKinds R_values p1)))), (ad 9, .inl (cL, 3700, .inr (.inl (zB R_valueNumbers)))), (ad 14, .inl (cI, 3700, .inl (zA R_given)))]) X 1 0 rfl rfl g1 d_Mod_make_9 rfl ?_
  refine J_aload_n X d_Mod_make_10 rfl 0 rfl ?_
  refine J_get X (j_in in_Mod) 0 rfl rfl 11 (by decide) (j_m own_Mod_make (by decide +kernel)) rfl d_Mod_make_11 ?_
  refine J_aload_n X d_Mod_make_14 rfl 0 rfl ?_
  refine J_get X (j_in in_Mod) 0 rfl rfl 19 (by decide) (j_m own_Mod_make (by decide +kernel)) rfl d_Mod_make_15 ?_
  refine J_lload_n X d_Mod_make_18 rfl 2 rfl ?_
  obtain ⟨g2, h⟩ := wk_g h
  refine J_last (ws' := [(ad 0, .inr (10, [.int (zI R_thrown), .ref (ad 1), .ref (ad 2), .ref (ad 3), .ref (ad 4), .ref (ad 5), .ref (ad 6), .int (zI R_used), .ref (ad 7), .int (zI R_many), .ref (ad 8), .ref (ad 9), .ref (ad 10), .ref (ad 11), .ref (ad 12), .ref (ad 13), .ref (ad 14), .ref (ad 15), .ref (ad 16), .int (zI R_values), .ref (ad 17), .int (zI R_textEnd), .ref (ad 18), .ref (ad 19), .ref (ad 20), .ref (ad 21), .int (zI R_dataEnd), .ref (ad 22), .int (zI R_rowEnd), .ref (ad 23), .ref (ad 24), .int (zI R_rowMany), .ref (ad 25), .ref (ad 26), .ref (ad 27), .ref (ad 28), .int (zI R_waiting), .int (zI R_mostWaiting), .int (zI R_answer), .int (zI R_steps), .int (zI R_memory), .int (zI R_maxSteps), .int (zI R_maxMemory), .int (zI R_fault), .int (zI R_result), .int (zI R_now), .int (zI R_nowRow), .int (zI R_come), .ref (ad 29), .ref (ad 30), .int (zI R_puts), .ref (ad 31)])), (ad 8, .inl (cI, 3700, .inl (zA (upZ R_valueKinds R_values p1)))), (ad 9, .inl (cL, 3700, .inr (.inl (zB (upZ R_valueNumbers R_values p2))))), (ad 14, .inl (cI, 3700, .inl (zA R_given)))]) X 2 1 rfl rfl g2 d_Mod_make_19 rfl ?_
  refine J_aload_n X d_Mod_make_20 rfl 0 rfl ?_
  refine J_get X (j_in in_Mod) 0 rfl rfl 16 (by decide) (j_m own_Mod_make (by decide +kernel)) rfl d_Mod_make_21 ?_
  refine J_aload_n X d_Mod_make_24 rfl 0 rfl ?_
  refine J_get X (j_in in_Mod) 0 rfl rfl 19 (by decide) (j_m own_Mod_make (by decide +kernel)) rfl d_Mod_make_25 ?_
  refine J_iconst X d_Mod_make_28 ?_
  obtain ⟨g3, h⟩ := wk_g h
  refine J_iast (ws' := [(ad 0, .inr (10, [.int (zI R_thrown), .ref (ad 1), .ref (ad 2), .ref (ad 3), .ref (ad 4), .ref (ad 5), .ref (ad 6), .int (zI R_used), .ref (ad 7), .int (zI R_many), .ref (ad 8), .ref (ad 9), .ref (ad 10), .ref (ad 11), .ref (ad 12), .ref (ad 13), .ref (ad 14), .ref (ad 15), .ref (ad 16), .int (zI R_values), .ref (ad 17), .int (zI R_textEnd), .ref (ad 18), .ref (ad 19), .ref (ad 20), .ref (ad 21), .int (zI R_dataEnd), .ref (ad 22), .int (zI R_rowEnd), .ref (ad 23), .ref (ad 24), .int (zI R_rowMany), .ref (ad 25), .ref (ad 26), .ref (ad 27), .ref (ad 28), .int (zI R_waiting), .int (zI R_mostWaiting), .int (zI R_answer), .int (zI R_steps), .int (zI R_memory), .int (zI R_maxSteps), .int (zI R_maxMemory), .int (zI R_fault), .int (zI R_result), .int (zI R_now), .int (zI R_nowRow), .int (zI R_come), .ref (ad 29), .ref (ad 30), .int (zI R_puts), .ref (ad 31)])), (ad 8, .inl (cI, 3700, .inl (zA (upZ R_valueKinds R_values p1)))), (ad 9, .inl (cL, 3700, .inr (.inl (zB (upZ R_valueNumbers R_values p2))))), (ad 14, .inl (cI, 3700, .inl (zA (upZ R_given R_values 0))))]) X 3 0 rfl rfl g3 d_Mod_make_29 rfl ?_
  refine J_aload_n X d_Mod_make_30 rfl 0 rfl ?_
  refine J_dup X d_Mod_make_31 rfl ?_
  refine J_get X (j_in in_Mod) 0 rfl rfl 19 (by decide) (j_m own_Mod_make (by decide +kernel)) rfl d_Mod_make_32 ?_
  refine J_iconst X d_Mod_make_35 ?_
  refine J_iadd X d_Mod_make_36 ?_
  refine J_put (ws' := [(ad 0, .inr (10, [.int (zI R_thrown), .ref (ad 1), .ref (ad 2), .ref (ad 3), .ref (ad 4), .ref (ad 5), .ref (ad 6), .int (zI R_used), .ref (ad 7), .int (zI R_many), .ref (ad 8), .ref (ad 9), .ref (ad 10), .ref (ad 11), .ref (ad 12), .ref (ad 13), .ref (ad 14), .ref (ad 15), .ref (ad 16), .int (zI (R_values + 1)), .ref (ad 17), .int (zI R_textEnd), .ref (ad 18), .ref (ad 19), .ref (ad 20), .ref (ad 21), .int (zI R_dataEnd), .ref (ad 22), .int (zI R_rowEnd), .ref (ad 23), .ref (ad 24), .int (zI R_rowMany), .ref (ad 25), .ref (ad 26), .ref (ad 27), .ref (ad 28), .int (zI R_waiting), .int (zI R_mostWaiting), .int (zI R_answer), .int (zI R_steps), .int (zI R_memory), .int (zI R_maxSteps), .int (zI R_maxMemory), .int (zI R_fault), .int (zI R_result), .int (zI R_now), .int (zI R_nowRow), .int (zI R_come), .ref (ad 29), .ref (ad 30), .int (zI R_puts), .ref (ad 31)])), (ad 8, .inl (cI, 3700, .inl (zA (upZ R_valueKinds R_values p1)))), (ad 9, .inl (cL, 3700, .inr (.inl (zB (upZ R_valueNumbers R_values p2))))), (ad 14, .inl (cI, 3700, .inl (zA (upZ R_given R_values 0))))]) X (j_in in_Mod) ty_Mod tok_Mod nm_Mod 0 rfl rfl 19 (by decide) (j_m own_Mod_make (by decide +kernel)) rfl rfl rfl (Nat.le_of_ble_eq_true rfl) d_Mod_make_37 rfl ?_
  refine J_aload_n X d_Mod_make_40 rfl 0 rfl ?_
  refine J_get X (j_in in_Mod) 0 rfl rfl 19 (by decide) (j_m own_Mod_make (by decide +kernel)) rfl d_Mod_make_41 ?_
  refine J_iconst X d_Mod_make_44 ?_
  refine J_isub X d_Mod_make_45 ?_
  cases h
  exact J_ret E ⟨_, rfl, rfl⟩ d_Mod_make_46 (Nat.le_refl _) (Nat.le_refl _) rfl

theorem d_Mod_truth_0 : decode b_Mod_truth 0 = .ok (.aload_n 0, 1) := by decide +kernel
theorem d_Mod_truth_1 : decode b_Mod_truth 1 = .ok (.iconst 2, 1) := by decide +kernel
theorem d_Mod_truth_2 : decode b_Mod_truth 2 = .ok (.iload_n 1, 1) := by decide +kernel
theorem d_Mod_truth_3 : decode b_Mod_truth 3 = .ok (.ifCond .eq 7, 3) := by decide +kernel
theorem d_Mod_truth_6 : decode b_Mod_truth 6 = .ok (.lconst 1, 1) := by decide +kernel
theorem d_Mod_truth_7 : decode b_Mod_truth 7 = .ok (.goto 4, 3) := by decide +kernel
theorem d_Mod_truth_10 : decode b_Mod_truth 10 = .ok (.lconst 0, 1) := by decide +kernel
theorem d_Mod_truth_11 : decode b_Mod_truth 11 = .ok (.invokevirtual 141, 3) := by decide +kernel
theorem d_Mod_truth_14 : decode b_Mod_truth 14 = .ok (.ireturn, 1) := by decide +kernel
def f_Mod_truth (R_values : Int) (R_valueKinds : Int → Int) (R_valueNumbers : Int → Int) (R_given : Int → Int) (p1 : Int) : Option (Int × Int × (Int → Int) × (Int → Int) × (Int → Int)) :=
  if rI p1 = true then (if p1 = 0 then (
   ob5 (f_Mod_make R_values R_valueKinds R_valueNumbers R_given 2 0) (fun r2 R_values_3 R_valueKinds_4 R_valueNumbers_5 R_given_6 =>
    some (r2, R_values_3, R_valueKinds_4, R_valueNumbers_5, R_given_6))) else (
   ob5 (f_Mod_make R_values R_valueKinds R_valueNumbers R_given 2 1) (fun r8 R_values_9 R_valueKinds_10 R_valueNumbers_11 R_given_12 =>
    some (r8, R_values_9, R_valueKinds_10, R_valueNumbers_11, R_given_12)))) else none
set_option maxHeartbeats 4000000 in
set_option maxRecDepth 100000 in
theorem c_Mod_truth {l : Launch} {D : va_G} {cI cL cB : ClassId} {ad : Nat → Nat} {R_thrown : Int} {R_used : Int} {R_many : Int} {R_values : Int} {R_textEnd : Int} {R_dataEnd : Int} {R_rowEnd : Int} {R_rowMany : Int} {R_waiting : Int} {R_mostWaiting : Int} {R_answer : Int} {R_steps : Int} {R_memory : Int} {R_maxSteps : Int} {R_maxMemory : Int} {R_fault : Int} {R_result : Int} {R_now : Int} {R_nowRow : Int} {R_come : Int} {R_puts : Int} {R_valueKinds : Int → Int} {R_valueNumbers : Int → Int} {R_given : Int → Int} {p1 : Int} {out : Int × Int × (Int → Int) × (Int → Int) × (Int → Int)} (h : f_Mod_truth R_values R_valueKinds R_valueNumbers R_given p1 = some out) : CT jF0 false l D [(cI, .int), (cL, .long), (cB, .byte)] y_Mod_truth w_Mod_truth ({ frames := 1, cells := 0, slots := 0, locals := 23 } : Room) [.ref (ad 0), .int (zI p1)] [(ad 0, .inr (10, [.int (zI R_thrown), .ref (ad 1), .ref (ad 2), .ref (ad 3), .ref (ad 4), .ref (ad 5), .ref (ad 6), .int (zI R_used), .ref (ad 7), .int (zI R_many), .ref (ad 8), .ref (ad 9), .ref (ad 10), .ref (ad 11), .ref (ad 12), .ref (ad 13), .ref (ad 14), .ref (ad 15), .ref (ad 16), .int (zI R_values), .ref (ad 17), .int (zI R_textEnd), .ref (ad 18), .ref (ad 19), .ref (ad 20), .ref (ad 21), .int (zI R_dataEnd), .ref (ad 22), .int (zI R_rowEnd), .ref (ad 23), .ref (ad 24), .int (zI R_rowMany), .ref (ad 25), .ref (ad 26), .ref (ad 27), .ref (ad 28), .int (zI R_waiting), .int (zI R_mostWaiting), .int (zI R_answer), .int (zI R_steps), .int (zI R_memory), .int (zI R_maxSteps), .int (zI R_maxMemory), .int (zI R_fault), .int (zI R_result), .int (zI R_now), .int (zI R_nowRow), .int (zI R_come), .ref (ad 29), .ref (ad 30), .int (zI R_puts), .ref (ad 31)])), (ad 8, .inl (cI, 3700, .inl (zA R_valueKinds))), (ad 9, .inl (cL, 3700, .inr (.inl (zB R_valueNumbers)))), (ad 14, .inl (cI, 3700, .inl (zA R_given)))] (some (.int (zI out.1))) [(ad 0, .inr (10, [.int (zI R_thrown), .ref (ad 1), .ref (ad 2), .ref (ad 3), .ref (ad 4), .ref (ad 5), .ref (ad 6), .int (zI R_used), .ref (ad 7), .int (zI R_many), .ref (ad 8), .ref (ad 9), .ref (ad 10), .ref (ad 11), .ref (ad 12), .ref (ad 13), .ref (ad 14), .ref (ad 15), .ref (ad 16), .int (zI (out.2.1)), .ref (ad 17), .int (zI R_textEnd), .ref (ad 18), .ref (ad 19), .ref (ad 20), .ref (ad 21), .int (zI R_dataEnd), .ref (ad 22), .int (zI R_rowEnd), .ref (ad 23), .ref (ad 24), .int (zI R_rowMany), .ref (ad 25), .ref (ad 26), .ref (ad 27), .ref (ad 28), .int (zI R_waiting), .int (zI R_mostWaiting), .int (zI R_answer), .int (zI R_steps), .int (zI R_memory), .int (zI R_maxSteps), .int (zI R_maxMemory), .int (zI R_fault), .int (zI R_result), .int (zI R_now), .int (zI R_nowRow), .int (zI R_come), .ref (ad 29), .ref (ad 30), .int (zI R_puts), .ref (ad 31)])), (ad 8, .inl (cI, 3700, .inl (zA (out.2.2.1)))), (ad 9, .inl (cL, 3700, .inr (.inl (zB (out.2.2.2.1))))), (ad 14, .inl (cI, 3700, .inl (zA (out.2.2.2.2))))] 0 0 := by
  refine CT_of_J (cc := b_Mod_truth) (maxL := 2) (ret := (some .int)) jF0_k (plainFor_of_name (by decide)) rfl (Nat.le_of_ble_eq_true rfl) ?_
  intro K hKl hKD X E
  subst hKl; subst hKD
  unfold f_Mod_truth at h
  refine J_aload_n X d_Mod_truth_0 rfl 0 rfl ?_
  refine J_iconst X d_Mod_truth_1 ?_
  refine J_iload_n X d_Mod_truth_2 rfl 1 rfl ?_
  refine J_if_eq (tgt := 10) X d_Mod_truth_3 (by decide) h (fun c1 h => ?_) (fun c1 h => ?_)
  · refine J_lconst (v := 0) X d_Mod_truth_10 (by decide) ?_
    obtain ⟨r2, R_values_3, R_valueKinds_4, R_valueNumbers_5, R_given_6, q7, h⟩ := wk_b5 h
    refine J_afterI0 (ws' := [(ad 0, .inr (10, [.int (zI R_thrown), .ref (ad 1), .ref (ad 2), .ref (ad 3), .ref (ad 4), .ref (ad 5), .ref (ad 6), .int (zI R_used), .ref (ad 7), .int (zI R_many), .ref (ad 8), .ref (ad 9), .ref (ad 10), .ref (ad 11), .ref (ad 12), .ref (ad 13), .ref (ad 14), .ref (ad 15), .ref (ad 16), .int (zI R_values_3), .ref (ad 17), .int (zI R_textEnd), .ref (ad 18), .ref (ad 19), .ref (ad 20), .ref (ad 21), .int (zI R_dataEnd), .ref (ad 22), .int (zI R_rowEnd), .ref (ad 23), .ref (ad 24), .int (zI R_rowMany), .ref (ad 25), .ref (ad 26), .ref (ad 27), .ref (ad 28), .int (zI R_waiting), .int (zI R_mostWaiting), .int (zI R_answer), .int (zI R_steps), .int (zI R_memory), .int (zI R_maxSteps), .int (zI R_maxMemory), .int (zI R_fault), .int (zI R_result), .int (zI R_now), .int (zI R_nowRow), .int (zI R_come), .ref (ad 29), .ref (ad 30), .int (zI R_puts), .ref (ad 31)])), (ad 8, .inl (cI, 3700, .inl (zA R_valueKinds_4))), (ad 9, .inl (cL, 3700, .inr (.inl (zB R_valueNumbers_5)))), (ad 14, .inl (cI, 3700, .inl (zA R_given_6)))]) X (jrunV X (c_Mod_make (ad := ad) q7) jF0_k (fun _ _ _ _ => trivial) (jgV own_Mod_truth (by decide +kernel)) rfl rfl rfl pd_Mod_make (by decide) [0, 1, 2, 3] rfl (by decide) 0 10 rfl rfl rfl rfl (Nat.le_of_ble_eq_true rfl) d_Mod_truth_11 (by decide)) [0, 1, 2, 3] [] [0, 1, 2, 3] rfl rfl (by decide) (by decide) rfl (by decide) ?_
    cases h
    exact J_ret E ⟨_, rfl, rfl⟩ d_Mod_truth_14 (Nat.le_refl _) (Nat.le_refl _) rfl
  · refine J_lconst (v := 1) X d_Mod_truth_6 (by decide) ?_
    refine J_goto (tgt := 11) X d_Mod_truth_7 (by decide) ?_
    obtain ⟨r8, R_values_9, R_valueKinds_10, R_valueNumbers_11, R_given_12, q13, h⟩ := wk_b5 h
    refine J_afterI0 (ws' := [(ad 0, .inr (10, [.int (zI R_thrown), .ref (ad 1), .ref (ad 2), .ref (ad 3), .ref (ad 4), .ref (ad 5), .ref (ad 6), .int (zI R_used), .ref (ad 7), .int (zI R_many), .ref (ad 8), .ref (ad 9), .ref (ad 10), .ref (ad 11), .ref (ad 12), .ref (ad 13), .ref (ad 14), .ref (ad 15), .ref (ad 16), .int (zI R_values_9), .ref (ad 17), .int (zI R_textEnd), .ref (ad 18), .ref (ad 19), .ref (ad 20), .ref (ad 21), .int (zI R_dataEnd), .ref (ad 22), .int (zI R_rowEnd), .ref (ad 23), .ref (ad 24), .int (zI R_rowMany), .ref (ad 25), .ref (ad 26), .ref (ad 27), .ref (ad 28), .int (zI R_waiting), .int (zI R_mostWaiting), .int (zI R_answer), .int (zI R_steps), .int (zI R_memory), .int (zI R_maxSteps), .int (zI R_maxMemory), .int (zI R_fault), .int (zI R_result), .int (zI R_now), .int (zI R_nowRow), .int (zI R_come), .ref (ad 29), .ref (ad 30), .int (zI R_puts), .ref (ad 31)])), (ad 8, .inl (cI, 3700, .inl (zA R_valueKinds_10))), (ad 9, .inl (cL, 3700, .inr (.inl (zB R_valueNumbers_11)))), (ad 14, .inl (cI, 3700, .inl (zA R_given_12)))]) X (jrunV X (c_Mod_make (ad := ad) q13) jF0_k (fun _ _ _ _ => trivial) (jgV own_Mod_truth (by decide +kernel)) rfl rfl rfl pd_Mod_make (by decide) [0, 1, 2, 3] rfl (by decide) 0 10 rfl rfl rfl rfl (Nat.le_of_ble_eq_true rfl) d_Mod_truth_11 (by decide)) [0, 1, 2, 3] [] [0, 1, 2, 3] rfl rfl (by decide) (by decide) rfl (by decide) ?_
    cases h
    exact J_ret E ⟨_, rfl, rfl⟩ d_Mod_truth_14 (Nat.le_refl _) (Nat.le_refl _) rfl

theorem d_Mod_makeBytes_0 : decode b_Mod_makeBytes 0 = .ok (.aload_n 0, 1) := by decide +kernel
theorem d_Mod_makeBytes_1 : decode b_Mod_makeBytes 1 = .ok (.iconst 1, 1) := by decide +kernel
theorem d_Mod_makeBytes_2 : decode b_Mod_makeBytes 2 = .ok (.iload_n 1, 1) := by decide +kernel
theorem d_Mod_makeBytes_3 : decode b_Mod_makeBytes 3 = .ok (.i2l, 1) := by decide +kernel
theorem d_Mod_makeBytes_4 : decode b_Mod_makeBytes 4 = .ok (.invokevirtual 141, 3) := by decide +kernel
theorem d_Mod_makeBytes_7 : decode b_Mod_makeBytes 7 = .ok (.istore_n 2, 1) := by decide +kernel
theorem d_Mod_makeBytes_8 : decode b_Mod_makeBytes 8 = .ok (.aload_n 0, 1) := by decide +kernel
theorem d_Mod_makeBytes_9 : decode b_Mod_makeBytes 9 = .ok (.getfield 39, 3) := by decide +kernel
theorem d_Mod_makeBytes_12 : decode b_Mod_makeBytes 12 = .ok (.iload_n 2, 1) := by decide +kernel
theorem d_Mod_makeBytes_13 : decode b_Mod_makeBytes 13 = .ok (.aload_n 0, 1) := by decide +kernel
theorem d_Mod_makeBytes_14 : decode b_Mod_makeBytes 14 = .ok (.getfield 145, 3) := by decide +kernel
theorem d_Mod_makeBytes_17 : decode b_Mod_makeBytes 17 = .ok (.iastore, 1) := by decide +kernel
theorem d_Mod_makeBytes_18 : decode b_Mod_makeBytes 18 = .ok (.aload_n 0, 1) := by decide +kernel
theorem d_Mod_makeBytes_19 : decode b_Mod_makeBytes 19 = .ok (.getfield 42, 3) := by decide +kernel
theorem d_Mod_makeBytes_22 : decode b_Mod_makeBytes 22 = .ok (.iload_n 2, 1) := by decide +kernel
theorem d_Mod_makeBytes_23 : decode b_Mod_makeBytes 23 = .ok (.iload_n 1, 1) := by decide +kernel
theorem d_Mod_makeBytes_24 : decode b_Mod_makeBytes 24 = .ok (.iastore, 1) := by decide +kernel
theorem d_Mod_makeBytes_25 : decode b_Mod_makeBytes 25 = .ok (.aload_n 0, 1) := by decide +kernel
theorem d_Mod_makeBytes_26 : decode b_Mod_makeBytes 26 = .ok (.dup, 1) := by decide +kernel
theorem d_Mod_makeBytes_27 : decode b_Mod_makeBytes 27 = .ok (.getfield 145, 3) := by decide +kernel
theorem d_Mod_makeBytes_30 : decode b_Mod_makeBytes 30 = .ok (.iload_n 1, 1) := by decide +kernel
theorem d_Mod_makeBytes_31 : decode b_Mod_makeBytes 31 = .ok (.iadd, 1) := by decide +kernel
theorem d_Mod_makeBytes_32 : decode b_Mod_makeBytes 32 = .ok (.putfield 145, 3) := by decide +kernel
theorem d_Mod_makeBytes_35 : decode b_Mod_makeBytes 35 = .ok (.iload_n 2, 1) := by decide +kernel
theorem d_Mod_makeBytes_36 : decode b_Mod_makeBytes 36 = .ok (.ireturn, 1) := by decide +kernel
def f_Mod_makeBytes (R_values : Int) (R_textEnd : Int) (R_valueKinds : Int → Int) (R_valueNumbers : Int → Int) (R_from : Int → Int) (R_length : Int → Int) (R_given : Int → Int) (p1 : Int) : Option (Int × Int × Int × (Int → Int) × (Int → Int) × (Int → Int) × (Int → Int) × (Int → Int)) :=
  if rI p1 = true then (
   ob5 (f_Mod_make R_values R_valueKinds R_valueNumbers R_given 1 p1) (fun r2 R_values_3 R_valueKinds_4 R_valueNumbers_5 R_given_6 =>
    if jix r2 3700 = true then (
     if jix r2 3700 = true then (
      some (r2, R_values_3, (R_textEnd + p1), R_valueKinds_4, R_valueNumbers_5, (upZ R_from r2 R_textEnd), (upZ R_length r2 p1), R_given_6)) else none) else none)) else none
set_option maxHeartbeats 4000000 in
set_option maxRecDepth 100000 in
theorem c_Mod_makeBytes {l : Launch} {D : va_G} {cI cL cB : ClassId} {ad : Nat → Nat} {R_thrown : Int} {R_used : Int} {R_many : Int} {R_values : Int} {R_textEnd : Int} {R_dataEnd : Int} {R_rowEnd : Int} {R_rowMany : Int} {R_waiting : Int} {R_mostWaiting : Int} {R_answer : Int} {R_steps : Int} {R_memory : Int} {R_maxSteps : Int} {R_maxMemory : Int} {R_fault : Int} {R_result : Int} {R_now : Int} {R_nowRow : Int} {R_come : Int} {R_puts : Int} {R_valueKinds : Int → Int} {R_valueNumbers : Int → Int} {R_from : Int → Int} {R_length : Int → Int} {R_given : Int → Int} {p1 : Int} {out : Int × Int × Int × (Int → Int) × (Int → Int) × (Int → Int) × (Int → Int) × (Int → Int)} (h : f_Mod_makeBytes R_values R_textEnd R_valueKinds R_valueNumbers R_from R_length R_given p1 = some out) : CT jF0 false l D [(cI, .int), (cL, .long), (cB, .byte)] y_Mod_makeBytes w_Mod_makeBytes ({ frames := 1, cells := 0, slots := 0, locals := 23 } : Room) [.ref (ad 0), .int (zI p1)] [(ad 0, .inr (10, [.int (zI R_thrown), .ref (ad 1), .ref (ad 2), .ref (ad 3), .ref (ad 4), .ref (ad 5), .ref (ad 6), .int (zI R_used), .ref (ad 7), .int (zI R_many), .ref (ad 8), .ref (ad 9), .ref (ad 10), .ref (ad 11), .ref (ad 12), .ref (ad 13), .ref (ad 14), .ref (ad 15), .ref (ad 16), .int (zI R_values), .ref (ad 17), .int (zI R_textEnd), .ref (ad 18), .ref (ad 19), .ref (ad 20), .ref (ad 21), .int (zI R_dataEnd), .ref (ad 22), .int (zI R_rowEnd), .ref (ad 23), .ref (ad 24), .int (zI R_rowMany), .ref (ad 25), .ref (ad 26), .ref (ad 27), .ref (ad 28), .int (zI R_waiting), .int (zI R_mostWaiting), .int (zI R_answer), .int (zI R_steps), .int (zI R_memory), .int (zI R_maxSteps), .int (zI R_maxMemory), .int (zI R_fault), .int (zI R_result), .int (zI R_now), .int (zI R_nowRow), .int (zI R_come), .ref (ad 29), .ref (ad 30), .int (zI R_puts), .ref (ad 31)])), (ad 8, .inl (cI, 3700, .inl (zA R_valueKinds))), (ad 9, .inl (cL, 3700, .inr (.inl (zB R_valueNumbers)))), (ad 10, .inl (cI, 3700, .inl (zA R_from))), (ad 11, .inl (cI, 3700, .inl (zA R_length))), (ad 14, .inl (cI, 3700, .inl (zA R_given)))] (some (.int (zI out.1))) [(ad 0, .inr (10, [.int (zI R_thrown), .ref (ad 1), .ref (ad 2), .ref (ad 3), .ref (ad 4), .ref (ad 5), .ref (ad 6), .int (zI R_used), .ref (ad 7), .int (zI R_many), .ref (ad 8), .ref (ad 9), .ref (ad 10), .ref (ad 11), .ref (ad 12), .ref (ad 13), .ref (ad 14), .ref (ad 15), .ref (ad 16), .int (zI (out.2.1)), .ref (ad 17), .int (zI (out.2.2.1)), .ref (ad 18), .ref (ad 19), .ref (ad 20), .ref (ad 21), .int (zI R_dataEnd), .ref (ad 22), .int (zI R_rowEnd), .ref (ad 23), .ref (ad 24), .int (zI R_rowMany), .ref (ad 25), .ref (ad 26), .ref (ad 27), .ref (ad 28), .int (zI R_waiting), .int (zI R_mostWaiting), .int (zI R_answer), .int (zI R_steps), .int (zI R_memory), .int (zI R_maxSteps), .int (zI R_maxMemory), .int (zI R_fault), .int (zI R_result), .int (zI R_now), .int (zI R_nowRow), .int (zI R_come), .ref (ad 29), .ref (ad 30), .int (zI R_puts), .ref (ad 31)])), (ad 8, .inl (cI, 3700, .inl (zA (out.2.2.2.1)))), (ad 9, .inl (cL, 3700, .inr (.inl (zB (out.2.2.2.2.1))))), (ad 10, .inl (cI, 3700, .inl (zA (out.2.2.2.2.2.1)))), (ad 11, .inl (cI, 3700, .inl (zA (out.2.2.2.2.2.2.1)))), (ad 14, .inl (cI, 3700, .inl (zA (out.2.2.2.2.2.2.2))))] 0 0 := by
  refine CT_of_J (cc := b_Mod_makeBytes) (maxL := 3) (ret := (some .int)) jF0_k (plainFor_of_name (by decide)) rfl (Nat.le_of_ble_eq_true rfl) ?_
  intro K hKl hKD X E
  subst hKl; subst hKD
  unfold f_Mod_makeBytes at h
  refine J_aload_n X d_Mod_makeBytes_0 rfl 0 rfl ?_
  refine J_iconst X d_Mod_makeBytes_1 ?_
  refine J_iload_n X d_Mod_makeBytes_2 rfl 1 rfl ?_
  obtain ⟨g1, h⟩ := wk_g h
  refine J_i2l X g1 d_Mod_makeBytes_3 ?_
  obtain ⟨r2, R_values_3, R_valueKinds_4, R_valueNumbers_5, R_given_6, q7, h⟩ := wk_b5 h
  refine J_afterI0 (ws' := [(ad 0, .inr (10, [.int (zI R_thrown), .ref (ad 1), .ref (ad 2), .ref (ad 3), .ref (ad 4), .ref (ad 5), .ref (ad 6), .int (zI R_used), .ref (ad 7), .int (zI R_many), .ref (ad 8), .ref (ad 9), .ref (ad 10), .ref (ad 11), .ref (ad 12), .ref (ad 13), .ref (ad 14), .ref (ad 15), .ref (ad 16), .int (zI R_values_3), .ref (ad 17), .int (zI R_textEnd), .ref (ad 18), .ref (ad 19), .ref (ad 20), .ref (ad 21), .int (zI R_dataEnd), .ref (ad 22), .int (zI R_rowEnd), .ref (ad 23), .ref (ad 24), .int (zI R_rowMany), .ref (ad 25), .ref (ad 26), .ref (ad 27), .ref (ad 28), .int (zI R_waiting), .int (zI R_mostWaiting), .int (zI R_answer), .int (zI R_steps), .int (zI R_memory), .int (zI R_maxSteps), .int (zI R_maxMemory), .int (zI R_fault), .int (zI R_result), .int (zI R_now), .int (zI R_nowRow), .int (zI R_come), .ref (ad 29), .ref (ad 30), .int (zI R_puts), .ref (ad 31)])), (ad 8, .inl (cI, 3700, .inl (zA R_valueKinds_4))), (ad 9, .inl (cL, 3700, .inr (.inl (zB R_valueNumbers_5)))), (ad 10, .inl (cI, 3700, .inl (zA R_from))), (ad 11, .inl (cI, 3700, .inl (zA R_length))), (ad 14, .inl (cI, 3700, .inl (zA R_given_6)))]) X (jrunV X (c_Mod_make (ad := ad) q7) jF0_k (fun _ _ _ _ => trivial) (jgV own_Mod_makeBytes (by decide +kernel)) rfl rfl rfl pd_Mod_make (by decide) [0, 1, 2, 5] rfl (by decide) 0 10 rfl rfl rfl rfl (Nat.le_of_ble_eq_true rfl) d_Mod_makeBytes_4 (by decide)) [0, 1, 2, 5] [3, 4] [2, 3, 4, 0, 1, 5] rfl rfl (by decide) (by decide) rfl (by decide) ?_
  refine J_istore_n (lv' := [(2, .int (zI r2)), (0, .ref (ad 0)), (1, .int (zI p1))]) X d_Mod_makeBytes_7 rfl (by decide) rfl ?_
  refine J_aload_n X d_Mod_makeBytes_8 rfl 1 rfl ?_
  refine J_get X (j_in in_Mod) 0 rfl rfl 12 (by decide) (j_m own_Mod_makeBytes (by decide +kernel)) rfl d_Mod_makeBytes_9 ?_
  refine J_iload_n X d_Mod_makeBytes_12 rfl 0 rfl ?_
  refine J_aload_n X d_Mod_makeBytes_13 rfl 1 rfl ?_
  refine J_get X (j_in in_Mod) 0 rfl rfl 21 (by decide) (j_m own_Mod_makeBytes (by decide +kernel)) rfl d_Mod_makeBytes_14 ?_
  obtain ⟨g8, h⟩ := wk_g h
  refine J_iast (ws' := [(ad 0, .inr (10, [.int (zI R_thrown), .ref (ad 1), .ref (ad 2), .ref (ad 3), .ref (ad 4), .ref (ad 5), .ref (ad 6), .int (zI R_used), .ref (ad 7), .int (zI R_many), .ref (ad 8), .ref (ad 9), .ref (ad 10), .ref (ad 11), .ref (ad 12), .ref (ad 13), .ref (ad 14), .ref (ad 15), .ref (ad 16), .int (zI R_values_3), .ref (ad 17), .int (zI R_textEnd), .ref (ad 18), .ref (ad 19), .ref (ad 20), .ref (ad 21), .int (zI R_dataEnd), .ref (ad 22), .int (zI R_rowEnd), .ref (ad 23), .ref (ad 24), .int (zI R_rowMany), .ref (ad 25), .ref (ad 26), .ref (ad 27), .ref (ad 28), .int (zI R_waiting), .int (zI R_mostWaiting), .int (zI R_answer), .int (zI R_steps), .int (zI R_memory), .int (zI R_maxSteps), .int (zI R_maxMemory), .int (zI R_fault), .int (zI R_result), .int (zI R_now), .int (zI R_nowRow), .int (zI R_come), .ref (ad 29), .ref (ad 30), .int (zI R_puts), .ref (ad 31)])), (ad 8, .inl (cI, 3700, .inl (zA R_valueKinds_4))), (ad 9, .inl (cL, 3700, .inr (.inl (zB R_valueNumbers_5)))), (ad 10, .inl (cI, 3700, .inl (zA (upZ R_from r2 R_textEnd)))), (ad 11, .inl (cI, 3700, .inl (zA R_length))), (ad 14, .inl (cI, 3700, .inl (zA R_given_6)))]) X 3 0 rfl rfl g8 d_Mod_makeBytes_17 rfl ?_
  refine J_aload_n X d_Mod_makeBytes_18 rfl 1 rfl ?_
  refine J_get X (j_in in_Mod) 0 rfl rfl 13 (by decide) (j_m own_Mod_makeBytes (by decide +kernel)) rfl d_Mod_makeBytes_19 ?_
  refine J_iload_n X d_Mod_makeBytes_22 rfl 0 rfl ?_
  refine J_iload_n X d_Mod_makeBytes_23 rfl 2 rfl ?_
  obtain ⟨g9, h⟩ := wk_g h
  refine J_iast (ws' := [(ad 0, .inr (10, [.int (zI R_thrown), .ref (ad 1), .ref (ad 2), .ref (ad 3), .ref (ad 4), .ref (ad 5), .ref (ad 6), .int (zI R_used), .ref (ad 7), .int (zI R_many), .ref (ad 8), .ref (ad 9), .ref (ad 10), .ref (ad 11), .ref (ad 12), .ref (ad 13), .ref (ad 14), .ref (ad 15), .ref (ad 16), .int (zI R_values_3), .ref (ad 17), .int (zI R_textEnd), .ref (ad 18), .ref (ad 19), .ref (ad 20), .ref (ad 21), .int (zI R_dataEnd), .ref (ad 22), .int (zI R_rowEnd), .ref (ad 23), .ref (ad 24), .int (zI R_rowMany), .ref (ad 25), .ref (ad 26), .ref (ad 27), .ref (ad 28), .int (zI R_waiting), .int (zI R_mostWaiting), .int (zI R_answer), .int (zI R_steps), .int (zI R_memory), .int (zI R_maxSteps), .int (zI R_maxMemory), .int (zI R_fault), .int (zI R_result), .int (zI R_now), .int (zI R_nowRow), .int (zI R_come), .ref (ad 29), .ref (ad 30), .int (zI R_puts), .ref (ad 31)])), (ad 8, .inl (cI, 3700, .inl (zA R_valueKinds_4))), (ad 9, .inl (cL, 3700, .inr (.inl (zB R_valueNumbers_5)))), (ad 10, .inl (cI, 3700, .inl (zA (upZ R_from r2 R_textEnd)))), (ad 11, .inl (cI, 3700, .inl (zA (upZ R_length r2 p1)))), (ad 14, .inl (cI, 3700, .inl (zA R_given_6)))]) X 4 0 rfl rfl g9 d_Mod_makeBytes_24 rfl ?_
  refine J_aload_n X d_Mod_makeBytes_25 rfl 1 rfl ?_
  refine J_dup X d_Mod_makeBytes_26 rfl ?_
  refine J_get X (j_in in_Mod) 0 rfl rfl 21 (by decide) (j_m own_Mod_makeBytes (by decide +kernel)) rfl d_Mod_makeBytes_27 ?_
  refine J_iload_n X d_Mod_makeBytes_30 rfl 2 rfl ?_
  refine J_iadd X d_Mod_makeBytes_31 ?_
  refine J_put (ws' := [(ad 0, .inr (10, [.int (zI R_thrown), .ref (ad 1), .ref (ad 2), .ref (ad 3), .ref (ad 4), .ref (ad 5), .ref (ad 6), .int (zI R_used), .ref (ad 7), .int (zI R_many), .ref (ad 8), .ref (ad 9), .ref (ad 10), .ref (ad 11), .ref (ad 12), .ref (ad 13), .ref (ad 14), .ref (ad 15), .ref (ad 16), .int (zI R_values_3), .ref (ad 17), .int (zI (R_textEnd + p1)), .ref (ad 18), .ref (ad 19), .ref (ad 20), .ref (ad 21), .int (zI R_dataEnd), .ref (ad 22), .int (zI R_rowEnd), .ref (ad 23), .ref (ad 24), .int (zI R_rowMany), .ref (ad 25), .ref (ad 26), .ref (ad 27), .ref (ad 28), .int (zI R_waiting), .int (zI R_mostWaiting), .int (zI R_answer), .int (zI R_steps), .int (zI R_memory), .int (zI R_maxSteps), .int (zI R_maxMemory), .int (zI R_fault), .int (zI R_result), .int (zI R_now), .int (zI R_nowRow), .int (zI R_come), .ref (ad 29), .ref (ad 30), .int (zI R_puts), .ref (ad 31)])), (ad 8, .inl (cI, 3700, .inl (zA R_valueKinds_4))), (ad 9, .inl (cL, 3700, .inr (.inl (zB R_valueNumbers_5)))), (ad 10, .inl (cI, 3700, .inl (zA (upZ R_from r2 R_textEnd)))), (ad 11, .inl (cI, 3700, .inl (zA (upZ R_length r2 p1)))), (ad 14, .inl (cI, 3700, .inl (zA R_given_6)))]) X (j_in in_Mod) ty_Mod tok_Mod nm_Mod 0 rfl rfl 21 (by decide) (j_m own_Mod_makeBytes (by decide +kernel)) rfl rfl rfl (Nat.le_of_ble_eq_true rfl) d_Mod_makeBytes_32 rfl ?_
  refine J_iload_n X d_Mod_makeBytes_35 rfl 0 rfl ?_
  cases h
  exact J_ret E ⟨_, rfl, rfl⟩ d_Mod_makeBytes_36 (Nat.le_refl _) (Nat.le_refl _) rfl

