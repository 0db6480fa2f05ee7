theorem d_Mod_number_0 : decode b_Mod_number 0 = .ok (.aload_n 0, 1) := by decide +kernel
theorem d_Mod_number_1 : decode b_Mod_number 1 = .ok (.aload_n 0, 1) := by decide +kernel
theorem d_Mod_number_2 : decode b_Mod_number 2 = .ok (.getfield 98, 3) := by decide +kernel
theorem d_Mod_number_5 : decode b_Mod_number 5 = .ok (.ifCond .ne 7, 3) := by decide +kernel
theorem d_Mod_number_8 : decode b_Mod_number 8 = .ok (.iconst 0, 1) := by decide +kernel
theorem d_Mod_number_9 : decode b_Mod_number 9 = .ok (.goto 4, 3) := by decide +kernel
theorem d_Mod_number_12 : decode b_Mod_number 12 = .ok (.iconst 1, 1) := by decide +kernel
theorem d_Mod_number_13 : decode b_Mod_number 13 = .ok (.putfield 111, 3) := by decide +kernel
theorem d_Mod_number_16 : decode b_Mod_number 16 = .ok (.aload_n 0, 1) := by decide +kernel
theorem d_Mod_number_17 : decode b_Mod_number 17 = .ok (.getfield 111, 3) := by decide +kernel
theorem d_Mod_number_20 : decode b_Mod_number 20 = .ok (.ifCond .le 5, 3) := by decide +kernel
theorem d_Mod_number_23 : decode b_Mod_number 23 = .ok (.lconst 0, 1) := by decide +kernel
theorem d_Mod_number_24 : decode b_Mod_number 24 = .ok (.lreturn, 1) := by decide +kernel
theorem d_Mod_number_25 : decode b_Mod_number 25 = .ok (.aload_n 0, 1) := by decide +kernel
theorem d_Mod_number_26 : decode b_Mod_number 26 = .ok (.getfield 33, 3) := by decide +kernel
theorem d_Mod_number_29 : decode b_Mod_number 29 = .ok (.aload_n 0, 1) := by decide +kernel
theorem d_Mod_number_30 : decode b_Mod_number 30 = .ok (.getfield 320, 3) := by decide +kernel
theorem d_Mod_number_33 : decode b_Mod_number 33 = .ok (.iaload, 1) := by decide +kernel
theorem d_Mod_number_34 : decode b_Mod_number 34 = .ok (.istore_n 1, 1) := by decide +kernel
theorem d_Mod_number_35 : decode b_Mod_number 35 = .ok (.iload_n 1, 1) := by decide +kernel
theorem d_Mod_number_36 : decode b_Mod_number 36 = .ok (.ifCond .eq 19, 3) := by decide +kernel
theorem d_Mod_number_39 : decode b_Mod_number 39 = .ok (.iload_n 1, 1) := by decide +kernel
theorem d_Mod_number_40 : decode b_Mod_number 40 = .ok (.iconst 1, 1) := by decide +kernel
theorem d_Mod_number_41 : decode b_Mod_number 41 = .ok (.if_icmp .eq 14, 3) := by decide +kernel
theorem d_Mod_number_44 : decode b_Mod_number 44 = .ok (.iload_n 1, 1) := by decide +kernel
theorem d_Mod_number_45 : decode b_Mod_number 45 = .ok (.iconst 2, 1) := by decide +kernel
theorem d_Mod_number_46 : decode b_Mod_number 46 = .ok (.if_icmp .eq 9, 3) := by decide +kernel
theorem d_Mod_number_49 : decode b_Mod_number 49 = .ok (.iload_n 1, 1) := by decide +kernel
theorem d_Mod_number_50 : decode b_Mod_number 50 = .ok (.bipush 7, 2) := by decide +kernel
theorem d_Mod_number_52 : decode b_Mod_number 52 = .ok (.if_icmp .ne 15, 3) := by decide +kernel
theorem d_Mod_number_55 : decode b_Mod_number 55 = .ok (.aload_n 0, 1) := by decide +kernel
theorem d_Mod_number_56 : decode b_Mod_number 56 = .ok (.getfield 36, 3) := by decide +kernel
theorem d_Mod_number_59 : decode b_Mod_number 59 = .ok (.aload_n 0, 1) := by decide +kernel
theorem d_Mod_number_60 : decode b_Mod_number 60 = .ok (.getfield 320, 3) := by decide +kernel
theorem d_Mod_number_63 : decode b_Mod_number 63 = .ok (.laload, 1) := by decide +kernel
theorem d_Mod_number_64 : decode b_Mod_number 64 = .ok (.goto 22, 3) := by decide +kernel
theorem d_Mod_number_67 : decode b_Mod_number 67 = .ok (.iload_n 1, 1) := by decide +kernel
theorem d_Mod_number_68 : decode b_Mod_number 68 = .ok (.iconst 4, 1) := by decide +kernel
theorem d_Mod_number_69 : decode b_Mod_number 69 = .ok (.if_icmp .ne 16, 3) := by decide +kernel
theorem d_Mod_number_72 : decode b_Mod_number 72 = .ok (.aload_n 0, 1) := by decide +kernel
theorem d_Mod_number_73 : decode b_Mod_number 73 = .ok (.getfield 42, 3) := by decide +kernel
theorem d_Mod_number_76 : decode b_Mod_number 76 = .ok (.aload_n 0, 1) := by decide +kernel
theorem d_Mod_number_77 : decode b_Mod_number 77 = .ok (.getfield 320, 3) := by decide +kernel
theorem d_Mod_number_80 : decode b_Mod_number 80 = .ok (.iaload, 1) := by decide +kernel
theorem d_Mod_number_81 : decode b_Mod_number 81 = .ok (.i2l, 1) := by decide +kernel
theorem d_Mod_number_82 : decode b_Mod_number 82 = .ok (.goto 4, 3) := by decide +kernel
theorem d_Mod_number_85 : decode b_Mod_number 85 = .ok (.lconst 0, 1) := by decide +kernel
theorem d_Mod_number_86 : decode b_Mod_number 86 = .ok (.lreturn, 1) := by decide +kernel
def f_Mod_number (R_thrown : Int) (R_answer : Int) (R_result : Int) (R_valueKinds : Int → Int) (R_valueNumbers : Int → Int) (R_length : Int → Int) : Option (Int × Int) :=
  if rI R_answer = true then (if R_answer = 0 then (
   if jix R_result 3700 = true then (
    if rI (R_valueKinds R_result) = true then (if (R_valueKinds R_result) = 0 then (
     if jix R_result 3700 = true then (
      some ((R_valueNumbers R_result), 0)) else none) else (
     if jr2 (R_valueKinds R_result) 1 = true then (if (R_valueKinds R_result) = 1 then (
      if jix R_result 3700 = true then (
       some ((R_valueNumbers R_result), 0)) else none) else (
      if jr2 (R_valueKinds R_result) 2 = true then (if (R_valueKinds R_result) = 2 then (
       if jix R_result 3700 = true then (
        some ((R_valueNumbers R_result), 0)) else none) else (
       if jr2 (R_valueKinds R_result) 7 = true then (if (R_valueKinds R_result) = 7 then (
        if jix R_result 3700 = true then (
         some ((R_valueNumbers R_result), 0)) else none) else (
        if jr2 (R_valueKinds R_result) 4 = true then (if (R_valueKinds R_result) = 4 then (
         if jix R_result 3700 = true then (
          if rI (R_length R_result) = true then (
           some ((R_length R_result), 0)) else none) else none) else (
         some (0, 0))) else none)) else none)) else none)) else none)) else none) else none) else (
   some (0, 1))) else none
set_option maxHeartbeats 4000000 in
set_option maxRecDepth 100000 in
theorem c_Mod_number {l : Launch} {D : va_G} {cI cL cB : ClassId} {ad : Nat → Nat} {R_thrown : Int} {R_used : Int} {R_many : Int} {R_values : Int} {R_textEnd : Int} {R_dataEnd : Int} {R_rowEnd : Int} {R_rowMany : Int} {R_waiting : Int} {R_mostWaiting : Int} {R_answer : Int} {R_steps : Int} {R_memory : Int} {R_maxSteps : Int} {R_maxMemory : Int} {R_fault : Int} {R_result : Int} {R_now : Int} {R_nowRow : Int} {R_come : Int} {R_puts : Int} {R_valueKinds : Int → Int} {R_valueNumbers : Int → Int} {R_length : Int → Int} {out : Int × Int} (h : f_Mod_number R_thrown R_answer R_result R_valueKinds R_valueNumbers R_length = some out) : CT jF0 false l D [(cI, .int), (cL, .long), (cB, .byte)] y_Mod_number w_Mod_number ({ frames := 0, cells := 0, slots := 0, locals := 0 } : Room) [.ref (ad 0)] [(ad 0, .inr (10, [.int (zI R_thrown), .ref (ad 1), .ref (ad 2), .ref (ad 3), .ref (ad 4), .ref (ad 5), .ref (ad 6), .int (zI R_used), .ref (ad 7), .int (zI R_many), .ref (ad 8), .ref (ad 9), .ref (ad 10), .ref (ad 11), .ref (ad 12), .ref (ad 13), .ref (ad 14), .ref (ad 15), .ref (ad 16), .int (zI R_values), .ref (ad 17), .int (zI R_textEnd), .ref (ad 18), .ref (ad 19), .ref (ad 20), .ref (ad 21), .int (zI R_dataEnd), .ref (ad 22), .int (zI R_rowEnd), .ref (ad 23), .ref (ad 24), .int (zI R_rowMany), .ref (ad 25), .ref (ad 26), .ref (ad 27), .ref (ad 28), .int (zI R_waiting), .int (zI R_mostWaiting), .int (zI R_answer), .int (zI R_steps), .int (zI R_memory), .int (zI R_maxSteps), .int (zI R_maxMemory), .int (zI R_fault), .int (zI R_result), .int (zI R_now), .int (zI R_nowRow), .int (zI R_come), .ref (ad 29), .ref (ad 30), .int (zI R_puts), .ref (ad 31)])), (ad 8, .inl (cI, 3700, .inl (zA R_valueKinds))), (ad 9, .inl (cL, 3700, .inr (.inl (zB R_valueNumbers)))), (ad 11, .inl (cI, 3700, .inl (zA R_length)))] (some (.long (zL out.1))) [(ad 0, .inr (10, [.int (zI (out.2)), .ref (ad 1), .ref (ad 2), .ref (ad 3), .ref (ad 4), .ref (ad 5), .ref (ad 6), .int (zI R_used), .ref (ad 7), .int (zI R_many), .ref (ad 8), .ref (ad 9), .ref (ad 10), .ref (ad 11), .ref (ad 12), .ref (ad 13), .ref (ad 14), .ref (ad 15), .ref (ad 16), .int (zI R_values), .ref (ad 17), .int (zI R_textEnd), .ref (ad 18), .ref (ad 19), .ref (ad 20), .ref (ad 21), .int (zI R_dataEnd), .ref (ad 22), .int (zI R_rowEnd), .ref (ad 23), .ref (ad 24), .int (zI R_rowMany), .ref (ad 25), .ref (ad 26), .ref (ad 27), .ref (ad 28), .int (zI R_waiting), .int (zI R_mostWaiting), .int (zI R_answer), .int (zI R_steps), .int (zI R_memory), .int (zI R_maxSteps), .int (zI R_maxMemory), .int (zI R_fault), .int (zI R_result), .int (zI R_now), .int (zI R_nowRow), .int (zI R_come), .ref (ad 29), .ref (ad 30), .int (zI R_puts), .ref (ad 31)])), (ad 8, .inl (cI, 3700, .inl (zA R_valueKinds))), (ad 9, .inl (cL, 3700, .inr (.inl (zB R_valueNumbers)))), (ad 11, .inl (cI, 3700, .inl (zA R_length)))] 0 0 := by
  refine CT_of_J (cc := b_Mod_number) (maxL := 2) (ret := (some .long)) jF0_k (plainFor_of_name (by decide)) rfl (Nat.le_of_ble_eq_true rfl) ?_
  intro K hKl hKD X E
  subst hKl; subst hKD
  unfold f_Mod_number at h
  refine J_aload_n X d_Mod_number_0 rfl 0 rfl ?_
  refine J_aload_n X d_Mod_number_1 rfl 0 rfl ?_
  refine J_get X (j_in in_Mod) 0 rfl rfl 38 (by decide) (j_m own_Mod_number (by decide +kernel)) rfl d_Mod_number_2 ?_
  refine J_if_ne (tgt := 12) X d_Mod_number_5 (by decide) h (fun c1 h => ?_) (fun c1 h => ?_)
  · refine J_iconst X d_Mod_number_12 ?_
    refine J_put (ws' := [(ad 0, .inr (10, [.int (zI 1), .ref (ad 1), .ref (ad 2), .ref (ad 3), .ref (ad 4), .ref (ad 5), .ref (ad 6), .int (zI R_used), .ref (ad 7), .int (zI R_many), .ref (ad 8), .ref (ad 9), .ref (ad 10), .ref (ad 11), .ref (ad 12), .ref (ad 13), .ref (ad 14), .ref (ad 15), .ref (ad 16), .int (zI R_values), .ref (ad 17), .int (zI R_textEnd), .ref (ad 18), .ref (ad 19), .ref (ad 20), .ref (ad 21), .int (zI R_dataEnd), .ref (ad 22), .int (zI R_rowEnd), .ref (ad 23), .ref (ad 24), .int (zI R_rowMany), .ref (ad 25), .ref (ad 26), .ref (ad 27), .ref (ad 28), .int (zI R_waiting), .int (zI R_mostWaiting), .int (zI R_answer), .int (zI R_steps), .int (zI R_memory), .int (zI R_maxSteps), .int (zI R_maxMemory), .int (zI R_fault), .int (zI R_result), .int (zI R_now), .int (zI R_nowRow), .int (zI R_come), .ref (ad 29), .ref (ad 30), .int (zI R_puts), .ref (ad 31)])), (ad 8, .inl (cI, 3700, .inl (zA R_valueKinds))), (ad 9, .inl (cL, 3700, .inr (.inl (zB R_valueNumbers)))), (ad 11, .inl (cI, 3700, .inl (zA R_length)))]) X (j_in in_Mod) ty_Mod tok_Mod nm_Mod 0 rfl rfl 0 (by decide) (j_m own_Mod_number (by decide +kernel)) rfl rfl rfl (Nat.le_of_ble_eq_true rfl) d_Mod_number_13 rfl ?_
    refine J_aload_n X d_Mod_number_16 rfl 0 rfl ?_
    refine J_get X (j_in in_Mod) 0 rfl rfl 0 (by decide) (j_m own_Mod_number (by decide +kernel)) rfl d_Mod_number_17 ?_
    refine J_if_le (pa := none) (pb := some ()) (o := ()) (tgt := 25) X d_Mod_number_20 (by decide) (by decide) (fun _ h => by cases h) (fun _ _ => ?_)
    refine J_lconst (v := 0) X d_Mod_number_23 (by decide) ?_
    cases h
    exact J_ret E rfl d_Mod_number_24 (Nat.le_refl _) (Nat.le_refl _) rfl
  · refine J_iconst X d_Mod_number_8 ?_
    refine J_goto (tgt := 13) X d_Mod_number_9 (by decide) ?_
    refine J_put (ws' := [(ad 0, .inr (10, [.int (zI 0), .ref (ad 1), .ref (ad 2), .ref (ad 3), .ref (ad 4), .ref (ad 5), .ref (ad 6), .int (zI R_used), .ref (ad 7), .int (zI R_many), .ref (ad 8), .ref (ad 9), .ref (ad 10), .ref (ad 11), .ref (ad 12), .ref (ad 13), .ref (ad 14), .ref (ad 15), .ref (ad 16), .int (zI R_values), .ref (ad 17), .int (zI R_textEnd), .ref (ad 18), .ref (ad 19), .ref (ad 20), .ref (ad 21), .int (zI R_dataEnd), .ref (ad 22), .int (zI R_rowEnd), .ref (ad 23), .ref (ad 24), .int (zI R_rowMany), .ref (ad 25), .ref (ad 26), .ref (ad 27), .ref (ad 28), .int (zI R_waiting), .int (zI R_mostWaiting), .int (zI R_answer), .int (zI R_steps), .int (zI R_memory), .int (zI R_maxSteps), .int (zI R_maxMemory), .int (zI R_fault), .int (zI R_result), .int (zI R_now), .int (zI R_nowRow), .int (zI R_come), .ref (ad 29), .ref (ad 30), .int (zI R_puts), .ref (ad 31)])), (ad 8, .inl (cI, 3700, .inl (zA R_valueKinds))), (ad 9, .inl (cL, 3700, .inr (.inl (zB R_valueNumbers)))), (ad 11, .inl (cI, 3700, .inl (zA R_length)))]) X (j_in in_Mod) ty_Mod tok_Mod nm_Mod 0 rfl rfl 0 (by decide) (j_m own_Mod_number (by decide +kernel)) rfl rfl rfl (Nat.le_of_ble_eq_true rfl) d_Mod_number_13 rfl ?_
    refine J_aload_n X d_Mod_number_16 rfl 0 rfl ?_
    refine J_get X (j_in in_Mod) 0 rfl rfl 0 (by decide) (j_m own_Mod_number (by decide +kernel)) rfl d_Mod_number_17 ?_
    refine J_if_le (pa := some ()) (pb := none) (o := ()) (tgt := 25) X d_Mod_number_20 (by decide) (by decide) (fun _ _ => ?_) (fun _ h => by cases h)
    refine J_aload_n X d_Mod_number_25 rfl 0 rfl ?_
    refine J_get X (j_in in_Mod) 0 rfl rfl 10 (by decide) (j_m own_Mod_number (by decide +kernel)) rfl d_Mod_number_26 ?_
    refine J_aload_n X d_Mod_number_29 rfl 0 rfl ?_
    refine J_get X (j_in in_Mod) 0 rfl rfl 44 (by decide) (j_m own_Mod_number (by decide +kernel)) rfl d_Mod_number_30 ?_
    obtain ⟨g2, h⟩ := wk_g h
    refine J_iald X 1 0 rfl rfl g2 d_Mod_number_33 ?_
    refine J_istore_n (lv' := [(1, .int (zI (R_valueKinds R_result))), (0, .ref (ad 0))]) X d_Mod_number_34 rfl (by decide) rfl ?_
    refine J_iload_n X d_Mod_number_35 rfl 0 rfl ?_
    refine J_if_eq (tgt := 55) X d_Mod_number_36 (by decide) h (fun c3 h => ?_) (fun c3 h => ?_)
    · refine J_aload_n X d_Mod_number_55 rfl 1 rfl ?_
      refine J_get X (j_in in_Mod) 0 rfl rfl 11 (by decide) (j_m own_Mod_number (by decide +kernel)) rfl d_Mod_number_56 ?_
      refine J_aload_n X d_Mod_number_59 rfl 1 rfl ?_
      refine J_get X (j_in in_Mod) 0 rfl rfl 44 (by decide) (j_m own_Mod_number (by decide +kernel)) rfl d_Mod_number_60 ?_
      obtain ⟨g4, h⟩ := wk_g h
      refine J_lald X 2 1 rfl rfl g4 d_Mod_number_63 ?_
      refine J_goto (tgt := 86) X d_Mod_number_64 (by decide) ?_
      cases h
      exact J_ret E rfl d_Mod_number_86 (Nat.le_refl _) (Nat.le_refl _) rfl
    · refine J_iload_n X d_Mod_number_39 rfl 0 rfl ?_
      refine J_iconst X d_Mod_number_40 ?_
      refine J_icmp_eq (tgt := 55) X d_Mod_number_41 (by decide) h (fun c5 h => ?_) (fun c5 h => ?_)
      · refine J_aload_n X d_Mod_number_55 rfl 1 rfl ?_
        refine J_get X (j_in in_Mod) 0 rfl rfl 11 (by decide) (j_m own_Mod_number (by decide +kernel)) rfl d_Mod_number_56 ?_
        refine J_aload_n X d_Mod_number_59 rfl 1 rfl ?_
        refine J_get X (j_in in_Mod) 0 rfl rfl 44 (by decide) (j_m own_Mod_number (by decide +kernel)) rfl d_Mod_number_60 ?_
        obtain ⟨g6, h⟩ := wk_g h
        refine J_lald X 2 1 rfl rfl g6 d_Mod_number_63 ?_
        refine J_goto (tgt := 86) X d_Mod_number_64 (by decide) ?_
        cases h
        exact J_ret E rfl d_Mod_number_86 (Nat.le_refl _) (Nat.le_refl _) rfl
      · refine J_iload_n X d_Mod_number_44 rfl 0 rfl ?_
        refine J_iconst X d_Mod_number_45 ?_
        refine J_icmp_eq (tgt := 55) X d_Mod_number_46 (by decide) h (fun c7 h => ?_) (fun c7 h => ?_)
        · refine J_aload_n X d_Mod_number_55 rfl 1 rfl ?_
          refine J_get X (j_in in_Mod) 0 rfl rfl 11 (by decide) (j_m own_Mod_number (by decide +kernel)) rfl d_Mod_number_56 ?_
          refine J_aload_n X d_Mod_number_59 rfl 1 rfl ?_
          refine J_get X (j_in in_Mod) 0 rfl rfl 44 (by decide) (j_m own_Mod_number (by decide +kernel)) rfl d_Mod_number_60 ?_
          obtain ⟨g8, h⟩ := wk_g h
          refine J_lald X 2 1 rfl rfl g8 d_Mod_number_63 ?_
          refine J_goto (tgt := 86) X d_Mod_number_64 (by decide) ?_
          cases h
          exact J_ret E rfl d_Mod_number_86 (Nat.le_refl _) (Nat.le_refl _) rfl
        · refine J_iload_n X d_Mod_number_49 rfl 0 rfl ?_
          refine J_bipush X d_Mod_number_50 (by decide) ?_
          refine J_icmp_ne (tgt := 67) X d_Mod_number_52 (by decide) h (fun c9 h => ?_) (fun c9 h => ?_)
          · refine J_iload_n X d_Mod_number_67 rfl 0 rfl ?_
            refine J_iconst X d_Mod_number_68 ?_
            refine J_icmp_ne (tgt := 85) X d_Mod_number_69 (by decide) h (fun c10 h => ?_) (fun c10 h => ?_)
            · refine J_lconst (v := 0) X d_Mod_number_85 (by decide) ?_
              cases h
              exact J_ret E rfl d_Mod_number_86 (Nat.le_refl _) (Nat.le_refl _) rfl
            · refine J_aload_n X d_Mod_number_72 rfl 1 rfl ?_
              refine J_get X (j_in in_Mod) 0 rfl rfl 13 (by decide) (j_m own_Mod_number (by decide +kernel)) rfl d_Mod_number_73 ?_
              refine J_aload_n X d_Mod_number_76 rfl 1 rfl ?_
              refine J_get X (j_in in_Mod) 0 rfl rfl 44 (by decide) (j_m own_Mod_number (by decide +kernel)) rfl d_Mod_number_77 ?_
              obtain ⟨g11, h⟩ := wk_g h
              refine J_iald X 3 0 rfl rfl g11 d_Mod_number_80 ?_
              obtain ⟨g12, h⟩ := wk_g h
              refine J_i2l X g12 d_Mod_number_81 ?_
              refine J_goto (tgt := 86) X d_Mod_number_82 (by decide) ?_
              cases h
              exact J_ret E rfl d_Mod_number_86 (Nat.le_refl _) (Nat.le_refl _) rfl
          · refine J_aload_n X d_Mod_number_55 rfl 1 rfl ?_
            refine J_get X (j_in in_Mod) 0 rfl rfl 11 (by decide) (j_m own_Mod_number (by decide +kernel)) rfl d_Mod_number_56 ?_
            refine J_aload_n X d_Mod_number_59 rfl 1 rfl ?_
            refine J_get X (j_in in_Mod) 0 rfl rfl 44 (by decide) (j_m own_Mod_number (by decide +kernel)) rfl d_Mod_number_60 ?_
            obtain ⟨g13, h⟩ := wk_g h
            refine J_lald X 2 1 rfl rfl g13 d_Mod_number_63 ?_
            refine J_goto (tgt := 86) X d_Mod_number_64 (by decide) ?_
            cases h
            exact J_ret E rfl d_Mod_number_86 (Nat.le_refl _) (Nat.le_refl _) rfl

theorem d_Mod_byteAt_0 : decode b_Mod_byteAt 0 = .ok (.aload_n 0, 1) := by decide +kernel
theorem d_Mod_byteAt_1 : decode b_Mod_byteAt 1 = .ok (.iconst 0, 1) := by decide +kernel
theorem d_Mod_byteAt_2 : decode b_Mod_byteAt 2 = .ok (.putfield 111, 3) := by decide +kernel
theorem d_Mod_byteAt_5 : decode b_Mod_byteAt 5 = .ok (.aload_n 0, 1) := by decide +kernel
theorem d_Mod_byteAt_6 : decode b_Mod_byteAt 6 = .ok (.getfield 98, 3) := by decide +kernel
theorem d_Mod_byteAt_9 : decode b_Mod_byteAt 9 = .ok (.ifCond .ne 45, 3) := by decide +kernel
theorem d_Mod_byteAt_12 : decode b_Mod_byteAt 12 = .ok (.aload_n 0, 1) := by decide +kernel
theorem d_Mod_byteAt_13 : decode b_Mod_byteAt 13 = .ok (.getfield 33, 3) := by decide +kernel
theorem d_Mod_byteAt_16 : decode b_Mod_byteAt 16 = .ok (.aload_n 0, 1) := by decide +kernel
theorem d_Mod_byteAt_17 : decode b_Mod_byteAt 17 = .ok (.getfield 320, 3) := by decide +kernel
theorem d_Mod_byteAt_20 : decode b_Mod_byteAt 20 = .ok (.iaload, 1) := by decide +kernel
theorem d_Mod_byteAt_21 : decode b_Mod_byteAt 21 = .ok (.iconst 1, 1) := by decide +kernel
theorem d_Mod_byteAt_22 : decode b_Mod_byteAt 22 = .ok (.if_icmp .ne 32, 3) := by decide +kernel
theorem d_Mod_byteAt_25 : decode b_Mod_byteAt 25 = .ok (.iload_n 1, 1) := by decide +kernel
theorem d_Mod_byteAt_26 : decode b_Mod_byteAt 26 = .ok (.ifCond .lt 28, 3) := by decide +kernel
theorem d_Mod_byteAt_29 : decode b_Mod_byteAt 29 = .ok (.iload_n 1, 1) := by decide +kernel
theorem d_Mod_byteAt_30 : decode b_Mod_byteAt 30 = .ok (.aload_n 0, 1) := by decide +kernel
theorem d_Mod_byteAt_31 : decode b_Mod_byteAt 31 = .ok (.getfield 42, 3) := by decide +kernel
theorem d_Mod_byteAt_34 : decode b_Mod_byteAt 34 = .ok (.aload_n 0, 1) := by decide +kernel
theorem d_Mod_byteAt_35 : decode b_Mod_byteAt 35 = .ok (.getfield 320, 3) := by decide +kernel
theorem d_Mod_byteAt_38 : decode b_Mod_byteAt 38 = .ok (.iaload, 1) := by decide +kernel
theorem d_Mod_byteAt_39 : decode b_Mod_byteAt 39 = .ok (.if_icmp .ge 15, 3) := by decide +kernel
theorem d_Mod_byteAt_42 : decode b_Mod_byteAt 42 = .ok (.aload_n 0, 1) := by decide +kernel
theorem d_Mod_byteAt_43 : decode b_Mod_byteAt 43 = .ok (.aload_n 0, 1) := by decide +kernel
theorem d_Mod_byteAt_44 : decode b_Mod_byteAt 44 = .ok (.getfield 320, 3) := by decide +kernel
theorem d_Mod_byteAt_47 : decode b_Mod_byteAt 47 = .ok (.iload_n 1, 1) := by decide +kernel
theorem d_Mod_byteAt_48 : decode b_Mod_byteAt 48 = .ok (.invokevirtual 194, 3) := by decide +kernel
theorem d_Mod_byteAt_51 : decode b_Mod_byteAt 51 = .ok (.goto 4, 3) := by decide +kernel
theorem d_Mod_byteAt_54 : decode b_Mod_byteAt 54 = .ok (.iconst (-1), 1) := by decide +kernel
theorem d_Mod_byteAt_55 : decode b_Mod_byteAt 55 = .ok (.ireturn, 1) := by decide +kernel
def f_Mod_byteAt (R_thrown : Int) (R_answer : Int) (R_result : Int) (R_valueKinds : Int → Int) (R_from : Int → Int) (R_length : Int → Int) (R_texts : Int → Int) (p1 : Int) : Option (Int × Int) :=
  if rI R_answer = true then (if R_answer = 0 then (
   if jix R_result 3700 = true then (
    if jr2 (R_valueKinds R_result) 1 = true then (if (R_valueKinds R_result) = 1 then (
     if rI p1 = true then (if p1 < 0 then (
      some ((-1), 0)) else (
      if jix R_result 3700 = true then (
       if jr2 p1 (R_length R_result) = true then (if (R_length R_result) ≤ p1 then (
        some ((-1), 0)) else (
        Option.bind (f_Mod_byteOf R_from R_texts R_result p1) (fun r7 =>
         some (r7, 0)))) else none) else none)) else none) else (
     some ((-1), 0))) else none) else none) else (
   some ((-1), 0))) else none
set_option maxHeartbeats 4000000 in
set_option maxRecDepth 100000 in
theorem c_Mod_byteAt {l : Launch} {D : va_G} {cI cL cB : ClassId} {ad : Nat → Nat} {R_thrown : Int} {R_used : Int} {R_many : Int} {R_values : Int} {R_textEnd : Int} {R_dataEnd : Int} {R_rowEnd : Int} {R_rowMany : Int} {R_waiting : Int} {R_mostWaiting : Int} {R_answer : Int} {R_steps : Int} {R_memory : Int} {R_maxSteps : Int} {R_maxMemory : Int} {R_fault : Int} {R_result : Int} {R_now : Int} {R_nowRow : Int} {R_come : Int} {R_puts : Int} {R_valueKinds : Int → Int} {R_from : Int → Int} {R_length : Int → Int} {R_texts : Int → Int} {p1 : Int} {out : Int × Int} (h : f_Mod_byteAt R_thrown R_answer R_result R_valueKinds R_from R_length R_texts p1 = some out) : CT jF0 false l D [(cI, .int), (cL, .long), (cB, .byte)] y_Mod_byteAt w_Mod_byteAt ({ frames := 1, cells := 0, slots := 0, locals := 22 } : Room) [.ref (ad 0), .int (zI p1)] [(ad 0, .inr (10, [.int (zI R_thrown), .ref (ad 1), .ref (ad 2), .ref (ad 3), .ref (ad 4), .ref (ad 5), .ref (ad 6), .int (zI R_used), .ref (ad 7), .int (zI R_many), .ref (ad 8), .ref (ad 9), .ref (ad 10), .ref (ad 11), .ref (ad 12), .ref (ad 13), .ref (ad 14), .ref (ad 15), .ref (ad 16), .int (zI R_values), .ref (ad 17), .int (zI R_textEnd), .ref (ad 18), .ref (ad 19), .ref (ad 20), .ref (ad 21), .int (zI R_dataEnd), .ref (ad 22), .int (zI R_rowEnd), .ref (ad 23), .ref (ad 24), .int (zI R_rowMany), .ref (ad 25), .ref (ad 26), .ref (ad 27), .ref (ad 28), .int (zI R_waiting), .int (zI R_mostWaiting), .int (zI R_answer), .int (zI R_steps), .int (zI R_memory), .int (zI R_maxSteps), .int (zI R_maxMemory), .int (zI R_fault), .int (zI R_result), .int (zI R_now), .int (zI R_nowRow), .int (zI R_come), .ref (ad 29), .ref (ad 30), .int (zI R_puts), .ref (ad 31)])), (ad 8, .inl (cI, 3700, .inl (zA R_valueKinds))), (ad 10, .inl (cI, 3700, .inl (zA R_from))), (ad 11, .inl (cI, 3700, .inl (zA R_length))), (ad 17, .inl (cB, 70000, .inl (zA R_texts)))] (some (.int (zI out.1))) [(ad 0, .inr (10, [.int (zI (out.2)), .ref (ad 1), .ref (ad 2), .ref (ad 3), .ref (ad 4), .ref (ad 5), .ref (ad 6), .int (zI R_used), .ref (ad 7), .int (zI R_many), .ref (ad 8), .ref (ad 9), .ref (ad 10), .ref (ad 11), .ref (ad 12), .ref (ad 13), .ref (ad 14), .ref (ad 15), .ref (ad 16), .int (zI R_values), .ref (ad 17), .int (zI R_textEnd), .ref (ad 18), .ref (ad 19), .ref (ad 20), .ref (ad 21), .int (zI R_dataEnd), .ref (ad 22), .int (zI R_rowEnd), .ref (ad 23), .ref (ad 24), .int (zI R_rowMany), .ref (ad 25), .ref (ad 26), .ref (ad 27), .ref (ad 28), .int (zI R_waiting), .int (zI R_mostWaiting), .int (zI R_answer), .int (zI R_steps), .int (zI R_memory), .int (zI R_maxSteps), .int (zI R_maxMemory), .int (zI R_fault), .int (zI R_result), .int (zI R_now), .int (zI R_nowRow), .int (zI R_come), .ref (ad 29), .ref (ad 30), .int (zI R_puts), .ref (ad 31)])), (ad 8, .inl (cI, 3700, .inl (zA R_valueKinds))), (ad 10, .inl (cI, 3700, .inl (zA R_from))), (ad 11, .inl (cI, 3700, .inl (zA R_length))), (ad 17, .inl (cB, 70000, .inl (zA R_texts)))] 0 0 := by
  refine CT_of_J (cc := b_Mod_byteAt) (maxL := 2) (ret := (some .int)) jF0_k (plainFor_of_name (by decide)) rfl (Nat.le_of_ble_eq_true rfl) ?_
  intro K hKl hKD X E
  subst hKl; subst hKD
  unfold f_Mod_byteAt at h
  refine J_aload_n X d_Mod_byteAt_0 rfl 0 rfl ?_
  refine J_iconst X d_Mod_byteAt_1 ?_
  refine J_put (ws' := [(ad 0, .inr (10, [.int (zI 0), .ref (ad 1), .ref (ad 2), .ref (ad 3), .ref (ad 4), .ref (ad 5), .ref (ad 6), .int (zI R_used), .ref (ad 7), .int (zI R_many), .ref (ad 8), .ref (ad 9), .ref (ad 10), .ref (ad 11), .ref (ad 12), .ref (ad 13), .ref (ad 14), .ref (ad 15), .ref (ad 16), .int (zI R_values), .ref (ad 17), .int (zI R_textEnd), .ref (ad 18), .ref (ad 19), .ref (ad 20), .ref (ad 21), .int (zI R_dataEnd), .ref (ad 22), .int (zI R_rowEnd), .ref (ad 23), .ref (ad 24), .int (zI R_rowMany), .ref (ad 25), .ref (ad 26), .ref (ad 27), .ref (ad 28), .int (zI R_waiting), .int (zI R_mostWaiting), .int (zI R_answer), .int (zI R_steps), .int (zI R_memory), .int (zI R_maxSteps), .int (zI R_maxMemory), .int (zI R_fault), .int (zI R_result), .int (zI R_now), .int (zI R_nowRow), .int (zI R_come), .ref (ad 29), .ref (ad 30), .int (zI R_puts), .ref (ad 31)])), (ad 8, .inl (cI, 3700, .inl (zA R_valueKinds))), (ad 10, .inl (cI, 3700, .inl (zA R_from))), (ad 11, .inl (cI, 3700, .inl (zA R_length))), (ad 17, .inl (cB, 70000, .inl (zA R_texts)))]) X (j_in in_Mod) ty_Mod tok_Mod nm_Mod 0 rfl rfl 0 (by decide) (j_m own_Mod_byteAt (by decide +kernel)) rfl rfl rfl (Nat.le_of_ble_eq_true rfl) d_Mod_byteAt_2 rfl ?_
  refine J_aload_n X d_Mod_byteAt_5 rfl 0 rfl ?_
  refine J_get X (j_in in_Mod) 0 rfl rfl 38 (by decide) (j_m own_Mod_byteAt (by decide +kernel)) rfl d_Mod_byteAt_6 ?_
  refine J_if_ne (tgt := 54) X d_Mod_byteAt_9 (by decide) h (fun c1 h => ?_) (fun c1 h => ?_)
  · refine J_iconst X d_Mod_byteAt_54 ?_
    cases h
    exact J_ret E ⟨_, rfl, rfl⟩ d_Mod_byteAt_55 (Nat.le_refl _) (Nat.le_refl _) rfl
  · refine J_aload_n X d_Mod_byteAt_12 rfl 0 rfl ?_
    refine J_get X (j_in in_Mod) 0 rfl rfl 10 (by decide) (j_m own_Mod_byteAt (by decide +kernel)) rfl d_Mod_byteAt_13 ?_
    refine J_aload_n X d_Mod_byteAt_16 rfl 0 rfl ?_
    refine J_get X (j_in in_Mod) 0 rfl rfl 44 (by decide) (j_m own_Mod_byteAt (by decide +kernel)) rfl d_Mod_byteAt_17 ?_
    obtain ⟨g2, h⟩ := wk_g h
    refine J_iald X 1 0 rfl rfl g2 d_Mod_byteAt_20 ?_
    refine J_iconst X d_Mod_byteAt_21 ?_
    refine J_icmp_ne (tgt := 54) X d_Mod_byteAt_22 (by decide) h (fun c3 h => ?_) (fun c3 h => ?_)
    · refine J_iconst X d_Mod_byteAt_54 ?_
      cases h
      exact J_ret E ⟨_, rfl, rfl⟩ d_Mod_byteAt_55 (Nat.le_refl _) (Nat.le_refl _) rfl
    · refine J_iload_n X d_Mod_byteAt_25 rfl 1 rfl ?_
      refine J_if_lt (tgt := 54) X d_Mod_byteAt_26 (by decide) h (fun c4 h => ?_) (fun c4 h => ?_)
      · refine J_iconst X d_Mod_byteAt_54 ?_
        cases h
        exact J_ret E ⟨_, rfl, rfl⟩ d_Mod_byteAt_55 (Nat.le_refl _) (Nat.le_refl _) rfl
      · refine J_iload_n X d_Mod_byteAt_29 rfl 1 rfl ?_
        refine J_aload_n X d_Mod_byteAt_30 rfl 0 rfl ?_
        refine J_get X (j_in in_Mod) 0 rfl rfl 13 (by decide) (j_m own_Mod_byteAt (by decide +kernel)) rfl d_Mod_byteAt_31 ?_
        refine J_aload_n X d_Mod_byteAt_34 rfl 0 rfl ?_
        refine J_get X (j_in in_Mod) 0 rfl rfl 44 (by decide) (j_m own_Mod_byteAt (by decide +kernel)) rfl d_Mod_byteAt_35 ?_
        obtain ⟨g5, h⟩ := wk_g h
        refine J_iald X 3 0 rfl rfl g5 d_Mod_byteAt_38 ?_
        refine J_icmp_ge (tgt := 54) X d_Mod_byteAt_39 (by decide) h (fun c6 h => ?_) (fun c6 h => ?_)
        · refine J_iconst X d_Mod_byteAt_54 ?_
          cases h
          exact J_ret E ⟨_, rfl, rfl⟩ d_Mod_byteAt_55 (Nat.le_refl _) (Nat.le_refl _) rfl
        · refine J_aload_n X d_Mod_byteAt_42 rfl 0 rfl ?_
          refine J_aload_n X d_Mod_byteAt_43 rfl 0 rfl ?_
          refine J_get X (j_in in_Mod) 0 rfl rfl 44 (by decide) (j_m own_Mod_byteAt (by decide +kernel)) rfl d_Mod_byteAt_44 ?_
          refine J_iload_n X d_Mod_byteAt_47 rfl 1 rfl ?_
          obtain ⟨r7, q8, h⟩ := wk_b h
          refine J_afterP (jrunV X (c_Mod_byteOf (ad := ad) q8) jF0_k (fun _ _ _ _ => trivial) (jgV own_Mod_byteAt (by decide +kernel)) rfl rfl rfl pd_Mod_byteOf (by decide) [0, 2, 4] rfl (by decide) 0 10 rfl rfl rfl rfl (Nat.le_of_ble_eq_true rfl) d_Mod_byteAt_48 (by decide)) ?_
          refine J_goto (tgt := 55) X d_Mod_byteAt_51 (by decide) ?_
          cases h
          exact J_ret E ⟨_, rfl, rfl⟩ d_Mod_byteAt_55 (Nat.le_refl _) (Nat.le_refl _) rfl

theorem d_Mod_dataAt_0 : decode b_Mod_dataAt 0 = .ok (.aload_n 0, 1) := by decide +kernel
theorem d_Mod_dataAt_1 : decode b_Mod_dataAt 1 = .ok (.getfield 98, 3) := by decide +kernel
theorem d_Mod_dataAt_4 : decode b_Mod_dataAt 4 = .ok (.ifCond .ne 58, 3) := by decide +kernel
theorem d_Mod_dataAt_7 : decode b_Mod_dataAt 7 = .ok (.aload_n 0, 1) := by decide +kernel
theorem d_Mod_dataAt_8 : decode b_Mod_dataAt 8 = .ok (.getfield 33, 3) := by decide +kernel
theorem d_Mod_dataAt_11 : decode b_Mod_dataAt 11 = .ok (.aload_n 0, 1) := by decide +kernel
theorem d_Mod_dataAt_12 : decode b_Mod_dataAt 12 = .ok (.getfield 98, 3) := by decide +kernel
theorem d_Mod_dataAt_15 : decode b_Mod_dataAt 15 = .ok (.ifCond .ne 10, 3) := by decide +kernel
theorem d_Mod_dataAt_18 : decode b_Mod_dataAt 18 = .ok (.aload_n 0, 1) := by decide +kernel
theorem d_Mod_dataAt_19 : decode b_Mod_dataAt 19 = .ok (.getfield 320, 3) := by decide +kernel
theorem d_Mod_dataAt_22 : decode b_Mod_dataAt 22 = .ok (.goto 4, 3) := by decide +kernel
theorem d_Mod_dataAt_25 : decode b_Mod_dataAt 25 = .ok (.iconst 0, 1) := by decide +kernel
theorem d_Mod_dataAt_26 : decode b_Mod_dataAt 26 = .ok (.iaload, 1) := by decide +kernel
theorem d_Mod_dataAt_27 : decode b_Mod_dataAt 27 = .ok (.iconst 4, 1) := by decide +kernel
theorem d_Mod_dataAt_28 : decode b_Mod_dataAt 28 = .ok (.if_icmp .ne 34, 3) := by decide +kernel
theorem d_Mod_dataAt_31 : decode b_Mod_dataAt 31 = .ok (.iload_n 1, 1) := by decide +kernel
theorem d_Mod_dataAt_32 : decode b_Mod_dataAt 32 = .ok (.ifCond .lt 30, 3) := by decide +kernel
theorem d_Mod_dataAt_35 : decode b_Mod_dataAt 35 = .ok (.iload_n 1, 1) := by decide +kernel
theorem d_Mod_dataAt_36 : decode b_Mod_dataAt 36 = .ok (.aload_n 0, 1) := by decide +kernel
theorem d_Mod_dataAt_37 : decode b_Mod_dataAt 37 = .ok (.getfield 42, 3) := by decide +kernel
theorem d_Mod_dataAt_40 : decode b_Mod_dataAt 40 = .ok (.aload_n 0, 1) := by decide +kernel
theorem d_Mod_dataAt_41 : decode b_Mod_dataAt 41 = .ok (.getfield 320, 3) := by decide +kernel
theorem d_Mod_dataAt_44 : decode b_Mod_dataAt 44 = .ok (.iaload, 1) := by decide +kernel
theorem d_Mod_dataAt_45 : decode b_Mod_dataAt 45 = .ok (.if_icmp .ge 17, 3) := by decide +kernel
theorem d_Mod_dataAt_48 : decode b_Mod_dataAt 48 = .ok (.aload_n 0, 1) := by decide +kernel
theorem d_Mod_dataAt_49 : decode b_Mod_dataAt 49 = .ok (.getfield 39, 3) := by decide +kernel
theorem d_Mod_dataAt_52 : decode b_Mod_dataAt 52 = .ok (.aload_n 0, 1) := by decide +kernel
theorem d_Mod_dataAt_53 : decode b_Mod_dataAt 53 = .ok (.getfield 320, 3) := by decide +kernel
theorem d_Mod_dataAt_56 : decode b_Mod_dataAt 56 = .ok (.iaload, 1) := by decide +kernel
theorem d_Mod_dataAt_57 : decode b_Mod_dataAt 57 = .ok (.iload_n 1, 1) := by decide +kernel
theorem d_Mod_dataAt_58 : decode b_Mod_dataAt 58 = .ok (.iadd, 1) := by decide +kernel
theorem d_Mod_dataAt_59 : decode b_Mod_dataAt 59 = .ok (.goto 4, 3) := by decide +kernel
theorem d_Mod_dataAt_62 : decode b_Mod_dataAt 62 = .ok (.iconst (-1), 1) := by decide +kernel
theorem d_Mod_dataAt_63 : decode b_Mod_dataAt 63 = .ok (.ireturn, 1) := by decide +kernel
def f_Mod_dataAt (R_answer : Int) (R_result : Int) (R_valueKinds : Int → Int) (R_from : Int → Int) (R_length : Int → Int) (p1 : Int) : Option (Int) :=
  if rI R_answer = true then (if R_answer = 0 then (
   if rI R_answer = true then (if R_answer = 0 then (
    if jix R_result 3700 = true then (
     if jr2 (R_valueKinds R_result) 4 = true then (if (R_valueKinds R_result) = 4 then (
      if rI p1 = true then (if p1 < 0 then (
       some (-1)) else (
       if jix R_result 3700 = true then (
        if jr2 p1 (R_length R_result) = true then (if (R_length R_result) ≤ p1 then (
         some (-1)) else (
         if jix R_result 3700 = true then (
          some ((R_from R_result) + p1)) else none)) else none) else none)) else none) else (
      some (-1))) else none) else none) else (
    if jix 0 3700 = true then (
     if jr2 (R_valueKinds 0) 4 = true then (if (R_valueKinds 0) = 4 then (
      if rI p1 = true then (if p1 < 0 then (
       some (-1)) else (
       if jix R_result 3700 = true then (
        if jr2 p1 (R_length R_result) = true then (if (R_length R_result) ≤ p1 then (
         some (-1)) else (
         if jix R_result 3700 = true then (
          some ((R_from R_result) + p1)) else none)) else none) else none)) else none) else (
      some (-1))) else none) else none)) else none) else (
   some (-1))) else none
set_option maxHeartbeats 4000000 in
set_option maxRecDepth 100000 in
theorem c_Mod_dataAt {l : Launch} {D : va_G} {cI cL cB : ClassId} {ad : Nat → Nat} {R_thrown : Int} {R_used : Int} {R_many : Int} {R_values : Int} {R_textEnd : Int} {R_dataEnd : Int} {R_rowEnd : Int} {R_rowMany : Int} {R_waiting : Int} {R_mostWaiting : Int} {R_answer : Int} {R_steps : Int} {R_memory : Int} {R_maxSteps : Int} {R_maxMemory : Int} {R_fault : Int} {R_result : Int} {R_now : Int} {R_nowRow : Int} {R_come : Int} {R_puts : Int} {R_valueKinds : Int → Int} {R_from : Int → Int} {R_length : Int → Int} {p1 : Int} {out : Int} (h : f_Mod_dataAt R_answer R_result R_valueKinds R_from R_length p1 = some out) : CT jF0 true l D [(cI, .int), (cL, .long), (cB, .byte)] y_Mod_dataAt w_Mod_dataAt ({ frames := 0, cells := 0, slots := 0, locals := 0 } : Room) [.ref (ad 0), .int (zI p1)] [(ad 0, .inr (10, [.int (zI R_thrown), .ref (ad 1), .ref (ad 2), .ref (ad 3), .ref (ad 4), .ref (ad 5), .ref (ad 6), .int (zI R_used), .ref (ad 7), .int (zI R_many), .ref (ad 8), .ref (ad 9), .ref (ad 10), .ref (ad 11), .ref (ad 12), .ref (ad 13), .ref (ad 14), .ref (ad 15), .ref (ad 16), .int (zI R_values), .ref (ad 17), .int (zI R_textEnd), .ref (ad 18), .ref (ad 19), .ref (ad 20), .ref (ad 21), .int (zI R_dataEnd), .ref (ad 22), .int (zI R_rowEnd), .ref (ad 23), .ref (ad 24), .int (zI R_rowMany), .ref (ad 25), .ref (ad 26), .ref (ad 27), .ref (ad 28), .int (zI R_waiting), .int (zI R_mostWaiting), .int (zI R_answer), .int (zI R_steps), .int (zI R_memory), .int (zI R_maxSteps), .int (zI R_maxMemory), .int (zI R_fault), .int (zI R_result), .int (zI R_now), .int (zI R_nowRow), .int (zI R_come), .ref (ad 29), .ref (ad 30), .int (zI R_puts), .ref (ad 31)])), (ad 8, .inl (cI, 3700, .inl (zA R_valueKinds))), (ad 10, .inl (cI, 3700, .inl (zA R_from))), (ad 11, .inl (cI, 3700, .inl (zA R_length)))] (some (.int (zI out))) [(ad 0, .inr (10, [.int (zI R_thrown), .ref (ad 1), .ref (ad 2), .ref (ad 3), .ref (ad 4), .ref (ad 5), .ref (ad 6), .int (zI R_used), .ref (ad 7), .int (zI R_many), .ref (ad 8), .ref (ad 9), .ref (ad 10), .ref (ad 11), .ref (ad 12), .ref (ad 13), .ref (ad 14), .ref (ad 15), .ref (ad 16), .int (zI R_values), .ref (ad 17), .int (zI R_textEnd), .ref (ad 18), .ref (ad 19), .ref (ad 20), .ref (ad 21), .int (zI R_dataEnd), .ref (ad 22), .int (zI R_rowEnd), .ref (ad 23), .ref (ad 24), .int (zI R_rowMany), .ref (ad 25), .ref (ad 26), .ref (ad 27), .ref (ad 28), .int (zI R_waiting), .int (zI R_mostWaiting), .int (zI R_answer), .int (zI R_steps), .int (zI R_memory), .int (zI R_maxSteps), .int (zI R_maxMemory), .int (zI R_fault), .int (zI R_result), .int (zI R_now), .int (zI R_nowRow), .int (zI R_come), .ref (ad 29), .ref (ad 30), .int (zI R_puts), .ref (ad 31)])), (ad 8, .inl (cI, 3700, .inl (zA R_valueKinds))), (ad 10, .inl (cI, 3700, .inl (zA R_from))), (ad 11, .inl (cI, 3700, .inl (zA R_length)))] 0 0 := by
  refine CT_of_J (cc := b_Mod_dataAt) (maxL := 2) (ret := (some .int)) jF0_k (plainFor_of_name (by decide)) rfl (Nat.le_of_ble_eq_true rfl) ?_
  intro K hKl hKD X E
  subst hKl; subst hKD
  unfold f_Mod_dataAt at h
  refine J_aload_n X d_Mod_dataAt_0 rfl 0 rfl ?_
  refine J_get X (j_in in_Mod) 0 rfl rfl 38 (by decide) (j_m own_Mod_dataAt (by decide +kernel)) rfl d_Mod_dataAt_1 ?_
  refine J_if_ne (tgt := 62) X d_Mod_dataAt_4 (by decide) h (fun c1 h => ?_) (fun c1 h => ?_)
  · refine J_iconst X d_Mod_dataAt_62 ?_
    cases h
    exact J_ret E ⟨_, rfl, rfl⟩ d_Mod_dataAt_63 (Nat.le_refl _) (Nat.le_refl _) rfl
  · refine J_aload_n X d_Mod_dataAt_7 rfl 0 rfl ?_
    refine J_get X (j_in in_Mod) 0 rfl rfl 10 (by decide) (j_m own_Mod_dataAt (by decide +kernel)) rfl d_Mod_dataAt_8 ?_
    refine J_aload_n X d_Mod_dataAt_11 rfl 0 rfl ?_
    refine J_get X (j_in in_Mod) 0 rfl rfl 38 (by decide) (j_m own_Mod_dataAt (by decide +kernel)) rfl d_Mod_dataAt_12 ?_
    refine J_if_ne (tgt := 25) X d_Mod_dataAt_15 (by decide) h (fun c2 h => ?_) (fun c2 h => ?_)
    · refine J_iconst X d_Mod_dataAt_25 ?_
      obtain ⟨g3, h⟩ := wk_g h
      refine J_iald X 1 0 rfl rfl g3 d_Mod_dataAt_26 ?_
      refine J_iconst X d_Mod_dataAt_27 ?_
      refine J_icmp_ne (tgt := 62) X d_Mod_dataAt_28 (by decide) h (fun c4 h => ?_) (fun c4 h => ?_)
      · refine J_iconst X d_Mod_dataAt_62 ?_
        cases h
        exact J_ret E ⟨_, rfl, rfl⟩ d_Mod_dataAt_63 (Nat.le_refl _) (Nat.le_refl _) rfl
      · refine J_iload_n X d_Mod_dataAt_31 rfl 1 rfl ?_
        refine J_if_lt (tgt := 62) X d_Mod_dataAt_32 (by decide) h (fun c5 h => ?_) (fun c5 h => ?_)
        · refine J_iconst X d_Mod_dataAt_62 ?_
          cases h
          exact J_ret E ⟨_, rfl, rfl⟩ d_Mod_dataAt_63 (Nat.le_refl _) (Nat.le_refl _) rfl
        · refine J_iload_n X d_Mod_dataAt_35 rfl 1 rfl ?_
          refine J_aload_n X d_Mod_dataAt_36 rfl 0 rfl ?_
          refine J_get X (j_in in_Mod) 0 rfl rfl 13 (by decide) (j_m own_Mod_dataAt (by decide +kernel)) rfl d_Mod_dataAt_37 ?_
          refine J_aload_n X d_Mod_dataAt_40 rfl 0 rfl ?_
          refine J_get X (j_in in_Mod) 0 rfl rfl 44 (by decide) (j_m own_Mod_dataAt (by decide +kernel)) rfl d_Mod_dataAt_41 ?_
          obtain ⟨g6, h⟩ := wk_g h
          refine J_iald X 3 0 rfl rfl g6 d_Mod_dataAt_44 ?_
          refine J_icmp_ge (tgt := 62) X d_Mod_dataAt_45 (by decide) h (fun c7 h => ?_) (fun c7 h => ?_)
          · refine J_iconst X d_Mod_dataAt_62 ?_
            cases h
            exact J_ret E ⟨_, rfl, rfl⟩ d_Mod_dataAt_63 (Nat.le_refl _) (Nat.le_refl _) rfl
          · refine J_aload_n X d_Mod_dataAt_48 rfl 0 rfl ?_
            refine J_get X (j_in in_Mod) 0 rfl rfl 12 (by decide) (j_m own_Mod_dataAt (by decide +kernel)) rfl d_Mod_dataAt_49 ?_
            refine J_aload_n X d_Mod_dataAt_52 rfl 0 rfl ?_
            refine J_get X (j_in in_Mod) 0 rfl rfl 44 (by decide) (j_m own_Mod_dataAt (by decide +kernel)) rfl d_Mod_dataAt_53 ?_
            obtain ⟨g8, h⟩ := wk_g h
            refine J_iald X 2 0 rfl rfl g8 d_Mod_dataAt_56 ?_
            refine J_iload_n X d_Mod_dataAt_57 rfl 1 rfl ?_
            refine J_iadd X d_Mod_dataAt_58 ?_
            refine J_goto (tgt := 63) X d_Mod_dataAt_59 (by decide) ?_
            cases h
            exact J_ret E ⟨_, rfl, rfl⟩ d_Mod_dataAt_63 (Nat.le_refl _) (Nat.le_refl _) rfl
    · refine J_aload_n X d_Mod_dataAt_18 rfl 0 rfl ?_
      refine J_get X (j_in in_Mod) 0 rfl rfl 44 (by decide) (j_m own_Mod_dataAt (by decide +kernel)) rfl d_Mod_dataAt_19 ?_
      refine J_goto (tgt := 26) X d_Mod_dataAt_22 (by decide) ?_
      obtain ⟨g9, h⟩ := wk_g h
      refine J_iald X 1 0 rfl rfl g9 d_Mod_dataAt_26 ?_
      refine J_iconst X d_Mod_dataAt_27 ?_
      refine J_icmp_ne (tgt := 62) X d_Mod_dataAt_28 (by decide) h (fun c10 h => ?_) (fun c10 h => ?_)
      · refine J_iconst X d_Mod_dataAt_62 ?_
        cases h
        exact J_ret E ⟨_, rfl, rfl⟩ d_Mod_dataAt_63 (Nat.le_refl _) (Nat.le_refl _) rfl
      · refine J_iload_n X d_Mod_dataAt_31 rfl 1 rfl ?_
        refine J_if_lt (tgt := 62) X d_Mod_dataAt_32 (by decide) h (fun c11 h => ?_) (fun c11 h => ?_)
        · refine J_iconst X d_Mod_dataAt_62 ?_
          cases h
          exact J_ret E ⟨_, rfl, rfl⟩ d_Mod_dataAt_63 (Nat.le_refl _) (Nat.le_refl _) rfl
        · refine J_iload_n X d_Mod_dataAt_35 rfl 1 rfl ?_
          refine J_aload_n X d_Mod_dataAt_36 rfl 0 rfl ?_
          refine J_get X (j_in in_Mod) 0 rfl rfl 13 (by decide) (j_m own_Mod_dataAt (by decide +kernel)) rfl d_Mod_dataAt_37 ?_
          refine J_aload_n X d_Mod_dataAt_40 rfl 0 rfl ?_
          refine J_get X (j_in in_Mod) 0 rfl rfl 44 (by decide) (j_m own_Mod_dataAt (by decide +kernel)) rfl d_Mod_dataAt_41 ?_
          obtain ⟨g12, h⟩ := wk_g h
          refine J_iald X 3 0 rfl rfl g12 d_Mod_dataAt_44 ?_
          refine J_icmp_ge (tgt := 62) X d_Mod_dataAt_45 (by decide) h (fun c13 h => ?_) (fun c13 h => ?_)
          · refine J_iconst X d_Mod_dataAt_62 ?_
            cases h
            exact J_ret E ⟨_, rfl, rfl⟩ d_Mod_dataAt_63 (Nat.le_refl _) (Nat.le_refl _) rfl
          · refine J_aload_n X d_Mod_dataAt_48 rfl 0 rfl ?_
            refine J_get X (j_in in_Mod) 0 rfl rfl 12 (by decide) (j_m own_Mod_dataAt (by decide +kernel)) rfl d_Mod_dataAt_49 ?_
            refine J_aload_n X d_Mod_dataAt_52 rfl 0 rfl ?_
            refine J_get X (j_in in_Mod) 0 rfl rfl 44 (by decide) (j_m own_Mod_dataAt (by decide +kernel)) rfl d_Mod_dataAt_53 ?_
            obtain ⟨g14, h⟩ := wk_g h
            refine J_iald X 2 0 rfl rfl g14 d_Mod_dataAt_56 ?_
            refine J_iload_n X d_Mod_dataAt_57 rfl 1 rfl ?_
            refine J_iadd X d_Mod_dataAt_58 ?_
            refine J_goto (tgt := 63) X d_Mod_dataAt_59 (by decide) ?_
            cases h
            exact J_ret E ⟨_, rfl, rfl⟩ d_Mod_dataAt_63 (Nat.le_refl _) (Nat.le_refl _) rfl

theorem d_Mod_data_0 : decode b_Mod_data 0 = .ok (.aload_n 0, 1) := by decide +kernel
theorem d_Mod_data_1 : decode b_Mod_data 1 = .ok (.iconst 0, 1) := by decide +kernel
theorem d_Mod_data_2 : decode b_Mod_data 2 = .ok (.putfield 111, 3) := by decide +kernel
theorem d_Mod_data_5 : decode b_Mod_data 5 = .ok (.aload_n 0, 1) := by decide +kernel
theorem d_Mod_data_6 : decode b_Mod_data 6 = .ok (.iload_n 1, 1) := by decide +kernel
theorem d_Mod_data_7 : decode b_Mod_data 7 = .ok (.invokevirtual 323, 3) := by decide +kernel
theorem d_Mod_data_10 : decode b_Mod_data 10 = .ok (.istore_n 3, 1) := by decide +kernel
theorem d_Mod_data_11 : decode b_Mod_data 11 = .ok (.iload_n 3, 1) := by decide +kernel
theorem d_Mod_data_12 : decode b_Mod_data 12 = .ok (.ifCond .ge 5, 3) := by decide +kernel
theorem d_Mod_data_15 : decode b_Mod_data 15 = .ok (.iconst (-1), 1) := by decide +kernel
theorem d_Mod_data_16 : decode b_Mod_data 16 = .ok (.ireturn, 1) := by decide +kernel
theorem d_Mod_data_17 : decode b_Mod_data 17 = .ok (.iload_n 2, 1) := by decide +kernel
theorem d_Mod_data_18 : decode b_Mod_data 18 = .ok (.tableswitch 90 0 3 #[30, 37, 58, 79], 30) := by decide +kernel
theorem d_Mod_data_48 : decode b_Mod_data 48 = .ok (.aload_n 0, 1) := by decide +kernel
theorem d_Mod_data_49 : decode b_Mod_data 49 = .ok (.getfield 64, 3) := by decide +kernel
theorem d_Mod_data_52 : decode b_Mod_data 52 = .ok (.iload_n 3, 1) := by decide +kernel
theorem d_Mod_data_53 : decode b_Mod_data 53 = .ok (.iaload, 1) := by decide +kernel
theorem d_Mod_data_54 : decode b_Mod_data 54 = .ok (.ireturn, 1) := by decide +kernel
theorem d_Mod_data_55 : decode b_Mod_data 55 = .ok (.aload_n 0, 1) := by decide +kernel
theorem d_Mod_data_56 : decode b_Mod_data 56 = .ok (.getfield 64, 3) := by decide +kernel
theorem d_Mod_data_59 : decode b_Mod_data 59 = .ok (.iload_n 3, 1) := by decide +kernel
theorem d_Mod_data_60 : decode b_Mod_data 60 = .ok (.iaload, 1) := by decide +kernel
theorem d_Mod_data_61 : decode b_Mod_data 61 = .ok (.iconst 3, 1) := by decide +kernel
theorem d_Mod_data_62 : decode b_Mod_data 62 = .ok (.if_icmp .ne 7, 3) := by decide +kernel
theorem d_Mod_data_65 : decode b_Mod_data 65 = .ok (.iconst (-1), 1) := by decide +kernel
theorem d_Mod_data_66 : decode b_Mod_data 66 = .ok (.goto 9, 3) := by decide +kernel
theorem d_Mod_data_69 : decode b_Mod_data 69 = .ok (.aload_n 0, 1) := by decide +kernel
theorem d_Mod_data_70 : decode b_Mod_data 70 = .ok (.getfield 70, 3) := by decide +kernel
theorem d_Mod_data_73 : decode b_Mod_data 73 = .ok (.iload_n 3, 1) := by decide +kernel
theorem d_Mod_data_74 : decode b_Mod_data 74 = .ok (.iaload, 1) := by decide +kernel
theorem d_Mod_data_75 : decode b_Mod_data 75 = .ok (.ireturn, 1) := by decide +kernel
theorem d_Mod_data_76 : decode b_Mod_data 76 = .ok (.aload_n 0, 1) := by decide +kernel
theorem d_Mod_data_77 : decode b_Mod_data 77 = .ok (.getfield 64, 3) := by decide +kernel
theorem d_Mod_data_80 : decode b_Mod_data 80 = .ok (.iload_n 3, 1) := by decide +kernel
theorem d_Mod_data_81 : decode b_Mod_data 81 = .ok (.iaload, 1) := by decide +kernel
theorem d_Mod_data_82 : decode b_Mod_data 82 = .ok (.ifCond .ne 13, 3) := by decide +kernel
theorem d_Mod_data_85 : decode b_Mod_data 85 = .ok (.aload_n 0, 1) := by decide +kernel
theorem d_Mod_data_86 : decode b_Mod_data 86 = .ok (.getfield 67, 3) := by decide +kernel
theorem d_Mod_data_89 : decode b_Mod_data 89 = .ok (.iload_n 3, 1) := by decide +kernel
theorem d_Mod_data_90 : decode b_Mod_data 90 = .ok (.laload, 1) := by decide +kernel
theorem d_Mod_data_91 : decode b_Mod_data 91 = .ok (.l2i, 1) := by decide +kernel
theorem d_Mod_data_92 : decode b_Mod_data 92 = .ok (.goto 4, 3) := by decide +kernel
theorem d_Mod_data_95 : decode b_Mod_data 95 = .ok (.iconst (-1), 1) := by decide +kernel
theorem d_Mod_data_96 : decode b_Mod_data 96 = .ok (.ireturn, 1) := by decide +kernel
theorem d_Mod_data_97 : decode b_Mod_data 97 = .ok (.aload_n 0, 1) := by decide +kernel
theorem d_Mod_data_98 : decode b_Mod_data 98 = .ok (.iload_n 3, 1) := by decide +kernel
theorem d_Mod_data_99 : decode b_Mod_data 99 = .ok (.aload_n 0, 1) := by decide +kernel
theorem d_Mod_data_100 : decode b_Mod_data 100 = .ok (.iload_n 3, 1) := by decide +kernel
theorem d_Mod_data_101 : decode b_Mod_data 101 = .ok (.invokevirtual 227, 3) := by decide +kernel
theorem d_Mod_data_104 : decode b_Mod_data 104 = .ok (.invokevirtual 230, 3) := by decide +kernel
theorem d_Mod_data_107 : decode b_Mod_data 107 = .ok (.ireturn, 1) := by decide +kernel
theorem d_Mod_data_108 : decode b_Mod_data 108 = .ok (.iconst (-1), 1) := by decide +kernel
theorem d_Mod_data_109 : decode b_Mod_data 109 = .ok (.ireturn, 1) := by decide +kernel
def f_Mod_data (N : Nat) (R_thrown : Int) (R_answer : Int) (R_result : Int) (R_valueKinds : Int → Int) (R_from : Int → Int) (R_length : Int → Int) (R_forms : Int → Int) (R_tags : Int → Int) (R_counts : Int → Int) (R_comes : Int → Int) (p1 : Int) (p2 : Int) : Option (Int × Int × (Int → Int)) :=
  Option.bind (f_Mod_dataAt R_answer R_result R_valueKinds R_from R_length p1) (fun r1 =>
   if rI r1 = true then (if 0 ≤ r1 then (
    if rI p2 = true then (
     if p2 = 0 then (
      if jix r1 5000 = true then (
       some ((R_forms r1), 0, R_comes)) else none) else (
      if p2 = 1 then (
       if jix r1 5000 = true then (
        if jr2 (R_forms r1) 3 = true then (if (R_forms r1) = 3 then (
         some ((-1), 0, R_comes)) else (
         if jix r1 5000 = true then (
          some ((R_counts r1), 0, R_comes)) else none)) else none) else none) else (
       if p2 = 2 then (
        if jix r1 5000 = true then (
         if rI (R_forms r1) = true then (if (R_forms r1) = 0 then (
          if jix r1 5000 = true then (
           some ((R_tags r1), 0, R_comes)) else none) else (
          some ((-1), 0, R_comes))) else none) else none) else (
        if p2 = 3 then (
         Option.bind (f_Mod_sizeOfData N R_forms R_counts r1) (fun r16 =>
          ob2 (f_Mod_depthOfData N R_forms R_counts R_comes r1 r16) (fun r18 R_comes_19 =>
           some (r18, 0, R_comes_19)))) else (
         some ((-1), 0, R_comes)))))) else none) else (
    some ((-1), 0, R_comes))) else none)
set_option maxHeartbeats 4000000 in
set_option maxRecDepth 100000 in
theorem c_Mod_data {l : Launch} {D : va_G} {cI cL cB : ClassId} {ad : Nat → Nat} {N : Nat} {R_thrown : Int} {R_used : Int} {R_many : Int} {R_values : Int} {R_textEnd : Int} {R_dataEnd : Int} {R_rowEnd : Int} {R_rowMany : Int} {R_waiting : Int} {R_mostWaiting : Int} {R_answer : Int} {R_steps : Int} {R_memory : Int} {R_maxSteps : Int} {R_maxMemory : Int} {R_fault : Int} {R_result : Int} {R_now : Int} {R_nowRow : Int} {R_come : Int} {R_puts : Int} {R_valueKinds : Int → Int} {R_from : Int → Int} {R_length : Int → Int} {R_forms : Int → Int} {R_tags : Int → Int} {R_counts : Int → Int} {R_comes : Int → Int} {p1 : Int} {p2 : Int} {out : Int × Int × (Int → Int)} (h : f_Mod_data N R_thrown R_answer R_result R_valueKinds R_from R_length R_forms R_tags R_counts R_comes p1 p2 = some out) : CT jF0 false l D [(cI, .int), (cL, .long), (cB, .byte)] y_Mod_data w_Mod_data ({ frames := 2, cells := 0, slots := 0, locals := 46 } : Room) [.ref (ad 0), .int (zI p1), .int (zI p2)] [(ad 0, .inr (10, [.int (zI R_thrown), .ref (ad 1), .ref (ad 2), .ref (ad 3), .ref (ad 4), .ref (ad 5), .ref (ad 6), .int (zI R_used), .ref (ad 7), .int (zI R_many), .ref (ad 8), .ref (ad 9), .ref (ad 10), .ref (ad 11), .ref (ad 12), .ref (ad 13), .ref (ad 14), .ref (ad 15), .ref (ad 16), .int (zI R_values), .ref (ad 17), .int (zI R_textEnd), .ref (ad 18), .ref (ad 19), .ref (ad 20), .ref (ad 21), .int (zI R_dataEnd), .ref (ad 22), .int (zI R_rowEnd), .ref (ad 23), .ref (ad 24), .int (zI R_rowMany), .ref (ad 25), .ref (ad 26), .ref (ad 27), .ref (ad 28), .int (zI R_waiting), .int (zI R_mostWaiting), .int (zI R_answer), .int (zI R_steps), .int (zI R_memory), .int (zI R_maxSteps), .int (zI R_maxMemory), .int (zI R_fault), .int (zI R_result), .int (zI R_now), .int (zI R_nowRow), .int (zI R_come), .ref (ad 29), .ref (ad 30), .int (zI R_puts), .ref (ad 31)])), (ad 8, .inl (cI, 3700, .inl (zA R_valueKinds))), (ad 10, .inl (cI, 3700, .inl (zA R_from))), (ad 11, .inl (cI, 3700, .inl (zA R_length))), (ad 18, .inl (cI, 5000, .inl (zA R_forms))), (ad 19, .inl (cL, 5000, .inr (.inl (zB R_tags)))), (ad 20, .inl (cI, 5000, .inl (zA R_counts))), (ad 31, .inl (cI, 220, .inl (zA R_comes)))] (some (.int (zI out.1))) [(ad 0, .inr (10, [.int (zI (out.2.1)), .ref (ad 1), .ref (ad 2), .ref (ad 3), .ref (ad 4), .ref (ad 5), .ref (ad 6), .int (zI R_used), .ref (ad 7), .int (zI R_many), .ref (ad 8), .ref (ad 9), .ref (ad 10), .ref (ad 11), .ref (ad 12), .ref (ad 13), .ref (ad 14), .ref (ad 15), .ref (ad 16), .int (zI R_values), .ref (ad 17), .int (zI R_textEnd), .ref (ad 18), .ref (ad 19), .ref (ad 20), .ref (ad 21), .int (zI R_dataEnd), .ref (ad 22), .int (zI R_rowEnd), .ref (ad 23), .ref (ad 24), .int (zI R_rowMany), .ref (ad 25), .ref (ad 26), .ref (ad 27), .ref (ad 28), .int (zI R_waiting), .int (zI R_mostWaiting), .int (zI R_answer), .int (zI R_steps), .int (zI R_memory), .int (zI R_maxSteps), .int (zI R_maxMemory), .int (zI R_fault), .int (zI R_result), .int (zI R_now), .int (zI R_nowRow), .int (zI R_come), .ref (ad 29), .ref (ad 30), .int (zI R_puts), .ref (ad 31)])), (ad 8, .inl (cI, 3700, .inl (zA R_valueKinds))), (ad 10, .inl (cI, 3700, .inl (zA R_from))), (ad 11, .inl (cI, 3700, .inl (zA R_length))), (ad 18, .inl (cI, 5000, .inl (zA R_forms))), (ad 19, .inl (cL, 5000, .inr (.inl (zB R_tags)))), (ad 20, .inl (cI, 5000, .inl (zA R_counts))), (ad 31, .inl (cI, 220, .inl (zA (out.2.2))))] 0 0 := by
  refine CT_of_J (cc := b_Mod_data) (maxL := 4) (ret := (some .int)) jF0_k (plainFor_of_name (by decide)) rfl (Nat.le_of_ble_eq_true rfl) ?_
  intro K hKl hKD X E
  subst hKl; subst hKD
  unfold f_Mod_data at h
  refine J_aload_n X d_Mod_data_0 rfl 0 rfl ?_
  refine J_iconst X d_Mod_data_1 ?_
  refine J_put (ws' := [(ad 0, .inr (10, [.int (zI 0), .ref (ad 1), .ref (ad 2), .ref (ad 3), .ref (ad 4), .ref (ad 5), .ref (ad 6), .int (zI R_used), .ref (ad 7), .int (zI R_many), .ref (ad 8), .ref (ad 9), .ref (ad 10), .ref (ad 11), .ref (ad 12), .ref (ad 13), .ref (ad 14), .ref (ad 15), .ref (ad 16), .int (zI R_values), .ref (ad 17), .int (zI R_textEnd), .ref (ad 18), .ref (ad 19), .ref (ad 20), .ref (ad 21), .int (zI R_dataEnd), .ref (ad 22), .int (zI R_rowEnd), .ref (ad 23), .ref (ad 24), .int (zI R_rowMany), .ref (ad 25), .ref (ad 26), .ref (ad 27), .ref (ad 28), .int (zI R_waiting), .int (zI R_mostWaiting), .int (zI R_answer), .int (zI R_steps), .int (zI R_memory), .int (zI R_maxSteps), .int (zI R_maxMemory), .int (zI R_fault), .int (zI R_result), .int (zI R_now), .int (zI R_nowRow), .int (zI R_come), .ref (ad 29), .ref (ad 30), .int (zI R_puts), .ref (ad 31)])), (ad 8, .inl (cI, 3700, .inl (zA R_valueKinds))), (ad 10, .inl (cI, 3700, .inl (zA R_from))), (ad 11, .inl (cI, 3700, .inl (zA R_length))), (ad 18, .inl (cI, 5000, .inl (zA R_forms))), (ad 19, .inl (cL, 5000, .inr (.inl (zB R_tags)))), (ad 20, .inl (cI, 5000, .inl (zA R_counts))), (ad 31, .inl (cI, 220, .inl (zA R_comes)))]) X (j_in in_Mod) ty_Mod tok_Mod nm_Mod 0 rfl rfl 0 (by decide) (j_m own_Mod_data (by decide +kernel)) rfl rfl rfl (Nat.le_of_ble_eq_true rfl) d_Mod_data_2 rfl ?_
  refine J_aload_n X d_Mod_data_5 rfl 0 rfl ?_
  refine J_iload_n X d_Mod_data_6 rfl 1 rfl ?_
  obtain ⟨r1, q2, h⟩ := wk_b h
  refine J_afterP (jrunV X (c_Mod_dataAt (ad := ad) q2) jF0_k (fun _ _ _ _ => trivial) (jgV own_Mod_data (by decide +kernel)) rfl rfl rfl pd_Mod_dataAt (by decide) [0, 1, 2, 3] rfl (by decide) 0 10 rfl rfl rfl rfl (Nat.le_of_ble_eq_true rfl) d_Mod_data_7 (by decide)) ?_
  refine J_istore_n (lv' := [(3, .int (zI r1)), (0, .ref (ad 0)), (1, .int (zI p1)), (2, .int (zI p2))]) X d_Mod_data_10 rfl (by decide) rfl ?_
  refine J_iload_n X d_Mod_data_11 rfl 0 rfl ?_
  refine J_if_ge (tgt := 17) X d_Mod_data_12 (by decide) h (fun c3 h => ?_) (fun c3 h => ?_)
  · refine J_iload_n X d_Mod_data_17 rfl 3 rfl ?_
    obtain ⟨g4, h⟩ := wk_g h
    rcases wk_c h with ⟨c5, h⟩ | ⟨c5, h⟩
    · refine J_tsIn (tgt := 48) X 0 c5 g4 d_Mod_data_18 (by decide) (by decide) rfl (by decide) ?_
      refine J_aload_n X d_Mod_data_48 rfl 1 rfl ?_
      refine J_get X (j_in in_Mod) 0 rfl rfl 22 (by decide) (j_m own_Mod_data (by decide +kernel)) rfl d_Mod_data_49 ?_
      refine J_iload_n X d_Mod_data_52 rfl 0 rfl ?_
      obtain ⟨g6, h⟩ := wk_g h
      refine J_iald X 4 0 rfl rfl g6 d_Mod_data_53 ?_
      cases h
      exact J_ret E ⟨_, rfl, rfl⟩ d_Mod_data_54 (Nat.le_refl _) (Nat.le_refl _) rfl
    · rcases wk_c h with ⟨c7, h⟩ | ⟨c7, h⟩
      · refine J_tsIn (tgt := 55) X 1 c7 g4 d_Mod_data_18 (by decide) (by decide) rfl (by decide) ?_
        refine J_aload_n X d_Mod_data_55 rfl 1 rfl ?_
        refine J_get X (j_in in_Mod) 0 rfl rfl 22 (by decide) (j_m own_Mod_data (by decide +kernel)) rfl d_Mod_data_56 ?_
        refine J_iload_n X d_Mod_data_59 rfl 0 rfl ?_
        obtain ⟨g8, h⟩ := wk_g h
        refine J_iald X 4 0 rfl rfl g8 d_Mod_data_60 ?_
        refine J_iconst X d_Mod_data_61 ?_
        refine J_icmp_ne (tgt := 69) X d_Mod_data_62 (by decide) h (fun c9 h => ?_) (fun c9 h => ?_)
        · refine J_aload_n X d_Mod_data_69 rfl 1 rfl ?_
          refine J_get X (j_in in_Mod) 0 rfl rfl 24 (by decide) (j_m own_Mod_data (by decide +kernel)) rfl d_Mod_data_70 ?_
          refine J_iload_n X d_Mod_data_73 rfl 0 rfl ?_
          obtain ⟨g10, h⟩ := wk_g h
          refine J_iald X 6 0 rfl rfl g10 d_Mod_data_74 ?_
          cases h
          exact J_ret E ⟨_, rfl, rfl⟩ d_Mod_data_75 (Nat.le_refl _) (Nat.le_refl _) rfl
        · refine J_iconst X d_Mod_data_65 ?_
          refine J_goto (tgt := 75) X d_Mod_data_66 (by decide) ?_
          cases h
          exact J_ret E ⟨_, rfl, rfl⟩ d_Mod_data_75 (Nat.le_refl _) (Nat.le_refl _) rfl
      · rcases wk_c h with ⟨c11, h⟩ | ⟨c11, h⟩
        · refine J_tsIn (tgt := 76) X 2 c11 g4 d_Mod_data_18 (by decide) (by decide) rfl (by decide) ?_
          refine J_aload_n X d_Mod_data_76 rfl 1 rfl ?_
          refine J_get X (j_in in_Mod) 0 rfl rfl 22 (by decide) (j_m own_Mod_data (by decide +kernel)) rfl d_Mod_data_77 ?_
          refine J_iload_n X d_Mod_data_80 rfl 0 rfl ?_
          obtain ⟨g12, h⟩ := wk_g h
          refine J_iald X 4 0 rfl rfl g12 d_Mod_data_81 ?_
          refine J_if_ne (tgt := 95) X d_Mod_data_82 (by decide) h (fun c13 h => ?_) (fun c13 h => ?_)
          · refine J_iconst X d_Mod_data_95 ?_
            cases h
            exact J_ret E ⟨_, rfl, rfl⟩ d_Mod_data_96 (Nat.le_refl _) (Nat.le_refl _) rfl
          · refine J_aload_n X d_Mod_data_85 rfl 1 rfl ?_
            refine J_get X (j_in in_Mod) 0 rfl rfl 23 (by decide) (j_m own_Mod_data (by decide +kernel)) rfl d_Mod_data_86 ?_
            refine J_iload_n X d_Mod_data_89 rfl 0 rfl ?_
            obtain ⟨g14, h⟩ := wk_g h
            refine J_lald X 5 1 rfl rfl g14 d_Mod_data_90 ?_
            refine J_l2i X d_Mod_data_91 ?_
            refine J_goto (tgt := 96) X d_Mod_data_92 (by decide) ?_
            cases h
            exact J_ret E ⟨_, rfl, rfl⟩ d_Mod_data_96 (Nat.le_refl _) (Nat.le_refl _) rfl
        · rcases wk_c h with ⟨c15, h⟩ | ⟨c15, h⟩
          · refine J_tsIn (tgt := 97) X 3 c15 g4 d_Mod_data_18 (by decide) (by decide) rfl (by decide) ?_
            refine J_aload_n X d_Mod_data_97 rfl 1 rfl ?_
            refine J_iload_n X d_Mod_data_98 rfl 0 rfl ?_
            refine J_aload_n X d_Mod_data_99 rfl 1 rfl ?_
            refine J_iload_n X d_Mod_data_100 rfl 0 rfl ?_
            obtain ⟨r16, q17, h⟩ := wk_b h
            refine J_afterP (jrunV X (c_Mod_sizeOfData (ad := ad) q17) jF0_k (fun _ _ _ _ => trivial) (jgV own_Mod_data (by decide +kernel)) rfl rfl rfl pd_Mod_sizeOfData (by decide) [0, 4, 6] rfl (by decide) 0 10 rfl rfl rfl rfl (Nat.le_of_ble_eq_true rfl) d_Mod_data_101 (by decide)) ?_
            obtain ⟨r18, R_comes_19, q20, h⟩ := wk_b2 h
            refine J_afterI0 (ws' := [(ad 0, .inr (10, [.int (zI 0), .ref (ad 1), .ref (ad 2), .ref (ad 3), .ref (ad 4), .ref (ad 5), .ref (ad 6), .int (zI R_used), .ref (ad 7), .int (zI R_many), .ref (ad 8), .ref (ad 9), .ref (ad 10), .ref (ad 11), .ref (ad 12), .ref (ad 13), .ref (ad 14), .ref (ad 15), .ref (ad 16), .int (zI R_values), .ref (ad 17), .int (zI R_textEnd), .ref (ad 18), .ref (ad 19), .ref (ad 20), .ref (ad 21), .int (zI R_dataEnd), .ref (ad 22), .int (zI R_rowEnd), .ref (ad 23), .ref (ad 24), .int (zI R_rowMany), .ref (ad 25), .ref (ad 26), .ref (ad 27), .ref (ad 28), .int (zI R_waiting), .int (zI R_mostWaiting), .int (zI R_answer), .int (zI R_steps), .int (zI R_memory), .int (zI R_maxSteps), .int (zI R_maxMemory), .int (zI R_fault), .int (zI R_result), .int (zI R_now), .int (zI R_nowRow), .int (zI R_come), .ref (ad 29), .ref (ad 30), .int (zI R_puts), .ref (ad 31)])), (ad 8, .inl (cI, 3700, .inl (zA R_valueKinds))), (ad 10, .inl (cI, 3700, .inl (zA R_from))), (ad 11, .inl (cI, 3700, .inl (zA R_length))), (ad 18, .inl (cI, 5000, .inl (zA R_forms))), (ad 19, .inl (cL, 5000, .inr (.inl (zB R_tags)))), (ad 20, .inl (cI, 5000, .inl (zA R_counts))), (ad 31, .inl (cI, 220, .inl (zA R_comes_19)))]) X (jrunV X (c_Mod_depthOfData (ad := ad) q20) jF0_k (fun _ _ _ _ => trivial) (jgV own_Mod_data (by decide +kernel)) rfl rfl rfl pd_Mod_depthOfData (by decide) [0, 4, 6, 7] rfl (by decide) 0 10 rfl rfl rfl rfl (Nat.le_of_ble_eq_true rfl) d_Mod_data_104 (by decide)) [0, 4, 6, 7] [1, 2, 3, 5] [4, 0, 1, 2, 5, 3, 6, 7] rfl rfl (by decide) (by decide) rfl (by decide) ?_
            cases h
            exact J_ret E ⟨_, rfl, rfl⟩ d_Mod_data_107 (Nat.le_refl _) (Nat.le_refl _) rfl
          · refine J_tsOut (tgt := 108) X g4 d_Mod_data_18 (by omega) (by decide) ?_
            refine J_iconst X d_Mod_data_108 ?_
            cases h
            exact J_ret E ⟨_, rfl, rfl⟩ d_Mod_data_109 (Nat.le_refl _) (Nat.le_refl _) rfl
  · refine J_iconst X d_Mod_data_15 ?_
    cases h
    exact J_ret E ⟨_, rfl, rfl⟩ d_Mod_data_16 (Nat.le_refl _) (Nat.le_refl _) rfl

theorem d_Mod_dataValue_0 : decode b_Mod_dataValue 0 = .ok (.aload_n 0, 1) := by decide +kernel
theorem d_Mod_dataValue_1 : decode b_Mod_dataValue 1 = .ok (.iload_n 1, 1) := by decide +kernel
theorem d_Mod_dataValue_2 : decode b_Mod_dataValue 2 = .ok (.invokevirtual 323, 3) := by decide +kernel
theorem d_Mod_dataValue_5 : decode b_Mod_dataValue 5 = .ok (.istore_n 2, 1) := by decide +kernel
theorem d_Mod_dataValue_6 : decode b_Mod_dataValue 6 = .ok (.aload_n 0, 1) := by decide +kernel
theorem d_Mod_dataValue_7 : decode b_Mod_dataValue 7 = .ok (.iload_n 2, 1) := by decide +kernel
theorem d_Mod_dataValue_8 : decode b_Mod_dataValue 8 = .ok (.ifCond .lt 25, 3) := by decide +kernel
theorem d_Mod_dataValue_11 : decode b_Mod_dataValue 11 = .ok (.aload_n 0, 1) := by decide +kernel
theorem d_Mod_dataValue_12 : decode b_Mod_dataValue 12 = .ok (.getfield 64, 3) := by decide +kernel
theorem d_Mod_dataValue_15 : decode b_Mod_dataValue 15 = .ok (.iload_n 2, 1) := by decide +kernel
theorem d_Mod_dataValue_16 : decode b_Mod_dataValue 16 = .ok (.ifCond .ge 7, 3) := by decide +kernel
theorem d_Mod_dataValue_19 : decode b_Mod_dataValue 19 = .ok (.iconst 0, 1) := by decide +kernel
theorem d_Mod_dataValue_20 : decode b_Mod_dataValue 20 = .ok (.goto 4, 3) := by decide +kernel
theorem d_Mod_dataValue_23 : decode b_Mod_dataValue 23 = .ok (.iload_n 2, 1) := by decide +kernel
theorem d_Mod_dataValue_24 : decode b_Mod_dataValue 24 = .ok (.iaload, 1) := by decide +kernel
theorem d_Mod_dataValue_25 : decode b_Mod_dataValue 25 = .ok (.iconst 3, 1) := by decide +kernel
theorem d_Mod_dataValue_26 : decode b_Mod_dataValue 26 = .ok (.if_icmp .ne 7, 3) := by decide +kernel
theorem d_Mod_dataValue_29 : decode b_Mod_dataValue 29 = .ok (.iconst 0, 1) := by decide +kernel
theorem d_Mod_dataValue_30 : decode b_Mod_dataValue 30 = .ok (.goto 4, 3) := by decide +kernel
theorem d_Mod_dataValue_33 : decode b_Mod_dataValue 33 = .ok (.iconst 1, 1) := by decide +kernel
theorem d_Mod_dataValue_34 : decode b_Mod_dataValue 34 = .ok (.putfield 111, 3) := by decide +kernel
theorem d_Mod_dataValue_37 : decode b_Mod_dataValue 37 = .ok (.aload_n 0, 1) := by decide +kernel
theorem d_Mod_dataValue_38 : decode b_Mod_dataValue 38 = .ok (.getfield 111, 3) := by decide +kernel
theorem d_Mod_dataValue_41 : decode b_Mod_dataValue 41 = .ok (.ifCond .le 7, 3) := by decide +kernel
theorem d_Mod_dataValue_44 : decode b_Mod_dataValue 44 = .ok (.lconst 0, 1) := by decide +kernel
theorem d_Mod_dataValue_45 : decode b_Mod_dataValue 45 = .ok (.goto 9, 3) := by decide +kernel
theorem d_Mod_dataValue_48 : decode b_Mod_dataValue 48 = .ok (.aload_n 0, 1) := by decide +kernel
theorem d_Mod_dataValue_49 : decode b_Mod_dataValue 49 = .ok (.getfield 67, 3) := by decide +kernel
theorem d_Mod_dataValue_52 : decode b_Mod_dataValue 52 = .ok (.iload_n 2, 1) := by decide +kernel
theorem d_Mod_dataValue_53 : decode b_Mod_dataValue 53 = .ok (.laload, 1) := by decide +kernel
theorem d_Mod_dataValue_54 : decode b_Mod_dataValue 54 = .ok (.lreturn, 1) := by decide +kernel
def f_Mod_dataValue (R_thrown : Int) (R_answer : Int) (R_result : Int) (R_valueKinds : Int → Int) (R_from : Int → Int) (R_length : Int → Int) (R_forms : Int → Int) (R_tags : Int → Int) (p1 : Int) : Option (Int × Int) :=
  Option.bind (f_Mod_dataAt R_answer R_result R_valueKinds R_from R_length p1) (fun r1 =>
   if rI r1 = true then (if r1 < 0 then (
    some (0, 1)) else (
    if rI r1 = true then (if 0 ≤ r1 then (
     if jix r1 5000 = true then (
      if jr2 (R_forms r1) 3 = true then (if (R_forms r1) = 3 then (
       if jix r1 5000 = true then (
        some ((R_tags r1), 0)) else none) else (
       some (0, 1))) else none) else none) else (
     if jix 0 5000 = true then (
      if jr2 (R_forms 0) 3 = true then (if (R_forms 0) = 3 then (
       if jix r1 5000 = true then (
        some ((R_tags r1), 0)) else none) else (
       some (0, 1))) else none) else none)) else none)) else none)
set_option maxHeartbeats 4000000 in
set_option maxRecDepth 100000 in
theorem c_Mod_dataValue {l : Launch} {D : va_G} {cI cL cB : ClassId} {ad : Nat → Nat} {R_thrown : Int} {R_used : Int} {R_many : Int} {R_values : Int} {R_textEnd : Int} {R_dataEnd : Int} {R_rowEnd : Int} {R_rowMany : Int} {R_waiting : Int} {R_mostWaiting : Int} {R_answer : Int} {R_steps : Int} {R_memory : Int} {R_maxSteps : Int} {R_maxMemory : Int} {R_fault : Int} {R_result : Int} {R_now : Int} {R_nowRow : Int} {R_come : Int} {R_puts : Int} {R_valueKinds : Int → Int} {R_from : Int → Int} {R_length : Int → Int} {R_forms : Int → Int} {R_tags : Int → Int} {p1 : Int} {out : Int × Int} (h : f_Mod_dataValue R_thrown R_answer R_result R_valueKinds R_from R_length R_forms R_tags p1 = some out) : CT jF0 false l D [(cI, .int), (cL, .long), (cB, .byte)] y_Mod_dataValue w_Mod_dataValue ({ frames := 1, cells := 0, slots := 0, locals := 21 } : Room) [.ref (ad 0), .int (zI p1)] [(ad 0, .inr (10, [.int (zI R_thrown), .ref (ad 1), .ref (ad 2), .ref (ad 3), .ref (ad 4), .ref (ad 5), .ref (ad 6), .int (zI R_used), .ref (ad 7), .int (zI R_many), .ref (ad 8), .ref (ad 9), .ref (ad 10), .ref (ad 11), .ref (ad 12), .ref (ad 13), .ref (ad 14), .ref (ad 15), .ref (ad 16), .int (zI R_values), .ref (ad 17), .int (zI R_textEnd), .ref (ad 18), .ref (ad 19), .ref (ad 20), .ref (ad 21), .int (zI R_dataEnd), .ref (ad 22), .int (zI R_rowEnd), .ref (ad 23), .ref (ad 24), .int (zI R_rowMany), .ref (ad 25), .ref (ad 26), .ref (ad 27), .ref (ad 28), .int (zI R_waiting), .int (zI R_mostWaiting), .int (zI R_answer), .int (zI R_steps), .int (zI R_memory), .int (zI R_maxSteps), .int (zI R_maxMemory), .int (zI R_fault), .int (zI R_result), .int (zI R_now), .int (zI R_nowRow), .int (zI R_come), .ref (ad 29), .ref (ad 30), .int (zI R_puts), .ref (ad 31)])), (ad 8, .inl (cI, 3700, .inl (zA R_valueKinds))), (ad 10, .inl (cI, 3700, .inl (zA R_from))), (ad 11, .inl (cI, 3700, .inl (zA R_length))), (ad 18, .inl (cI, 5000, .inl (zA R_forms))), (ad 19, .inl (cL, 5000, .inr (.inl (zB R_tags))))] (some (.long (zL out.1))) [(ad 0, .inr (10, [.int (zI (out.2)), .ref (ad 1), .ref (ad 2), .ref (ad 3), .ref (ad 4), .ref (ad 5), .ref (ad 6), .int (zI R_used), .ref (ad 7), .int (zI R_many), .ref (ad 8), .ref (ad 9), .ref (ad 10), .ref (ad 11), .ref (ad 12), .ref (ad 13), .ref (ad 14), .ref (ad 15), .ref (ad 16), .int (zI R_values), .ref (ad 17), .int (zI R_textEnd), .ref (ad 18), .ref (ad 19), .ref (ad 20), .ref (ad 21), .int (zI R_dataEnd), .ref (ad 22), .int (zI R_rowEnd), .ref (ad 23), .ref (ad 24), .int (zI R_rowMany), .ref (ad 25), .ref (ad 26), .ref (ad 27), .ref (ad 28), .int (zI R_waiting), .int (zI R_mostWaiting), .int (zI R_answer), .int (zI R_steps), .int (zI R_memory), .int (zI R_maxSteps), .int (zI R_maxMemory), .int (zI R_fault), .int (zI R_result), .int (zI R_now), .int (zI R_nowRow), .int (zI R_come), .ref (ad 29), .ref (ad 30), .int (zI R_puts), .ref (ad 31)])), (ad 8, .inl (cI, 3700, .inl (zA R_valueKinds))), (ad 10, .inl (cI, 3700, .inl (zA R_from))), (ad 11, .inl (cI, 3700, .inl (zA R_length))), (ad 18, .inl (cI, 5000, .inl (zA R_forms))), (ad 19, .inl (cL, 5000, .inr (.inl (zB R_tags))))] 0 0 := by
  refine CT_of_J (cc := b_Mod_dataValue) (maxL := 3) (ret := (some .long)) jF0_k (plainFor_of_name (by decide)) rfl (Nat.le_of_ble_eq_true rfl) ?_
  intro K hKl hKD X E
  subst hKl; subst hKD
  unfold f_Mod_dataValue at h
  refine J_aload_n X d_Mod_dataValue_0 rfl 0 rfl ?_
  refine J_iload_n X d_Mod_dataValue_1 rfl 1 rfl ?_
  obtain ⟨r1, q2, h⟩ := wk_b h
  refine J_afterP (jrunV X (c_Mod_dataAt (ad := ad) q2) jF0_k (fun _ _ _ _ => trivial) (jgV own_Mod_dataValue (by decide +kernel)) rfl rfl rfl pd_Mod_dataAt (by decide) [0, 1, 2, 3] rfl (by decide) 0 10 rfl rfl rfl rfl (Nat.le_of_ble_eq_true rfl) d_Mod_dataValue_2 (by decide)) ?_
  refine J_istore_n (lv' := [(2, .int (zI r1)), (0, .ref (ad 0)), (1, .int (zI p1))]) X d_Mod_dataValue_5 rfl (by decide) rfl ?_
  refine J_aload_n X d_Mod_dataValue_6 rfl 1 rfl ?_
  refine J_iload_n X d_Mod_dataValue_7 rfl 0 rfl ?_
  refine J_if_lt (tgt := 33) X d_Mod_dataValue_8 (by decide) h (fun c3 h => ?_) (fun c3 h => ?_)
  · refine J_iconst X d_Mod_dataValue_33 ?_
    refine J_put (ws' := [(ad 0, .inr (10, [.int (zI 1), .ref (ad 1), .ref (ad 2), .ref (ad 3), .ref (ad 4), .ref (ad 5), .ref (ad 6), .int (zI R_used), .ref (ad 7), .int (zI R_many), .ref (ad 8), .ref (ad 9), .ref (ad 10), .ref (ad 11), .ref (ad 12), .ref (ad 13), .ref (ad 14), .ref (ad 15), .ref (ad 16), .int (zI R_values), .ref (ad 17), .int (zI R_textEnd), .ref (ad 18), .ref (ad 19), .ref (ad 20), .ref (ad 21), .int (zI R_dataEnd), .ref (ad 22), .int (zI R_rowEnd), .ref (ad 23), .ref (ad 24), .int (zI R_rowMany), .ref (ad 25), .ref (ad 26), .ref (ad 27), .ref (ad 28), .int (zI R_waiting), .int (zI R_mostWaiting), .int (zI R_answer), .int (zI R_steps), .int (zI R_memory), .int (zI R_maxSteps), .int (zI R_maxMemory), .int (zI R_fault), .int (zI R_result), .int (zI R_now), .int (zI R_nowRow), .int (zI R_come), .ref (ad 29), .ref (ad 30), .int (zI R_puts), .ref (ad 31)])), (ad 8, .inl (cI, 3700, .inl (zA R_valueKinds))), (ad 10, .inl (cI, 3700, .inl (zA R_from))), (ad 11, .inl (cI, 3700, .inl (zA R_length))), (ad 18, .inl (cI, 5000, .inl (zA R_forms))), (ad 19, .inl (cL, 5000, .inr (.inl (zB R_tags))))]) X (j_in in_Mod) ty_Mod tok_Mod nm_Mod 0 rfl rfl 0 (by decide) (j_m own_Mod_dataValue (by decide +kernel)) rfl rfl rfl (Nat.le_of_ble_eq_true rfl) d_Mod_dataValue_34 rfl ?_
    refine J_aload_n X d_Mod_dataValue_37 rfl 1 rfl ?_
    refine J_get X (j_in in_Mod) 0 rfl rfl 0 (by decide) (j_m own_Mod_dataValue (by decide +kernel)) rfl d_Mod_dataValue_38 ?_
    refine J_if_le (pa := none) (pb := some ()) (o := ()) (tgt := 48) X d_Mod_dataValue_41 (by decide) (by decide) (fun _ h => by cases h) (fun _ _ => ?_)
    refine J_lconst (v := 0) X d_Mod_dataValue_44 (by decide) ?_
    refine J_goto (tgt := 54) X d_Mod_dataValue_45 (by decide) ?_
    cases h
    exact J_ret E rfl d_Mod_dataValue_54 (Nat.le_refl _) (Nat.le_refl _) rfl
  · refine J_aload_n X d_Mod_dataValue_11 rfl 1 rfl ?_
    refine J_get X (j_in in_Mod) 0 rfl rfl 22 (by decide) (j_m own_Mod_dataValue (by decide +kernel)) rfl d_Mod_dataValue_12 ?_
    refine J_iload_n X d_Mod_dataValue_15 rfl 0 rfl ?_
    refine J_if_ge (tgt := 23) X d_Mod_dataValue_16 (by decide) h (fun c4 h => ?_) (fun c4 h => ?_)
    · refine J_iload_n X d_Mod_dataValue_23 rfl 0 rfl ?_
      obtain ⟨g5, h⟩ := wk_g h
      refine J_iald X 4 0 rfl rfl g5 d_Mod_dataValue_24 ?_
      refine J_iconst X d_Mod_dataValue_25 ?_
      refine J_icmp_ne (tgt := 33) X d_Mod_dataValue_26 (by decide) h (fun c6 h => ?_) (fun c6 h => ?_)
      · refine J_iconst X d_Mod_dataValue_33 ?_
        refine J_put (ws' := [(ad 0, .inr (10, [.int (zI 1), .ref (ad 1), .ref (ad 2), .ref (ad 3), .ref (ad 4), .ref (ad 5), .ref (ad 6), .int (zI R_used), .ref (ad 7), .int (zI R_many), .ref (ad 8), .ref (ad 9), .ref (ad 10), .ref (ad 11), .ref (ad 12), .ref (ad 13), .ref (ad 14), .ref (ad 15), .ref (ad 16), .int (zI R_values), .ref (ad 17), .int (zI R_textEnd), .ref (ad 18), .ref (ad 19), .ref (ad 20), .ref (ad 21), .int (zI R_dataEnd), .ref (ad 22), .int (zI R_rowEnd), .ref (ad 23), .ref (ad 24), .int (zI R_rowMany), .ref (ad 25), .ref (ad 26), .ref (ad 27), .ref (ad 28), .int (zI R_waiting), .int (zI R_mostWaiting), .int (zI R_answer), .int (zI R_steps), .int (zI R_memory), .int (zI R_maxSteps), .int (zI R_maxMemory), .int (zI R_fault), .int (zI R_result), .int (zI R_now), .int (zI R_nowRow), .int (zI R_come), .ref (ad 29), .ref (ad 30), .int (zI R_puts), .ref (ad 31)])), (ad 8, .inl (cI, 3700, .inl (zA R_valueKinds))), (ad 10, .inl (cI, 3700, .inl (zA R_from))), (ad 11, .inl (cI, 3700, .inl (zA R_length))), (ad 18, .inl (cI, 5000, .inl (zA R_forms))), (ad 19, .inl (cL, 5000, .inr (.inl (zB R_tags))))]) X (j_in in_Mod) ty_Mod tok_Mod nm_Mod 0 rfl rfl 0 (by decide) (j_m own_Mod_dataValue (by decide +kernel)) rfl rfl rfl (Nat.le_of_ble_eq_true rfl) d_Mod_dataValue_34 rfl ?_
        refine J_aload_n X d_Mod_dataValue_37 rfl 1 rfl ?_
        refine J_get X (j_in in_Mod) 0 rfl rfl 0 (by decide) (j_m own_Mod_dataValue (by decide +kernel)) rfl d_Mod_dataValue_38 ?_
        refine J_if_le (pa := none) (pb := some ()) (o := ()) (tgt := 48) X d_Mod_dataValue_41 (by decide) (by decide) (fun _ h => by cases h) (fun _ _ => ?_)
        refine J_lconst (v := 0) X d_Mod_dataValue_44 (by decide) ?_
        refine J_goto (tgt := 54) X d_Mod_dataValue_45 (by decide) ?_
        cases h
        exact J_ret E rfl d_Mod_dataValue_54 (Nat.le_refl _) (Nat.le_refl _) rfl
      · refine J_iconst X d_Mod_dataValue_29 ?_
        refine J_goto (tgt := 34) X d_Mod_dataValue_30 (by decide) ?_
        refine J_put (ws' := [(ad 0, .inr (10, [.int (zI 0), .ref (ad 1), .ref (ad 2), .ref (ad 3), .ref (ad 4), .ref (ad 5), .ref (ad 6), .int (zI R_used), .ref (ad 7), .int (zI R_many), .ref (ad 8), .ref (ad 9), .ref (ad 10), .ref (ad 11), .ref (ad 12), .ref (ad 13), .ref (ad 14), .ref (ad 15), .ref (ad 16), .int (zI R_values), .ref (ad 17), .int (zI R_textEnd), .ref (ad 18), .ref (ad 19), .ref (ad 20), .ref (ad 21), .int (zI R_dataEnd), .ref (ad 22), .int (zI R_rowEnd), .ref (ad 23), .ref (ad 24), .int (zI R_rowMany), .ref (ad 25), .ref (ad 26), .ref (ad 27), .ref (ad 28), .int (zI R_waiting), .int (zI R_mostWaiting), .int (zI R_answer), .int (zI R_steps), .int (zI R_memory), .int (zI R_maxSteps), .int (zI R_maxMemory), .int (zI R_fault), .int (zI R_result), .int (zI R_now), .int (zI R_nowRow), .int (zI R_come), .ref (ad 29), .ref (ad 30), .int (zI R_puts), .ref (ad 31)])), (ad 8, .inl (cI, 3700, .inl (zA R_valueKinds))), (ad 10, .inl (cI, 3700, .inl (zA R_from))), (ad 11, .inl (cI, 3700, .inl (zA R_length))), (ad 18, .inl (cI, 5000, .inl (zA R_forms))), (ad 19, .inl (cL, 5000, .inr (.inl (zB R_tags))))]) X (j_in in_Mod) ty_Mod tok_Mod nm_Mod 0 rfl rfl 0 (by decide) (j_m own_Mod_dataValue (by decide +kernel)) rfl rfl rfl (Nat.le_of_ble_eq_true rfl) d_Mod_dataValue_34 rfl ?_
        refine J_aload_n X d_Mod_dataValue_37 rfl 1 rfl ?_
        refine J_get X (j_in in_Mod) 0 rfl rfl 0 (by decide) (j_m own_Mod_dataValue (by decide +kernel)) rfl d_Mod_dataValue_38 ?_
        refine J_if_le (pa := some ()) (pb := none) (o := ()) (tgt := 48) X d_Mod_dataValue_41 (by decide) (by decide) (fun _ _ => ?_) (fun _ h => by cases h)
        refine J_aload_n X d_Mod_dataValue_48 rfl 1 rfl ?_
        refine J_get X (j_in in_Mod) 0 rfl rfl 23 (by decide) (j_m own_Mod_dataValue (by decide +kernel)) rfl d_Mod_dataValue_49 ?_
        refine J_iload_n X d_Mod_dataValue_52 rfl 0 rfl ?_
        obtain ⟨g7, h⟩ := wk_g h
        refine J_lald X 5 1 rfl rfl g7 d_Mod_dataValue_53 ?_
        cases h
        exact J_ret E rfl d_Mod_dataValue_54 (Nat.le_refl _) (Nat.le_refl _) rfl
    · refine J_iconst X d_Mod_dataValue_19 ?_
      refine J_goto (tgt := 24) X d_Mod_dataValue_20 (by decide) ?_
      obtain ⟨g8, h⟩ := wk_g h
      refine J_iald X 4 0 rfl rfl g8 d_Mod_dataValue_24 ?_
      refine J_iconst X d_Mod_dataValue_25 ?_
      refine J_icmp_ne (tgt := 33) X d_Mod_dataValue_26 (by decide) h (fun c9 h => ?_) (fun c9 h => ?_)
      · refine J_iconst X d_Mod_dataValue_33 ?_
        refine J_put (ws' := [(ad 0, .inr (10, [.int (zI 1), .ref (ad 1), .ref (ad 2), .ref (ad 3), .ref (ad 4), .ref (ad 5), .ref (ad 6), .int (zI R_used), .ref (ad 7), .int (zI R_many), .ref (ad 8), .ref (ad 9), .ref (ad 10), .ref (ad 11), .ref (ad 12), .ref (ad 13), .ref (ad 14), .ref (ad 15), .ref (ad 16), .int (zI R_values), .ref (ad 17), .int (zI R_textEnd), .ref (ad 18), .ref (ad 19), .ref (ad 20), .ref (ad 21), .int (zI R_dataEnd), .ref (ad 22), .int (zI R_rowEnd), .ref (ad 23), .ref (ad 24), .int (zI R_rowMany), .ref (ad 25), .ref (ad 26), .ref (ad 27), .ref (ad 28), .int (zI R_waiting), .int (zI R_mostWaiting), .int (zI R_answer), .int (zI R_steps), .int (zI R_memory), .int (zI R_maxSteps), .int (zI R_maxMemory), .int (zI R_fault), .int (zI R_result), .int (zI R_now), .int (zI R_nowRow), .int (zI R_come), .ref (ad 29), .ref (ad 30), .int (zI R_puts), .ref (ad 31)])), (ad 8, .inl (cI, 3700, .inl (zA R_valueKinds))), (ad 10, .inl (cI, 3700, .inl (zA R_from))), (ad 11, .inl (cI, 3700, .inl (zA R_length))), (ad 18, .inl (cI, 5000, .inl (zA R_forms))), (ad 19, .inl (cL, 5000, .inr (.inl (zB R_tags))))]) X (j_in in_Mod) ty_Mod tok_Mod nm_Mod 0 rfl rfl 0 (by decide) (j_m own_Mod_dataValue (by decide +kernel)) rfl rfl rfl (Nat.le_of_ble_eq_true rfl) d_Mod_dataValue_34 rfl ?_
        refine J_aload_n X d_Mod_dataValue_37 rfl 1 rfl ?_
        refine J_get X (j_in in_Mod) 0 rfl rfl 0 (by decide) (j_m own_Mod_dataValue (by decide +kernel)) rfl d_Mod_dataValue_38 ?_
        refine J_if_le (pa := none) (pb := some ()) (o := ()) (tgt := 48) X d_Mod_dataValue_41 (by decide) (by decide) (fun _ h => by cases h) (fun _ _ => ?_)
        refine J_lconst (v := 0) X d_Mod_dataValue_44 (by decide) ?_
        refine J_goto (tgt := 54) X d_Mod_dataValue_45 (by decide) ?_
        cases h
        exact J_ret E rfl d_Mod_dataValue_54 (Nat.le_refl _) (Nat.le_refl _) rfl
      · refine J_iconst X d_Mod_dataValue_29 ?_
        refine J_goto (tgt := 34) X d_Mod_dataValue_30 (by decide) ?_
        refine J_put (ws' := [(ad 0, .inr (10, [.int (zI 0), .ref (ad 1), .ref (ad 2), .ref (ad 3), .ref (ad 4), .ref (ad 5), .ref (ad 6), .int (zI R_used), .ref (ad 7), .int (zI R_many), .ref (ad 8), .ref (ad 9), .ref (ad 10), .ref (ad 11), .ref (ad 12), .ref (ad 13), .ref (ad 14), .ref (ad 15), .ref (ad 16), .int (zI R_values), .ref (ad 17), .int (zI R_textEnd), .ref (ad 18), .ref (ad 19), .ref (ad 20), .ref (ad 21), .int (zI R_dataEnd), .ref (ad 22), .int (zI R_rowEnd), .ref (ad 23), .ref (ad 24), .int (zI R_rowMany), .ref (ad 25), .ref (ad 26), .ref (ad 27), .ref (ad 28), .int (zI R_waiting), .int (zI R_mostWaiting), .int (zI R_answer), .int (zI R_steps), .int (zI R_memory), .int (zI R_maxSteps), .int (zI R_maxMemory), .int (zI R_fault), .int (zI R_result), .int (zI R_now), .int (zI R_nowRow), .int (zI R_come), .ref (ad 29), .ref (ad 30), .int (zI R_puts), .ref (ad 31)])), (ad 8, .inl (cI, 3700, .inl (zA R_valueKinds))), (ad 10, .inl (cI, 3700, .inl (zA R_from))), (ad 11, .inl (cI, 3700, .inl (zA R_length))), (ad 18, .inl (cI, 5000, .inl (zA R_forms))), (ad 19, .inl (cL, 5000, .inr (.inl (zB R_tags))))]) X (j_in in_Mod) ty_Mod tok_Mod nm_Mod 0 rfl rfl 0 (by decide) (j_m own_Mod_dataValue (by decide +kernel)) rfl rfl rfl (Nat.le_of_ble_eq_true rfl) d_Mod_dataValue_34 rfl ?_
        refine J_aload_n X d_Mod_dataValue_37 rfl 1 rfl ?_
        refine J_get X (j_in in_Mod) 0 rfl rfl 0 (by decide) (j_m own_Mod_dataValue (by decide +kernel)) rfl d_Mod_dataValue_38 ?_
        refine J_if_le (pa := some ()) (pb := none) (o := ()) (tgt := 48) X d_Mod_dataValue_41 (by decide) (by decide) (fun _ _ => ?_) (fun _ h => by cases h)
        refine J_aload_n X d_Mod_dataValue_48 rfl 1 rfl ?_
        refine J_get X (j_in in_Mod) 0 rfl rfl 23 (by decide) (j_m own_Mod_dataValue (by decide +kernel)) rfl d_Mod_dataValue_49 ?_
        refine J_iload_n X d_Mod_dataValue_52 rfl 0 rfl ?_
        obtain ⟨g10, h⟩ := wk_g h
        refine J_lald X 5 1 rfl rfl g10 d_Mod_dataValue_53 ?_
        cases h
        exact J_ret E rfl d_Mod_dataValue_54 (Nat.le_refl _) (Nat.le_refl _) rfl

theorem d_Mod_dataByte_0 : decode b_Mod_dataByte 0 = .ok (.aload_n 0, 1) := by decide +kernel
theorem d_Mod_dataByte_1 : decode b_Mod_dataByte 1 = .ok (.iconst 0, 1) := by decide +kernel
theorem d_Mod_dataByte_2 : decode b_Mod_dataByte 2 = .ok (.putfield 111, 3) := by decide +kernel
theorem d_Mod_dataByte_5 : decode b_Mod_dataByte 5 = .ok (.aload_n 0, 1) := by decide +kernel
theorem d_Mod_dataByte_6 : decode b_Mod_dataByte 6 = .ok (.iload_n 1, 1) := by decide +kernel
theorem d_Mod_dataByte_7 : decode b_Mod_dataByte 7 = .ok (.invokevirtual 323, 3) := by decide +kernel
theorem d_Mod_dataByte_10 : decode b_Mod_dataByte 10 = .ok (.istore_n 3, 1) := by decide +kernel
theorem d_Mod_dataByte_11 : decode b_Mod_dataByte 11 = .ok (.iload_n 3, 1) := by decide +kernel
theorem d_Mod_dataByte_12 : decode b_Mod_dataByte 12 = .ok (.ifCond .lt 55, 3) := by decide +kernel
theorem d_Mod_dataByte_15 : decode b_Mod_dataByte 15 = .ok (.aload_n 0, 1) := by decide +kernel
theorem d_Mod_dataByte_16 : decode b_Mod_dataByte 16 = .ok (.getfield 64, 3) := by decide +kernel
theorem d_Mod_dataByte_19 : decode b_Mod_dataByte 19 = .ok (.iload_n 3, 1) := by decide +kernel
theorem d_Mod_dataByte_20 : decode b_Mod_dataByte 20 = .ok (.ifCond .ge 7, 3) := by decide +kernel
theorem d_Mod_dataByte_23 : decode b_Mod_dataByte 23 = .ok (.iconst 0, 1) := by decide +kernel
theorem d_Mod_dataByte_24 : decode b_Mod_dataByte 24 = .ok (.goto 4, 3) := by decide +kernel
theorem d_Mod_dataByte_27 : decode b_Mod_dataByte 27 = .ok (.iload_n 3, 1) := by decide +kernel
theorem d_Mod_dataByte_28 : decode b_Mod_dataByte 28 = .ok (.iaload, 1) := by decide +kernel
theorem d_Mod_dataByte_29 : decode b_Mod_dataByte 29 = .ok (.iconst 4, 1) := by decide +kernel
theorem d_Mod_dataByte_30 : decode b_Mod_dataByte 30 = .ok (.if_icmp .ne 37, 3) := by decide +kernel
theorem d_Mod_dataByte_33 : decode b_Mod_dataByte 33 = .ok (.iload_n 2, 1) := by decide +kernel
theorem d_Mod_dataByte_34 : decode b_Mod_dataByte 34 = .ok (.ifCond .lt 33, 3) := by decide +kernel
theorem d_Mod_dataByte_37 : decode b_Mod_dataByte 37 = .ok (.iload_n 2, 1) := by decide +kernel
theorem d_Mod_dataByte_38 : decode b_Mod_dataByte 38 = .ok (.aload_n 0, 1) := by decide +kernel
theorem d_Mod_dataByte_39 : decode b_Mod_dataByte 39 = .ok (.getfield 70, 3) := by decide +kernel
theorem d_Mod_dataByte_42 : decode b_Mod_dataByte 42 = .ok (.iload_n 3, 1) := by decide +kernel
theorem d_Mod_dataByte_43 : decode b_Mod_dataByte 43 = .ok (.iaload, 1) := by decide +kernel
theorem d_Mod_dataByte_44 : decode b_Mod_dataByte 44 = .ok (.if_icmp .ge 23, 3) := by decide +kernel
theorem d_Mod_dataByte_47 : decode b_Mod_dataByte 47 = .ok (.aload_n 0, 1) := by decide +kernel
theorem d_Mod_dataByte_48 : decode b_Mod_dataByte 48 = .ok (.getfield 61, 3) := by decide +kernel
theorem d_Mod_dataByte_51 : decode b_Mod_dataByte 51 = .ok (.aload_n 0, 1) := by decide +kernel
theorem d_Mod_dataByte_52 : decode b_Mod_dataByte 52 = .ok (.getfield 73, 3) := by decide +kernel
theorem d_Mod_dataByte_55 : decode b_Mod_dataByte 55 = .ok (.iload_n 3, 1) := by decide +kernel
theorem d_Mod_dataByte_56 : decode b_Mod_dataByte 56 = .ok (.iaload, 1) := by decide +kernel
theorem d_Mod_dataByte_57 : decode b_Mod_dataByte 57 = .ok (.iload_n 2, 1) := by decide +kernel
theorem d_Mod_dataByte_58 : decode b_Mod_dataByte 58 = .ok (.iadd, 1) := by decide +kernel
theorem d_Mod_dataByte_59 : decode b_Mod_dataByte 59 = .ok (.baload, 1) := by decide +kernel
theorem d_Mod_dataByte_60 : decode b_Mod_dataByte 60 = .ok (.sipush 255, 3) := by decide +kernel
theorem d_Mod_dataByte_63 : decode b_Mod_dataByte 63 = .ok (.iand, 1) := by decide +kernel
theorem d_Mod_dataByte_64 : decode b_Mod_dataByte 64 = .ok (.goto 4, 3) := by decide +kernel
theorem d_Mod_dataByte_67 : decode b_Mod_dataByte 67 = .ok (.iconst (-1), 1) := by decide +kernel
theorem d_Mod_dataByte_68 : decode b_Mod_dataByte 68 = .ok (.ireturn, 1) := by decide +kernel
def f_Mod_dataByte (R_thrown : Int) (R_answer : Int) (R_result : Int) (R_valueKinds : Int → Int) (R_from : Int → Int) (R_length : Int → Int) (R_texts : Int → Int) (R_forms : Int → Int) (R_counts : Int → Int) (R_textsAt : Int → Int) (p1 : Int) (p2 : Int) : Option (Int × Int) :=
  Option.bind (f_Mod_dataAt R_answer R_result R_valueKinds R_from R_length p1) (fun r1 =>
   if rI r1 = true then (if r1 < 0 then (
    some ((-1), 0)) else (
    if rI r1 = true then (if 0 ≤ r1 then (
     if jix r1 5000 = true then (
      if jr2 (R_forms r1) 4 = true then (if (R_forms r1) = 4 then (
       if rI p2 = true then (if p2 < 0 then (
        some ((-1), 0)) else (
        if jix r1 5000 = true then (
         if jr2 p2 (R_counts r1) = true then (if (R_counts r1) ≤ p2 then (
          some ((-1), 0)) else (
          if jix r1 5000 = true then (
           if jix ((R_textsAt r1) + p2) 70000 = true then (
            some ((j_and (R_texts ((R_textsAt r1) + p2)) 255), 0)) else none) else none)) else none) else none)) else none) else (
       some ((-1), 0))) else none) else none) else (
     if jix 0 5000 = true then (
      if jr2 (R_forms 0) 4 = true then (if (R_forms 0) = 4 then (
       if rI p2 = true then (if p2 < 0 then (
        some ((-1), 0)) else (
        if jix r1 5000 = true then (
         if jr2 p2 (R_counts r1) = true then (if (R_counts r1) ≤ p2 then (
          some ((-1), 0)) else (
          if jix r1 5000 = true then (
           if jix ((R_textsAt r1) + p2) 70000 = true then (
            some ((j_and (R_texts ((R_textsAt r1) + p2)) 255), 0)) else none) else none)) else none) else none)) else none) else (
       some ((-1), 0))) else none) else none)) else none)) else none)
set_option maxHeartbeats 4000000 in
set_option maxRecDepth 100000 in
theorem c_Mod_dataByte {l : Launch} {D : va_G} {cI cL cB : ClassId} {ad : Nat → Nat} {R_thrown : Int} {R_used : Int} {R_many : Int} {R_values : Int} {R_textEnd : Int} {R_dataEnd : Int} {R_rowEnd : Int} {R_rowMany : Int} {R_waiting : Int} {R_mostWaiting : Int} {R_answer : Int} {R_steps : Int} {R_memory : Int} {R_maxSteps : Int} {R_maxMemory : Int} {R_fault : Int} {R_result : Int} {R_now : Int} {R_nowRow : Int} {R_come : Int} {R_puts : Int} {R_valueKinds : Int → Int} {R_from : Int → Int} {R_length : Int → Int} {R_texts : Int → Int} {R_forms : Int → Int} {R_counts : Int → Int} {R_textsAt : Int → Int} {p1 : Int} {p2 : Int} {out : Int × Int} (h : f_Mod_dataByte R_thrown R_answer R_result R_valueKinds R_from R_length R_texts R_forms R_counts R_textsAt p1 p2 = some out) : CT jF0 false l D [(cI, .int), (cL, .long), (cB, .byte)] y_Mod_dataByte w_Mod_dataByte ({ frames := 1, cells := 0, slots := 0, locals := 21 } : Room) [.ref (ad 0), .int (zI p1), .int (zI p2)] [(ad 0, .inr (10, [.int (zI R_thrown), .ref (ad 1), .ref (ad 2), .ref (ad 3), .ref (ad 4), .ref (ad 5), .ref (ad 6), .int (zI R_used), .ref (ad 7), .int (zI R_many), .ref (ad 8), .ref (ad 9), .ref (ad 10), .ref (ad 11), .ref (ad 12), .ref (ad 13), .ref (ad 14), .ref (ad 15), .ref (ad 16), .int (zI R_values), .ref (ad 17), .int (zI R_textEnd), .ref (ad 18), .ref (ad 19), .ref (ad 20), .ref (ad 21), .int (zI R_dataEnd), .ref (ad 22), .int (zI R_rowEnd), .ref (ad 23), .ref (ad 24), .int (zI R_rowMany), .ref (ad 25), .ref (ad 26), .ref (ad 27), .ref (ad 28), .int (zI R_waiting), .int (zI R_mostWaiting), .int (zI R_answer), .int (zI R_steps), .int (zI R_memory), .int (zI R_maxSteps), .int (zI R_maxMemory), .int (zI R_fault), .int (zI R_result), .int (zI R_now), .int (zI R_nowRow), .int (zI R_come), .ref (ad 29), .ref (ad 30), .int (zI R_puts), .ref (ad 31)])), (ad 8, .inl (cI, 3700, .inl (zA R_valueKinds))), (ad 10, .inl (cI, 3700, .inl (zA R_from))), (ad 11, .inl (cI, 3700, .inl (zA R_length))), (ad 17, .inl (cB, 70000, .inl (zA R_texts))), (ad 18, .inl (cI, 5000, .inl (zA R_forms))), (ad 20, .inl (cI, 5000, .inl (zA R_counts))), (ad 21, .inl (cI, 5000, .inl (zA R_textsAt)))] (some (.int (zI out.1))) [(ad 0, .inr (10, [.int (zI (out.2)), .ref (ad 1), .ref (ad 2), .ref (ad 3), .ref (ad 4), .ref (ad 5), .ref (ad 6), .int (zI R_used), .ref (ad 7), .int (zI R_many), .ref (ad 8), .ref (ad 9), .ref (ad 10), .ref (ad 11), .ref (ad 12), .ref (ad 13), .ref (ad 14), .ref (ad 15), .ref (ad 16), .int (zI R_values), .ref (ad 17), .int (zI R_textEnd), .ref (ad 18), .ref (ad 19), .ref (ad 20), .ref (ad 21), .int (zI R_dataEnd), .ref (ad 22), .int (zI R_rowEnd), .ref (ad 23), .ref (ad 24), .int (zI R_rowMany), .ref (ad 25), .ref (ad 26), .ref (ad 27), .ref (ad 28), .int (zI R_waiting), .int (zI R_mostWaiting), .int (zI R_answer), .int (zI R_steps), .int (zI R_memory), .int (zI R_maxSteps), .int (zI R_maxMemory), .int (zI R_fault), .int (zI R_result), .int (zI R_now), .int (zI R_nowRow), .int (zI R_come), .ref (ad 29), .ref (ad 30), .int (zI R_puts), .ref (ad 31)])), (ad 8, .inl (cI, 3700, .inl (zA R_valueKinds))), (ad 10, .inl (cI, 3700, .inl (zA R_from))), (ad 11, .inl (cI, 3700, .inl (zA R_length))), (ad 17, .inl (cB, 70000, .inl (zA R_texts))), (ad 18, .inl (cI, 5000, .inl (zA R_forms))), (ad 20, .inl (cI, 5000, .inl (zA R_counts))), (ad 21, .inl (cI, 5000, .inl (zA R_textsAt)))] 0 0 := by
  refine CT_of_J (cc := b_Mod_dataByte) (maxL := 4) (ret := (some .int)) jF0_k (plainFor_of_name (by decide)) rfl (Nat.le_of_ble_eq_true rfl) ?_
  intro K hKl hKD X E
  subst hKl; subst hKD
  unfold f_Mod_dataByte at h
  refine J_aload_n X d_Mod_dataByte_0 rfl 0 rfl ?_
  refine J_iconst X d_Mod_dataByte_1 ?_
  refine J_put (ws' := [(ad 0, .inr (10, [.int (zI 0), .ref (ad 1), .ref (ad 2), .ref (ad 3), .ref (ad 4), .ref (ad 5), .ref (ad 6), .int (zI R_used), .ref (ad 7), .int (zI R_many), .ref (ad 8), .ref (ad 9), .ref (ad 10), .ref (ad 11), .ref (ad 12), .ref (ad 13), .ref (ad 14), .ref (ad 15), .ref (ad 16), .int (zI R_values), .ref (ad 17), .int (zI R_textEnd), .ref (ad 18), .ref (ad 19), .ref (ad 20), .ref (ad 21), .int (zI R_dataEnd), .ref (ad 22), .int (zI R_rowEnd), .ref (ad 23), .ref (ad 24), .int (zI R_rowMany), .ref (ad 25), .ref (ad 26), .ref (ad 27), .ref (ad 28), .int (zI R_waiting), .int (zI R_mostWaiting), .int (zI R_answer), .int (zI R_steps), .int (zI R_memory), .int (zI R_maxSteps), .int (zI R_maxMemory), .int (zI R_fault), .int (zI R_result), .int (zI R_now), .int (zI R_nowRow), .int (zI R_come), .ref (ad 29), .ref (ad 30), .int (zI R_puts), .ref (ad 31)])), (ad 8, .inl (cI, 3700, .inl (zA R_valueKinds))), (ad 10, .inl (cI, 3700, .inl (zA R_from))), (ad 11, .inl (cI, 3700, .inl (zA R_length))), (ad 17, .inl (cB, 70000, .inl (zA R_texts))), (ad 18, .inl (cI, 5000, .inl (zA R_forms))), (ad 20, .inl (cI, 5000, .inl (zA R_counts))), (ad 21, .inl (cI, 5000, .inl (zA R_textsAt)))]) X (j_in in_Mod) ty_Mod tok_Mod nm_Mod 0 rfl rfl 0 (by decide) (j_m own_Mod_dataByte (by decide +kernel)) rfl rfl rfl (Nat.le_of_ble_eq_true rfl) d_Mod_dataByte_2 rfl ?_
  refine J_aload_n X d_Mod_dataByte_5 rfl 0 rfl ?_
  refine J_iload_n X d_Mod_dataByte_6 rfl 1 rfl ?_
  obtain ⟨r1, q2, h⟩ := wk_b h
  refine J_afterP (jrunV X (c_Mod_dataAt (ad := ad) q2) jF0_k (fun _ _ _ _ => trivial) (jgV own_Mod_dataByte (by decide +kernel)) rfl rfl rfl pd_Mod_dataAt (by decide) [0, 1, 2, 3] rfl (by decide) 0 10 rfl rfl rfl rfl (Nat.le_of_ble_eq_true rfl) d_Mod_dataByte_7 (by decide)) ?_
  refine J_istore_n (lv' := [(3, .int (zI r1)), (0, .ref (ad 0)), (1, .int (zI p1)), (2, .int (zI p2))]) X d_Mod_dataByte_10 rfl (by decide) rfl ?_
  refine J_iload_n X d_Mod_dataByte_11 rfl 0 rfl ?_
  refine J_if_lt (tgt := 67) X d_Mod_dataByte_12 (by decide) h (fun c3 h => ?_) (fun c3 h => ?_)
  · refine J_iconst X d_Mod_dataByte_67 ?_
    cases h
    exact J_ret E ⟨_, rfl, rfl⟩ d_Mod_dataByte_68 (Nat.le_refl _) (Nat.le_refl _) rfl
  · refine J_aload_n X d_Mod_dataByte_15 rfl 1 rfl ?_
    refine J_get X (j_in in_Mod) 0 rfl rfl 22 (by decide) (j_m own_Mod_dataByte (by decide +kernel)) rfl d_Mod_dataByte_16 ?_
    refine J_iload_n X d_Mod_dataByte_19 rfl 0 rfl ?_
    refine J_if_ge (tgt := 27) X d_Mod_dataByte_20 (by decide) h (fun c4 h => ?_) (fun c4 h => ?_)
    · refine J_iload_n X d_Mod_dataByte_27 rfl 0 rfl ?_
      obtain ⟨g5, h⟩ := wk_g h
      refine J_iald X 5 0 rfl rfl g5 d_Mod_dataByte_28 ?_
      refine J_iconst X d_Mod_dataByte_29 ?_
      refine J_icmp_ne (tgt := 67) X d_Mod_dataByte_30 (by decide) h (fun c6 h => ?_) (fun c6 h => ?_)
      · refine J_iconst X d_Mod_dataByte_67 ?_
        cases h
        exact J_ret E ⟨_, rfl, rfl⟩ d_Mod_dataByte_68 (Nat.le_refl _) (Nat.le_refl _) rfl
      · refine J_iload_n X d_Mod_dataByte_33 rfl 3 rfl ?_
        refine J_if_lt (tgt := 67) X d_Mod_dataByte_34 (by decide) h (fun c7 h => ?_) (fun c7 h => ?_)
        · refine J_iconst X d_Mod_dataByte_67 ?_
          cases h
          exact J_ret E ⟨_, rfl, rfl⟩ d_Mod_dataByte_68 (Nat.le_refl _) (Nat.le_refl _) rfl
        · refine J_iload_n X d_Mod_dataByte_37 rfl 3 rfl ?_
          refine J_aload_n X d_Mod_dataByte_38 rfl 1 rfl ?_
          refine J_get X (j_in in_Mod) 0 rfl rfl 24 (by decide) (j_m own_Mod_dataByte (by decide +kernel)) rfl d_Mod_dataByte_39 ?_
          refine J_iload_n X d_Mod_dataByte_42 rfl 0 rfl ?_
          obtain ⟨g8, h⟩ := wk_g h
          refine J_iald X 6 0 rfl rfl g8 d_Mod_dataByte_43 ?_
          refine J_icmp_ge (tgt := 67) X d_Mod_dataByte_44 (by decide) h (fun c9 h => ?_) (fun c9 h => ?_)
          · refine J_iconst X d_Mod_dataByte_67 ?_
            cases h
            exact J_ret E ⟨_, rfl, rfl⟩ d_Mod_dataByte_68 (Nat.le_refl _) (Nat.le_refl _) rfl
          · refine J_aload_n X d_Mod_dataByte_47 rfl 1 rfl ?_
            refine J_get X (j_in in_Mod) 0 rfl rfl 20 (by decide) (j_m own_Mod_dataByte (by decide +kernel)) rfl d_Mod_dataByte_48 ?_
            refine J_aload_n X d_Mod_dataByte_51 rfl 1 rfl ?_
            refine J_get X (j_in in_Mod) 0 rfl rfl 25 (by decide) (j_m own_Mod_dataByte (by decide +kernel)) rfl d_Mod_dataByte_52 ?_
            refine J_iload_n X d_Mod_dataByte_55 rfl 0 rfl ?_
            obtain ⟨g10, h⟩ := wk_g h
            refine J_iald X 7 0 rfl rfl g10 d_Mod_dataByte_56 ?_
            refine J_iload_n X d_Mod_dataByte_57 rfl 3 rfl ?_
            refine J_iadd X d_Mod_dataByte_58 ?_
            obtain ⟨g11, h⟩ := wk_g h
            refine J_bald X 4 2 rfl rfl g11 d_Mod_dataByte_59 ?_
            refine J_sipush X d_Mod_dataByte_60 (by decide) ?_
            refine J_iand X d_Mod_dataByte_63 ?_
            refine J_goto (tgt := 68) X d_Mod_dataByte_64 (by decide) ?_
            cases h
            exact J_ret E ⟨_, rfl, rfl⟩ d_Mod_dataByte_68 (Nat.le_refl _) (Nat.le_refl _) rfl
    · refine J_iconst X d_Mod_dataByte_23 ?_
      refine J_goto (tgt := 28) X d_Mod_dataByte_24 (by decide) ?_
      obtain ⟨g12, h⟩ := wk_g h
      refine J_iald X 5 0 rfl rfl g12 d_Mod_dataByte_28 ?_
      refine J_iconst X d_Mod_dataByte_29 ?_
      refine J_icmp_ne (tgt := 67) X d_Mod_dataByte_30 (by decide) h (fun c13 h => ?_) (fun c13 h => ?_)
      · refine J_iconst X d_Mod_dataByte_67 ?_
        cases h
        exact J_ret E ⟨_, rfl, rfl⟩ d_Mod_dataByte_68 (Nat.le_refl _) (Nat.le_refl _) rfl
      · refine J_iload_n X d_Mod_dataByte_33 rfl 3 rfl ?_
        refine J_if_lt (tgt := 67) X d_Mod_dataByte_34 (by decide) h (fun c14 h => ?_) (fun c14 h => ?_)
        · refine J_iconst X d_Mod_dataByte_67 ?_
          cases h
          exact J_ret E ⟨_, rfl, rfl⟩ d_Mod_dataByte_68 (Nat.le_refl _) (Nat.le_refl _) rfl
        · refine J_iload_n X d_Mod_dataByte_37 rfl 3 rfl ?_
          refine J_aload_n X d_Mod_dataByte_38 rfl 1 rfl ?_
          refine J_get X (j_in in_Mod) 0 rfl rfl 24 (by decide) (j_m own_Mod_dataByte (by decide +kernel)) rfl d_Mod_dataByte_39 ?_
          refine J_iload_n X d_Mod_dataByte_42 rfl 0 rfl ?_
          obtain ⟨g15, h⟩ := wk_g h
          refine J_iald X 6 0 rfl rfl g15 d_Mod_dataByte_43 ?_
          refine J_icmp_ge (tgt := 67) X d_Mod_dataByte_44 (by decide) h (fun c16 h => ?_) (fun c16 h => ?_)
          · refine J_iconst X d_Mod_dataByte_67 ?_
            cases h
            exact J_ret E ⟨_, rfl, rfl⟩ d_Mod_dataByte_68 (Nat.le_refl _) (Nat.le_refl _) rfl
          · refine J_aload_n X d_Mod_dataByte_47 rfl 1 rfl ?_
            refine J_get X (j_in in_Mod) 0 rfl rfl 20 (by decide) (j_m own_Mod_dataByte (by decide +kernel)) rfl d_Mod_dataByte_48 ?_
            refine J_aload_n X d_Mod_dataByte_51 rfl 1 rfl ?_
            refine J_get X (j_in in_Mod) 0 rfl rfl 25 (by decide) (j_m own_Mod_dataByte (by decide +kernel)) rfl d_Mod_dataByte_52 ?_
            refine J_iload_n X d_Mod_dataByte_55 rfl 0 rfl ?_
            obtain ⟨g17, h⟩ := wk_g h
            refine J_iald X 7 0 rfl rfl g17 d_Mod_dataByte_56 ?_
            refine J_iload_n X d_Mod_dataByte_57 rfl 3 rfl ?_
            refine J_iadd X d_Mod_dataByte_58 ?_
            obtain ⟨g18, h⟩ := wk_g h
            refine J_bald X 4 2 rfl rfl g18 d_Mod_dataByte_59 ?_
            refine J_sipush X d_Mod_dataByte_60 (by decide) ?_
            refine J_iand X d_Mod_dataByte_63 ?_
            refine J_goto (tgt := 68) X d_Mod_dataByte_64 (by decide) ?_
            cases h
            exact J_ret E ⟨_, rfl, rfl⟩ d_Mod_dataByte_68 (Nat.le_refl _) (Nat.le_refl _) rfl

theorem d_Mod_look_0 : decode b_Mod_look 0 = .ok (.aload_n 0, 1) := by decide +kernel
theorem d_Mod_look_1 : decode b_Mod_look 1 = .ok (.iconst 0, 1) := by decide +kernel
theorem d_Mod_look_2 : decode b_Mod_look 2 = .ok (.putfield 111, 3) := by decide +kernel
theorem d_Mod_look_5 : decode b_Mod_look 5 = .ok (.iload_n 1, 1) := by decide +kernel
theorem d_Mod_look_6 : decode b_Mod_look 6 = .ok (.tableswitch 121 0 6 #[42, 47, 52, 68, 73, 89, 105], 42) := by decide +kernel
theorem d_Mod_look_48 : decode b_Mod_look 48 = .ok (.aload_n 0, 1) := by decide +kernel
theorem d_Mod_look_49 : decode b_Mod_look 49 = .ok (.getfield 121, 3) := by decide +kernel
theorem d_Mod_look_52 : decode b_Mod_look 52 = .ok (.ireturn, 1) := by decide +kernel
theorem d_Mod_look_53 : decode b_Mod_look 53 = .ok (.aload_n 0, 1) := by decide +kernel
theorem d_Mod_look_54 : decode b_Mod_look 54 = .ok (.getfield 118, 3) := by decide +kernel
theorem d_Mod_look_57 : decode b_Mod_look 57 = .ok (.ireturn, 1) := by decide +kernel
theorem d_Mod_look_58 : decode b_Mod_look 58 = .ok (.aload_n 0, 1) := by decide +kernel
theorem d_Mod_look_59 : decode b_Mod_look 59 = .ok (.getfield 121, 3) := by decide +kernel
theorem d_Mod_look_62 : decode b_Mod_look 62 = .ok (.ifCond .ne 7, 3) := by decide +kernel
theorem d_Mod_look_65 : decode b_Mod_look 65 = .ok (.iconst (-1), 1) := by decide +kernel
theorem d_Mod_look_66 : decode b_Mod_look 66 = .ok (.goto 7, 3) := by decide +kernel
theorem d_Mod_look_69 : decode b_Mod_look 69 = .ok (.aload_n 0, 1) := by decide +kernel
theorem d_Mod_look_70 : decode b_Mod_look 70 = .ok (.invokevirtual 307, 3) := by decide +kernel
theorem d_Mod_look_73 : decode b_Mod_look 73 = .ok (.ireturn, 1) := by decide +kernel
theorem d_Mod_look_74 : decode b_Mod_look 74 = .ok (.aload_n 0, 1) := by decide +kernel
theorem d_Mod_look_75 : decode b_Mod_look 75 = .ok (.getfield 98, 3) := by decide +kernel
theorem d_Mod_look_78 : decode b_Mod_look 78 = .ok (.ireturn, 1) := by decide +kernel
theorem d_Mod_look_79 : decode b_Mod_look 79 = .ok (.aload_n 0, 1) := by decide +kernel
theorem d_Mod_look_80 : decode b_Mod_look 80 = .ok (.getfield 98, 3) := by decide +kernel
theorem d_Mod_look_83 : decode b_Mod_look 83 = .ok (.ifCond .ge 7, 3) := by decide +kernel
theorem d_Mod_look_86 : decode b_Mod_look 86 = .ok (.iconst (-1), 1) := by decide +kernel
theorem d_Mod_look_87 : decode b_Mod_look 87 = .ok (.goto 7, 3) := by decide +kernel
theorem d_Mod_look_90 : decode b_Mod_look 90 = .ok (.aload_n 0, 1) := by decide +kernel
theorem d_Mod_look_91 : decode b_Mod_look 91 = .ok (.getfield 247, 3) := by decide +kernel
theorem d_Mod_look_94 : decode b_Mod_look 94 = .ok (.ireturn, 1) := by decide +kernel
theorem d_Mod_look_95 : decode b_Mod_look 95 = .ok (.aload_n 0, 1) := by decide +kernel
theorem d_Mod_look_96 : decode b_Mod_look 96 = .ok (.getfield 98, 3) := by decide +kernel
theorem d_Mod_look_99 : decode b_Mod_look 99 = .ok (.ifCond .ge 7, 3) := by decide +kernel
theorem d_Mod_look_102 : decode b_Mod_look 102 = .ok (.iconst (-1), 1) := by decide +kernel
theorem d_Mod_look_103 : decode b_Mod_look 103 = .ok (.goto 7, 3) := by decide +kernel
theorem d_Mod_look_106 : decode b_Mod_look 106 = .ok (.aload_n 0, 1) := by decide +kernel
theorem d_Mod_look_107 : decode b_Mod_look 107 = .ok (.getfield 253, 3) := by decide +kernel
theorem d_Mod_look_110 : decode b_Mod_look 110 = .ok (.ireturn, 1) := by decide +kernel
theorem d_Mod_look_111 : decode b_Mod_look 111 = .ok (.aload_n 0, 1) := by decide +kernel
theorem d_Mod_look_112 : decode b_Mod_look 112 = .ok (.getfield 98, 3) := by decide +kernel
theorem d_Mod_look_115 : decode b_Mod_look 115 = .ok (.ifCond .ge 7, 3) := by decide +kernel
theorem d_Mod_look_118 : decode b_Mod_look 118 = .ok (.iconst (-1), 1) := by decide +kernel
theorem d_Mod_look_119 : decode b_Mod_look 119 = .ok (.goto 7, 3) := by decide +kernel
theorem d_Mod_look_122 : decode b_Mod_look 122 = .ok (.aload_n 0, 1) := by decide +kernel
theorem d_Mod_look_123 : decode b_Mod_look 123 = .ok (.getfield 268, 3) := by decide +kernel
theorem d_Mod_look_126 : decode b_Mod_look 126 = .ok (.ireturn, 1) := by decide +kernel
theorem d_Mod_look_127 : decode b_Mod_look 127 = .ok (.iconst (-1), 1) := by decide +kernel
theorem d_Mod_look_128 : decode b_Mod_look 128 = .ok (.ireturn, 1) := by decide +kernel
def f_Mod_look (N : Nat) (R_thrown : Int) (R_used : Int) (R_many : Int) (R_mostWaiting : Int) (R_answer : Int) (R_steps : Int) (R_memory : Int) (R_kinds : Int → Int) (R_numbers : Int → Int) (R_firsts : Int → Int) (R_seconds : Int → Int) (R_sizes : Int → Int) (R_terms : Int → Int) (R_lacks : Int → Int) (p1 : Int) : Option (Int × Int × (Int → Int)) :=
  if rI p1 = true then (
   if p1 = 0 then (
    some (R_many, 0, R_lacks)) else (
    if p1 = 1 then (
     some (R_used, 0, R_lacks)) else (
     if p1 = 2 then (
      if rI R_many = true then (if R_many = 0 then (
       some ((-1), 0, R_lacks)) else (
       ob2 (f_Mod_lacking N R_many R_kinds R_numbers R_firsts R_seconds R_sizes R_terms R_lacks) (fun r6 R_lacks_7 =>
        some (r6, 0, R_lacks_7)))) else none) else (
      if p1 = 3 then (
       some (R_answer, 0, R_lacks)) else (
       if p1 = 4 then (
        if rI R_answer = true then (if 0 ≤ R_answer then (
         some (R_steps, 0, R_lacks)) else (
         some ((-1), 0, R_lacks))) else none) else (
        if p1 = 5 then (
         if rI R_answer = true then (if 0 ≤ R_answer then (
          some (R_memory, 0, R_lacks)) else (
          some ((-1), 0, R_lacks))) else none) else (
         if p1 = 6 then (
          if rI R_answer = true then (if 0 ≤ R_answer then (
           some (R_mostWaiting, 0, R_lacks)) else (
           some ((-1), 0, R_lacks))) else none) else (
          some ((-1), 0, R_lacks))))))))) else none
set_option maxHeartbeats 4000000 in
set_option maxRecDepth 100000 in
theorem c_Mod_look {l : Launch} {D : va_G} {cI cL cB : ClassId} {ad : Nat → Nat} {N : Nat} {R_thrown : Int} {R_used : Int} {R_many : Int} {R_values : Int} {R_textEnd : Int} {R_dataEnd : Int} {R_rowEnd : Int} {R_rowMany : Int} {R_waiting : Int} {R_mostWaiting : Int} {R_answer : Int} {R_steps : Int} {R_memory : Int} {R_maxSteps : Int} {R_maxMemory : Int} {R_fault : Int} {R_result : Int} {R_now : Int} {R_nowRow : Int} {R_come : Int} {R_puts : Int} {R_kinds : Int → Int} {R_numbers : Int → Int} {R_firsts : Int → Int} {R_seconds : Int → Int} {R_sizes : Int → Int} {R_terms : Int → Int} {R_lacks : Int → Int} {p1 : Int} {out : Int × Int × (Int → Int)} (h : f_Mod_look N R_thrown R_used R_many R_mostWaiting R_answer R_steps R_memory R_kinds R_numbers R_firsts R_seconds R_sizes R_terms R_lacks p1 = some out) : CT jF0 false l D [(cI, .int), (cL, .long), (cB, .byte)] y_Mod_look w_Mod_look ({ frames := 1, cells := 0, slots := 0, locals := 25 } : Room) [.ref (ad 0), .int (zI p1)] [(ad 0, .inr (10, [.int (zI R_thrown), .ref (ad 1), .ref (ad 2), .ref (ad 3), .ref (ad 4), .ref (ad 5), .ref (ad 6), .int (zI R_used), .ref (ad 7), .int (zI R_many), .ref (ad 8), .ref (ad 9), .ref (ad 10), .ref (ad 11), .ref (ad 12), .ref (ad 13), .ref (ad 14), .ref (ad 15), .ref (ad 16), .int (zI R_values), .ref (ad 17), .int (zI R_textEnd), .ref (ad 18), .ref (ad 19), .ref (ad 20), .ref (ad 21), .int (zI R_dataEnd), .ref (ad 22), .int (zI R_rowEnd), .ref (ad 23), .ref (ad 24), .int (zI R_rowMany), .ref (ad 25), .ref (ad 26), .ref (ad 27), .ref (ad 28), .int (zI R_waiting), .int (zI R_mostWaiting), .int (zI R_answer), .int (zI R_steps), .int (zI R_memory), .int (zI R_maxSteps), .int (zI R_maxMemory), .int (zI R_fault), .int (zI R_result), .int (zI R_now), .int (zI R_nowRow), .int (zI R_come), .ref (ad 29), .ref (ad 30), .int (zI R_puts), .ref (ad 31)])), (ad 1, .inl (cI, 200, .inl (zA R_kinds))), (ad 2, .inl (cL, 200, .inr (.inl (zB R_numbers)))), (ad 3, .inl (cI, 200, .inl (zA R_firsts))), (ad 4, .inl (cI, 200, .inl (zA R_seconds))), (ad 5, .inl (cI, 200, .inl (zA R_sizes))), (ad 7, .inl (cI, 200, .inl (zA R_terms))), (ad 30, .inl (cI, 200, .inl (zA R_lacks)))] (some (.int (zI out.1))) [(ad 0, .inr (10, [.int (zI (out.2.1)), .ref (ad 1), .ref (ad 2), .ref (ad 3), .ref (ad 4), .ref (ad 5), .ref (ad 6), .int (zI R_used), .ref (ad 7), .int (zI R_many), .ref (ad 8), .ref (ad 9), .ref (ad 10), .ref (ad 11), .ref (ad 12), .ref (ad 13), .ref (ad 14), .ref (ad 15), .ref (ad 16), .int (zI R_values), .ref (ad 17), .int (zI R_textEnd), .ref (ad 18), .ref (ad 19), .ref (ad 20), .ref (ad 21), .int (zI R_dataEnd), .ref (ad 22), .int (zI R_rowEnd), .ref (ad 23), .ref (ad 24), .int (zI R_rowMany), .ref (ad 25), .ref (ad 26), .ref (ad 27), .ref (ad 28), .int (zI R_waiting), .int (zI R_mostWaiting), .int (zI R_answer), .int (zI R_steps), .int (zI R_memory), .int (zI R_maxSteps), .int (zI R_maxMemory), .int (zI R_fault), .int (zI R_result), .int (zI R_now), .int (zI R_nowRow), .int (zI R_come), .ref (ad 29), .ref (ad 30), .int (zI R_puts), .ref (ad 31)])), (ad 1, .inl (cI, 200, .inl (zA R_kinds))), (ad 2, .inl (cL, 200, .inr (.inl (zB R_numbers)))), (ad 3, .inl (cI, 200, .inl (zA R_firsts))), (ad 4, .inl (cI, 200, .inl (zA R_seconds))), (ad 5, .inl (cI, 200, .inl (zA R_sizes))), (ad 7, .inl (cI, 200, .inl (zA R_terms))), (ad 30, .inl (cI, 200, .inl (zA (out.2.2))))] 0 0 := by
  refine CT_of_J (cc := b_Mod_look) (maxL := 2) (ret := (some .int)) jF0_k (plainFor_of_name (by decide)) rfl (Nat.le_of_ble_eq_true rfl) ?_
  intro K hKl hKD X E
  subst hKl; subst hKD
  unfold f_Mod_look at h
  refine J_aload_n X d_Mod_look_0 rfl 0 rfl ?_
  refine J_iconst X d_Mod_look_1 ?_
  refine J_put (ws' := [(ad 0, .inr (10, [.int (zI 0), .ref (ad 1), .ref (ad 2), .ref (ad 3), .ref (ad 4), .ref (ad 5), .ref (ad 6), .int (zI R_used), .ref (ad 7), .int (zI R_many), .ref (ad 8), .ref (ad 9), .ref (ad 10), .ref (ad 11), .ref (ad 12), .ref (ad 13), .ref (ad 14), .ref (ad 15), .ref (ad 16), .int (zI R_values), .ref (ad 17), .int (zI R_textEnd), .ref (ad 18), .ref (ad 19), .ref (ad 20), .ref (ad 21), .int (zI R_dataEnd), .ref (ad 22), .int (zI R_rowEnd), .ref (ad 23), .ref (ad 24), .int (zI R_rowMany), .ref (ad 25), .ref (ad 26), .ref (ad 27), .ref (ad 28), .int (zI R_waiting), .int (zI R_mostWaiting), .int (zI R_answer), .int (zI R_steps), .int (zI R_memory), .int (zI R_maxSteps), .int (zI R_maxMemory), .int (zI R_fault), .int (zI R_result), .int (zI R_now), .int (zI R_nowRow), .int (zI R_come), .ref (ad 29), .ref (ad 30), .int (zI R_puts), .ref (ad 31)])), (ad 1, .inl (cI, 200, .inl (zA R_kinds))), (ad 2, .inl (cL, 200, .inr (.inl (zB R_numbers)))), (ad 3, .inl (cI, 200, .inl (zA R_firsts))), (ad 4, .inl (cI, 200, .inl (zA R_seconds))), (ad 5, .inl (cI, 200, .inl (zA R_sizes))), (ad 7, .inl (cI, 200, .inl (zA R_terms))), (ad 30, .inl (cI, 200, .inl (zA R_lacks)))]) X (j_in in_Mod) ty_Mod tok_Mod nm_Mod 0 rfl rfl 0 (by decide) (j_m own_Mod_look (by decide +kernel)) rfl rfl rfl (Nat.le_of_ble_eq_true rfl) d_Mod_look_2 rfl ?_
  refine J_iload_n X d_Mod_look_5 rfl 1 rfl ?_
  obtain ⟨g1, h⟩ := wk_g h
  rcases wk_c h with ⟨c2, h⟩ | ⟨c2, h⟩
  · refine J_tsIn (tgt := 48) X 0 c2 g1 d_Mod_look_6 (by decide) (by decide) rfl (by decide) ?_
    refine J_aload_n X d_Mod_look_48 rfl 0 rfl ?_
    refine J_get X (j_in in_Mod) 0 rfl rfl 9 (by decide) (j_m own_Mod_look (by decide +kernel)) rfl d_Mod_look_49 ?_
    cases h
    exact J_ret E ⟨_, rfl, rfl⟩ d_Mod_look_52 (Nat.le_refl _) (Nat.le_refl _) rfl
  · rcases wk_c h with ⟨c3, h⟩ | ⟨c3, h⟩
    · refine J_tsIn (tgt := 53) X 1 c3 g1 d_Mod_look_6 (by decide) (by decide) rfl (by decide) ?_
      refine J_aload_n X d_Mod_look_53 rfl 0 rfl ?_
      refine J_get X (j_in in_Mod) 0 rfl rfl 7 (by decide) (j_m own_Mod_look (by decide +kernel)) rfl d_Mod_look_54 ?_
      cases h
      exact J_ret E ⟨_, rfl, rfl⟩ d_Mod_look_57 (Nat.le_refl _) (Nat.le_refl _) rfl
    · rcases wk_c h with ⟨c4, h⟩ | ⟨c4, h⟩
      · refine J_tsIn (tgt := 58) X 2 c4 g1 d_Mod_look_6 (by decide) (by decide) rfl (by decide) ?_
        refine J_aload_n X d_Mod_look_58 rfl 0 rfl ?_
        refine J_get X (j_in in_Mod) 0 rfl rfl 9 (by decide) (j_m own_Mod_look (by decide +kernel)) rfl d_Mod_look_59 ?_
        refine J_if_ne (tgt := 69) X d_Mod_look_62 (by decide) h (fun c5 h => ?_) (fun c5 h => ?_)
        · refine J_aload_n X d_Mod_look_69 rfl 0 rfl ?_
          obtain ⟨r6, R_lacks_7, q8, h⟩ := wk_b2 h
          refine J_afterI0 (ws' := [(ad 0, .inr (10, [.int (zI 0), .ref (ad 1), .ref (ad 2), .ref (ad 3), .ref (ad 4), .ref (ad 5), .ref (ad 6), .int (zI R_used), .ref (ad 7), .int (zI R_many), .ref (ad 8), .ref (ad 9), .ref (ad 10), .ref (ad 11), .ref (ad 12), .ref (ad 13), .ref (ad 14), .ref (ad 15), .ref (ad 16), .int (zI R_values), .ref (ad 17), .int (zI R_textEnd), .ref (ad 18), .ref (ad 19), .ref (ad 20), .ref (ad 21), .int (zI R_dataEnd), .ref (ad 22), .int (zI R_rowEnd), .ref (ad 23), .ref (ad 24), .int (zI R_rowMany), .ref (ad 25), .ref (ad 26), .ref (ad 27), .ref (ad 28), .int (zI R_waiting), .int (zI R_mostWaiting), .int (zI R_answer), .int (zI R_steps), .int (zI R_memory), .int (zI R_maxSteps), .int (zI R_maxMemory), .int (zI R_fault), .int (zI R_result), .int (zI R_now), .int (zI R_nowRow), .int (zI R_come), .ref (ad 29), .ref (ad 30), .int (zI R_puts), .ref (ad 31)])), (ad 1, .inl (cI, 200, .inl (zA R_kinds))), (ad 2, .inl (cL, 200, .inr (.inl (zB R_numbers)))), (ad 3, .inl (cI, 200, .inl (zA R_firsts))), (ad 4, .inl (cI, 200, .inl (zA R_seconds))), (ad 5, .inl (cI, 200, .inl (zA R_sizes))), (ad 7, .inl (cI, 200, .inl (zA R_terms))), (ad 30, .inl (cI, 200, .inl (zA R_lacks_7)))]) X (jrunV X (c_Mod_lacking (ad := ad) q8) jF0_k (fun _ _ _ _ => trivial) (jgV own_Mod_look (by decide +kernel)) rfl rfl rfl pd_Mod_lacking (by decide) [0, 1, 2, 3, 4, 5, 6, 7] rfl (by decide) 0 10 rfl rfl rfl rfl (Nat.le_of_ble_eq_true rfl) d_Mod_look_70 (by decide)) [0, 1, 2, 3, 4, 5, 6, 7] [] [0, 1, 2, 3, 4, 5, 6, 7] rfl rfl (by decide) (by decide) rfl (by decide) ?_
          cases h
          exact J_ret E ⟨_, rfl, rfl⟩ d_Mod_look_73 (Nat.le_refl _) (Nat.le_refl _) rfl
        · refine J_iconst X d_Mod_look_65 ?_
          refine J_goto (tgt := 73) X d_Mod_look_66 (by decide) ?_
          cases h
          exact J_ret E ⟨_, rfl, rfl⟩ d_Mod_look_73 (Nat.le_refl _) (Nat.le_refl _) rfl
      · rcases wk_c h with ⟨c9, h⟩ | ⟨c9, h⟩
        · refine J_tsIn (tgt := 74) X 3 c9 g1 d_Mod_look_6 (by decide) (by decide) rfl (by decide) ?_
          refine J_aload_n X d_Mod_look_74 rfl 0 rfl ?_
          refine J_get X (j_in in_Mod) 0 rfl rfl 38 (by decide) (j_m own_Mod_look (by decide +kernel)) rfl d_Mod_look_75 ?_
          cases h
          exact J_ret E ⟨_, rfl, rfl⟩ d_Mod_look_78 (Nat.le_refl _) (Nat.le_refl _) rfl
        · rcases wk_c h with ⟨c10, h⟩ | ⟨c10, h⟩
          · refine J_tsIn (tgt := 79) X 4 c10 g1 d_Mod_look_6 (by decide) (by decide) rfl (by decide) ?_
            refine J_aload_n X d_Mod_look_79 rfl 0 rfl ?_
            refine J_get X (j_in in_Mod) 0 rfl rfl 38 (by decide) (j_m own_Mod_look (by decide +kernel)) rfl d_Mod_look_80 ?_
            refine J_if_ge (tgt := 90) X d_Mod_look_83 (by decide) h (fun c11 h => ?_) (fun c11 h => ?_)
            · refine J_aload_n X d_Mod_look_90 rfl 0 rfl ?_
              refine J_get X (j_in in_Mod) 0 rfl rfl 39 (by decide) (j_m own_Mod_look (by decide +kernel)) rfl d_Mod_look_91 ?_
              cases h
              exact J_ret E ⟨_, rfl, rfl⟩ d_Mod_look_94 (Nat.le_refl _) (Nat.le_refl _) rfl
            · refine J_iconst X d_Mod_look_86 ?_
              refine J_goto (tgt := 94) X d_Mod_look_87 (by decide) ?_
              cases h
              exact J_ret E ⟨_, rfl, rfl⟩ d_Mod_look_94 (Nat.le_refl _) (Nat.le_refl _) rfl
          · rcases wk_c h with ⟨c12, h⟩ | ⟨c12, h⟩
            · refine J_tsIn (tgt := 95) X 5 c12 g1 d_Mod_look_6 (by decide) (by decide) rfl (by decide) ?_
              refine J_aload_n X d_Mod_look_95 rfl 0 rfl ?_
              refine J_get X (j_in in_Mod) 0 rfl rfl 38 (by decide) (j_m own_Mod_look (by decide +kernel)) rfl d_Mod_look_96 ?_
              refine J_if_ge (tgt := 106) X d_Mod_look_99 (by decide) h (fun c13 h => ?_) (fun c13 h => ?_)
              · refine J_aload_n X d_Mod_look_106 rfl 0 rfl ?_
                refine J_get X (j_in in_Mod) 0 rfl rfl 40 (by decide) (j_m own_Mod_look (by decide +kernel)) rfl d_Mod_look_107 ?_
                cases h
                exact J_ret E ⟨_, rfl, rfl⟩ d_Mod_look_110 (Nat.le_refl _) (Nat.le_refl _) rfl
              · refine J_iconst X d_Mod_look_102 ?_
                refine J_goto (tgt := 110) X d_Mod_look_103 (by decide) ?_
                cases h
                exact J_ret E ⟨_, rfl, rfl⟩ d_Mod_look_110 (Nat.le_refl _) (Nat.le_refl _) rfl
            · rcases wk_c h with ⟨c14, h⟩ | ⟨c14, h⟩
              · refine J_tsIn (tgt := 111) X 6 c14 g1 d_Mod_look_6 (by decide) (by decide) rfl (by decide) ?_
                refine J_aload_n X d_Mod_look_111 rfl 0 rfl ?_
                refine J_get X (j_in in_Mod) 0 rfl rfl 38 (by decide) (j_m own_Mod_look (by decide +kernel)) rfl d_Mod_look_112 ?_
                refine J_if_ge (tgt := 122) X d_Mod_look_115 (by decide) h (fun c15 h => ?_) (fun c15 h => ?_)
                · refine J_aload_n X d_Mod_look_122 rfl 0 rfl ?_
                  refine J_get X (j_in in_Mod) 0 rfl rfl 37 (by decide) (j_m own_Mod_look (by decide +kernel)) rfl d_Mod_look_123 ?_
                  cases h
                  exact J_ret E ⟨_, rfl, rfl⟩ d_Mod_look_126 (Nat.le_refl _) (Nat.le_refl _) rfl
                · refine J_iconst X d_Mod_look_118 ?_
                  refine J_goto (tgt := 126) X d_Mod_look_119 (by decide) ?_
                  cases h
                  exact J_ret E ⟨_, rfl, rfl⟩ d_Mod_look_126 (Nat.le_refl _) (Nat.le_refl _) rfl
              · refine J_tsOut (tgt := 127) X g1 d_Mod_look_6 (by omega) (by decide) ?_
                refine J_iconst X d_Mod_look_127 ?_
                cases h
                exact J_ret E ⟨_, rfl, rfl⟩ d_Mod_look_128 (Nat.le_refl _) (Nat.le_refl _) rfl

