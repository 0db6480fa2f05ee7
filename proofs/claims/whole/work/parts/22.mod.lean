theorem d_Mod_putText_0 : decode b_Mod_putText 0 = .ok (.aload_n 0, 1) := by decide +kernel
theorem d_Mod_putText_1 : decode b_Mod_putText 1 = .ok (.getfield 61, 3) := by decide +kernel
theorem d_Mod_putText_4 : decode b_Mod_putText 4 = .ok (.aload_n 0, 1) := by decide +kernel
theorem d_Mod_putText_5 : decode b_Mod_putText 5 = .ok (.getfield 145, 3) := by decide +kernel
theorem d_Mod_putText_8 : decode b_Mod_putText 8 = .ok (.aload_n 0, 1) := by decide +kernel
theorem d_Mod_putText_9 : decode b_Mod_putText 9 = .ok (.getfield 148, 3) := by decide +kernel
theorem d_Mod_putText_12 : decode b_Mod_putText 12 = .ok (.iadd, 1) := by decide +kernel
theorem d_Mod_putText_13 : decode b_Mod_putText 13 = .ok (.iload_n 1, 1) := by decide +kernel
theorem d_Mod_putText_14 : decode b_Mod_putText 14 = .ok (.i2b, 1) := by decide +kernel
theorem d_Mod_putText_15 : decode b_Mod_putText 15 = .ok (.bastore, 1) := by decide +kernel
theorem d_Mod_putText_16 : decode b_Mod_putText 16 = .ok (.aload_n 0, 1) := by decide +kernel
theorem d_Mod_putText_17 : decode b_Mod_putText 17 = .ok (.dup, 1) := by decide +kernel
theorem d_Mod_putText_18 : decode b_Mod_putText 18 = .ok (.getfield 148, 3) := by decide +kernel
theorem d_Mod_putText_21 : decode b_Mod_putText 21 = .ok (.iconst 1, 1) := by decide +kernel
theorem d_Mod_putText_22 : decode b_Mod_putText 22 = .ok (.iadd, 1) := by decide +kernel
theorem d_Mod_putText_23 : decode b_Mod_putText 23 = .ok (.putfield 148, 3) := by decide +kernel
theorem d_Mod_putText_26 : decode b_Mod_putText 26 = .ok (.return_, 1) := by decide +kernel
def f_Mod_putText (R_textEnd : Int) (R_puts : Int) (R_texts : Int → Int) (p1 : Int) : Option (Int × (Int → Int)) :=
  if jix (R_textEnd + R_puts) 70000 = true then (
   some ((R_puts + 1), (upZ R_texts (R_textEnd + R_puts) (j_b8 (j_b8 p1))))) else none
set_option maxHeartbeats 4000000 in
set_option maxRecDepth 100000 in
theorem c_Mod_putText {l : Launch} {D : va_G} {cI cL cB : ClassId} {ad : Nat → Nat} {R_thrown : Int} {R_used : Int} {R_many : Int} {R_values : Int} {R_textEnd : Int} {R_dataEnd : Int} {R_rowEnd : Int} {R_rowMany : Int} {R_waiting : Int} {R_mostWaiting : Int} {R_answer : Int} {R_steps : Int} {R_memory : Int} {R_maxSteps : Int} {R_maxMemory : Int} {R_fault : Int} {R_result : Int} {R_now : Int} {R_nowRow : Int} {R_come : Int} {R_puts : Int} {R_texts : Int → Int} {p1 : Int} {out : Int × (Int → Int)} (h : f_Mod_putText R_textEnd R_puts R_texts p1 = some out) : CT jF0 false l D [(cI, .int), (cL, .long), (cB, .byte)] y_Mod_putText w_Mod_putText ({ frames := 0, cells := 0, slots := 0, locals := 0 } : Room) [.ref (ad 0), .int (zI p1)] [(ad 0, .inr (10, [.int (zI R_thrown), .ref (ad 1), .ref (ad 2), .ref (ad 3), .ref (ad 4), .ref (ad 5), .ref (ad 6), .int (zI R_used), .ref (ad 7), .int (zI R_many), .ref (ad 8), .ref (ad 9), .ref (ad 10), .ref (ad 11), .ref (ad 12), .ref (ad 13), .ref (ad 14), .ref (ad 15), .ref (ad 16), .int (zI R_values), .ref (ad 17), .int (zI R_textEnd), .ref (ad 18), .ref (ad 19), .ref (ad 20), .ref (ad 21), .int (zI R_dataEnd), .ref (ad 22), .int (zI R_rowEnd), .ref (ad 23), .ref (ad 24), .int (zI R_rowMany), .ref (ad 25), .ref (ad 26), .ref (ad 27), .ref (ad 28), .int (zI R_waiting), .int (zI R_mostWaiting), .int (zI R_answer), .int (zI R_steps), .int (zI R_memory), .int (zI R_maxSteps), .int (zI R_maxMemory), .int (zI R_fault), .int (zI R_result), .int (zI R_now), .int (zI R_nowRow), .int (zI R_come), .ref (ad 29), .ref (ad 30), .int (zI R_puts), .ref (ad 31)])), (ad 17, .inl (cB, 70000, .inl (zA R_texts)))] none [(ad 0, .inr (10, [.int (zI R_thrown), .ref (ad 1), .ref (ad 2), .ref (ad 3), .ref (ad 4), .ref (ad 5), .ref (ad 6), .int (zI R_used), .ref (ad 7), .int (zI R_many), .ref (ad 8), .ref (ad 9), .ref (ad 10), .ref (ad 11), .ref (ad 12), .ref (ad 13), .ref (ad 14), .ref (ad 15), .ref (ad 16), .int (zI R_values), .ref (ad 17), .int (zI R_textEnd), .ref (ad 18), .ref (ad 19), .ref (ad 20), .ref (ad 21), .int (zI R_dataEnd), .ref (ad 22), .int (zI R_rowEnd), .ref (ad 23), .ref (ad 24), .int (zI R_rowMany), .ref (ad 25), .ref (ad 26), .ref (ad 27), .ref (ad 28), .int (zI R_waiting), .int (zI R_mostWaiting), .int (zI R_answer), .int (zI R_steps), .int (zI R_memory), .int (zI R_maxSteps), .int (zI R_maxMemory), .int (zI R_fault), .int (zI R_result), .int (zI R_now), .int (zI R_nowRow), .int (zI R_come), .ref (ad 29), .ref (ad 30), .int (zI (out.1)), .ref (ad 31)])), (ad 17, .inl (cB, 70000, .inl (zA (out.2))))] 0 0 := by
  refine CT_of_J (cc := b_Mod_putText) (maxL := 2) (ret := none) jF0_k (plainFor_of_name (by decide)) rfl (Nat.le_of_ble_eq_true rfl) ?_
  intro K hKl hKD X E
  subst hKl; subst hKD
  unfold f_Mod_putText at h
  refine J_aload_n X d_Mod_putText_0 rfl 0 rfl ?_
  refine J_get X (j_in in_Mod) 0 rfl rfl 20 (by decide) (j_m own_Mod_putText (by decide +kernel)) rfl d_Mod_putText_1 ?_
  refine J_aload_n X d_Mod_putText_4 rfl 0 rfl ?_
  refine J_get X (j_in in_Mod) 0 rfl rfl 21 (by decide) (j_m own_Mod_putText (by decide +kernel)) rfl d_Mod_putText_5 ?_
  refine J_aload_n X d_Mod_putText_8 rfl 0 rfl ?_
  refine J_get X (j_in in_Mod) 0 rfl rfl 50 (by decide) (j_m own_Mod_putText (by decide +kernel)) rfl d_Mod_putText_9 ?_
  refine J_iadd X d_Mod_putText_12 ?_
  refine J_iload_n X d_Mod_putText_13 rfl 1 rfl ?_
  refine J_i2b X d_Mod_putText_14 ?_
  obtain ⟨g1, h⟩ := wk_g h
  refine J_bast (ws' := [(ad 0, .inr (10, [.int (zI R_thrown), .ref (ad 1), .ref (ad 2), .ref (ad 3), .ref (ad 4), .ref (ad 5), .ref (ad 6), .int (zI R_used), .ref (ad 7), .int (zI R_many), .ref (ad 8), .ref (ad 9), .ref (ad 10), .ref (ad 11), .ref (ad 12), .ref (ad 13), .ref (ad 14), .ref (ad 15), .ref (ad 16), .int (zI R_values), .ref (ad 17), .int (zI R_textEnd), .ref (ad 18), .ref (ad 19), .ref (ad 20), .ref (ad 21), .int (zI R_dataEnd), .ref (ad 22), .int (zI R_rowEnd), .ref (ad 23), .ref (ad 24), .int (zI R_rowMany), .ref (ad 25), .ref (ad 26), .ref (ad 27), .ref (ad 28), .int (zI R_waiting), .int (zI R_mostWaiting), .int (zI R_answer), .int (zI R_steps), .int (zI R_memory), .int (zI R_maxSteps), .int (zI R_maxMemory), .int (zI R_fault), .int (zI R_result), .int (zI R_now), .int (zI R_nowRow), .int (zI R_come), .ref (ad 29), .ref (ad 30), .int (zI R_puts), .ref (ad 31)])), (ad 17, .inl (cB, 70000, .inl (zA (upZ R_texts (R_textEnd + R_puts) (j_b8 (j_b8 p1))))))]) X 1 2 rfl rfl g1 d_Mod_putText_15 rfl ?_
  refine J_aload_n X d_Mod_putText_16 rfl 0 rfl ?_
  refine J_dup X d_Mod_putText_17 rfl ?_
  refine J_get X (j_in in_Mod) 0 rfl rfl 50 (by decide) (j_m own_Mod_putText (by decide +kernel)) rfl d_Mod_putText_18 ?_
  refine J_iconst X d_Mod_putText_21 ?_
  refine J_iadd X d_Mod_putText_22 ?_
  refine J_put (ws' := [(ad 0, .inr (10, [.int (zI R_thrown), .ref (ad 1), .ref (ad 2), .ref (ad 3), .ref (ad 4), .ref (ad 5), .ref (ad 6), .int (zI R_used), .ref (ad 7), .int (zI R_many), .ref (ad 8), .ref (ad 9), .ref (ad 10), .ref (ad 11), .ref (ad 12), .ref (ad 13), .ref (ad 14), .ref (ad 15), .ref (ad 16), .int (zI R_values), .ref (ad 17), .int (zI R_textEnd), .ref (ad 18), .ref (ad 19), .ref (ad 20), .ref (ad 21), .int (zI R_dataEnd), .ref (ad 22), .int (zI R_rowEnd), .ref (ad 23), .ref (ad 24), .int (zI R_rowMany), .ref (ad 25), .ref (ad 26), .ref (ad 27), .ref (ad 28), .int (zI R_waiting), .int (zI R_mostWaiting), .int (zI R_answer), .int (zI R_steps), .int (zI R_memory), .int (zI R_maxSteps), .int (zI R_maxMemory), .int (zI R_fault), .int (zI R_result), .int (zI R_now), .int (zI R_nowRow), .int (zI R_come), .ref (ad 29), .ref (ad 30), .int (zI (R_puts + 1)), .ref (ad 31)])), (ad 17, .inl (cB, 70000, .inl (zA (upZ R_texts (R_textEnd + R_puts) (j_b8 (j_b8 p1))))))]) X (j_in in_Mod) ty_Mod tok_Mod nm_Mod 0 rfl rfl 50 (by decide) (j_m own_Mod_putText (by decide +kernel)) rfl rfl rfl (Nat.le_of_ble_eq_true rfl) d_Mod_putText_23 rfl ?_
  cases h
  exact J_ret E rfl d_Mod_putText_26 (Nat.le_refl _) (Nat.le_refl _) rfl

theorem d_Mod_byteOf_0 : decode b_Mod_byteOf 0 = .ok (.aload_n 0, 1) := by decide +kernel
theorem d_Mod_byteOf_1 : decode b_Mod_byteOf 1 = .ok (.getfield 61, 3) := by decide +kernel
theorem d_Mod_byteOf_4 : decode b_Mod_byteOf 4 = .ok (.aload_n 0, 1) := by decide +kernel
theorem d_Mod_byteOf_5 : decode b_Mod_byteOf 5 = .ok (.getfield 39, 3) := by decide +kernel
theorem d_Mod_byteOf_8 : decode b_Mod_byteOf 8 = .ok (.iload_n 1, 1) := by decide +kernel
theorem d_Mod_byteOf_9 : decode b_Mod_byteOf 9 = .ok (.iaload, 1) := by decide +kernel
theorem d_Mod_byteOf_10 : decode b_Mod_byteOf 10 = .ok (.iload_n 2, 1) := by decide +kernel
theorem d_Mod_byteOf_11 : decode b_Mod_byteOf 11 = .ok (.iadd, 1) := by decide +kernel
theorem d_Mod_byteOf_12 : decode b_Mod_byteOf 12 = .ok (.baload, 1) := by decide +kernel
theorem d_Mod_byteOf_13 : decode b_Mod_byteOf 13 = .ok (.sipush 255, 3) := by decide +kernel
theorem d_Mod_byteOf_16 : decode b_Mod_byteOf 16 = .ok (.iand, 1) := by decide +kernel
theorem d_Mod_byteOf_17 : decode b_Mod_byteOf 17 = .ok (.ireturn, 1) := by decide +kernel
def f_Mod_byteOf (R_from : Int → Int) (R_texts : Int → Int) (p1 : Int) (p2 : Int) : Option (Int) :=
  if jix p1 3700 = true then (
   if jix ((R_from p1) + p2) 70000 = true then (
    some (j_and (R_texts ((R_from p1) + p2)) 255)) else none) else none
set_option maxHeartbeats 4000000 in
set_option maxRecDepth 100000 in
theorem c_Mod_byteOf {l : Launch} {D : va_G} {cI cL cB : ClassId} {ad : Nat → Nat} {R_thrown : Int} {R_used : Int} {R_many : Int} {R_values : Int} {R_textEnd : Int} {R_dataEnd : Int} {R_rowEnd : Int} {R_rowMany : Int} {R_waiting : Int} {R_mostWaiting : Int} {R_answer : Int} {R_steps : Int} {R_memory : Int} {R_maxSteps : Int} {R_maxMemory : Int} {R_fault : Int} {R_result : Int} {R_now : Int} {R_nowRow : Int} {R_come : Int} {R_puts : Int} {R_from : Int → Int} {R_texts : Int → Int} {p1 : Int} {p2 : Int} {out : Int} (h : f_Mod_byteOf R_from R_texts p1 p2 = some out) : CT jF0 true l D [(cI, .int), (cL, .long), (cB, .byte)] y_Mod_byteOf w_Mod_byteOf ({ frames := 0, cells := 0, slots := 0, locals := 0 } : Room) [.ref (ad 0), .int (zI p1), .int (zI p2)] [(ad 0, .inr (10, [.int (zI R_thrown), .ref (ad 1), .ref (ad 2), .ref (ad 3), .ref (ad 4), .ref (ad 5), .ref (ad 6), .int (zI R_used), .ref (ad 7), .int (zI R_many), .ref (ad 8), .ref (ad 9), .ref (ad 10), .ref (ad 11), .ref (ad 12), .ref (ad 13), .ref (ad 14), .ref (ad 15), .ref (ad 16), .int (zI R_values), .ref (ad 17), .int (zI R_textEnd), .ref (ad 18), .ref (ad 19), .ref (ad 20), .ref (ad 21), .int (zI R_dataEnd), .ref (ad 22), .int (zI R_rowEnd), .ref (ad 23), .ref (ad 24), .int (zI R_rowMany), .ref (ad 25), .ref (ad 26), .ref (ad 27), .ref (ad 28), .int (zI R_waiting), .int (zI R_mostWaiting), .int (zI R_answer), .int (zI R_steps), .int (zI R_memory), .int (zI R_maxSteps), .int (zI R_maxMemory), .int (zI R_fault), .int (zI R_result), .int (zI R_now), .int (zI R_nowRow), .int (zI R_come), .ref (ad 29), .ref (ad 30), .int (zI R_puts), .ref (ad 31)])), (ad 10, .inl (cI, 3700, .inl (zA R_from))), (ad 17, .inl (cB, 70000, .inl (zA R_texts)))] (some (.int (zI out))) [(ad 0, .inr (10, [.int (zI R_thrown), .ref (ad 1), .ref (ad 2), .ref (ad 3), .ref (ad 4), .ref (ad 5), .ref (ad 6), .int (zI R_used), .ref (ad 7), .int (zI R_many), .ref (ad 8), .ref (ad 9), .ref (ad 10), .ref (ad 11), .ref (ad 12), .ref (ad 13), .ref (ad 14), .ref (ad 15), .ref (ad 16), .int (zI R_values), .ref (ad 17), .int (zI R_textEnd), .ref (ad 18), .ref (ad 19), .ref (ad 20), .ref (ad 21), .int (zI R_dataEnd), .ref (ad 22), .int (zI R_rowEnd), .ref (ad 23), .ref (ad 24), .int (zI R_rowMany), .ref (ad 25), .ref (ad 26), .ref (ad 27), .ref (ad 28), .int (zI R_waiting), .int (zI R_mostWaiting), .int (zI R_answer), .int (zI R_steps), .int (zI R_memory), .int (zI R_maxSteps), .int (zI R_maxMemory), .int (zI R_fault), .int (zI R_result), .int (zI R_now), .int (zI R_nowRow), .int (zI R_come), .ref (ad 29), .ref (ad 30), .int (zI R_puts), .ref (ad 31)])), (ad 10, .inl (cI, 3700, .inl (zA R_from))), (ad 17, .inl (cB, 70000, .inl (zA R_texts)))] 0 0 := by
  refine CT_of_J (cc := b_Mod_byteOf) (maxL := 3) (ret := (some .int)) jF0_k (plainFor_of_name (by decide)) rfl (Nat.le_of_ble_eq_true rfl) ?_
  intro K hKl hKD X E
  subst hKl; subst hKD
  unfold f_Mod_byteOf at h
  refine J_aload_n X d_Mod_byteOf_0 rfl 0 rfl ?_
  refine J_get X (j_in in_Mod) 0 rfl rfl 20 (by decide) (j_m own_Mod_byteOf (by decide +kernel)) rfl d_Mod_byteOf_1 ?_
  refine J_aload_n X d_Mod_byteOf_4 rfl 0 rfl ?_
  refine J_get X (j_in in_Mod) 0 rfl rfl 12 (by decide) (j_m own_Mod_byteOf (by decide +kernel)) rfl d_Mod_byteOf_5 ?_
  refine J_iload_n X d_Mod_byteOf_8 rfl 1 rfl ?_
  obtain ⟨g1, h⟩ := wk_g h
  refine J_iald X 1 0 rfl rfl g1 d_Mod_byteOf_9 ?_
  refine J_iload_n X d_Mod_byteOf_10 rfl 2 rfl ?_
  refine J_iadd X d_Mod_byteOf_11 ?_
  obtain ⟨g2, h⟩ := wk_g h
  refine J_bald X 2 2 rfl rfl g2 d_Mod_byteOf_12 ?_
  refine J_sipush X d_Mod_byteOf_13 (by decide) ?_
  refine J_iand X d_Mod_byteOf_16 ?_
  cases h
  exact J_ret E ⟨_, rfl, rfl⟩ d_Mod_byteOf_17 (Nat.le_refl _) (Nat.le_refl _) rfl

theorem d_Mod_putData_0 : decode b_Mod_putData 0 = .ok (.aload_n 0, 1) := by decide +kernel
theorem d_Mod_putData_1 : decode b_Mod_putData 1 = .ok (.getfield 64, 3) := by decide +kernel
theorem d_Mod_putData_4 : decode b_Mod_putData 4 = .ok (.aload_n 0, 1) := by decide +kernel
theorem d_Mod_putData_5 : decode b_Mod_putData 5 = .ok (.getfield 151, 3) := by decide +kernel
theorem d_Mod_putData_8 : decode b_Mod_putData 8 = .ok (.iload_n 1, 1) := by decide +kernel
theorem d_Mod_putData_9 : decode b_Mod_putData 9 = .ok (.iastore, 1) := by decide +kernel
theorem d_Mod_putData_10 : decode b_Mod_putData 10 = .ok (.aload_n 0, 1) := by decide +kernel
theorem d_Mod_putData_11 : decode b_Mod_putData 11 = .ok (.getfield 67, 3) := by decide +kernel
theorem d_Mod_putData_14 : decode b_Mod_putData 14 = .ok (.aload_n 0, 1) := by decide +kernel
theorem d_Mod_putData_15 : decode b_Mod_putData 15 = .ok (.getfield 151, 3) := by decide +kernel
theorem d_Mod_putData_18 : decode b_Mod_putData 18 = .ok (.lload_n 2, 1) := by decide +kernel
theorem d_Mod_putData_19 : decode b_Mod_putData 19 = .ok (.lastore, 1) := by decide +kernel
theorem d_Mod_putData_20 : decode b_Mod_putData 20 = .ok (.aload_n 0, 1) := by decide +kernel
theorem d_Mod_putData_21 : decode b_Mod_putData 21 = .ok (.getfield 70, 3) := by decide +kernel
theorem d_Mod_putData_24 : decode b_Mod_putData 24 = .ok (.aload_n 0, 1) := by decide +kernel
theorem d_Mod_putData_25 : decode b_Mod_putData 25 = .ok (.getfield 151, 3) := by decide +kernel
theorem d_Mod_putData_28 : decode b_Mod_putData 28 = .ok (.iload 4, 2) := by decide +kernel
theorem d_Mod_putData_30 : decode b_Mod_putData 30 = .ok (.iastore, 1) := by decide +kernel
theorem d_Mod_putData_31 : decode b_Mod_putData 31 = .ok (.aload_n 0, 1) := by decide +kernel
theorem d_Mod_putData_32 : decode b_Mod_putData 32 = .ok (.getfield 73, 3) := by decide +kernel
theorem d_Mod_putData_35 : decode b_Mod_putData 35 = .ok (.aload_n 0, 1) := by decide +kernel
theorem d_Mod_putData_36 : decode b_Mod_putData 36 = .ok (.getfield 151, 3) := by decide +kernel
theorem d_Mod_putData_39 : decode b_Mod_putData 39 = .ok (.iload 5, 2) := by decide +kernel
theorem d_Mod_putData_41 : decode b_Mod_putData 41 = .ok (.iastore, 1) := by decide +kernel
theorem d_Mod_putData_42 : decode b_Mod_putData 42 = .ok (.aload_n 0, 1) := by decide +kernel
theorem d_Mod_putData_43 : decode b_Mod_putData 43 = .ok (.dup, 1) := by decide +kernel
theorem d_Mod_putData_44 : decode b_Mod_putData 44 = .ok (.getfield 151, 3) := by decide +kernel
theorem d_Mod_putData_47 : decode b_Mod_putData 47 = .ok (.iconst 1, 1) := by decide +kernel
theorem d_Mod_putData_48 : decode b_Mod_putData 48 = .ok (.iadd, 1) := by decide +kernel
theorem d_Mod_putData_49 : decode b_Mod_putData 49 = .ok (.putfield 151, 3) := by decide +kernel
theorem d_Mod_putData_52 : decode b_Mod_putData 52 = .ok (.return_, 1) := by decide +kernel
def f_Mod_putData (R_dataEnd : Int) (R_forms : Int → Int) (R_tags : Int → Int) (R_counts : Int → Int) (R_textsAt : Int → Int) (p1 : Int) (p2 : Int) (p4 : Int) (p5 : Int) : Option (Int × (Int → Int) × (Int → Int) × (Int → Int) × (Int → Int)) :=
  if jix R_dataEnd 5000 = true then (
   if jix R_dataEnd 5000 = true then (
    if jix R_dataEnd 5000 = true then (
     if jix R_dataEnd 5000 = true then (
      some ((R_dataEnd + 1), (upZ R_forms R_dataEnd p1), (upZ R_tags R_dataEnd p2), (upZ R_counts R_dataEnd p4), (upZ R_textsAt R_dataEnd p5))) else none) else none) else none) else none
set_option maxHeartbeats 4000000 in
set_option maxRecDepth 100000 in
theorem c_Mod_putData {l : Launch} {D : va_G} {cI cL cB : ClassId} {ad : Nat → Nat} {R_thrown : Int} {R_used : Int} {R_many : Int} {R_values : Int} {R_textEnd : Int} {R_dataEnd : Int} {R_rowEnd : Int} {R_rowMany : Int} {R_waiting : Int} {R_mostWaiting : Int} {R_answer : Int} {R_steps : Int} {R_memory : Int} {R_maxSteps : Int} {R_maxMemory : Int} {R_fault : Int} {R_result : Int} {R_now : Int} {R_nowRow : Int} {R_come : Int} {R_puts : Int} {R_forms : Int → Int} {R_tags : Int → Int} {R_counts : Int → Int} {R_textsAt : Int → Int} {p1 : Int} {p2 : Int} {p4 : Int} {p5 : Int} {out : Int × (Int → Int) × (Int → Int) × (Int → Int) × (Int → Int)} (h : f_Mod_putData R_dataEnd R_forms R_tags R_counts R_textsAt p1 p2 p4 p5 = some out) : CT jF0 false l D [(cI, .int), (cL, .long), (cB, .byte)] y_Mod_putData w_Mod_putData ({ frames := 0, cells := 0, slots := 0, locals := 0 } : Room) [.ref (ad 0), .int (zI p1), .long (zL p2), .int (zI p4), .int (zI p5)] [(ad 0, .inr (10, [.int (zI R_thrown), .ref (ad 1), .ref (ad 2), .ref (ad 3), .ref (ad 4), .ref (ad 5), .ref (ad 6), .int (zI R_used), .ref (ad 7), .int (zI R_many), .ref (ad 8), .ref (ad 9), .ref (ad 10), .ref (ad 11), .ref (ad 12), .ref (ad 13), .ref (ad 14), .ref (ad 15), .ref (ad 16), .int (zI R_values), .ref (ad 17), .int (zI R_textEnd), .ref (ad 18), .ref (ad 19), .ref (ad 20), .ref (ad 21), .int (zI R_dataEnd), .ref (ad 22), .int (zI R_rowEnd), .ref (ad 23), .ref (ad 24), .int (zI R_rowMany), .ref (ad 25), .ref (ad 26), .ref (ad 27), .ref (ad 28), .int (zI R_waiting), .int (zI R_mostWaiting), .int (zI R_answer), .int (zI R_steps), .int (zI R_memory), .int (zI R_maxSteps), .int (zI R_maxMemory), .int (zI R_fault), .int (zI R_result), .int (zI R_now), .int (zI R_nowRow), .int (zI R_come), .ref (ad 29), .ref (ad 30), .int (zI R_puts), .ref (ad 31)])), (ad 18, .inl (cI, 5000, .inl (zA R_forms))), (ad 19, .inl (cL, 5000, .inr (.inl (zB R_tags)))), (ad 20, .inl (cI, 5000, .inl (zA R_counts))), (ad 21, .inl (cI, 5000, .inl (zA R_textsAt)))] none [(ad 0, .inr (10, [.int (zI R_thrown), .ref (ad 1), .ref (ad 2), .ref (ad 3), .ref (ad 4), .ref (ad 5), .ref (ad 6), .int (zI R_used), .ref (ad 7), .int (zI R_many), .ref (ad 8), .ref (ad 9), .ref (ad 10), .ref (ad 11), .ref (ad 12), .ref (ad 13), .ref (ad 14), .ref (ad 15), .ref (ad 16), .int (zI R_values), .ref (ad 17), .int (zI R_textEnd), .ref (ad 18), .ref (ad 19), .ref (ad 20), .ref (ad 21), .int (zI (out.1)), .ref (ad 22), .int (zI R_rowEnd), .ref (ad 23), .ref (ad 24), .int (zI R_rowMany), .ref (ad 25), .ref (ad 26), .ref (ad 27), .ref (ad 28), .int (zI R_waiting), .int (zI R_mostWaiting), .int (zI R_answer), .int (zI R_steps), .int (zI R_memory), .int (zI R_maxSteps), .int (zI R_maxMemory), .int (zI R_fault), .int (zI R_result), .int (zI R_now), .int (zI R_nowRow), .int (zI R_come), .ref (ad 29), .ref (ad 30), .int (zI R_puts), .ref (ad 31)])), (ad 18, .inl (cI, 5000, .inl (zA (out.2.1)))), (ad 19, .inl (cL, 5000, .inr (.inl (zB (out.2.2.1))))), (ad 20, .inl (cI, 5000, .inl (zA (out.2.2.2.1)))), (ad 21, .inl (cI, 5000, .inl (zA (out.2.2.2.2))))] 0 0 := by
  refine CT_of_J (cc := b_Mod_putData) (maxL := 6) (ret := none) jF0_k (plainFor_of_name (by decide)) rfl (Nat.le_of_ble_eq_true rfl) ?_
  intro K hKl hKD X E
  subst hKl; subst hKD
  unfold f_Mod_putData at h
  refine J_aload_n X d_Mod_putData_0 rfl 0 rfl ?_
  refine J_get X (j_in in_Mod) 0 rfl rfl 22 (by decide) (j_m own_Mod_putData (by decide +kernel)) rfl d_Mod_putData_1 ?_
  refine J_aload_n X d_Mod_putData_4 rfl 0 rfl ?_
  refine J_get X (j_in in_Mod) 0 rfl rfl 26 (by decide) (j_m own_Mod_putData (by decide +kernel)) rfl d_Mod_putData_5 ?_
  refine J_iload_n X d_Mod_putData_8 rfl 1 rfl ?_
  obtain ⟨g1, h⟩ := wk_g h
  refine J_iast (ws' := [(ad 0, .inr (10, [.int (zI R_thrown), .ref (ad 1), .ref (ad 2), .ref (ad 3), .ref (ad 4), .ref (ad 5), .ref (ad 6), .int (zI R_used), .ref (ad 7), .int (zI R_many), .ref (ad 8), .ref (ad 9), .ref (ad 10), .ref (ad 11), .ref (ad 12), .ref (ad 13), .ref (ad 14), .ref (ad 15), .ref (ad 16), .int (zI R_values), .ref (ad 17), .int (zI R_textEnd), .ref (ad 18), .ref (ad 19), .ref (ad 20), .ref (ad 21), .int (zI R_dataEnd), .ref (ad 22), .int (zI R_rowEnd), .ref (ad 23), .ref (ad 24), .int (zI R_rowMany), .ref (ad 25), .ref (ad 26), .ref (ad 27), .ref (ad 28), .int (zI R_waiting), .int (zI R_mostWaiting), .int (zI R_answer), .int (zI R_steps), .int (zI R_memory), .int (zI R_maxSteps), .int (zI R_maxMemory), .int (zI R_fault), .int (zI R_result), .int (zI R_now), .int (zI R_nowRow), .int (zI R_come), .ref (ad 29), .ref (ad 30), .int (zI R_puts), .ref (ad 31)])), (ad 18, .inl (cI, 5000, .inl (zA (upZ R_forms R_dataEnd p1)))), (ad 19, .inl (cL, 5000, .inr (.inl (zB R_tags)))), (ad 20, .inl (cI, 5000, .inl (zA R_counts))), (ad 21, .inl (cI, 5000, .inl (zA R_textsAt)))]) X 1 0 rfl rfl g1 d_Mod_putData_9 rfl ?_
  refine J_aload_n X d_Mod_putData_10 rfl 0 rfl ?_
  refine J_get X (j_in in_Mod) 0 rfl rfl 23 (by decide) (j_m own_Mod_putData (by decide +kernel)) rfl d_Mod_putData_11 ?_
  refine J_aload_n X d_Mod_putData_14 rfl 0 rfl ?_
  refine J_get X (j_in in_Mod) 0 rfl rfl 26 (by decide) (j_m own_Mod_putData (by decide +kernel)) rfl d_Mod_putData_15 ?_
  refine J_lload_n X d_Mod_putData_18 rfl 2 rfl ?_
  obtain ⟨g2, h⟩ := wk_g h
  refine J_last (ws' := [(ad 0, .inr (10, [.int (zI R_thrown), .ref (ad 1), .ref (ad 2), .ref (ad 3), .ref (ad 4), .ref (ad 5), .ref (ad 6), .int (zI R_used), .ref (ad 7), .int (zI R_many), .ref (ad 8), .ref (ad 9), .ref (ad 10), .ref (ad 11), .ref (ad 12), .ref (ad 13), .ref (ad 14), .ref (ad 15), .ref (ad 16), .int (zI R_values), .ref (ad 17), .int (zI R_textEnd), .ref (ad 18), .ref (ad 19), .ref (ad 20), .ref (ad 21), .int (zI R_dataEnd), .ref (ad 22), .int (zI R_rowEnd), .ref (ad 23), .ref (ad 24), .int (zI R_rowMany), .ref (ad 25), .ref (ad 26), .ref (ad 27), .ref (ad 28), .int (zI R_waiting), .int (zI R_mostWaiting), .int (zI R_answer), .int (zI R_steps), .int (zI R_memory), .int (zI R_maxSteps), .int (zI R_maxMemory), .int (zI R_fault), .int (zI R_result), .int (zI R_now), .int (zI R_nowRow), .int (zI R_come), .ref (ad 29), .ref (ad 30), .int (zI R_puts), .ref (ad 31)])), (ad 18, .inl (cI, 5000, .inl (zA (upZ R_forms R_dataEnd p1)))), (ad 19, .inl (cL, 5000, .inr (.inl (zB (upZ R_tags R_dataEnd p2))))), (ad 20, .inl (cI, 5000, .inl (zA R_counts))), (ad 21, .inl (cI, 5000, .inl (zA R_textsAt)))]) X 2 1 rfl rfl g2 d_Mod_putData_19 rfl ?_
  refine J_aload_n X d_Mod_putData_20 rfl 0 rfl ?_
  refine J_get X (j_in in_Mod) 0 rfl rfl 24 (by decide) (j_m own_Mod_putData (by decide +kernel)) rfl d_Mod_putData_21 ?_
  refine J_aload_n X d_Mod_putData_24 rfl 0 rfl ?_
  refine J_get X (j_in in_Mod) 0 rfl rfl 26 (by decide) (j_m own_Mod_putData (by decide +kernel)) rfl d_Mod_putData_25 ?_
  refine J_iload X d_Mod_putData_28 3 rfl ?_
  obtain ⟨g3, h⟩ := wk_g h
  refine J_iast (ws' := [(ad 0, .inr (10, [.int (zI R_thrown), .ref (ad 1), .ref (ad 2), .ref (ad 3), .ref (ad 4), .ref (ad 5), .ref (ad 6), .int (zI R_used), .ref (ad 7), .int (zI R_many), .ref (ad 8), .ref (ad 9), .ref (ad 10), .ref (ad 11), .ref (ad 12), .ref (ad 13), .ref (ad 14), .ref (ad 15), .ref (ad 16), .int (zI R_values), .ref (ad 17), .int (zI R_textEnd), .ref (ad 18), .ref (ad 19), .ref (ad 20), .ref (ad 21), .int (zI R_dataEnd), .ref (ad 22), .int (zI R_rowEnd), .ref (ad 23), .ref (ad 24), .int (zI R_rowMany), .ref (ad 25), .ref (ad 26), .ref (ad 27), .ref (ad 28), .int (zI R_waiting), .int (zI R_mostWaiting), .int (zI R_answer), .int (zI R_steps), .int (zI R_memory), .int (zI R_maxSteps), .int (zI R_maxMemory), .int (zI R_fault), .int (zI R_result), .int (zI R_now), .int (zI R_nowRow), .int (zI R_come), .ref (ad 29), .ref (ad 30), .int (zI R_puts), .ref (ad 31)])), (ad 18, .inl (cI, 5000, .inl (zA (upZ R_forms R_dataEnd p1)))), (ad 19, .inl (cL, 5000, .inr (.inl (zB (upZ R_tags R_dataEnd p2))))), (ad 20, .inl (cI, 5000, .inl (zA (upZ R_counts R_dataEnd p4)))), (ad 21, .inl (cI, 5000, .inl (zA R_textsAt)))]) X 3 0 rfl rfl g3 d_Mod_putData_30 rfl ?_
  refine J_aload_n X d_Mod_putData_31 rfl 0 rfl ?_
  refine J_get X (j_in in_Mod) 0 rfl rfl 25 (by decide) (j_m own_Mod_putData (by decide +kernel)) rfl d_Mod_putData_32 ?_
  refine J_aload_n X d_Mod_putData_35 rfl 0 rfl ?_
  refine J_get X (j_in in_Mod) 0 rfl rfl 26 (by decide) (j_m own_Mod_putData (by decide +kernel)) rfl d_Mod_putData_36 ?_
  refine J_iload X d_Mod_putData_39 4 rfl ?_
  obtain ⟨g4, h⟩ := wk_g h
  refine J_iast (ws' := [(ad 0, .inr (10, [.int (zI R_thrown), .ref (ad 1), .ref (ad 2), .ref (ad 3), .ref (ad 4), .ref (ad 5), .ref (ad 6), .int (zI R_used), .ref (ad 7), .int (zI R_many), .ref (ad 8), .ref (ad 9), .ref (ad 10), .ref (ad 11), .ref (ad 12), .ref (ad 13), .ref (ad 14), .ref (ad 15), .ref (ad 16), .int (zI R_values), .ref (ad 17), .int (zI R_textEnd), .ref (ad 18), .ref (ad 19), .ref (ad 20), .ref (ad 21), .int (zI R_dataEnd), .ref (ad 22), .int (zI R_rowEnd), .ref (ad 23), .ref (ad 24), .int (zI R_rowMany), .ref (ad 25), .ref (ad 26), .ref (ad 27), .ref (ad 28), .int (zI R_waiting), .int (zI R_mostWaiting), .int (zI R_answer), .int (zI R_steps), .int (zI R_memory), .int (zI R_maxSteps), .int (zI R_maxMemory), .int (zI R_fault), .int (zI R_result), .int (zI R_now), .int (zI R_nowRow), .int (zI R_come), .ref (ad 29), .ref (ad 30), .int (zI R_puts), .ref (ad 31)])), (ad 18, .inl (cI, 5000, .inl (zA (upZ R_forms R_dataEnd p1)))), (ad 19, .inl (cL, 5000, .inr (.inl (zB (upZ R_tags R_dataEnd p2))))), (ad 20, .inl (cI, 5000, .inl (zA (upZ R_counts R_dataEnd p4)))), (ad 21, .inl (cI, 5000, .inl (zA (upZ R_textsAt R_dataEnd p5))))]) X 4 0 rfl rfl g4 d_Mod_putData_41 rfl ?_
  refine J_aload_n X d_Mod_putData_42 rfl 0 rfl ?_
  refine J_dup X d_Mod_putData_43 rfl ?_
  refine J_get X (j_in in_Mod) 0 rfl rfl 26 (by decide) (j_m own_Mod_putData (by decide +kernel)) rfl d_Mod_putData_44 ?_
  refine J_iconst X d_Mod_putData_47 ?_
  refine J_iadd X d_Mod_putData_48 ?_
  refine J_put (ws' := [(ad 0, .inr (10, [.int (zI R_thrown), .ref (ad 1), .ref (ad 2), .ref (ad 3), .ref (ad 4), .ref (ad 5), .ref (ad 6), .int (zI R_used), .ref (ad 7), .int (zI R_many), .ref (ad 8), .ref (ad 9), .ref (ad 10), .ref (ad 11), .ref (ad 12), .ref (ad 13), .ref (ad 14), .ref (ad 15), .ref (ad 16), .int (zI R_values), .ref (ad 17), .int (zI R_textEnd), .ref (ad 18), .ref (ad 19), .ref (ad 20), .ref (ad 21), .int (zI (R_dataEnd + 1)), .ref (ad 22), .int (zI R_rowEnd), .ref (ad 23), .ref (ad 24), .int (zI R_rowMany), .ref (ad 25), .ref (ad 26), .ref (ad 27), .ref (ad 28), .int (zI R_waiting), .int (zI R_mostWaiting), .int (zI R_answer), .int (zI R_steps), .int (zI R_memory), .int (zI R_maxSteps), .int (zI R_maxMemory), .int (zI R_fault), .int (zI R_result), .int (zI R_now), .int (zI R_nowRow), .int (zI R_come), .ref (ad 29), .ref (ad 30), .int (zI R_puts), .ref (ad 31)])), (ad 18, .inl (cI, 5000, .inl (zA (upZ R_forms R_dataEnd p1)))), (ad 19, .inl (cL, 5000, .inr (.inl (zB (upZ R_tags R_dataEnd p2))))), (ad 20, .inl (cI, 5000, .inl (zA (upZ R_counts R_dataEnd p4)))), (ad 21, .inl (cI, 5000, .inl (zA (upZ R_textsAt R_dataEnd p5))))]) X (j_in in_Mod) ty_Mod tok_Mod nm_Mod 0 rfl rfl 26 (by decide) (j_m own_Mod_putData (by decide +kernel)) rfl rfl rfl (Nat.le_of_ble_eq_true rfl) d_Mod_putData_49 rfl ?_
  cases h
  exact J_ret E rfl d_Mod_putData_52 (Nat.le_refl _) (Nat.le_refl _) rfl

theorem d_Mod_makeData_0 : decode b_Mod_makeData 0 = .ok (.aload_n 0, 1) := by decide +kernel
theorem d_Mod_makeData_1 : decode b_Mod_makeData 1 = .ok (.iconst 4, 1) := by decide +kernel
theorem d_Mod_makeData_2 : decode b_Mod_makeData 2 = .ok (.lconst 0, 1) := by decide +kernel
theorem d_Mod_makeData_3 : decode b_Mod_makeData 3 = .ok (.invokevirtual 141, 3) := by decide +kernel
theorem d_Mod_makeData_6 : decode b_Mod_makeData 6 = .ok (.istore_n 2, 1) := by decide +kernel
theorem d_Mod_makeData_7 : decode b_Mod_makeData 7 = .ok (.aload_n 0, 1) := by decide +kernel
theorem d_Mod_makeData_8 : decode b_Mod_makeData 8 = .ok (.getfield 39, 3) := by decide +kernel
theorem d_Mod_makeData_11 : decode b_Mod_makeData 11 = .ok (.iload_n 2, 1) := by decide +kernel
theorem d_Mod_makeData_12 : decode b_Mod_makeData 12 = .ok (.iload_n 1, 1) := by decide +kernel
theorem d_Mod_makeData_13 : decode b_Mod_makeData 13 = .ok (.iastore, 1) := by decide +kernel
theorem d_Mod_makeData_14 : decode b_Mod_makeData 14 = .ok (.aload_n 0, 1) := by decide +kernel
theorem d_Mod_makeData_15 : decode b_Mod_makeData 15 = .ok (.getfield 42, 3) := by decide +kernel
theorem d_Mod_makeData_18 : decode b_Mod_makeData 18 = .ok (.iload_n 2, 1) := by decide +kernel
theorem d_Mod_makeData_19 : decode b_Mod_makeData 19 = .ok (.aload_n 0, 1) := by decide +kernel
theorem d_Mod_makeData_20 : decode b_Mod_makeData 20 = .ok (.getfield 151, 3) := by decide +kernel
theorem d_Mod_makeData_23 : decode b_Mod_makeData 23 = .ok (.iload_n 1, 1) := by decide +kernel
theorem d_Mod_makeData_24 : decode b_Mod_makeData 24 = .ok (.isub, 1) := by decide +kernel
theorem d_Mod_makeData_25 : decode b_Mod_makeData 25 = .ok (.iastore, 1) := by decide +kernel
theorem d_Mod_makeData_26 : decode b_Mod_makeData 26 = .ok (.iload_n 2, 1) := by decide +kernel
theorem d_Mod_makeData_27 : decode b_Mod_makeData 27 = .ok (.ireturn, 1) := by decide +kernel
def f_Mod_makeData (R_values : Int) (R_dataEnd : Int) (R_valueKinds : Int → Int) (R_valueNumbers : Int → Int) (R_from : Int → Int) (R_length : Int → Int) (R_given : Int → Int) (p1 : Int) : Option (Int × Int × (Int → Int) × (Int → Int) × (Int → Int) × (Int → Int) × (Int → Int)) :=
  ob5 (f_Mod_make R_values R_valueKinds R_valueNumbers R_given 4 0) (fun r1 R_values_2 R_valueKinds_3 R_valueNumbers_4 R_given_5 =>
   if jix r1 3700 = true then (
    if jix r1 3700 = true then (
     some (r1, R_values_2, R_valueKinds_3, R_valueNumbers_4, (upZ R_from r1 p1), (upZ R_length r1 (R_dataEnd - p1)), R_given_5)) else none) else none)
set_option maxHeartbeats 4000000 in
set_option maxRecDepth 100000 in
theorem c_Mod_makeData {l : Launch} {D : va_G} {cI cL cB : ClassId} {ad : Nat → Nat} {R_thrown : Int} {R_used : Int} {R_many : Int} {R_values : Int} {R_textEnd : Int} {R_dataEnd : Int} {R_rowEnd : Int} {R_rowMany : Int} {R_waiting : Int} {R_mostWaiting : Int} {R_answer : Int} {R_steps : Int} {R_memory : Int} {R_maxSteps : Int} {R_maxMemory : Int} {R_fault : Int} {R_result : Int} {R_now : Int} {R_nowRow : Int} {R_come : Int} {R_puts : Int} {R_valueKinds : Int → Int} {R_valueNumbers : Int → Int} {R_from : Int → Int} {R_length : Int → Int} {R_given : Int → Int} {p1 : Int} {out : Int × Int × (Int → Int) × (Int → Int) × (Int → Int) × (Int → Int) × (Int → Int)} (h : f_Mod_makeData R_values R_dataEnd R_valueKinds R_valueNumbers R_from R_length R_given p1 = some out) : CT jF0 false l D [(cI, .int), (cL, .long), (cB, .byte)] y_Mod_makeData w_Mod_makeData ({ frames := 1, cells := 0, slots := 0, locals := 23 } : Room) [.ref (ad 0), .int (zI p1)] [(ad 0, .inr (10, [.int (zI R_thrown), .ref (ad 1), .ref (ad 2), .ref (ad 3), .ref (ad 4), .ref (ad 5), .ref (ad 6), .int (zI R_used), .ref (ad 7), .int (zI R_many), .ref (ad 8), .ref (ad 9), .ref (ad 10), .ref (ad 11), .ref (ad 12), .ref (ad 13), .ref (ad 14), .ref (ad 15), .ref (ad 16), .int (zI R_values), .ref (ad 17), .int (zI R_textEnd), .ref (ad 18), .ref (ad 19), .ref (ad 20), .ref (ad 21), .int (zI R_dataEnd), .ref (ad 22), .int (zI R_rowEnd), .ref (ad 23), .ref (ad 24), .int (zI R_rowMany), .ref (ad 25), .ref (ad 26), .ref (ad 27), .ref (ad 28), .int (zI R_waiting), .int (zI R_mostWaiting), .int (zI R_answer), .int (zI R_steps), .int (zI R_memory), .int (zI R_maxSteps), .int (zI R_maxMemory), .int (zI R_fault), .int (zI R_result), .int (zI R_now), .int (zI R_nowRow), .int (zI R_come), .ref (ad 29), .ref (ad 30), .int (zI R_puts), .ref (ad 31)])), (ad 8, .inl (cI, 3700, .inl (zA R_valueKinds))), (ad 9, .inl (cL, 3700, .inr (.inl (zB R_valueNumbers)))), (ad 10, .inl (cI, 3700, .inl (zA R_from))), (ad 11, .inl (cI, 3700, .inl (zA R_length))), (ad 14, .inl (cI, 3700, .inl (zA R_given)))] (some (.int (zI out.1))) [(ad 0, .inr (10, [.int (zI R_thrown), .ref (ad 1), .ref (ad 2), .ref (ad 3), .ref (ad 4), .ref (ad 5), .ref (ad 6), .int (zI R_used), .ref (ad 7), .int (zI R_many), .ref (ad 8), .ref (ad 9), .ref (ad 10), .ref (ad 11), .ref (ad 12), .ref (ad 13), .ref (ad 14), .ref (ad 15), .ref (ad 16), .int (zI (out.2.1)), .ref (ad 17), .int (zI R_textEnd), .ref (ad 18), .ref (ad 19), .ref (ad 20), .ref (ad 21), .int (zI R_dataEnd), .ref (ad 22), .int (zI R_rowEnd), .ref (ad 23), .ref (ad 24), .int (zI R_rowMany), .ref (ad 25), .ref (ad 26), .ref (ad 27), .ref (ad 28), .int (zI R_waiting), .int (zI R_mostWaiting), .int (zI R_answer), .int (zI R_steps), .int (zI R_memory), .int (zI R_maxSteps), .int (zI R_maxMemory), .int (zI R_fault), .int (zI R_result), .int (zI R_now), .int (zI R_nowRow), .int (zI R_come), .ref (ad 29), .ref (ad 30), .int (zI R_puts), .ref (ad 31)])), (ad 8, .inl (cI, 3700, .inl (zA (out.2.2.1)))), (ad 9, .inl (cL, 3700, .inr (.inl (zB (out.2.2.2.1))))), (ad 10, .inl (cI, 3700, .inl (zA (out.2.2.2.2.1)))), (ad 11, .inl (cI, 3700, .inl (zA (out.2.2.2.2.2.1)))), (ad 14, .inl (cI, 3700, .inl (zA (out.2.2.2.2.2.2))))] 0 0 := by
  refine CT_of_J (cc := b_Mod_makeData) (maxL := 3) (ret := (some .int)) jF0_k (plainFor_of_name (by decide)) rfl (Nat.le_of_ble_eq_true rfl) ?_
  intro K hKl hKD X E
  subst hKl; subst hKD
  unfold f_Mod_makeData at h
  refine J_aload_n X d_Mod_makeData_0 rfl 0 rfl ?_
  refine J_iconst X d_Mod_makeData_1 ?_
  refine J_lconst (v := 0) X d_Mod_makeData_2 (by decide) ?_
  obtain ⟨r1, R_values_2, R_valueKinds_3, R_valueNumbers_4, R_given_5, q6, h⟩ := wk_b5 h
  refine J_afterI0 (ws' := [(ad 0, .inr (10, [.int (zI R_thrown), .ref (ad 1), .ref (ad 2), .ref (ad 3), .ref (ad 4), .ref (ad 5), .ref (ad 6), .int (zI R_used), .ref (ad 7), .int (zI R_many), .ref (ad 8), .ref (ad 9), .ref (ad 10), .ref (ad 11), .ref (ad 12), .ref (ad 13), .ref (ad 14), .ref (ad 15), .ref (ad 16), .int (zI R_values_2), .ref (ad 17), .int (zI R_textEnd), .ref (ad 18), .ref (ad 19), .ref (ad 20), .ref (ad 21), .int (zI R_dataEnd), .ref (ad 22), .int (zI R_rowEnd), .ref (ad 23), .ref (ad 24), .int (zI R_rowMany), .ref (ad 25), .ref (ad 26), .ref (ad 27), .ref (ad 28), .int (zI R_waiting), .int (zI R_mostWaiting), .int (zI R_answer), .int (zI R_steps), .int (zI R_memory), .int (zI R_maxSteps), .int (zI R_maxMemory), .int (zI R_fault), .int (zI R_result), .int (zI R_now), .int (zI R_nowRow), .int (zI R_come), .ref (ad 29), .ref (ad 30), .int (zI R_puts), .ref (ad 31)])), (ad 8, .inl (cI, 3700, .inl (zA R_valueKinds_3))), (ad 9, .inl (cL, 3700, .inr (.inl (zB R_valueNumbers_4)))), (ad 10, .inl (cI, 3700, .inl (zA R_from))), (ad 11, .inl (cI, 3700, .inl (zA R_length))), (ad 14, .inl (cI, 3700, .inl (zA R_given_5)))]) X (jrunV X (c_Mod_make (ad := ad) q6) jF0_k (fun _ _ _ _ => trivial) (jgV own_Mod_makeData (by decide +kernel)) rfl rfl rfl pd_Mod_make (by decide) [0, 1, 2, 5] rfl (by decide) 0 10 rfl rfl rfl rfl (Nat.le_of_ble_eq_true rfl) d_Mod_makeData_3 (by decide)) [0, 1, 2, 5] [3, 4] [2, 3, 4, 0, 1, 5] rfl rfl (by decide) (by decide) rfl (by decide) ?_
  refine J_istore_n (lv' := [(2, .int (zI r1)), (0, .ref (ad 0)), (1, .int (zI p1))]) X d_Mod_makeData_6 rfl (by decide) rfl ?_
  refine J_aload_n X d_Mod_makeData_7 rfl 1 rfl ?_
  refine J_get X (j_in in_Mod) 0 rfl rfl 12 (by decide) (j_m own_Mod_makeData (by decide +kernel)) rfl d_Mod_makeData_8 ?_
  refine J_iload_n X d_Mod_makeData_11 rfl 0 rfl ?_
  refine J_iload_n X d_Mod_makeData_12 rfl 2 rfl ?_
  obtain ⟨g7, h⟩ := wk_g h
  refine J_iast (ws' := [(ad 0, .inr (10, [.int (zI R_thrown), .ref (ad 1), .ref (ad 2), .ref (ad 3), .ref (ad 4), .ref (ad 5), .ref (ad 6), .int (zI R_used), .ref (ad 7), .int (zI R_many), .ref (ad 8), .ref (ad 9), .ref (ad 10), .ref (ad 11), .ref (ad 12), .ref (ad 13), .ref (ad 14), .ref (ad 15), .ref (ad 16), .int (zI R_values_2), .ref (ad 17), .int (zI R_textEnd), .ref (ad 18), .ref (ad 19), .ref (ad 20), .ref (ad 21), .int (zI R_dataEnd), .ref (ad 22), .int (zI R_rowEnd), .ref (ad 23), .ref (ad 24), .int (zI R_rowMany), .ref (ad 25), .ref (ad 26), .ref (ad 27), .ref (ad 28), .int (zI R_waiting), .int (zI R_mostWaiting), .int (zI R_answer), .int (zI R_steps), .int (zI R_memory), .int (zI R_maxSteps), .int (zI R_maxMemory), .int (zI R_fault), .int (zI R_result), .int (zI R_now), .int (zI R_nowRow), .int (zI R_come), .ref (ad 29), .ref (ad 30), .int (zI R_puts), .ref (ad 31)])), (ad 8, .inl (cI, 3700, .inl (zA R_valueKinds_3))), (ad 9, .inl (cL, 3700, .inr (.inl (zB R_valueNumbers_4)))), (ad 10, .inl (cI, 3700, .inl (zA (upZ R_from r1 p1)))), (ad 11, .inl (cI, 3700, .inl (zA R_length))), (ad 14, .inl (cI, 3700, .inl (zA R_given_5)))]) X 3 0 rfl rfl g7 d_Mod_makeData_13 rfl ?_
  refine J_aload_n X d_Mod_makeData_14 rfl 1 rfl ?_
  refine J_get X (j_in in_Mod) 0 rfl rfl 13 (by decide) (j_m own_Mod_makeData (by decide +kernel)) rfl d_Mod_makeData_15 ?_
  refine J_iload_n X d_Mod_makeData_18 rfl 0 rfl ?_
  refine J_aload_n X d_Mod_makeData_19 rfl 1 rfl ?_
  refine J_get X (j_in in_Mod) 0 rfl rfl 26 (by decide) (j_m own_Mod_makeData (by decide +kernel)) rfl d_Mod_makeData_20 ?_
  refine J_iload_n X d_Mod_makeData_23 rfl 2 rfl ?_
  refine J_isub X d_Mod_makeData_24 ?_
  obtain ⟨g8, h⟩ := wk_g h
  refine J_iast (ws' := [(ad 0, .inr (10, [.int (zI R_thrown), .ref (ad 1), .ref (ad 2), .ref (ad 3), .ref (ad 4), .ref (ad 5), .ref (ad 6), .int (zI R_used), .ref (ad 7), .int (zI R_many), .ref (ad 8), .ref (ad 9), .ref (ad 10), .ref (ad 11), .ref (ad 12), .ref (ad 13), .ref (ad 14), .ref (ad 15), .ref (ad 16), .int (zI R_values_2), .ref (ad 17), .int (zI R_textEnd), .ref (ad 18), .ref (ad 19), .ref (ad 20), .ref (ad 21), .int (zI R_dataEnd), .ref (ad 22), .int (zI R_rowEnd), .ref (ad 23), .ref (ad 24), .int (zI R_rowMany), .ref (ad 25), .ref (ad 26), .ref (ad 27), .ref (ad 28), .int (zI R_waiting), .int (zI R_mostWaiting), .int (zI R_answer), .int (zI R_steps), .int (zI R_memory), .int (zI R_maxSteps), .int (zI R_maxMemory), .int (zI R_fault), .int (zI R_result), .int (zI R_now), .int (zI R_nowRow), .int (zI R_come), .ref (ad 29), .ref (ad 30), .int (zI R_puts), .ref (ad 31)])), (ad 8, .inl (cI, 3700, .inl (zA R_valueKinds_3))), (ad 9, .inl (cL, 3700, .inr (.inl (zB R_valueNumbers_4)))), (ad 10, .inl (cI, 3700, .inl (zA (upZ R_from r1 p1)))), (ad 11, .inl (cI, 3700, .inl (zA (upZ R_length r1 (R_dataEnd - p1))))), (ad 14, .inl (cI, 3700, .inl (zA R_given_5)))]) X 4 0 rfl rfl g8 d_Mod_makeData_25 rfl ?_
  refine J_iload_n X d_Mod_makeData_26 rfl 0 rfl ?_
  cases h
  exact J_ret E ⟨_, rfl, rfl⟩ d_Mod_makeData_27 (Nat.le_refl _) (Nat.le_refl _) rfl

theorem d_Mod_copyData_0 : decode b_Mod_copyData 0 = .ok (.iconst 0, 1) := by decide +kernel
theorem d_Mod_copyData_1 : decode b_Mod_copyData 1 = .ok (.istore_n 3, 1) := by decide +kernel
theorem d_Mod_copyData_2 : decode b_Mod_copyData 2 = .ok (.iload_n 3, 1) := by decide +kernel
theorem d_Mod_copyData_3 : decode b_Mod_copyData 3 = .ok (.iload_n 2, 1) := by decide +kernel
theorem d_Mod_copyData_4 : decode b_Mod_copyData 4 = .ok (.if_icmp .ge 45, 3) := by decide +kernel
theorem d_Mod_copyData_7 : decode b_Mod_copyData 7 = .ok (.aload_n 0, 1) := by decide +kernel
theorem d_Mod_copyData_8 : decode b_Mod_copyData 8 = .ok (.aload_n 0, 1) := by decide +kernel
theorem d_Mod_copyData_9 : decode b_Mod_copyData 9 = .ok (.getfield 64, 3) := by decide +kernel
theorem d_Mod_copyData_12 : decode b_Mod_copyData 12 = .ok (.iload_n 1, 1) := by decide +kernel
theorem d_Mod_copyData_13 : decode b_Mod_copyData 13 = .ok (.iload_n 3, 1) := by decide +kernel
theorem d_Mod_copyData_14 : decode b_Mod_copyData 14 = .ok (.iadd, 1) := by decide +kernel
theorem d_Mod_copyData_15 : decode b_Mod_copyData 15 = .ok (.iaload, 1) := by decide +kernel
theorem d_Mod_copyData_16 : decode b_Mod_copyData 16 = .ok (.aload_n 0, 1) := by decide +kernel
theorem d_Mod_copyData_17 : decode b_Mod_copyData 17 = .ok (.getfield 67, 3) := by decide +kernel
theorem d_Mod_copyData_20 : decode b_Mod_copyData 20 = .ok (.iload_n 1, 1) := by decide +kernel
theorem d_Mod_copyData_21 : decode b_Mod_copyData 21 = .ok (.iload_n 3, 1) := by decide +kernel
theorem d_Mod_copyData_22 : decode b_Mod_copyData 22 = .ok (.iadd, 1) := by decide +kernel
theorem d_Mod_copyData_23 : decode b_Mod_copyData 23 = .ok (.laload, 1) := by decide +kernel
theorem d_Mod_copyData_24 : decode b_Mod_copyData 24 = .ok (.aload_n 0, 1) := by decide +kernel
theorem d_Mod_copyData_25 : decode b_Mod_copyData 25 = .ok (.getfield 70, 3) := by decide +kernel
theorem d_Mod_copyData_28 : decode b_Mod_copyData 28 = .ok (.iload_n 1, 1) := by decide +kernel
theorem d_Mod_copyData_29 : decode b_Mod_copyData 29 = .ok (.iload_n 3, 1) := by decide +kernel
theorem d_Mod_copyData_30 : decode b_Mod_copyData 30 = .ok (.iadd, 1) := by decide +kernel
theorem d_Mod_copyData_31 : decode b_Mod_copyData 31 = .ok (.iaload, 1) := by decide +kernel
theorem d_Mod_copyData_32 : decode b_Mod_copyData 32 = .ok (.aload_n 0, 1) := by decide +kernel
theorem d_Mod_copyData_33 : decode b_Mod_copyData 33 = .ok (.getfield 73, 3) := by decide +kernel
theorem d_Mod_copyData_36 : decode b_Mod_copyData 36 = .ok (.iload_n 1, 1) := by decide +kernel
theorem d_Mod_copyData_37 : decode b_Mod_copyData 37 = .ok (.iload_n 3, 1) := by decide +kernel
theorem d_Mod_copyData_38 : decode b_Mod_copyData 38 = .ok (.iadd, 1) := by decide +kernel
theorem d_Mod_copyData_39 : decode b_Mod_copyData 39 = .ok (.iaload, 1) := by decide +kernel
theorem d_Mod_copyData_40 : decode b_Mod_copyData 40 = .ok (.invokevirtual 154, 3) := by decide +kernel
theorem d_Mod_copyData_43 : decode b_Mod_copyData 43 = .ok (.iinc 3 1, 3) := by decide +kernel
theorem d_Mod_copyData_46 : decode b_Mod_copyData 46 = .ok (.goto (-44), 3) := by decide +kernel
theorem d_Mod_copyData_49 : decode b_Mod_copyData 49 = .ok (.return_, 1) := by decide +kernel
def f_Mod_copyData_L2 (x1 : Int) (x2 : Int) : Nat → Int → Int → (Int → Int) → (Int → Int) → (Int → Int) → (Int → Int) → Option (Int × Int × (Int → Int) × (Int → Int) × (Int → Int) × (Int → Int))
  | 0, _, _, _, _, _, _ => none
  | n + 1, x3, R_dataEnd, R_forms, R_tags, R_counts, R_textsAt =>
    if jr2 x3 x2 = true then (if x2 ≤ x3 then (
     some (x3, R_dataEnd, R_forms, R_tags, R_counts, R_textsAt)) else (
     if jix (x1 + x3) 5000 = true then (
      if jix (x1 + x3) 5000 = true then (
       if jix (x1 + x3) 5000 = true then (
        if jix (x1 + x3) 5000 = true then (
         ob5 (f_Mod_putData R_dataEnd R_forms R_tags R_counts R_textsAt (R_forms (x1 + x3)) (R_tags (x1 + x3)) (R_counts (x1 + x3)) (R_textsAt (x1 + x3))) (fun R_dataEnd_13 R_forms_14 R_tags_15 R_counts_16 R_textsAt_17 =>
          f_Mod_copyData_L2 x1 x2 n (x3 + 1) R_dataEnd_13 R_forms_14 R_tags_15 R_counts_16 R_textsAt_17)) else none) else none) else none) else none)) else none
def f_Mod_copyData (N : Nat) (R_dataEnd : Int) (R_forms : Int → Int) (R_tags : Int → Int) (R_counts : Int → Int) (R_textsAt : Int → Int) (p1 : Int) (p2 : Int) : Option (Int × (Int → Int) × (Int → Int) × (Int → Int) × (Int → Int)) :=
  ob6 (f_Mod_copyData_L2 p1 p2 N 0 R_dataEnd R_forms R_tags R_counts R_textsAt) (fun x3_1 R_dataEnd_2 R_forms_3 R_tags_4 R_counts_5 R_textsAt_6 =>
   some (R_dataEnd_2, R_forms_3, R_tags_4, R_counts_5, R_textsAt_6))
set_option maxHeartbeats 4000000 in
set_option maxRecDepth 100000 in
theorem k_Mod_copyData_L2 {K : jK} {cI cL cB : ClassId} {ad : Nat → Nat} {x1 : Int} {x2 : Int} {R_thrown : Int} {R_used : Int} {R_many : Int} {R_values : Int} {R_textEnd : Int} {R_rowEnd : Int} {R_rowMany : Int} {R_waiting : Int} {R_mostWaiting : Int} {R_answer : Int} {R_steps : Int} {R_memory : Int} {R_maxSteps : Int} {R_maxMemory : Int} {R_fault : Int} {R_result : Int} {R_now : Int} {R_nowRow : Int} {R_come : Int} {R_puts : Int} {out : Int × Int × (Int → Int) × (Int → Int) × (Int → Int) × (Int → Int)} (X : jX jF0 K 4 b_Mod_copyData w_Mod_copyData R_Mod [(cI, .int), (cL, .long), (cB, .byte)]) : ∀ (n : Nat) (x3 : Int) (R_dataEnd : Int) (R_forms : (Int → Int)) (R_tags : (Int → Int)) (R_counts : (Int → Int)) (R_textsAt : (Int → Int)), f_Mod_copyData_L2 x1 x2 n x3 R_dataEnd R_forms R_tags R_counts R_textsAt = some out → J K 4 ({ frames := 1, cells := 0, slots := 0, locals := 25 } : Room) false 0 0 [(ad 0, .inr (10, [.int (zI R_thrown), .ref (ad 1), .ref (ad 2), .ref (ad 3), .ref (ad 4), .ref (ad 5), .ref (ad 6), .int (zI R_used), .ref (ad 7), .int (zI R_many), .ref (ad 8), .ref (ad 9), .ref (ad 10), .ref (ad 11), .ref (ad 12), .ref (ad 13), .ref (ad 14), .ref (ad 15), .ref (ad 16), .int (zI R_values), .ref (ad 17), .int (zI R_textEnd), .ref (ad 18), .ref (ad 19), .ref (ad 20), .ref (ad 21), .int (zI (out.2.1)), .ref (ad 22), .int (zI R_rowEnd), .ref (ad 23), .ref (ad 24), .int (zI R_rowMany), .ref (ad 25), .ref (ad 26), .ref (ad 27), .ref (ad 28), .int (zI R_waiting), .int (zI R_mostWaiting), .int (zI R_answer), .int (zI R_steps), .int (zI R_memory), .int (zI R_maxSteps), .int (zI R_maxMemory), .int (zI R_fault), .int (zI R_result), .int (zI R_now), .int (zI R_nowRow), .int (zI R_come), .ref (ad 29), .ref (ad 30), .int (zI R_puts), .ref (ad 31)])), (ad 18, .inl (cI, 5000, .inl (zA (out.2.2.1)))), (ad 19, .inl (cL, 5000, .inr (.inl (zB (out.2.2.2.1))))), (ad 20, .inl (cI, 5000, .inl (zA (out.2.2.2.2.1)))), (ad 21, .inl (cI, 5000, .inl (zA (out.2.2.2.2.2))))] [(0, .ref (ad 0)), (1, .int (zI x1)), (2, .int (zI x2)), (3, .int (zI (out.1)))] [] 49 → J K 4 ({ frames := 1, cells := 0, slots := 0, locals := 25 } : Room) false 0 0 [(ad 0, .inr (10, [.int (zI R_thrown), .ref (ad 1), .ref (ad 2), .ref (ad 3), .ref (ad 4), .ref (ad 5), .ref (ad 6), .int (zI R_used), .ref (ad 7), .int (zI R_many), .ref (ad 8), .ref (ad 9), .ref (ad 10), .ref (ad 11), .ref (ad 12), .ref (ad 13), .ref (ad 14), .ref (ad 15), .ref (ad 16), .int (zI R_values), .ref (ad 17), .int (zI R_textEnd), .ref (ad 18), .ref (ad 19), .ref (ad 20), .ref (ad 21), .int (zI R_dataEnd), .ref (ad 22), .int (zI R_rowEnd), .ref (ad 23), .ref (ad 24), .int (zI R_rowMany), .ref (ad 25), .ref (ad 26), .ref (ad 27), .ref (ad 28), .int (zI R_waiting), .int (zI R_mostWaiting), .int (zI R_answer), .int (zI R_steps), .int (zI R_memory), .int (zI R_maxSteps), .int (zI R_maxMemory), .int (zI R_fault), .int (zI R_result), .int (zI R_now), .int (zI R_nowRow), .int (zI R_come), .ref (ad 29), .ref (ad 30), .int (zI R_puts), .ref (ad 31)])), (ad 18, .inl (cI, 5000, .inl (zA R_forms))), (ad 19, .inl (cL, 5000, .inr (.inl (zB R_tags)))), (ad 20, .inl (cI, 5000, .inl (zA R_counts))), (ad 21, .inl (cI, 5000, .inl (zA R_textsAt)))] [(0, .ref (ad 0)), (1, .int (zI x1)), (2, .int (zI x2)), (3, .int (zI x3))] [] 2 := by
  intro n
  induction n with
  | zero =>
    intro x3 R_dataEnd R_forms R_tags R_counts R_textsAt h hk
    cases h
  | succ n ih =>
    intro x3 R_dataEnd R_forms R_tags R_counts R_textsAt h hk
    unfold f_Mod_copyData_L2 at h
    refine J_iload_n X d_Mod_copyData_2 rfl 3 rfl ?_
    refine J_iload_n X d_Mod_copyData_3 rfl 2 rfl ?_
    refine J_icmp_ge (tgt := 49) X d_Mod_copyData_4 (by decide) h (fun c8 h => ?_) (fun c8 h => ?_)
    · cases h
      refine J_lv (lv' := [(0, .ref (ad 0)), (1, .int (zI x1)), (2, .int (zI x2)), (3, .int (zI x3))]) [0, 1, 2, 3] rfl ?_
      exact hk
    · refine J_aload_n X d_Mod_copyData_7 rfl 0 rfl ?_
      refine J_aload_n X d_Mod_copyData_8 rfl 0 rfl ?_
      refine J_get X (j_in in_Mod) 0 rfl rfl 22 (by decide) (j_m own_Mod_copyData (by decide +kernel)) rfl d_Mod_copyData_9 ?_
      refine J_iload_n X d_Mod_copyData_12 rfl 1 rfl ?_
      refine J_iload_n X d_Mod_copyData_13 rfl 3 rfl ?_
      refine J_iadd X d_Mod_copyData_14 ?_
      obtain ⟨g9, h⟩ := wk_g h
      refine J_iald X 1 0 rfl rfl g9 d_Mod_copyData_15 ?_
      refine J_aload_n X d_Mod_copyData_16 rfl 0 rfl ?_
      refine J_get X (j_in in_Mod) 0 rfl rfl 23 (by decide) (j_m own_Mod_copyData (by decide +kernel)) rfl d_Mod_copyData_17 ?_
      refine J_iload_n X d_Mod_copyData_20 rfl 1 rfl ?_
      refine J_iload_n X d_Mod_copyData_21 rfl 3 rfl ?_
      refine J_iadd X d_Mod_copyData_22 ?_
      obtain ⟨g10, h⟩ := wk_g h
      refine J_lald X 2 1 rfl rfl g10 d_Mod_copyData_23 ?_
      refine J_aload_n X d_Mod_copyData_24 rfl 0 rfl ?_
      refine J_get X (j_in in_Mod) 0 rfl rfl 24 (by decide) (j_m own_Mod_copyData (by decide +kernel)) rfl d_Mod_copyData_25 ?_
      refine J_iload_n X d_Mod_copyData_28 rfl 1 rfl ?_
      refine J_iload_n X d_Mod_copyData_29 rfl 3 rfl ?_
      refine J_iadd X d_Mod_copyData_30 ?_
      obtain ⟨g11, h⟩ := wk_g h
      refine J_iald X 3 0 rfl rfl g11 d_Mod_copyData_31 ?_
      refine J_aload_n X d_Mod_copyData_32 rfl 0 rfl ?_
      refine J_get X (j_in in_Mod) 0 rfl rfl 25 (by decide) (j_m own_Mod_copyData (by decide +kernel)) rfl d_Mod_copyData_33 ?_
      refine J_iload_n X d_Mod_copyData_36 rfl 1 rfl ?_
      refine J_iload_n X d_Mod_copyData_37 rfl 3 rfl ?_
      refine J_iadd X d_Mod_copyData_38 ?_
      obtain ⟨g12, h⟩ := wk_g h
      refine J_iald X 4 0 rfl rfl g12 d_Mod_copyData_39 ?_
      obtain ⟨R_dataEnd_13, R_forms_14, R_tags_15, R_counts_16, R_textsAt_17, q18, h⟩ := wk_b5 h
      refine J_afterI0 (ws' := [(ad 0, .inr (10, [.int (zI R_thrown), .ref (ad 1), .ref (ad 2), .ref (ad 3), .ref (ad 4), .ref (ad 5), .ref (ad 6), .int (zI R_used), .ref (ad 7), .int (zI R_many), .ref (ad 8), .ref (ad 9), .ref (ad 10), .ref (ad 11), .ref (ad 12), .ref (ad 13), .ref (ad 14), .ref (ad 15), .ref (ad 16), .int (zI R_values), .ref (ad 17), .int (zI R_textEnd), .ref (ad 18), .ref (ad 19), .ref (ad 20), .ref (ad 21), .int (zI R_dataEnd_13), .ref (ad 22), .int (zI R_rowEnd), .ref (ad 23), .ref (ad 24), .int (zI R_rowMany), .ref (ad 25), .ref (ad 26), .ref (ad 27), .ref (ad 28), .int (zI R_waiting), .int (zI R_mostWaiting), .int (zI R_answer), .int (zI R_steps), .int (zI R_memory), .int (zI R_maxSteps), .int (zI R_maxMemory), .int (zI R_fault), .int (zI R_result), .int (zI R_now), .int (zI R_nowRow), .int (zI R_come), .ref (ad 29), .ref (ad 30), .int (zI R_puts), .ref (ad 31)])), (ad 18, .inl (cI, 5000, .inl (zA R_forms_14))), (ad 19, .inl (cL, 5000, .inr (.inl (zB R_tags_15)))), (ad 20, .inl (cI, 5000, .inl (zA R_counts_16))), (ad 21, .inl (cI, 5000, .inl (zA R_textsAt_17)))]) X (jrunV X (c_Mod_putData (ad := ad) q18) jF0_k (fun _ _ _ _ => trivial) (jgV own_Mod_copyData (by decide +kernel)) rfl rfl rfl pd_Mod_putData (by decide) [0, 1, 2, 3, 4] rfl (by decide) 0 10 rfl rfl rfl rfl (Nat.le_of_ble_eq_true rfl) d_Mod_copyData_40 (by decide)) [0, 1, 2, 3, 4] [] [0, 1, 2, 3, 4] rfl rfl (by decide) (by decide) rfl (by decide) ?_
      refine J_iinc (lv' := [(3, .int (zI (x3 + 1))), (0, .ref (ad 0)), (1, .int (zI x1)), (2, .int (zI x2))]) X d_Mod_copyData_43 3 rfl (by decide) rfl ?_
      refine J_goto (tgt := 2) X d_Mod_copyData_46 (by decide) ?_
      refine J_lv (lv' := [(0, .ref (ad 0)), (1, .int (zI x1)), (2, .int (zI x2)), (3, .int (zI (x3 + 1)))]) [1, 2, 3, 0] rfl ?_
      exact ih _ _ _ _ _ _ h hk
set_option maxHeartbeats 4000000 in
set_option maxRecDepth 100000 in
theorem c_Mod_copyData {l : Launch} {D : va_G} {cI cL cB : ClassId} {ad : Nat → Nat} {N : Nat} {R_thrown : Int} {R_used : Int} {R_many : Int} {R_values : Int} {R_textEnd : Int} {R_dataEnd : Int} {R_rowEnd : Int} {R_rowMany : Int} {R_waiting : Int} {R_mostWaiting : Int} {R_answer : Int} {R_steps : Int} {R_memory : Int} {R_maxSteps : Int} {R_maxMemory : Int} {R_fault : Int} {R_result : Int} {R_now : Int} {R_nowRow : Int} {R_come : Int} {R_puts : Int} {R_forms : Int → Int} {R_tags : Int → Int} {R_counts : Int → Int} {R_textsAt : Int → Int} {p1 : Int} {p2 : Int} {out : Int × (Int → Int) × (Int → Int) × (Int → Int) × (Int → Int)} (h : f_Mod_copyData N R_dataEnd R_forms R_tags R_counts R_textsAt p1 p2 = some out) : CT jF0 false l D [(cI, .int), (cL, .long), (cB, .byte)] y_Mod_copyData w_Mod_copyData ({ frames := 1, cells := 0, slots := 0, locals := 25 } : Room) [.ref (ad 0), .int (zI p1), .int (zI p2)] [(ad 0, .inr (10, [.int (zI R_thrown), .ref (ad 1), .ref (ad 2), .ref (ad 3), .ref (ad 4), .ref (ad 5), .ref (ad 6), .int (zI R_used), .ref (ad 7), .int (zI R_many), .ref (ad 8), .ref (ad 9), .ref (ad 10), .ref (ad 11), .ref (ad 12), .ref (ad 13), .ref (ad 14), .ref (ad 15), .ref (ad 16), .int (zI R_values), .ref (ad 17), .int (zI R_textEnd), .ref (ad 18), .ref (ad 19), .ref (ad 20), .ref (ad 21), .int (zI R_dataEnd), .ref (ad 22), .int (zI R_rowEnd), .ref (ad 23), .ref (ad 24), .int (zI R_rowMany), .ref (ad 25), .ref (ad 26), .ref (ad 27), .ref (ad 28), .int (zI R_waiting), .int (zI R_mostWaiting), .int (zI R_answer), .int (zI R_steps), .int (zI R_memory), .int (zI R_maxSteps), .int (zI R_maxMemory), .int (zI R_fault), .int (zI R_result), .int (zI R_now), .int (zI R_nowRow), .int (zI R_come), .ref (ad 29), .ref (ad 30), .int (zI R_puts), .ref (ad 31)])), (ad 18, .inl (cI, 5000, .inl (zA R_forms))), (ad 19, .inl (cL, 5000, .inr (.inl (zB R_tags)))), (ad 20, .inl (cI, 5000, .inl (zA R_counts))), (ad 21, .inl (cI, 5000, .inl (zA R_textsAt)))] none [(ad 0, .inr (10, [.int (zI R_thrown), .ref (ad 1), .ref (ad 2), .ref (ad 3), .ref (ad 4), .ref (ad 5), .ref (ad 6), .int (zI R_used), .ref (ad 7), .int (zI R_many), .ref (ad 8), .ref (ad 9), .ref (ad 10), .ref (ad 11), .ref (ad 12), .ref (ad 13), .ref (ad 14), .ref (ad 15), .ref (ad 16), .int (zI R_values), .ref (ad 17), .int (zI R_textEnd), .ref (ad 18), .ref (ad 19), .ref (ad 20), .ref (ad 21), .int (zI (out.1)), .ref (ad 22), .int (zI R_rowEnd), .ref (ad 23), .ref (ad 24), .int (zI R_rowMany), .ref (ad 25), .ref (ad 26), .ref (ad 27), .ref (ad 28), .int (zI R_waiting), .int (zI R_mostWaiting), .int (zI R_answer), .int (zI R_steps), .int (zI R_memory), .int (zI R_maxSteps), .int (zI R_maxMemory), .int (zI R_fault), .int (zI R_result), .int (zI R_now), .int (zI R_nowRow), .int (zI R_come), .ref (ad 29), .ref (ad 30), .int (zI R_puts), .ref (ad 31)])), (ad 18, .inl (cI, 5000, .inl (zA (out.2.1)))), (ad 19, .inl (cL, 5000, .inr (.inl (zB (out.2.2.1))))), (ad 20, .inl (cI, 5000, .inl (zA (out.2.2.2.1)))), (ad 21, .inl (cI, 5000, .inl (zA (out.2.2.2.2))))] 0 0 := by
  refine CT_of_J (cc := b_Mod_copyData) (maxL := 4) (ret := none) jF0_k (plainFor_of_name (by decide)) rfl (Nat.le_of_ble_eq_true rfl) ?_
  intro K hKl hKD X E
  subst hKl; subst hKD
  unfold f_Mod_copyData at h
  refine J_iconst X d_Mod_copyData_0 ?_
  refine J_istore_n (lv' := [(3, .int (zI 0)), (0, .ref (ad 0)), (1, .int (zI p1)), (2, .int (zI p2))]) X d_Mod_copyData_1 rfl (by decide) rfl ?_
  refine J_lv (lv' := [(0, .ref (ad 0)), (1, .int (zI p1)), (2, .int (zI p2)), (3, .int (zI 0))]) [1, 2, 3, 0] rfl ?_
  obtain ⟨x3_1, R_dataEnd_2, R_forms_3, R_tags_4, R_counts_5, R_textsAt_6, q7, h⟩ := wk_b6 h
  refine k_Mod_copyData_L2 X _ _ _ _ _ _ _ q7 ?_
  cases h
  exact J_ret E rfl d_Mod_copyData_49 (Nat.le_refl _) (Nat.le_refl _) rfl

theorem d_Mod_within_0 : decode b_Mod_within 0 = .ok (.aload_n 0, 1) := by decide +kernel
theorem d_Mod_within_1 : decode b_Mod_within 1 = .ok (.getfield 64, 3) := by decide +kernel
theorem d_Mod_within_4 : decode b_Mod_within 4 = .ok (.iload_n 1, 1) := by decide +kernel
theorem d_Mod_within_5 : decode b_Mod_within 5 = .ok (.iaload, 1) := by decide +kernel
theorem d_Mod_within_6 : decode b_Mod_within 6 = .ok (.iconst 1, 1) := by decide +kernel
theorem d_Mod_within_7 : decode b_Mod_within 7 = .ok (.if_icmp .ne 14, 3) := by decide +kernel
theorem d_Mod_within_10 : decode b_Mod_within 10 = .ok (.iconst 2, 1) := by decide +kernel
theorem d_Mod_within_11 : decode b_Mod_within 11 = .ok (.aload_n 0, 1) := by decide +kernel
theorem d_Mod_within_12 : decode b_Mod_within 12 = .ok (.getfield 70, 3) := by decide +kernel
theorem d_Mod_within_15 : decode b_Mod_within 15 = .ok (.iload_n 1, 1) := by decide +kernel
theorem d_Mod_within_16 : decode b_Mod_within 16 = .ok (.iaload, 1) := by decide +kernel
theorem d_Mod_within_17 : decode b_Mod_within 17 = .ok (.imul, 1) := by decide +kernel
theorem d_Mod_within_18 : decode b_Mod_within 18 = .ok (.goto 32, 3) := by decide +kernel
theorem d_Mod_within_21 : decode b_Mod_within 21 = .ok (.aload_n 0, 1) := by decide +kernel
theorem d_Mod_within_22 : decode b_Mod_within 22 = .ok (.getfield 64, 3) := by decide +kernel
theorem d_Mod_within_25 : decode b_Mod_within 25 = .ok (.iload_n 1, 1) := by decide +kernel
theorem d_Mod_within_26 : decode b_Mod_within 26 = .ok (.iaload, 1) := by decide +kernel
theorem d_Mod_within_27 : decode b_Mod_within 27 = .ok (.ifCond .eq 13, 3) := by decide +kernel
theorem d_Mod_within_30 : decode b_Mod_within 30 = .ok (.aload_n 0, 1) := by decide +kernel
theorem d_Mod_within_31 : decode b_Mod_within 31 = .ok (.getfield 64, 3) := by decide +kernel
theorem d_Mod_within_34 : decode b_Mod_within 34 = .ok (.iload_n 1, 1) := by decide +kernel
theorem d_Mod_within_35 : decode b_Mod_within 35 = .ok (.iaload, 1) := by decide +kernel
theorem d_Mod_within_36 : decode b_Mod_within 36 = .ok (.iconst 2, 1) := by decide +kernel
theorem d_Mod_within_37 : decode b_Mod_within 37 = .ok (.if_icmp .ne 12, 3) := by decide +kernel
theorem d_Mod_within_40 : decode b_Mod_within 40 = .ok (.aload_n 0, 1) := by decide +kernel
theorem d_Mod_within_41 : decode b_Mod_within 41 = .ok (.getfield 70, 3) := by decide +kernel
theorem d_Mod_within_44 : decode b_Mod_within 44 = .ok (.iload_n 1, 1) := by decide +kernel
theorem d_Mod_within_45 : decode b_Mod_within 45 = .ok (.iaload, 1) := by decide +kernel
theorem d_Mod_within_46 : decode b_Mod_within 46 = .ok (.goto 4, 3) := by decide +kernel
theorem d_Mod_within_49 : decode b_Mod_within 49 = .ok (.iconst 0, 1) := by decide +kernel
theorem d_Mod_within_50 : decode b_Mod_within 50 = .ok (.ireturn, 1) := by decide +kernel
def f_Mod_within (R_forms : Int → Int) (R_counts : Int → Int) (p1 : Int) : Option (Int) :=
  if jix p1 5000 = true then (
   if jr2 (R_forms p1) 1 = true then (if (R_forms p1) = 1 then (
    if jix p1 5000 = true then (
     some (2 * (R_counts p1))) else none) else (
    if jix p1 5000 = true then (
     if rI (R_forms p1) = true then (if (R_forms p1) = 0 then (
      if jix p1 5000 = true then (
       some (R_counts p1)) else none) else (
      if jix p1 5000 = true then (
       if jr2 (R_forms p1) 2 = true then (if (R_forms p1) = 2 then (
        if jix p1 5000 = true then (
         some (R_counts p1)) else none) else (
        some 0)) else none) else none)) else none) else none)) else none) else none
set_option maxHeartbeats 4000000 in
set_option maxRecDepth 100000 in
theorem c_Mod_within {l : Launch} {D : va_G} {cI cL cB : ClassId} {ad : Nat → Nat} {R_thrown : Int} {R_used : Int} {R_many : Int} {R_values : Int} {R_textEnd : Int} {R_dataEnd : Int} {R_rowEnd : Int} {R_rowMany : Int} {R_waiting : Int} {R_mostWaiting : Int} {R_answer : Int} {R_steps : Int} {R_memory : Int} {R_maxSteps : Int} {R_maxMemory : Int} {R_fault : Int} {R_result : Int} {R_now : Int} {R_nowRow : Int} {R_come : Int} {R_puts : Int} {R_forms : Int → Int} {R_counts : Int → Int} {p1 : Int} {out : Int} (h : f_Mod_within R_forms R_counts p1 = some out) : CT jF0 true l D [(cI, .int), (cL, .long), (cB, .byte)] y_Mod_within w_Mod_within ({ frames := 0, cells := 0, slots := 0, locals := 0 } : Room) [.ref (ad 0), .int (zI p1)] [(ad 0, .inr (10, [.int (zI R_thrown), .ref (ad 1), .ref (ad 2), .ref (ad 3), .ref (ad 4), .ref (ad 5), .ref (ad 6), .int (zI R_used), .ref (ad 7), .int (zI R_many), .ref (ad 8), .ref (ad 9), .ref (ad 10), .ref (ad 11), .ref (ad 12), .ref (ad 13), .ref (ad 14), .ref (ad 15), .ref (ad 16), .int (zI R_values), .ref (ad 17), .int (zI R_textEnd), .ref (ad 18), .ref (ad 19), .ref (ad 20), .ref (ad 21), .int (zI R_dataEnd), .ref (ad 22), .int (zI R_rowEnd), .ref (ad 23), .ref (ad 24), .int (zI R_rowMany), .ref (ad 25), .ref (ad 26), .ref (ad 27), .ref (ad 28), .int (zI R_waiting), .int (zI R_mostWaiting), .int (zI R_answer), .int (zI R_steps), .int (zI R_memory), .int (zI R_maxSteps), .int (zI R_maxMemory), .int (zI R_fault), .int (zI R_result), .int (zI R_now), .int (zI R_nowRow), .int (zI R_come), .ref (ad 29), .ref (ad 30), .int (zI R_puts), .ref (ad 31)])), (ad 18, .inl (cI, 5000, .inl (zA R_forms))), (ad 20, .inl (cI, 5000, .inl (zA R_counts)))] (some (.int (zI out))) [(ad 0, .inr (10, [.int (zI R_thrown), .ref (ad 1), .ref (ad 2), .ref (ad 3), .ref (ad 4), .ref (ad 5), .ref (ad 6), .int (zI R_used), .ref (ad 7), .int (zI R_many), .ref (ad 8), .ref (ad 9), .ref (ad 10), .ref (ad 11), .ref (ad 12), .ref (ad 13), .ref (ad 14), .ref (ad 15), .ref (ad 16), .int (zI R_values), .ref (ad 17), .int (zI R_textEnd), .ref (ad 18), .ref (ad 19), .ref (ad 20), .ref (ad 21), .int (zI R_dataEnd), .ref (ad 22), .int (zI R_rowEnd), .ref (ad 23), .ref (ad 24), .int (zI R_rowMany), .ref (ad 25), .ref (ad 26), .ref (ad 27), .ref (ad 28), .int (zI R_waiting), .int (zI R_mostWaiting), .int (zI R_answer), .int (zI R_steps), .int (zI R_memory), .int (zI R_maxSteps), .int (zI R_maxMemory), .int (zI R_fault), .int (zI R_result), .int (zI R_now), .int (zI R_nowRow), .int (zI R_come), .ref (ad 29), .ref (ad 30), .int (zI R_puts), .ref (ad 31)])), (ad 18, .inl (cI, 5000, .inl (zA R_forms))), (ad 20, .inl (cI, 5000, .inl (zA R_counts)))] 0 0 := by
  refine CT_of_J (cc := b_Mod_within) (maxL := 2) (ret := (some .int)) jF0_k (plainFor_of_name (by decide)) rfl (Nat.le_of_ble_eq_true rfl) ?_
  intro K hKl hKD X E
  subst hKl; subst hKD
  unfold f_Mod_within at h
  refine J_aload_n X d_Mod_within_0 rfl 0 rfl ?_
  refine J_get X (j_in in_Mod) 0 rfl rfl 22 (by decide) (j_m own_Mod_within (by decide +kernel)) rfl d_Mod_within_1 ?_
  refine J_iload_n X d_Mod_within_4 rfl 1 rfl ?_
  obtain ⟨g1, h⟩ := wk_g h
  refine J_iald X 1 0 rfl rfl g1 d_Mod_within_5 ?_
  refine J_iconst X d_Mod_within_6 ?_
  refine J_icmp_ne (tgt := 21) X d_Mod_within_7 (by decide) h (fun c2 h => ?_) (fun c2 h => ?_)
  · refine J_aload_n X d_Mod_within_21 rfl 0 rfl ?_
    refine J_get X (j_in in_Mod) 0 rfl rfl 22 (by decide) (j_m own_Mod_within (by decide +kernel)) rfl d_Mod_within_22 ?_
    refine J_iload_n X d_Mod_within_25 rfl 1 rfl ?_
    obtain ⟨g3, h⟩ := wk_g h
    refine J_iald X 1 0 rfl rfl g3 d_Mod_within_26 ?_
    refine J_if_eq (tgt := 40) X d_Mod_within_27 (by decide) h (fun c4 h => ?_) (fun c4 h => ?_)
    · refine J_aload_n X d_Mod_within_40 rfl 0 rfl ?_
      refine J_get X (j_in in_Mod) 0 rfl rfl 24 (by decide) (j_m own_Mod_within (by decide +kernel)) rfl d_Mod_within_41 ?_
      refine J_iload_n X d_Mod_within_44 rfl 1 rfl ?_
      obtain ⟨g5, h⟩ := wk_g h
      refine J_iald X 2 0 rfl rfl g5 d_Mod_within_45 ?_
      refine J_goto (tgt := 50) X d_Mod_within_46 (by decide) ?_
      cases h
      exact J_ret E ⟨_, rfl, rfl⟩ d_Mod_within_50 (Nat.le_refl _) (Nat.le_refl _) rfl
    · refine J_aload_n X d_Mod_within_30 rfl 0 rfl ?_
      refine J_get X (j_in in_Mod) 0 rfl rfl 22 (by decide) (j_m own_Mod_within (by decide +kernel)) rfl d_Mod_within_31 ?_
      refine J_iload_n X d_Mod_within_34 rfl 1 rfl ?_
      obtain ⟨g6, h⟩ := wk_g h
      refine J_iald X 1 0 rfl rfl g6 d_Mod_within_35 ?_
      refine J_iconst X d_Mod_within_36 ?_
      refine J_icmp_ne (tgt := 49) X d_Mod_within_37 (by decide) h (fun c7 h => ?_) (fun c7 h => ?_)
      · refine J_iconst X d_Mod_within_49 ?_
        cases h
        exact J_ret E ⟨_, rfl, rfl⟩ d_Mod_within_50 (Nat.le_refl _) (Nat.le_refl _) rfl
      · refine J_aload_n X d_Mod_within_40 rfl 0 rfl ?_
        refine J_get X (j_in in_Mod) 0 rfl rfl 24 (by decide) (j_m own_Mod_within (by decide +kernel)) rfl d_Mod_within_41 ?_
        refine J_iload_n X d_Mod_within_44 rfl 1 rfl ?_
        obtain ⟨g8, h⟩ := wk_g h
        refine J_iald X 2 0 rfl rfl g8 d_Mod_within_45 ?_
        refine J_goto (tgt := 50) X d_Mod_within_46 (by decide) ?_
        cases h
        exact J_ret E ⟨_, rfl, rfl⟩ d_Mod_within_50 (Nat.le_refl _) (Nat.le_refl _) rfl
  · refine J_iconst X d_Mod_within_10 ?_
    refine J_aload_n X d_Mod_within_11 rfl 0 rfl ?_
    refine J_get X (j_in in_Mod) 0 rfl rfl 24 (by decide) (j_m own_Mod_within (by decide +kernel)) rfl d_Mod_within_12 ?_
    refine J_iload_n X d_Mod_within_15 rfl 1 rfl ?_
    obtain ⟨g9, h⟩ := wk_g h
    refine J_iald X 2 0 rfl rfl g9 d_Mod_within_16 ?_
    refine J_imul X d_Mod_within_17 ?_
    refine J_goto (tgt := 50) X d_Mod_within_18 (by decide) ?_
    cases h
    exact J_ret E ⟨_, rfl, rfl⟩ d_Mod_within_50 (Nat.le_refl _) (Nat.le_refl _) rfl

theorem d_Mod_sizeOfData_0 : decode b_Mod_sizeOfData 0 = .ok (.iconst 0, 1) := by decide +kernel
theorem d_Mod_sizeOfData_1 : decode b_Mod_sizeOfData 1 = .ok (.istore_n 2, 1) := by decide +kernel
theorem d_Mod_sizeOfData_2 : decode b_Mod_sizeOfData 2 = .ok (.iconst 1, 1) := by decide +kernel
theorem d_Mod_sizeOfData_3 : decode b_Mod_sizeOfData 3 = .ok (.istore_n 3, 1) := by decide +kernel
theorem d_Mod_sizeOfData_4 : decode b_Mod_sizeOfData 4 = .ok (.iload_n 3, 1) := by decide +kernel
theorem d_Mod_sizeOfData_5 : decode b_Mod_sizeOfData 5 = .ok (.ifCond .le 21, 3) := by decide +kernel
theorem d_Mod_sizeOfData_8 : decode b_Mod_sizeOfData 8 = .ok (.iload_n 3, 1) := by decide +kernel
theorem d_Mod_sizeOfData_9 : decode b_Mod_sizeOfData 9 = .ok (.aload_n 0, 1) := by decide +kernel
theorem d_Mod_sizeOfData_10 : decode b_Mod_sizeOfData 10 = .ok (.iload_n 1, 1) := by decide +kernel
theorem d_Mod_sizeOfData_11 : decode b_Mod_sizeOfData 11 = .ok (.iload_n 2, 1) := by decide +kernel
theorem d_Mod_sizeOfData_12 : decode b_Mod_sizeOfData 12 = .ok (.iadd, 1) := by decide +kernel
theorem d_Mod_sizeOfData_13 : decode b_Mod_sizeOfData 13 = .ok (.invokevirtual 158, 3) := by decide +kernel
theorem d_Mod_sizeOfData_16 : decode b_Mod_sizeOfData 16 = .ok (.iconst 1, 1) := by decide +kernel
theorem d_Mod_sizeOfData_17 : decode b_Mod_sizeOfData 17 = .ok (.isub, 1) := by decide +kernel
theorem d_Mod_sizeOfData_18 : decode b_Mod_sizeOfData 18 = .ok (.iadd, 1) := by decide +kernel
theorem d_Mod_sizeOfData_19 : decode b_Mod_sizeOfData 19 = .ok (.istore_n 3, 1) := by decide +kernel
theorem d_Mod_sizeOfData_20 : decode b_Mod_sizeOfData 20 = .ok (.iinc 2 1, 3) := by decide +kernel
theorem d_Mod_sizeOfData_23 : decode b_Mod_sizeOfData 23 = .ok (.goto (-19), 3) := by decide +kernel
theorem d_Mod_sizeOfData_26 : decode b_Mod_sizeOfData 26 = .ok (.iload_n 2, 1) := by decide +kernel
theorem d_Mod_sizeOfData_27 : decode b_Mod_sizeOfData 27 = .ok (.ireturn, 1) := by decide +kernel
def f_Mod_sizeOfData_L4 (R_forms : Int → Int) (R_counts : Int → Int) (x1 : Int) : Nat → Int → Int → Option (Int × Int)
  | 0, _, _ => none
  | n + 1, x2, x3 =>
    if rI x3 = true then (if x3 ≤ 0 then (
     some (x2, x3)) else (
     Option.bind (f_Mod_within R_forms R_counts (x1 + x2)) (fun r5 =>
      f_Mod_sizeOfData_L4 R_forms R_counts x1 n (x2 + 1) (x3 + (r5 - 1))))) else none
def f_Mod_sizeOfData (N : Nat) (R_forms : Int → Int) (R_counts : Int → Int) (p1 : Int) : Option (Int) :=
  ob2 (f_Mod_sizeOfData_L4 R_forms R_counts p1 N 0 1) (fun x2_1 x3_2 =>
   some x2_1)
set_option maxHeartbeats 4000000 in
set_option maxRecDepth 100000 in
theorem k_Mod_sizeOfData_L4 {K : jK} {cI cL cB : ClassId} {ad : Nat → Nat} {R_forms : Int → Int} {R_counts : Int → Int} {x1 : Int} {R_thrown : Int} {R_used : Int} {R_many : Int} {R_values : Int} {R_textEnd : Int} {R_dataEnd : Int} {R_rowEnd : Int} {R_rowMany : Int} {R_waiting : Int} {R_mostWaiting : Int} {R_answer : Int} {R_steps : Int} {R_memory : Int} {R_maxSteps : Int} {R_maxMemory : Int} {R_fault : Int} {R_result : Int} {R_now : Int} {R_nowRow : Int} {R_come : Int} {R_puts : Int} {out : Int × Int} (X : jX jF0 K 4 b_Mod_sizeOfData w_Mod_sizeOfData R_Mod [(cI, .int), (cL, .long), (cB, .byte)]) : ∀ (n : Nat) (x2 : Int) (x3 : Int), f_Mod_sizeOfData_L4 R_forms R_counts x1 n x2 x3 = some out → J K 4 ({ frames := 1, cells := 0, slots := 0, locals := 21 } : Room) true 0 0 [(ad 0, .inr (10, [.int (zI R_thrown), .ref (ad 1), .ref (ad 2), .ref (ad 3), .ref (ad 4), .ref (ad 5), .ref (ad 6), .int (zI R_used), .ref (ad 7), .int (zI R_many), .ref (ad 8), .ref (ad 9), .ref (ad 10), .ref (ad 11), .ref (ad 12), .ref (ad 13), .ref (ad 14), .ref (ad 15), .ref (ad 16), .int (zI R_values), .ref (ad 17), .int (zI R_textEnd), .ref (ad 18), .ref (ad 19), .ref (ad 20), .ref (ad 21), .int (zI R_dataEnd), .ref (ad 22), .int (zI R_rowEnd), .ref (ad 23), .ref (ad 24), .int (zI R_rowMany), .ref (ad 25), .ref (ad 26), .ref (ad 27), .ref (ad 28), .int (zI R_waiting), .int (zI R_mostWaiting), .int (zI R_answer), .int (zI R_steps), .int (zI R_memory), .int (zI R_maxSteps), .int (zI R_maxMemory), .int (zI R_fault), .int (zI R_result), .int (zI R_now), .int (zI R_nowRow), .int (zI R_come), .ref (ad 29), .ref (ad 30), .int (zI R_puts), .ref (ad 31)])), (ad 18, .inl (cI, 5000, .inl (zA R_forms))), (ad 20, .inl (cI, 5000, .inl (zA R_counts)))] [(0, .ref (ad 0)), (1, .int (zI x1)), (2, .int (zI (out.1))), (3, .int (zI (out.2)))] [] 26 → J K 4 ({ frames := 1, cells := 0, slots := 0, locals := 21 } : Room) true 0 0 [(ad 0, .inr (10, [.int (zI R_thrown), .ref (ad 1), .ref (ad 2), .ref (ad 3), .ref (ad 4), .ref (ad 5), .ref (ad 6), .int (zI R_used), .ref (ad 7), .int (zI R_many), .ref (ad 8), .ref (ad 9), .ref (ad 10), .ref (ad 11), .ref (ad 12), .ref (ad 13), .ref (ad 14), .ref (ad 15), .ref (ad 16), .int (zI R_values), .ref (ad 17), .int (zI R_textEnd), .ref (ad 18), .ref (ad 19), .ref (ad 20), .ref (ad 21), .int (zI R_dataEnd), .ref (ad 22), .int (zI R_rowEnd), .ref (ad 23), .ref (ad 24), .int (zI R_rowMany), .ref (ad 25), .ref (ad 26), .ref (ad 27), .ref (ad 28), .int (zI R_waiting), .int (zI R_mostWaiting), .int (zI R_answer), .int (zI R_steps), .int (zI R_memory), .int (zI R_maxSteps), .int (zI R_maxMemory), .int (zI R_fault), .int (zI R_result), .int (zI R_now), .int (zI R_nowRow), .int (zI R_come), .ref (ad 29), .ref (ad 30), .int (zI R_puts), .ref (ad 31)])), (ad 18, .inl (cI, 5000, .inl (zA R_forms))), (ad 20, .inl (cI, 5000, .inl (zA R_counts)))] [(0, .ref (ad 0)), (1, .int (zI x1)), (2, .int (zI x2)), (3, .int (zI x3))] [] 4 := by
  intro n
  induction n with
  | zero =>
    intro x2 x3 h hk
    cases h
  | succ n ih =>
    intro x2 x3 h hk
    unfold f_Mod_sizeOfData_L4 at h
    refine J_iload_n X d_Mod_sizeOfData_4 rfl 3 rfl ?_
    refine J_if_le (tgt := 26) X d_Mod_sizeOfData_5 (by decide) h (fun c4 h => ?_) (fun c4 h => ?_)
    · cases h
      refine J_lv (lv' := [(0, .ref (ad 0)), (1, .int (zI x1)), (2, .int (zI x2)), (3, .int (zI x3))]) [0, 1, 2, 3] rfl ?_
      exact hk
    · refine J_iload_n X d_Mod_sizeOfData_8 rfl 3 rfl ?_
      refine J_aload_n X d_Mod_sizeOfData_9 rfl 0 rfl ?_
      refine J_iload_n X d_Mod_sizeOfData_10 rfl 1 rfl ?_
      refine J_iload_n X d_Mod_sizeOfData_11 rfl 2 rfl ?_
      refine J_iadd X d_Mod_sizeOfData_12 ?_
      obtain ⟨r5, q6, h⟩ := wk_b h
      refine J_afterP (jrunV X (c_Mod_within (ad := ad) q6) jF0_k (fun _ _ _ _ => trivial) (jgV own_Mod_sizeOfData (by decide +kernel)) rfl rfl rfl pd_Mod_within (by decide) [0, 1, 2] rfl (by decide) 0 10 rfl rfl rfl rfl (Nat.le_of_ble_eq_true rfl) d_Mod_sizeOfData_13 (by decide)) ?_
      refine J_iconst X d_Mod_sizeOfData_16 ?_
      refine J_isub X d_Mod_sizeOfData_17 ?_
      refine J_iadd X d_Mod_sizeOfData_18 ?_
      refine J_istore_n (lv' := [(3, .int (zI (x3 + (r5 - 1)))), (0, .ref (ad 0)), (1, .int (zI x1)), (2, .int (zI x2))]) X d_Mod_sizeOfData_19 rfl (by decide) rfl ?_
      refine J_iinc (lv' := [(2, .int (zI (x2 + 1))), (3, .int (zI (x3 + (r5 - 1)))), (0, .ref (ad 0)), (1, .int (zI x1))]) X d_Mod_sizeOfData_20 3 rfl (by decide) rfl ?_
      refine J_goto (tgt := 4) X d_Mod_sizeOfData_23 (by decide) ?_
      refine J_lv (lv' := [(0, .ref (ad 0)), (1, .int (zI x1)), (2, .int (zI (x2 + 1))), (3, .int (zI (x3 + (r5 - 1))))]) [2, 3, 0, 1] rfl ?_
      exact ih _ _ h hk
set_option maxHeartbeats 4000000 in
set_option maxRecDepth 100000 in
theorem c_Mod_sizeOfData {l : Launch} {D : va_G} {cI cL cB : ClassId} {ad : Nat → Nat} {N : Nat} {R_thrown : Int} {R_used : Int} {R_many : Int} {R_values : Int} {R_textEnd : Int} {R_dataEnd : Int} {R_rowEnd : Int} {R_rowMany : Int} {R_waiting : Int} {R_mostWaiting : Int} {R_answer : Int} {R_steps : Int} {R_memory : Int} {R_maxSteps : Int} {R_maxMemory : Int} {R_fault : Int} {R_result : Int} {R_now : Int} {R_nowRow : Int} {R_come : Int} {R_puts : Int} {R_forms : Int → Int} {R_counts : Int → Int} {p1 : Int} {out : Int} (h : f_Mod_sizeOfData N R_forms R_counts p1 = some out) : CT jF0 true l D [(cI, .int), (cL, .long), (cB, .byte)] y_Mod_sizeOfData w_Mod_sizeOfData ({ frames := 1, cells := 0, slots := 0, locals := 21 } : Room) [.ref (ad 0), .int (zI p1)] [(ad 0, .inr (10, [.int (zI R_thrown), .ref (ad 1), .ref (ad 2), .ref (ad 3), .ref (ad 4), .ref (ad 5), .ref (ad 6), .int (zI R_used), .ref (ad 7), .int (zI R_many), .ref (ad 8), .ref (ad 9), .ref (ad 10), .ref (ad 11), .ref (ad 12), .ref (ad 13), .ref (ad 14), .ref (ad 15), .ref (ad 16), .int (zI R_values), .ref (ad 17), .int (zI R_textEnd), .ref (ad 18), .ref (ad 19), .ref (ad 20), .ref (ad 21), .int (zI R_dataEnd), .ref (ad 22), .int (zI R_rowEnd), .ref (ad 23), .ref (ad 24), .int (zI R_rowMany), .ref (ad 25), .ref (ad 26), .ref (ad 27), .ref (ad 28), .int (zI R_waiting), .int (zI R_mostWaiting), .int (zI R_answer), .int (zI R_steps), .int (zI R_memory), .int (zI R_maxSteps), .int (zI R_maxMemory), .int (zI R_fault), .int (zI R_result), .int (zI R_now), .int (zI R_nowRow), .int (zI R_come), .ref (ad 29), .ref (ad 30), .int (zI R_puts), .ref (ad 31)])), (ad 18, .inl (cI, 5000, .inl (zA R_forms))), (ad 20, .inl (cI, 5000, .inl (zA R_counts)))] (some (.int (zI out))) [(ad 0, .inr (10, [.int (zI R_thrown), .ref (ad 1), .ref (ad 2), .ref (ad 3), .ref (ad 4), .ref (ad 5), .ref (ad 6), .int (zI R_used), .ref (ad 7), .int (zI R_many), .ref (ad 8), .ref (ad 9), .ref (ad 10), .ref (ad 11), .ref (ad 12), .ref (ad 13), .ref (ad 14), .ref (ad 15), .ref (ad 16), .int (zI R_values), .ref (ad 17), .int (zI R_textEnd), .ref (ad 18), .ref (ad 19), .ref (ad 20), .ref (ad 21), .int (zI R_dataEnd), .ref (ad 22), .int (zI R_rowEnd), .ref (ad 23), .ref (ad 24), .int (zI R_rowMany), .ref (ad 25), .ref (ad 26), .ref (ad 27), .ref (ad 28), .int (zI R_waiting), .int (zI R_mostWaiting), .int (zI R_answer), .int (zI R_steps), .int (zI R_memory), .int (zI R_maxSteps), .int (zI R_maxMemory), .int (zI R_fault), .int (zI R_result), .int (zI R_now), .int (zI R_nowRow), .int (zI R_come), .ref (ad 29), .ref (ad 30), .int (zI R_puts), .ref (ad 31)])), (ad 18, .inl (cI, 5000, .inl (zA R_forms))), (ad 20, .inl (cI, 5000, .inl (zA R_counts)))] 0 0 := by
  refine CT_of_J (cc := b_Mod_sizeOfData) (maxL := 4) (ret := (some .int)) jF0_k (plainFor_of_name (by decide)) rfl (Nat.le_of_ble_eq_true rfl) ?_
  intro K hKl hKD X E
  subst hKl; subst hKD
  unfold f_Mod_sizeOfData at h
  refine J_iconst X d_Mod_sizeOfData_0 ?_
  refine J_istore_n (lv' := [(2, .int (zI 0)), (0, .ref (ad 0)), (1, .int (zI p1))]) X d_Mod_sizeOfData_1 rfl (by decide) rfl ?_
  refine J_iconst X d_Mod_sizeOfData_2 ?_
  refine J_istore_n (lv' := [(3, .int (zI 1)), (2, .int (zI 0)), (0, .ref (ad 0)), (1, .int (zI p1))]) X d_Mod_sizeOfData_3 rfl (by decide) rfl ?_
  refine J_lv (lv' := [(0, .ref (ad 0)), (1, .int (zI p1)), (2, .int (zI 0)), (3, .int (zI 1))]) [2, 3, 1, 0] rfl ?_
  obtain ⟨x2_1, x3_2, q3, h⟩ := wk_b2 h
  refine k_Mod_sizeOfData_L4 X _ _ _ q3 ?_
  refine J_iload_n X d_Mod_sizeOfData_26 rfl 2 rfl ?_
  cases h
  exact J_ret E ⟨_, rfl, rfl⟩ d_Mod_sizeOfData_27 (Nat.le_refl _) (Nat.le_refl _) rfl

theorem d_Mod_depthOfData_0 : decode b_Mod_depthOfData 0 = .ok (.iconst 0, 1) := by decide +kernel
theorem d_Mod_depthOfData_1 : decode b_Mod_depthOfData 1 = .ok (.istore_n 3, 1) := by decide +kernel
theorem d_Mod_depthOfData_2 : decode b_Mod_depthOfData 2 = .ok (.iconst 0, 1) := by decide +kernel
theorem d_Mod_depthOfData_3 : decode b_Mod_depthOfData 3 = .ok (.istore 4, 2) := by decide +kernel
theorem d_Mod_depthOfData_5 : decode b_Mod_depthOfData 5 = .ok (.iconst 0, 1) := by decide +kernel
theorem d_Mod_depthOfData_6 : decode b_Mod_depthOfData 6 = .ok (.istore 5, 2) := by decide +kernel
theorem d_Mod_depthOfData_8 : decode b_Mod_depthOfData 8 = .ok (.iload 5, 2) := by decide +kernel
theorem d_Mod_depthOfData_10 : decode b_Mod_depthOfData 10 = .ok (.iload_n 2, 1) := by decide +kernel
theorem d_Mod_depthOfData_11 : decode b_Mod_depthOfData 11 = .ok (.if_icmp .ge 69, 3) := by decide +kernel
theorem d_Mod_depthOfData_14 : decode b_Mod_depthOfData 14 = .ok (.iload_n 3, 1) := by decide +kernel
theorem d_Mod_depthOfData_15 : decode b_Mod_depthOfData 15 = .ok (.ifCond .le 18, 3) := by decide +kernel
theorem d_Mod_depthOfData_18 : decode b_Mod_depthOfData 18 = .ok (.aload_n 0, 1) := by decide +kernel
theorem d_Mod_depthOfData_19 : decode b_Mod_depthOfData 19 = .ok (.getfield 108, 3) := by decide +kernel
theorem d_Mod_depthOfData_22 : decode b_Mod_depthOfData 22 = .ok (.iload_n 3, 1) := by decide +kernel
theorem d_Mod_depthOfData_23 : decode b_Mod_depthOfData 23 = .ok (.iaload, 1) := by decide +kernel
theorem d_Mod_depthOfData_24 : decode b_Mod_depthOfData 24 = .ok (.ifCond .ne 9, 3) := by decide +kernel
theorem d_Mod_depthOfData_27 : decode b_Mod_depthOfData 27 = .ok (.iinc 3 (-1), 3) := by decide +kernel
theorem d_Mod_depthOfData_30 : decode b_Mod_depthOfData 30 = .ok (.goto (-16), 3) := by decide +kernel
theorem d_Mod_depthOfData_33 : decode b_Mod_depthOfData 33 = .ok (.aload_n 0, 1) := by decide +kernel
theorem d_Mod_depthOfData_34 : decode b_Mod_depthOfData 34 = .ok (.getfield 108, 3) := by decide +kernel
theorem d_Mod_depthOfData_37 : decode b_Mod_depthOfData 37 = .ok (.iload_n 3, 1) := by decide +kernel
theorem d_Mod_depthOfData_38 : decode b_Mod_depthOfData 38 = .ok (.dup2, 1) := by decide +kernel
theorem d_Mod_depthOfData_39 : decode b_Mod_depthOfData 39 = .ok (.iaload, 1) := by decide +kernel
theorem d_Mod_depthOfData_40 : decode b_Mod_depthOfData 40 = .ok (.iconst 1, 1) := by decide +kernel
theorem d_Mod_depthOfData_41 : decode b_Mod_depthOfData 41 = .ok (.isub, 1) := by decide +kernel
theorem d_Mod_depthOfData_42 : decode b_Mod_depthOfData 42 = .ok (.iastore, 1) := by decide +kernel
theorem d_Mod_depthOfData_43 : decode b_Mod_depthOfData 43 = .ok (.iinc 3 1, 3) := by decide +kernel
theorem d_Mod_depthOfData_46 : decode b_Mod_depthOfData 46 = .ok (.aload_n 0, 1) := by decide +kernel
theorem d_Mod_depthOfData_47 : decode b_Mod_depthOfData 47 = .ok (.getfield 108, 3) := by decide +kernel
theorem d_Mod_depthOfData_50 : decode b_Mod_depthOfData 50 = .ok (.iload_n 3, 1) := by decide +kernel
theorem d_Mod_depthOfData_51 : decode b_Mod_depthOfData 51 = .ok (.aload_n 0, 1) := by decide +kernel
theorem d_Mod_depthOfData_52 : decode b_Mod_depthOfData 52 = .ok (.iload_n 1, 1) := by decide +kernel
theorem d_Mod_depthOfData_53 : decode b_Mod_depthOfData 53 = .ok (.iload 5, 2) := by decide +kernel
theorem d_Mod_depthOfData_55 : decode b_Mod_depthOfData 55 = .ok (.iadd, 1) := by decide +kernel
theorem d_Mod_depthOfData_56 : decode b_Mod_depthOfData 56 = .ok (.invokevirtual 158, 3) := by decide +kernel
theorem d_Mod_depthOfData_59 : decode b_Mod_depthOfData 59 = .ok (.iastore, 1) := by decide +kernel
theorem d_Mod_depthOfData_60 : decode b_Mod_depthOfData 60 = .ok (.iload_n 3, 1) := by decide +kernel
theorem d_Mod_depthOfData_61 : decode b_Mod_depthOfData 61 = .ok (.iload 4, 2) := by decide +kernel
theorem d_Mod_depthOfData_63 : decode b_Mod_depthOfData 63 = .ok (.if_icmp .le 7, 3) := by decide +kernel
theorem d_Mod_depthOfData_66 : decode b_Mod_depthOfData 66 = .ok (.iload_n 3, 1) := by decide +kernel
theorem d_Mod_depthOfData_67 : decode b_Mod_depthOfData 67 = .ok (.goto 5, 3) := by decide +kernel
theorem d_Mod_depthOfData_70 : decode b_Mod_depthOfData 70 = .ok (.iload 4, 2) := by decide +kernel
theorem d_Mod_depthOfData_72 : decode b_Mod_depthOfData 72 = .ok (.istore 4, 2) := by decide +kernel
theorem d_Mod_depthOfData_74 : decode b_Mod_depthOfData 74 = .ok (.iinc 5 1, 3) := by decide +kernel
theorem d_Mod_depthOfData_77 : decode b_Mod_depthOfData 77 = .ok (.goto (-69), 3) := by decide +kernel
theorem d_Mod_depthOfData_80 : decode b_Mod_depthOfData 80 = .ok (.iload 4, 2) := by decide +kernel
theorem d_Mod_depthOfData_82 : decode b_Mod_depthOfData 82 = .ok (.ireturn, 1) := by decide +kernel
def f_Mod_depthOfData_L14 (R_comes : Int → Int) (x1 : Int) (x2 : Int) (x4 : Int) (x5 : Int) : Nat → Int → Option (Int)
  | 0, _ => none
  | n + 1, x3 =>
    if rI x3 = true then (if x3 ≤ 0 then (
     some x3) else (
     if jix x3 220 = true then (
      if rI (R_comes x3) = true then (if (R_comes x3) = 0 then (
       f_Mod_depthOfData_L14 R_comes x1 x2 x4 x5 n (x3 + (-1))) else (
       some x3)) else none) else none)) else none
def f_Mod_depthOfData_L8 (N : Nat) (R_forms : Int → Int) (R_counts : Int → Int) (x1 : Int) (x2 : Int) : Nat → Int → Int → Int → (Int → Int) → Option (Int × Int × Int × (Int → Int))
  | 0, _, _, _, _ => none
  | n + 1, x3, x4, x5, R_comes =>
    if jr2 x5 x2 = true then (if x2 ≤ x5 then (
     some (x3, x4, x5, R_comes)) else (
     Option.bind (f_Mod_depthOfData_L14 R_comes x1 x2 x4 x5 N x3) (fun x3_7 =>
      if jix x3_7 220 = true then (
       if jix x3_7 220 = true then (
        Option.bind (f_Mod_within R_forms R_counts (x1 + x5)) (fun r11 =>
         if jix (x3_7 + 1) 220 = true then (
          if jr2 (x3_7 + 1) x4 = true then (if (x3_7 + 1) ≤ x4 then (
           f_Mod_depthOfData_L8 N R_forms R_counts x1 x2 n (x3_7 + 1) x4 (x5 + 1) (upZ (upZ R_comes x3_7 ((R_comes x3_7) - 1)) (x3_7 + 1) r11)) else (
           f_Mod_depthOfData_L8 N R_forms R_counts x1 x2 n (x3_7 + 1) (x3_7 + 1) (x5 + 1) (upZ (upZ R_comes x3_7 ((R_comes x3_7) - 1)) (x3_7 + 1) r11))) else none) else none)) else none) else none))) else none
def f_Mod_depthOfData (N : Nat) (R_forms : Int → Int) (R_counts : Int → Int) (R_comes : Int → Int) (p1 : Int) (p2 : Int) : Option (Int × (Int → Int)) :=
  ob4 (f_Mod_depthOfData_L8 N R_forms R_counts p1 p2 N 0 0 0 R_comes) (fun x3_1 x4_2 x5_3 R_comes_4 =>
   some (x4_2, R_comes_4))
set_option maxHeartbeats 4000000 in
set_option maxRecDepth 100000 in
theorem k_Mod_depthOfData_L14 {K : jK} {cI cL cB : ClassId} {ad : Nat → Nat} {R_comes : Int → Int} {x1 : Int} {x2 : Int} {x4 : Int} {x5 : Int} {R_thrown : Int} {R_used : Int} {R_many : Int} {R_values : Int} {R_textEnd : Int} {R_dataEnd : Int} {R_rowEnd : Int} {R_rowMany : Int} {R_waiting : Int} {R_mostWaiting : Int} {R_answer : Int} {R_steps : Int} {R_memory : Int} {R_maxSteps : Int} {R_maxMemory : Int} {R_fault : Int} {R_result : Int} {R_now : Int} {R_nowRow : Int} {R_come : Int} {R_puts : Int} {R_forms : Int → Int} {R_counts : Int → Int} {out : Int} (X : jX jF0 K 6 b_Mod_depthOfData w_Mod_depthOfData R_Mod [(cI, .int), (cL, .long), (cB, .byte)]) : ∀ (n : Nat) (x3 : Int), f_Mod_depthOfData_L14 R_comes x1 x2 x4 x5 n x3 = some out → J K 6 ({ frames := 1, cells := 0, slots := 0, locals := 21 } : Room) false 0 0 [(ad 0, .inr (10, [.int (zI R_thrown), .ref (ad 1), .ref (ad 2), .ref (ad 3), .ref (ad 4), .ref (ad 5), .ref (ad 6), .int (zI R_used), .ref (ad 7), .int (zI R_many), .ref (ad 8), .ref (ad 9), .ref (ad 10), .ref (ad 11), .ref (ad 12), .ref (ad 13), .ref (ad 14), .ref (ad 15), .ref (ad 16), .int (zI R_values), .ref (ad 17), .int (zI R_textEnd), .ref (ad 18), .ref (ad 19), .ref (ad 20), .ref (ad 21), .int (zI R_dataEnd), .ref (ad 22), .int (zI R_rowEnd), .ref (ad 23), .ref (ad 24), .int (zI R_rowMany), .ref (ad 25), .ref (ad 26), .ref (ad 27), .ref (ad 28), .int (zI R_waiting), .int (zI R_mostWaiting), .int (zI R_answer), .int (zI R_steps), .int (zI R_memory), .int (zI R_maxSteps), .int (zI R_maxMemory), .int (zI R_fault), .int (zI R_result), .int (zI R_now), .int (zI R_nowRow), .int (zI R_come), .ref (ad 29), .ref (ad 30), .int (zI R_puts), .ref (ad 31)])), (ad 18, .inl (cI, 5000, .inl (zA R_forms))), (ad 20, .inl (cI, 5000, .inl (zA R_counts))), (ad 31, .inl (cI, 220, .inl (zA R_comes)))] [(0, .ref (ad 0)), (1, .int (zI x1)), (2, .int (zI x2)), (3, .int (zI out)), (4, .int (zI x4)), (5, .int (zI x5))] [] 33 → J K 6 ({ frames := 1, cells := 0, slots := 0, locals := 21 } : Room) false 0 0 [(ad 0, .inr (10, [.int (zI R_thrown), .ref (ad 1), .ref (ad 2), .ref (ad 3), .ref (ad 4), .ref (ad 5), .ref (ad 6), .int (zI R_used), .ref (ad 7), .int (zI R_many), .ref (ad 8), .ref (ad 9), .ref (ad 10), .ref (ad 11), .ref (ad 12), .ref (ad 13), .ref (ad 14), .ref (ad 15), .ref (ad 16), .int (zI R_values), .ref (ad 17), .int (zI R_textEnd), .ref (ad 18), .ref (ad 19), .ref (ad 20), .ref (ad 21), .int (zI R_dataEnd), .ref (ad 22), .int (zI R_rowEnd), .ref (ad 23), .ref (ad 24), .int (zI R_rowMany), .ref (ad 25), .ref (ad 26), .ref (ad 27), .ref (ad 28), .int (zI R_waiting), .int (zI R_mostWaiting), .int (zI R_answer), .int (zI R_steps), .int (zI R_memory), .int (zI R_maxSteps), .int (zI R_maxMemory), .int (zI R_fault), .int (zI R_result), .int (zI R_now), .int (zI R_nowRow), .int (zI R_come), .ref (ad 29), .ref (ad 30), .int (zI R_puts), .ref (ad 31)])), (ad 18, .inl (cI, 5000, .inl (zA R_forms))), (ad 20, .inl (cI, 5000, .inl (zA R_counts))), (ad 31, .inl (cI, 220, .inl (zA R_comes)))] [(0, .ref (ad 0)), (1, .int (zI x1)), (2, .int (zI x2)), (3, .int (zI x3)), (4, .int (zI x4)), (5, .int (zI x5))] [] 14 := by
  intro n
  induction n with
  | zero =>
    intro x3 h hk
    cases h
  | succ n ih =>
    intro x3 h hk
    unfold f_Mod_depthOfData_L14 at h
    refine J_iload_n X d_Mod_depthOfData_14 rfl 3 rfl ?_
    refine J_if_le (tgt := 33) X d_Mod_depthOfData_15 (by decide) h (fun c15 h => ?_) (fun c15 h => ?_)
    · have h := Option.some.inj h
      subst h
      refine J_lv (lv' := [(0, .ref (ad 0)), (1, .int (zI x1)), (2, .int (zI x2)), (3, .int (zI x3)), (4, .int (zI x4)), (5, .int (zI x5))]) [0, 1, 2, 3, 4, 5] rfl ?_
      exact hk
    · refine J_aload_n X d_Mod_depthOfData_18 rfl 0 rfl ?_
      refine J_get X (j_in in_Mod) 0 rfl rfl 51 (by decide) (j_m own_Mod_depthOfData (by decide +kernel)) rfl d_Mod_depthOfData_19 ?_
      refine J_iload_n X d_Mod_depthOfData_22 rfl 3 rfl ?_
      obtain ⟨g16, h⟩ := wk_g h
      refine J_iald X 3 0 rfl rfl g16 d_Mod_depthOfData_23 ?_
      refine J_if_ne (tgt := 33) X d_Mod_depthOfData_24 (by decide) h (fun c17 h => ?_) (fun c17 h => ?_)
      · have h := Option.some.inj h
        subst h
        refine J_lv (lv' := [(0, .ref (ad 0)), (1, .int (zI x1)), (2, .int (zI x2)), (3, .int (zI x3)), (4, .int (zI x4)), (5, .int (zI x5))]) [0, 1, 2, 3, 4, 5] rfl ?_
        exact hk
      · refine J_iinc (lv' := [(3, .int (zI (x3 + (-1)))), (0, .ref (ad 0)), (1, .int (zI x1)), (2, .int (zI x2)), (4, .int (zI x4)), (5, .int (zI x5))]) X d_Mod_depthOfData_27 3 rfl (by decide) rfl ?_
        refine J_goto (tgt := 14) X d_Mod_depthOfData_30 (by decide) ?_
        refine J_lv (lv' := [(0, .ref (ad 0)), (1, .int (zI x1)), (2, .int (zI x2)), (3, .int (zI (x3 + (-1)))), (4, .int (zI x4)), (5, .int (zI x5))]) [1, 2, 3, 0, 4, 5] rfl ?_
        exact ih _ h hk
set_option maxHeartbeats 4000000 in
set_option maxRecDepth 100000 in
theorem k_Mod_depthOfData_L8 {K : jK} {cI cL cB : ClassId} {ad : Nat → Nat} {N : Nat} {R_forms : Int → Int} {R_counts : Int → Int} {x1 : Int} {x2 : Int} {R_thrown : Int} {R_used : Int} {R_many : Int} {R_values : Int} {R_textEnd : Int} {R_dataEnd : Int} {R_rowEnd : Int} {R_rowMany : Int} {R_waiting : Int} {R_mostWaiting : Int} {R_answer : Int} {R_steps : Int} {R_memory : Int} {R_maxSteps : Int} {R_maxMemory : Int} {R_fault : Int} {R_result : Int} {R_now : Int} {R_nowRow : Int} {R_come : Int} {R_puts : Int} {out : Int × Int × Int × (Int → Int)} (X : jX jF0 K 6 b_Mod_depthOfData w_Mod_depthOfData R_Mod [(cI, .int), (cL, .long), (cB, .byte)]) : ∀ (n : Nat) (x3 : Int) (x4 : Int) (x5 : Int) (R_comes : (Int → Int)), f_Mod_depthOfData_L8 N R_forms R_counts x1 x2 n x3 x4 x5 R_comes = some out → J K 6 ({ frames := 1, cells := 0, slots := 0, locals := 21 } : Room) false 0 0 [(ad 0, .inr (10, [.int (zI R_thrown), .ref (ad 1), .ref (ad 2), .ref (ad 3), .ref (ad 4), .ref (ad 5), .ref (ad 6), .int (zI R_used), .ref (ad 7), .int (zI R_many), .ref (ad 8), .ref (ad 9), .ref (ad 10), .ref (ad 11), .ref (ad 12), .ref (ad 13), .ref (ad 14), .ref (ad 15), .ref (ad 16), .int (zI R_values), .ref (ad 17), .int (zI R_textEnd), .ref (ad 18), .ref (ad 19), .ref (ad 20), .ref (ad 21), .int (zI R_dataEnd), .ref (ad 22), .int (zI R_rowEnd), .ref (ad 23), .ref (ad 24), .int (zI R_rowMany), .ref (ad 25), .ref (ad 26), .ref (ad 27), .ref (ad 28), .int (zI R_waiting), .int (zI R_mostWaiting), .int (zI R_answer), .int (zI R_steps), .int (zI R_memory), .int (zI R_maxSteps), .int (zI R_maxMemory), .int (zI R_fault), .int (zI R_result), .int (zI R_now), .int (zI R_nowRow), .int (zI R_come), .ref (ad 29), .ref (ad 30), .int (zI R_puts), .ref (ad 31)])), (ad 18, .inl (cI, 5000, .inl (zA R_forms))), (ad 20, .inl (cI, 5000, .inl (zA R_counts))), (ad 31, .inl (cI, 220, .inl (zA (out.2.2.2))))] [(0, .ref (ad 0)), (1, .int (zI x1)), (2, .int (zI x2)), (3, .int (zI (out.1))), (4, .int (zI (out.2.1))), (5, .int (zI (out.2.2.1)))] [] 80 → J K 6 ({ frames := 1, cells := 0, slots := 0, locals := 21 } : Room) false 0 0 [(ad 0, .inr (10, [.int (zI R_thrown), .ref (ad 1), .ref (ad 2), .ref (ad 3), .ref (ad 4), .ref (ad 5), .ref (ad 6), .int (zI R_used), .ref (ad 7), .int (zI R_many), .ref (ad 8), .ref (ad 9), .ref (ad 10), .ref (ad 11), .ref (ad 12), .ref (ad 13), .ref (ad 14), .ref (ad 15), .ref (ad 16), .int (zI R_values), .ref (ad 17), .int (zI R_textEnd), .ref (ad 18), .ref (ad 19), .ref (ad 20), .ref (ad 21), .int (zI R_dataEnd), .ref (ad 22), .int (zI R_rowEnd), .ref (ad 23), .ref (ad 24), .int (zI R_rowMany), .ref (ad 25), .ref (ad 26), .ref (ad 27), .ref (ad 28), .int (zI R_waiting), .int (zI R_mostWaiting), .int (zI R_answer), .int (zI R_steps), .int (zI R_memory), .int (zI R_maxSteps), .int (zI R_maxMemory), .int (zI R_fault), .int (zI R_result), .int (zI R_now), .int (zI R_nowRow), .int (zI R_come), .ref (ad 29), .ref (ad 30), .int (zI R_puts), .ref (ad 31)])), (ad 18, .inl (cI, 5000, .inl (zA R_forms))), (ad 20, .inl (cI, 5000, .inl (zA R_counts))), (ad 31, .inl (cI, 220, .inl (zA R_comes)))] [(0, .ref (ad 0)), (1, .int (zI x1)), (2, .int (zI x2)), (3, .int (zI x3)), (4, .int (zI x4)), (5, .int (zI x5))] [] 8 := by
  intro n
  induction n with
  | zero =>
    intro x3 x4 x5 R_comes h hk
    cases h
  | succ n ih =>
    intro x3 x4 x5 R_comes h hk
    unfold f_Mod_depthOfData_L8 at h
    refine J_iload X d_Mod_depthOfData_8 5 rfl ?_
    refine J_iload_n X d_Mod_depthOfData_10 rfl 2 rfl ?_
    refine J_icmp_ge (tgt := 80) X d_Mod_depthOfData_11 (by decide) h (fun c6 h => ?_) (fun c6 h => ?_)
    · cases h
      refine J_lv (lv' := [(0, .ref (ad 0)), (1, .int (zI x1)), (2, .int (zI x2)), (3, .int (zI x3)), (4, .int (zI x4)), (5, .int (zI x5))]) [0, 1, 2, 3, 4, 5] rfl ?_
      exact hk
    · refine J_lv (lv' := [(0, .ref (ad 0)), (1, .int (zI x1)), (2, .int (zI x2)), (3, .int (zI x3)), (4, .int (zI x4)), (5, .int (zI x5))]) [0, 1, 2, 3, 4, 5] rfl ?_
      obtain ⟨x3_7, q8, h⟩ := wk_b h
      refine k_Mod_depthOfData_L14 X _ _ q8 ?_
      refine J_aload_n X d_Mod_depthOfData_33 rfl 0 rfl ?_
      refine J_get X (j_in in_Mod) 0 rfl rfl 51 (by decide) (j_m own_Mod_depthOfData (by decide +kernel)) rfl d_Mod_depthOfData_34 ?_
      refine J_iload_n X d_Mod_depthOfData_37 rfl 3 rfl ?_
      refine J_dup2 X d_Mod_depthOfData_38 rfl rfl ?_
      obtain ⟨g9, h⟩ := wk_g h
      refine J_iald X 3 0 rfl rfl g9 d_Mod_depthOfData_39 ?_
      refine J_iconst X d_Mod_depthOfData_40 ?_
      refine J_isub X d_Mod_depthOfData_41 ?_
      obtain ⟨g10, h⟩ := wk_g h
      refine J_iast (ws' := [(ad 0, .inr (10, [.int (zI R_thrown), .ref (ad 1), .ref (ad 2), .ref (ad 3), .ref (ad 4), .ref (ad 5), .ref (ad 6), .int (zI R_used), .ref (ad 7), .int (zI R_many), .ref (ad 8), .ref (ad 9), .ref (ad 10), .ref (ad 11), .ref (ad 12), .ref (ad 13), .ref (ad 14), .ref (ad 15), .ref (ad 16), .int (zI R_values), .ref (ad 17), .int (zI R_textEnd), .ref (ad 18), .ref (ad 19), .ref (ad 20), .ref (ad 21), .int (zI R_dataEnd), .ref (ad 22), .int (zI R_rowEnd), .ref (ad 23), .ref (ad 24), .int (zI R_rowMany), .ref (ad 25), .ref (ad 26), .ref (ad 27), .ref (ad 28), .int (zI R_waiting), .int (zI R_mostWaiting), .int (zI R_answer), .int (zI R_steps), .int (zI R_memory), .int (zI R_maxSteps), .int (zI R_maxMemory), .int (zI R_fault), .int (zI R_result), .int (zI R_now), .int (zI R_nowRow), .int (zI R_come), .ref (ad 29), .ref (ad 30), .int (zI R_puts), .ref (ad 31)])), (ad 18, .inl (cI, 5000, .inl (zA R_forms))), (ad 20, .inl (cI, 5000, .inl (zA R_counts))), (ad 31, .inl (cI, 220, .inl (zA (upZ R_comes x3_7 ((R_comes x3_7) - 1)))))]) X 3 0 rfl rfl g10 d_Mod_depthOfData_42 rfl ?_
      refine J_iinc (lv' := [(3, .int (zI (x3_7 + 1))), (0, .ref (ad 0)), (1, .int (zI x1)), (2, .int (zI x2)), (4, .int (zI x4)), (5, .int (zI x5))]) X d_Mod_depthOfData_43 3 rfl (by decide) rfl ?_
      refine J_aload_n X d_Mod_depthOfData_46 rfl 1 rfl ?_
      refine J_get X (j_in in_Mod) 0 rfl rfl 51 (by decide) (j_m own_Mod_depthOfData (by decide +kernel)) rfl d_Mod_depthOfData_47 ?_
      refine J_iload_n X d_Mod_depthOfData_50 rfl 0 rfl ?_
      refine J_aload_n X d_Mod_depthOfData_51 rfl 1 rfl ?_
      refine J_iload_n X d_Mod_depthOfData_52 rfl 2 rfl ?_
      refine J_iload X d_Mod_depthOfData_53 5 rfl ?_
      refine J_iadd X d_Mod_depthOfData_55 ?_
      obtain ⟨r11, q12, h⟩ := wk_b h
      refine J_afterP (jrunV X (c_Mod_within (ad := ad) q12) jF0_k (fun _ _ _ _ => trivial) (jgV own_Mod_depthOfData (by decide +kernel)) rfl rfl rfl pd_Mod_within (by decide) [0, 1, 2] rfl (by decide) 0 10 rfl rfl rfl rfl (Nat.le_of_ble_eq_true rfl) d_Mod_depthOfData_56 (by decide)) ?_
      obtain ⟨g13, h⟩ := wk_g h
      refine J_iast (ws' := [(ad 0, .inr (10, [.int (zI R_thrown), .ref (ad 1), .ref (ad 2), .ref (ad 3), .ref (ad 4), .ref (ad 5), .ref (ad 6), .int (zI R_used), .ref (ad 7), .int (zI R_many), .ref (ad 8), .ref (ad 9), .ref (ad 10), .ref (ad 11), .ref (ad 12), .ref (ad 13), .ref (ad 14), .ref (ad 15), .ref (ad 16), .int (zI R_values), .ref (ad 17), .int (zI R_textEnd), .ref (ad 18), .ref (ad 19), .ref (ad 20), .ref (ad 21), .int (zI R_dataEnd), .ref (ad 22), .int (zI R_rowEnd), .ref (ad 23), .ref (ad 24), .int (zI R_rowMany), .ref (ad 25), .ref (ad 26), .ref (ad 27), .ref (ad 28), .int (zI R_waiting), .int (zI R_mostWaiting), .int (zI R_answer), .int (zI R_steps), .int (zI R_memory), .int (zI R_maxSteps), .int (zI R_maxMemory), .int (zI R_fault), .int (zI R_result), .int (zI R_now), .int (zI R_nowRow), .int (zI R_come), .ref (ad 29), .ref (ad 30), .int (zI R_puts), .ref (ad 31)])), (ad 18, .inl (cI, 5000, .inl (zA R_forms))), (ad 20, .inl (cI, 5000, .inl (zA R_counts))), (ad 31, .inl (cI, 220, .inl (zA (upZ (upZ R_comes x3_7 ((R_comes x3_7) - 1)) (x3_7 + 1) r11))))]) X 3 0 rfl rfl g13 d_Mod_depthOfData_59 rfl ?_
      refine J_iload_n X d_Mod_depthOfData_60 rfl 0 rfl ?_
      refine J_iload X d_Mod_depthOfData_61 4 rfl ?_
      refine J_icmp_le (tgt := 70) X d_Mod_depthOfData_63 (by decide) h (fun c14 h => ?_) (fun c14 h => ?_)
      · refine J_iload X d_Mod_depthOfData_70 4 rfl ?_
        refine J_istore (lv' := [(4, .int (zI x4)), (3, .int (zI (x3_7 + 1))), (0, .ref (ad 0)), (1, .int (zI x1)), (2, .int (zI x2)), (5, .int (zI x5))]) X d_Mod_depthOfData_72 (by decide) rfl ?_
        refine J_iinc (lv' := [(5, .int (zI (x5 + 1))), (4, .int (zI x4)), (3, .int (zI (x3_7 + 1))), (0, .ref (ad 0)), (1, .int (zI x1)), (2, .int (zI x2))]) X d_Mod_depthOfData_74 5 rfl (by decide) rfl ?_
        refine J_goto (tgt := 8) X d_Mod_depthOfData_77 (by decide) ?_
        refine J_lv (lv' := [(0, .ref (ad 0)), (1, .int (zI x1)), (2, .int (zI x2)), (3, .int (zI (x3_7 + 1))), (4, .int (zI x4)), (5, .int (zI (x5 + 1)))]) [3, 4, 5, 2, 1, 0] rfl ?_
        exact ih _ _ _ _ h hk
      · refine J_iload_n X d_Mod_depthOfData_66 rfl 0 rfl ?_
        refine J_goto (tgt := 72) X d_Mod_depthOfData_67 (by decide) ?_
        refine J_istore (lv' := [(4, .int (zI (x3_7 + 1))), (3, .int (zI (x3_7 + 1))), (0, .ref (ad 0)), (1, .int (zI x1)), (2, .int (zI x2)), (5, .int (zI x5))]) X d_Mod_depthOfData_72 (by decide) rfl ?_
        refine J_iinc (lv' := [(5, .int (zI (x5 + 1))), (4, .int (zI (x3_7 + 1))), (3, .int (zI (x3_7 + 1))), (0, .ref (ad 0)), (1, .int (zI x1)), (2, .int (zI x2))]) X d_Mod_depthOfData_74 5 rfl (by decide) rfl ?_
        refine J_goto (tgt := 8) X d_Mod_depthOfData_77 (by decide) ?_
        refine J_lv (lv' := [(0, .ref (ad 0)), (1, .int (zI x1)), (2, .int (zI x2)), (3, .int (zI (x3_7 + 1))), (4, .int (zI (x3_7 + 1))), (5, .int (zI (x5 + 1)))]) [3, 4, 5, 2, 1, 0] rfl ?_
        exact ih _ _ _ _ h hk
set_option maxHeartbeats 4000000 in
set_option maxRecDepth 100000 in
theorem c_Mod_depthOfData {l : Launch} {D : va_G} {cI cL cB : ClassId} {ad : Nat → Nat} {N : Nat} {R_thrown : Int} {R_used : Int} {R_many : Int} {R_values : Int} {R_textEnd : Int} {R_dataEnd : Int} {R_rowEnd : Int} {R_rowMany : Int} {R_waiting : Int} {R_mostWaiting : Int} {R_answer : Int} {R_steps : Int} {R_memory : Int} {R_maxSteps : Int} {R_maxMemory : Int} {R_fault : Int} {R_result : Int} {R_now : Int} {R_nowRow : Int} {R_come : Int} {R_puts : Int} {R_forms : Int → Int} {R_counts : Int → Int} {R_comes : Int → Int} {p1 : Int} {p2 : Int} {out : Int × (Int → Int)} (h : f_Mod_depthOfData N R_forms R_counts R_comes p1 p2 = some out) : CT jF0 false l D [(cI, .int), (cL, .long), (cB, .byte)] y_Mod_depthOfData w_Mod_depthOfData ({ frames := 1, cells := 0, slots := 0, locals := 21 } : Room) [.ref (ad 0), .int (zI p1), .int (zI p2)] [(ad 0, .inr (10, [.int (zI R_thrown), .ref (ad 1), .ref (ad 2), .ref (ad 3), .ref (ad 4), .ref (ad 5), .ref (ad 6), .int (zI R_used), .ref (ad 7), .int (zI R_many), .ref (ad 8), .ref (ad 9), .ref (ad 10), .ref (ad 11), .ref (ad 12), .ref (ad 13), .ref (ad 14), .ref (ad 15), .ref (ad 16), .int (zI R_values), .ref (ad 17), .int (zI R_textEnd), .ref (ad 18), .ref (ad 19), .ref (ad 20), .ref (ad 21), .int (zI R_dataEnd), .ref (ad 22), .int (zI R_rowEnd), .ref (ad 23), .ref (ad 24), .int (zI R_rowMany), .ref (ad 25), .ref (ad 26), .ref (ad 27), .ref (ad 28), .int (zI R_waiting), .int (zI R_mostWaiting), .int (zI R_answer), .int (zI R_steps), .int (zI R_memory), .int (zI R_maxSteps), .int (zI R_maxMemory), .int (zI R_fault), .int (zI R_result), .int (zI R_now), .int (zI R_nowRow), .int (zI R_come), .ref (ad 29), .ref (ad 30), .int (zI R_puts), .ref (ad 31)])), (ad 18, .inl (cI, 5000, .inl (zA R_forms))), (ad 20, .inl (cI, 5000, .inl (zA R_counts))), (ad 31, .inl (cI, 220, .inl (zA R_comes)))] (some (.int (zI out.1))) [(ad 0, .inr (10, [.int (zI R_thrown), .ref (ad 1), .ref (ad 2), .ref (ad 3), .ref (ad 4), .ref (ad 5), .ref (ad 6), .int (zI R_used), .ref (ad 7), .int (zI R_many), .ref (ad 8), .ref (ad 9), .ref (ad 10), .ref (ad 11), .ref (ad 12), .ref (ad 13), .ref (ad 14), .ref (ad 15), .ref (ad 16), .int (zI R_values), .ref (ad 17), .int (zI R_textEnd), .ref (ad 18), .ref (ad 19), .ref (ad 20), .ref (ad 21), .int (zI R_dataEnd), .ref (ad 22), .int (zI R_rowEnd), .ref (ad 23), .ref (ad 24), .int (zI R_rowMany), .ref (ad 25), .ref (ad 26), .ref (ad 27), .ref (ad 28), .int (zI R_waiting), .int (zI R_mostWaiting), .int (zI R_answer), .int (zI R_steps), .int (zI R_memory), .int (zI R_maxSteps), .int (zI R_maxMemory), .int (zI R_fault), .int (zI R_result), .int (zI R_now), .int (zI R_nowRow), .int (zI R_come), .ref (ad 29), .ref (ad 30), .int (zI R_puts), .ref (ad 31)])), (ad 18, .inl (cI, 5000, .inl (zA R_forms))), (ad 20, .inl (cI, 5000, .inl (zA R_counts))), (ad 31, .inl (cI, 220, .inl (zA (out.2))))] 0 0 := by
  refine CT_of_J (cc := b_Mod_depthOfData) (maxL := 6) (ret := (some .int)) jF0_k (plainFor_of_name (by decide)) rfl (Nat.le_of_ble_eq_true rfl) ?_
  intro K hKl hKD X E
  subst hKl; subst hKD
  unfold f_Mod_depthOfData at h
  refine J_iconst X d_Mod_depthOfData_0 ?_
  refine J_istore_n (lv' := [(3, .int (zI 0)), (0, .ref (ad 0)), (1, .int (zI p1)), (2, .int (zI p2))]) X d_Mod_depthOfData_1 rfl (by decide) rfl ?_
  refine J_iconst X d_Mod_depthOfData_2 ?_
  refine J_istore (lv' := [(4, .int (zI 0)), (3, .int (zI 0)), (0, .ref (ad 0)), (1, .int (zI p1)), (2, .int (zI p2))]) X d_Mod_depthOfData_3 (by decide) rfl ?_
  refine J_iconst X d_Mod_depthOfData_5 ?_
  refine J_istore (lv' := [(5, .int (zI 0)), (4, .int (zI 0)), (3, .int (zI 0)), (0, .ref (ad 0)), (1, .int (zI p1)), (2, .int (zI p2))]) X d_Mod_depthOfData_6 (by decide) rfl ?_
  refine J_lv (lv' := [(0, .ref (ad 0)), (1, .int (zI p1)), (2, .int (zI p2)), (3, .int (zI 0)), (4, .int (zI 0)), (5, .int (zI 0))]) [3, 4, 5, 2, 1, 0] rfl ?_
  obtain ⟨x3_1, x4_2, x5_3, R_comes_4, q5, h⟩ := wk_b4 h
  refine k_Mod_depthOfData_L8 X _ _ _ _ _ q5 ?_
  refine J_iload X d_Mod_depthOfData_80 4 rfl ?_
  cases h
  exact J_ret E ⟨_, rfl, rfl⟩ d_Mod_depthOfData_82 (Nat.le_refl _) (Nat.le_refl _) rfl

theorem d_Mod_bytesOfData_0 : decode b_Mod_bytesOfData 0 = .ok (.iconst 0, 1) := by decide +kernel
theorem d_Mod_bytesOfData_1 : decode b_Mod_bytesOfData 1 = .ok (.istore_n 3, 1) := by decide +kernel
theorem d_Mod_bytesOfData_2 : decode b_Mod_bytesOfData 2 = .ok (.iconst 0, 1) := by decide +kernel
theorem d_Mod_bytesOfData_3 : decode b_Mod_bytesOfData 3 = .ok (.istore 4, 2) := by decide +kernel
theorem d_Mod_bytesOfData_5 : decode b_Mod_bytesOfData 5 = .ok (.iload 4, 2) := by decide +kernel
theorem d_Mod_bytesOfData_7 : decode b_Mod_bytesOfData 7 = .ok (.iload_n 2, 1) := by decide +kernel
theorem d_Mod_bytesOfData_8 : decode b_Mod_bytesOfData 8 = .ok (.if_icmp .ge 38, 3) := by decide +kernel
theorem d_Mod_bytesOfData_11 : decode b_Mod_bytesOfData 11 = .ok (.iload_n 3, 1) := by decide +kernel
theorem d_Mod_bytesOfData_12 : decode b_Mod_bytesOfData 12 = .ok (.aload_n 0, 1) := by decide +kernel
theorem d_Mod_bytesOfData_13 : decode b_Mod_bytesOfData 13 = .ok (.getfield 64, 3) := by decide +kernel
theorem d_Mod_bytesOfData_16 : decode b_Mod_bytesOfData 16 = .ok (.iload_n 1, 1) := by decide +kernel
theorem d_Mod_bytesOfData_17 : decode b_Mod_bytesOfData 17 = .ok (.iload 4, 2) := by decide +kernel
theorem d_Mod_bytesOfData_19 : decode b_Mod_bytesOfData 19 = .ok (.iadd, 1) := by decide +kernel
theorem d_Mod_bytesOfData_20 : decode b_Mod_bytesOfData 20 = .ok (.iaload, 1) := by decide +kernel
theorem d_Mod_bytesOfData_21 : decode b_Mod_bytesOfData 21 = .ok (.iconst 4, 1) := by decide +kernel
theorem d_Mod_bytesOfData_22 : decode b_Mod_bytesOfData 22 = .ok (.if_icmp .ne 15, 3) := by decide +kernel
theorem d_Mod_bytesOfData_25 : decode b_Mod_bytesOfData 25 = .ok (.aload_n 0, 1) := by decide +kernel
theorem d_Mod_bytesOfData_26 : decode b_Mod_bytesOfData 26 = .ok (.getfield 70, 3) := by decide +kernel
theorem d_Mod_bytesOfData_29 : decode b_Mod_bytesOfData 29 = .ok (.iload_n 1, 1) := by decide +kernel
theorem d_Mod_bytesOfData_30 : decode b_Mod_bytesOfData 30 = .ok (.iload 4, 2) := by decide +kernel
theorem d_Mod_bytesOfData_32 : decode b_Mod_bytesOfData 32 = .ok (.iadd, 1) := by decide +kernel
theorem d_Mod_bytesOfData_33 : decode b_Mod_bytesOfData 33 = .ok (.iaload, 1) := by decide +kernel
theorem d_Mod_bytesOfData_34 : decode b_Mod_bytesOfData 34 = .ok (.goto 4, 3) := by decide +kernel
theorem d_Mod_bytesOfData_37 : decode b_Mod_bytesOfData 37 = .ok (.iconst 0, 1) := by decide +kernel
theorem d_Mod_bytesOfData_38 : decode b_Mod_bytesOfData 38 = .ok (.iadd, 1) := by decide +kernel
theorem d_Mod_bytesOfData_39 : decode b_Mod_bytesOfData 39 = .ok (.istore_n 3, 1) := by decide +kernel
theorem d_Mod_bytesOfData_40 : decode b_Mod_bytesOfData 40 = .ok (.iinc 4 1, 3) := by decide +kernel
theorem d_Mod_bytesOfData_43 : decode b_Mod_bytesOfData 43 = .ok (.goto (-38), 3) := by decide +kernel
theorem d_Mod_bytesOfData_46 : decode b_Mod_bytesOfData 46 = .ok (.iload_n 3, 1) := by decide +kernel
theorem d_Mod_bytesOfData_47 : decode b_Mod_bytesOfData 47 = .ok (.ireturn, 1) := by decide +kernel
def f_Mod_bytesOfData_L5 (R_forms : Int → Int) (R_counts : Int → Int) (x1 : Int) (x2 : Int) : Nat → Int → Int → Option (Int × Int)
  | 0, _, _ => none
  | n + 1, x3, x4 =>
    if jr2 x4 x2 = true then (if x2 ≤ x4 then (
     some (x3, x4)) else (
     if jix (x1 + x4) 5000 = true then (
      if jr2 (R_forms (x1 + x4)) 4 = true then (if (R_forms (x1 + x4)) = 4 then (
       if jix (x1 + x4) 5000 = true then (
        f_Mod_bytesOfData_L5 R_forms R_counts x1 x2 n (x3 + (R_counts (x1 + x4))) (x4 + 1)) else none) else (
       f_Mod_bytesOfData_L5 R_forms R_counts x1 x2 n (x3 + 0) (x4 + 1))) else none) else none)) else none
def f_Mod_bytesOfData (N : Nat) (R_forms : Int → Int) (R_counts : Int → Int) (p1 : Int) (p2 : Int) : Option (Int) :=
  ob2 (f_Mod_bytesOfData_L5 R_forms R_counts p1 p2 N 0 0) (fun x3_1 x4_2 =>
   some x3_1)
set_option maxHeartbeats 4000000 in
set_option maxRecDepth 100000 in
theorem k_Mod_bytesOfData_L5 {K : jK} {cI cL cB : ClassId} {ad : Nat → Nat} {R_forms : Int → Int} {R_counts : Int → Int} {x1 : Int} {x2 : Int} {R_thrown : Int} {R_used : Int} {R_many : Int} {R_values : Int} {R_textEnd : Int} {R_dataEnd : Int} {R_rowEnd : Int} {R_rowMany : Int} {R_waiting : Int} {R_mostWaiting : Int} {R_answer : Int} {R_steps : Int} {R_memory : Int} {R_maxSteps : Int} {R_maxMemory : Int} {R_fault : Int} {R_result : Int} {R_now : Int} {R_nowRow : Int} {R_come : Int} {R_puts : Int} {out : Int × Int} (X : jX jF0 K 5 b_Mod_bytesOfData w_Mod_bytesOfData R_Mod [(cI, .int), (cL, .long), (cB, .byte)]) : ∀ (n : Nat) (x3 : Int) (x4 : Int), f_Mod_bytesOfData_L5 R_forms R_counts x1 x2 n x3 x4 = some out → J K 5 ({ frames := 0, cells := 0, slots := 0, locals := 0 } : Room) true 0 0 [(ad 0, .inr (10, [.int (zI R_thrown), .ref (ad 1), .ref (ad 2), .ref (ad 3), .ref (ad 4), .ref (ad 5), .ref (ad 6), .int (zI R_used), .ref (ad 7), .int (zI R_many), .ref (ad 8), .ref (ad 9), .ref (ad 10), .ref (ad 11), .ref (ad 12), .ref (ad 13), .ref (ad 14), .ref (ad 15), .ref (ad 16), .int (zI R_values), .ref (ad 17), .int (zI R_textEnd), .ref (ad 18), .ref (ad 19), .ref (ad 20), .ref (ad 21), .int (zI R_dataEnd), .ref (ad 22), .int (zI R_rowEnd), .ref (ad 23), .ref (ad 24), .int (zI R_rowMany), .ref (ad 25), .ref (ad 26), .ref (ad 27), .ref (ad 28), .int (zI R_waiting), .int (zI R_mostWaiting), .int (zI R_answer), .int (zI R_steps), .int (zI R_memory), .int (zI R_maxSteps), .int (zI R_maxMemory), .int (zI R_fault), .int (zI R_result), .int (zI R_now), .int (zI R_nowRow), .int (zI R_come), .ref (ad 29), .ref (ad 30), .int (zI R_puts), .ref (ad 31)])), (ad 18, .inl (cI, 5000, .inl (zA R_forms))), (ad 20, .inl (cI, 5000, .inl (zA R_counts)))] [(0, .ref (ad 0)), (1, .int (zI x1)), (2, .int (zI x2)), (3, .int (zI (out.1))), (4, .int (zI (out.2)))] [] 46 → J K 5 ({ frames := 0, cells := 0, slots := 0, locals := 0 } : Room) true 0 0 [(ad 0, .inr (10, [.int (zI R_thrown), .ref (ad 1), .ref (ad 2), .ref (ad 3), .ref (ad 4), .ref (ad 5), .ref (ad 6), .int (zI R_used), .ref (ad 7), .int (zI R_many), .ref (ad 8), .ref (ad 9), .ref (ad 10), .ref (ad 11), .ref (ad 12), .ref (ad 13), .ref (ad 14), .ref (ad 15), .ref (ad 16), .int (zI R_values), .ref (ad 17), .int (zI R_textEnd), .ref (ad 18), .ref (ad 19), .ref (ad 20), .ref (ad 21), .int (zI R_dataEnd), .ref (ad 22), .int (zI R_rowEnd), .ref (ad 23), .ref (ad 24), .int (zI R_rowMany), .ref (ad 25), .ref (ad 26), .ref (ad 27), .ref (ad 28), .int (zI R_waiting), .int (zI R_mostWaiting), .int (zI R_answer), .int (zI R_steps), .int (zI R_memory), .int (zI R_maxSteps), .int (zI R_maxMemory), .int (zI R_fault), .int (zI R_result), .int (zI R_now), .int (zI R_nowRow), .int (zI R_come), .ref (ad 29), .ref (ad 30), .int (zI R_puts), .ref (ad 31)])), (ad 18, .inl (cI, 5000, .inl (zA R_forms))), (ad 20, .inl (cI, 5000, .inl (zA R_counts)))] [(0, .ref (ad 0)), (1, .int (zI x1)), (2, .int (zI x2)), (3, .int (zI x3)), (4, .int (zI x4))] [] 5 := by
  intro n
  induction n with
  | zero =>
    intro x3 x4 h hk
    cases h
  | succ n ih =>
    intro x3 x4 h hk
    unfold f_Mod_bytesOfData_L5 at h
    refine J_iload X d_Mod_bytesOfData_5 4 rfl ?_
    refine J_iload_n X d_Mod_bytesOfData_7 rfl 2 rfl ?_
    refine J_icmp_ge (tgt := 46) X d_Mod_bytesOfData_8 (by decide) h (fun c4 h => ?_) (fun c4 h => ?_)
    · cases h
      refine J_lv (lv' := [(0, .ref (ad 0)), (1, .int (zI x1)), (2, .int (zI x2)), (3, .int (zI x3)), (4, .int (zI x4))]) [0, 1, 2, 3, 4] rfl ?_
      exact hk
    · refine J_iload_n X d_Mod_bytesOfData_11 rfl 3 rfl ?_
      refine J_aload_n X d_Mod_bytesOfData_12 rfl 0 rfl ?_
      refine J_get X (j_in in_Mod) 0 rfl rfl 22 (by decide) (j_m own_Mod_bytesOfData (by decide +kernel)) rfl d_Mod_bytesOfData_13 ?_
      refine J_iload_n X d_Mod_bytesOfData_16 rfl 1 rfl ?_
      refine J_iload X d_Mod_bytesOfData_17 4 rfl ?_
      refine J_iadd X d_Mod_bytesOfData_19 ?_
      obtain ⟨g5, h⟩ := wk_g h
      refine J_iald X 1 0 rfl rfl g5 d_Mod_bytesOfData_20 ?_
      refine J_iconst X d_Mod_bytesOfData_21 ?_
      refine J_icmp_ne (tgt := 37) X d_Mod_bytesOfData_22 (by decide) h (fun c6 h => ?_) (fun c6 h => ?_)
      · refine J_iconst X d_Mod_bytesOfData_37 ?_
        refine J_iadd X d_Mod_bytesOfData_38 ?_
        refine J_istore_n (lv' := [(3, .int (zI (x3 + 0))), (0, .ref (ad 0)), (1, .int (zI x1)), (2, .int (zI x2)), (4, .int (zI x4))]) X d_Mod_bytesOfData_39 rfl (by decide) rfl ?_
        refine J_iinc (lv' := [(4, .int (zI (x4 + 1))), (3, .int (zI (x3 + 0))), (0, .ref (ad 0)), (1, .int (zI x1)), (2, .int (zI x2))]) X d_Mod_bytesOfData_40 4 rfl (by decide) rfl ?_
        refine J_goto (tgt := 5) X d_Mod_bytesOfData_43 (by decide) ?_
        refine J_lv (lv' := [(0, .ref (ad 0)), (1, .int (zI x1)), (2, .int (zI x2)), (3, .int (zI (x3 + 0))), (4, .int (zI (x4 + 1)))]) [2, 3, 4, 1, 0] rfl ?_
        exact ih _ _ h hk
      · refine J_aload_n X d_Mod_bytesOfData_25 rfl 0 rfl ?_
        refine J_get X (j_in in_Mod) 0 rfl rfl 24 (by decide) (j_m own_Mod_bytesOfData (by decide +kernel)) rfl d_Mod_bytesOfData_26 ?_
        refine J_iload_n X d_Mod_bytesOfData_29 rfl 1 rfl ?_
        refine J_iload X d_Mod_bytesOfData_30 4 rfl ?_
        refine J_iadd X d_Mod_bytesOfData_32 ?_
        obtain ⟨g7, h⟩ := wk_g h
        refine J_iald X 2 0 rfl rfl g7 d_Mod_bytesOfData_33 ?_
        refine J_goto (tgt := 38) X d_Mod_bytesOfData_34 (by decide) ?_
        refine J_iadd X d_Mod_bytesOfData_38 ?_
        refine J_istore_n (lv' := [(3, .int (zI (x3 + (R_counts (x1 + x4))))), (0, .ref (ad 0)), (1, .int (zI x1)), (2, .int (zI x2)), (4, .int (zI x4))]) X d_Mod_bytesOfData_39 rfl (by decide) rfl ?_
        refine J_iinc (lv' := [(4, .int (zI (x4 + 1))), (3, .int (zI (x3 + (R_counts (x1 + x4))))), (0, .ref (ad 0)), (1, .int (zI x1)), (2, .int (zI x2))]) X d_Mod_bytesOfData_40 4 rfl (by decide) rfl ?_
        refine J_goto (tgt := 5) X d_Mod_bytesOfData_43 (by decide) ?_
        refine J_lv (lv' := [(0, .ref (ad 0)), (1, .int (zI x1)), (2, .int (zI x2)), (3, .int (zI (x3 + (R_counts (x1 + x4))))), (4, .int (zI (x4 + 1)))]) [2, 3, 4, 1, 0] rfl ?_
        exact ih _ _ h hk
set_option maxHeartbeats 4000000 in
set_option maxRecDepth 100000 in
theorem c_Mod_bytesOfData {l : Launch} {D : va_G} {cI cL cB : ClassId} {ad : Nat → Nat} {N : Nat} {R_thrown : Int} {R_used : Int} {R_many : Int} {R_values : Int} {R_textEnd : Int} {R_dataEnd : Int} {R_rowEnd : Int} {R_rowMany : Int} {R_waiting : Int} {R_mostWaiting : Int} {R_answer : Int} {R_steps : Int} {R_memory : Int} {R_maxSteps : Int} {R_maxMemory : Int} {R_fault : Int} {R_result : Int} {R_now : Int} {R_nowRow : Int} {R_come : Int} {R_puts : Int} {R_forms : Int → Int} {R_counts : Int → Int} {p1 : Int} {p2 : Int} {out : Int} (h : f_Mod_bytesOfData N R_forms R_counts p1 p2 = some out) : CT jF0 true l D [(cI, .int), (cL, .long), (cB, .byte)] y_Mod_bytesOfData w_Mod_bytesOfData ({ frames := 0, cells := 0, slots := 0, locals := 0 } : Room) [.ref (ad 0), .int (zI p1), .int (zI p2)] [(ad 0, .inr (10, [.int (zI R_thrown), .ref (ad 1), .ref (ad 2), .ref (ad 3), .ref (ad 4), .ref (ad 5), .ref (ad 6), .int (zI R_used), .ref (ad 7), .int (zI R_many), .ref (ad 8), .ref (ad 9), .ref (ad 10), .ref (ad 11), .ref (ad 12), .ref (ad 13), .ref (ad 14), .ref (ad 15), .ref (ad 16), .int (zI R_values), .ref (ad 17), .int (zI R_textEnd), .ref (ad 18), .ref (ad 19), .ref (ad 20), .ref (ad 21), .int (zI R_dataEnd), .ref (ad 22), .int (zI R_rowEnd), .ref (ad 23), .ref (ad 24), .int (zI R_rowMany), .ref (ad 25), .ref (ad 26), .ref (ad 27), .ref (ad 28), .int (zI R_waiting), .int (zI R_mostWaiting), .int (zI R_answer), .int (zI R_steps), .int (zI R_memory), .int (zI R_maxSteps), .int (zI R_maxMemory), .int (zI R_fault), .int (zI R_result), .int (zI R_now), .int (zI R_nowRow), .int (zI R_come), .ref (ad 29), .ref (ad 30), .int (zI R_puts), .ref (ad 31)])), (ad 18, .inl (cI, 5000, .inl (zA R_forms))), (ad 20, .inl (cI, 5000, .inl (zA R_counts)))] (some (.int (zI out))) [(ad 0, .inr (10, [.int (zI R_thrown), .ref (ad 1), .ref (ad 2), .ref (ad 3), .ref (ad 4), .ref (ad 5), .ref (ad 6), .int (zI R_used), .ref (ad 7), .int (zI R_many), .ref (ad 8), .ref (ad 9), .ref (ad 10), .ref (ad 11), .ref (ad 12), .ref (ad 13), .ref (ad 14), .ref (ad 15), .ref (ad 16), .int (zI R_values), .ref (ad 17), .int (zI R_textEnd), .ref (ad 18), .ref (ad 19), .ref (ad 20), .ref (ad 21), .int (zI R_dataEnd), .ref (ad 22), .int (zI R_rowEnd), .ref (ad 23), .ref (ad 24), .int (zI R_rowMany), .ref (ad 25), .ref (ad 26), .ref (ad 27), .ref (ad 28), .int (zI R_waiting), .int (zI R_mostWaiting), .int (zI R_answer), .int (zI R_steps), .int (zI R_memory), .int (zI R_maxSteps), .int (zI R_maxMemory), .int (zI R_fault), .int (zI R_result), .int (zI R_now), .int (zI R_nowRow), .int (zI R_come), .ref (ad 29), .ref (ad 30), .int (zI R_puts), .ref (ad 31)])), (ad 18, .inl (cI, 5000, .inl (zA R_forms))), (ad 20, .inl (cI, 5000, .inl (zA R_counts)))] 0 0 := by
  refine CT_of_J (cc := b_Mod_bytesOfData) (maxL := 5) (ret := (some .int)) jF0_k (plainFor_of_name (by decide)) rfl (Nat.le_of_ble_eq_true rfl) ?_
  intro K hKl hKD X E
  subst hKl; subst hKD
  unfold f_Mod_bytesOfData at h
  refine J_iconst X d_Mod_bytesOfData_0 ?_
  refine J_istore_n (lv' := [(3, .int (zI 0)), (0, .ref (ad 0)), (1, .int (zI p1)), (2, .int (zI p2))]) X d_Mod_bytesOfData_1 rfl (by decide) rfl ?_
  refine J_iconst X d_Mod_bytesOfData_2 ?_
  refine J_istore (lv' := [(4, .int (zI 0)), (3, .int (zI 0)), (0, .ref (ad 0)), (1, .int (zI p1)), (2, .int (zI p2))]) X d_Mod_bytesOfData_3 (by decide) rfl ?_
  refine J_lv (lv' := [(0, .ref (ad 0)), (1, .int (zI p1)), (2, .int (zI p2)), (3, .int (zI 0)), (4, .int (zI 0))]) [2, 3, 4, 1, 0] rfl ?_
  obtain ⟨x3_1, x4_2, q3, h⟩ := wk_b2 h
  refine k_Mod_bytesOfData_L5 X _ _ _ q3 ?_
  refine J_iload_n X d_Mod_bytesOfData_46 rfl 3 rfl ?_
  cases h
  exact J_ret E ⟨_, rfl, rfl⟩ d_Mod_bytesOfData_47 (Nat.le_refl _) (Nat.le_refl _) rfl

theorem d_Mod_sizeOf_0 : decode b_Mod_sizeOf 0 = .ok (.aload_n 0, 1) := by decide +kernel
theorem d_Mod_sizeOf_1 : decode b_Mod_sizeOf 1 = .ok (.getfield 33, 3) := by decide +kernel
theorem d_Mod_sizeOf_4 : decode b_Mod_sizeOf 4 = .ok (.iload_n 1, 1) := by decide +kernel
theorem d_Mod_sizeOf_5 : decode b_Mod_sizeOf 5 = .ok (.iaload, 1) := by decide +kernel
theorem d_Mod_sizeOf_6 : decode b_Mod_sizeOf 6 = .ok (.iconst 1, 1) := by decide +kernel
theorem d_Mod_sizeOf_7 : decode b_Mod_sizeOf 7 = .ok (.if_icmp .ne 17, 3) := by decide +kernel
theorem d_Mod_sizeOf_10 : decode b_Mod_sizeOf 10 = .ok (.iconst 1, 1) := by decide +kernel
theorem d_Mod_sizeOf_11 : decode b_Mod_sizeOf 11 = .ok (.aload_n 0, 1) := by decide +kernel
theorem d_Mod_sizeOf_12 : decode b_Mod_sizeOf 12 = .ok (.getfield 42, 3) := by decide +kernel
theorem d_Mod_sizeOf_15 : decode b_Mod_sizeOf 15 = .ok (.iload_n 1, 1) := by decide +kernel
theorem d_Mod_sizeOf_16 : decode b_Mod_sizeOf 16 = .ok (.iaload, 1) := by decide +kernel
theorem d_Mod_sizeOf_17 : decode b_Mod_sizeOf 17 = .ok (.bipush 8, 2) := by decide +kernel
theorem d_Mod_sizeOf_19 : decode b_Mod_sizeOf 19 = .ok (.idiv, 1) := by decide +kernel
theorem d_Mod_sizeOf_20 : decode b_Mod_sizeOf 20 = .ok (.iadd, 1) := by decide +kernel
theorem d_Mod_sizeOf_21 : decode b_Mod_sizeOf 21 = .ok (.goto 43, 3) := by decide +kernel
theorem d_Mod_sizeOf_24 : decode b_Mod_sizeOf 24 = .ok (.aload_n 0, 1) := by decide +kernel
theorem d_Mod_sizeOf_25 : decode b_Mod_sizeOf 25 = .ok (.getfield 33, 3) := by decide +kernel
theorem d_Mod_sizeOf_28 : decode b_Mod_sizeOf 28 = .ok (.iload_n 1, 1) := by decide +kernel
theorem d_Mod_sizeOf_29 : decode b_Mod_sizeOf 29 = .ok (.iaload, 1) := by decide +kernel
theorem d_Mod_sizeOf_30 : decode b_Mod_sizeOf 30 = .ok (.iconst 4, 1) := by decide +kernel
theorem d_Mod_sizeOf_31 : decode b_Mod_sizeOf 31 = .ok (.if_icmp .ne 32, 3) := by decide +kernel
theorem d_Mod_sizeOf_34 : decode b_Mod_sizeOf 34 = .ok (.aload_n 0, 1) := by decide +kernel
theorem d_Mod_sizeOf_35 : decode b_Mod_sizeOf 35 = .ok (.getfield 42, 3) := by decide +kernel
theorem d_Mod_sizeOf_38 : decode b_Mod_sizeOf 38 = .ok (.iload_n 1, 1) := by decide +kernel
theorem d_Mod_sizeOf_39 : decode b_Mod_sizeOf 39 = .ok (.iaload, 1) := by decide +kernel
theorem d_Mod_sizeOf_40 : decode b_Mod_sizeOf 40 = .ok (.aload_n 0, 1) := by decide +kernel
theorem d_Mod_sizeOf_41 : decode b_Mod_sizeOf 41 = .ok (.aload_n 0, 1) := by decide +kernel
theorem d_Mod_sizeOf_42 : decode b_Mod_sizeOf 42 = .ok (.getfield 39, 3) := by decide +kernel
theorem d_Mod_sizeOf_45 : decode b_Mod_sizeOf 45 = .ok (.iload_n 1, 1) := by decide +kernel
theorem d_Mod_sizeOf_46 : decode b_Mod_sizeOf 46 = .ok (.iaload, 1) := by decide +kernel
theorem d_Mod_sizeOf_47 : decode b_Mod_sizeOf 47 = .ok (.aload_n 0, 1) := by decide +kernel
theorem d_Mod_sizeOf_48 : decode b_Mod_sizeOf 48 = .ok (.getfield 42, 3) := by decide +kernel
theorem d_Mod_sizeOf_51 : decode b_Mod_sizeOf 51 = .ok (.iload_n 1, 1) := by decide +kernel
theorem d_Mod_sizeOf_52 : decode b_Mod_sizeOf 52 = .ok (.iaload, 1) := by decide +kernel
theorem d_Mod_sizeOf_53 : decode b_Mod_sizeOf 53 = .ok (.invokevirtual 161, 3) := by decide +kernel
theorem d_Mod_sizeOf_56 : decode b_Mod_sizeOf 56 = .ok (.bipush 8, 2) := by decide +kernel
theorem d_Mod_sizeOf_58 : decode b_Mod_sizeOf 58 = .ok (.idiv, 1) := by decide +kernel
theorem d_Mod_sizeOf_59 : decode b_Mod_sizeOf 59 = .ok (.iadd, 1) := by decide +kernel
theorem d_Mod_sizeOf_60 : decode b_Mod_sizeOf 60 = .ok (.goto 4, 3) := by decide +kernel
theorem d_Mod_sizeOf_63 : decode b_Mod_sizeOf 63 = .ok (.iconst 1, 1) := by decide +kernel
theorem d_Mod_sizeOf_64 : decode b_Mod_sizeOf 64 = .ok (.ireturn, 1) := by decide +kernel
def f_Mod_sizeOf (N : Nat) (R_valueKinds : Int → Int) (R_from : Int → Int) (R_length : Int → Int) (R_forms : Int → Int) (R_counts : Int → Int) (p1 : Int) : Option (Int) :=
  if jix p1 3700 = true then (
   if jr2 (R_valueKinds p1) 1 = true then (if (R_valueKinds p1) = 1 then (
    if jix p1 3700 = true then (
     if jdv (R_length p1) 8 = true then (
      some (1 + (Int.tdiv (R_length p1) 8))) else none) else none) else (
    if jix p1 3700 = true then (
     if jr2 (R_valueKinds p1) 4 = true then (if (R_valueKinds p1) = 4 then (
      if jix p1 3700 = true then (
       if jix p1 3700 = true then (
        if jix p1 3700 = true then (
         Option.bind (f_Mod_bytesOfData N R_forms R_counts (R_from p1) (R_length p1)) (fun r8 =>
          if jdv r8 8 = true then (
           some ((R_length p1) + (Int.tdiv r8 8))) else none)) else none) else none) else none) else (
      some 1)) else none) else none)) else none) else none
set_option maxHeartbeats 4000000 in
set_option maxRecDepth 100000 in
theorem c_Mod_sizeOf {l : Launch} {D : va_G} {cI cL cB : ClassId} {ad : Nat → Nat} {N : Nat} {R_thrown : Int} {R_used : Int} {R_many : Int} {R_values : Int} {R_textEnd : Int} {R_dataEnd : Int} {R_rowEnd : Int} {R_rowMany : Int} {R_waiting : Int} {R_mostWaiting : Int} {R_answer : Int} {R_steps : Int} {R_memory : Int} {R_maxSteps : Int} {R_maxMemory : Int} {R_fault : Int} {R_result : Int} {R_now : Int} {R_nowRow : Int} {R_come : Int} {R_puts : Int} {R_valueKinds : Int → Int} {R_from : Int → Int} {R_length : Int → Int} {R_forms : Int → Int} {R_counts : Int → Int} {p1 : Int} {out : Int} (h : f_Mod_sizeOf N R_valueKinds R_from R_length R_forms R_counts p1 = some out) : CT jF0 true l D [(cI, .int), (cL, .long), (cB, .byte)] y_Mod_sizeOf w_Mod_sizeOf ({ frames := 1, cells := 0, slots := 0, locals := 24 } : Room) [.ref (ad 0), .int (zI p1)] [(ad 0, .inr (10, [.int (zI R_thrown), .ref (ad 1), .ref (ad 2), .ref (ad 3), .ref (ad 4), .ref (ad 5), .ref (ad 6), .int (zI R_used), .ref (ad 7), .int (zI R_many), .ref (ad 8), .ref (ad 9), .ref (ad 10), .ref (ad 11), .ref (ad 12), .ref (ad 13), .ref (ad 14), .ref (ad 15), .ref (ad 16), .int (zI R_values), .ref (ad 17), .int (zI R_textEnd), .ref (ad 18), .ref (ad 19), .ref (ad 20), .ref (ad 21), .int (zI R_dataEnd), .ref (ad 22), .int (zI R_rowEnd), .ref (ad 23), .ref (ad 24), .int (zI R_rowMany), .ref (ad 25), .ref (ad 26), .ref (ad 27), .ref (ad 28), .int (zI R_waiting), .int (zI R_mostWaiting), .int (zI R_answer), .int (zI R_steps), .int (zI R_memory), .int (zI R_maxSteps), .int (zI R_maxMemory), .int (zI R_fault), .int (zI R_result), .int (zI R_now), .int (zI R_nowRow), .int (zI R_come), .ref (ad 29), .ref (ad 30), .int (zI R_puts), .ref (ad 31)])), (ad 8, .inl (cI, 3700, .inl (zA R_valueKinds))), (ad 10, .inl (cI, 3700, .inl (zA R_from))), (ad 11, .inl (cI, 3700, .inl (zA R_length))), (ad 18, .inl (cI, 5000, .inl (zA R_forms))), (ad 20, .inl (cI, 5000, .inl (zA R_counts)))] (some (.int (zI out))) [(ad 0, .inr (10, [.int (zI R_thrown), .ref (ad 1), .ref (ad 2), .ref (ad 3), .ref (ad 4), .ref (ad 5), .ref (ad 6), .int (zI R_used), .ref (ad 7), .int (zI R_many), .ref (ad 8), .ref (ad 9), .ref (ad 10), .ref (ad 11), .ref (ad 12), .ref (ad 13), .ref (ad 14), .ref (ad 15), .ref (ad 16), .int (zI R_values), .ref (ad 17), .int (zI R_textEnd), .ref (ad 18), .ref (ad 19), .ref (ad 20), .ref (ad 21), .int (zI R_dataEnd), .ref (ad 22), .int (zI R_rowEnd), .ref (ad 23), .ref (ad 24), .int (zI R_rowMany), .ref (ad 25), .ref (ad 26), .ref (ad 27), .ref (ad 28), .int (zI R_waiting), .int (zI R_mostWaiting), .int (zI R_answer), .int (zI R_steps), .int (zI R_memory), .int (zI R_maxSteps), .int (zI R_maxMemory), .int (zI R_fault), .int (zI R_result), .int (zI R_now), .int (zI R_nowRow), .int (zI R_come), .ref (ad 29), .ref (ad 30), .int (zI R_puts), .ref (ad 31)])), (ad 8, .inl (cI, 3700, .inl (zA R_valueKinds))), (ad 10, .inl (cI, 3700, .inl (zA R_from))), (ad 11, .inl (cI, 3700, .inl (zA R_length))), (ad 18, .inl (cI, 5000, .inl (zA R_forms))), (ad 20, .inl (cI, 5000, .inl (zA R_counts)))] 0 0 := by
  refine CT_of_J (cc := b_Mod_sizeOf) (maxL := 2) (ret := (some .int)) jF0_k (plainFor_of_name (by decide)) rfl (Nat.le_of_ble_eq_true rfl) ?_
  intro K hKl hKD X E
  subst hKl; subst hKD
  unfold f_Mod_sizeOf at h
  refine J_aload_n X d_Mod_sizeOf_0 rfl 0 rfl ?_
  refine J_get X (j_in in_Mod) 0 rfl rfl 10 (by decide) (j_m own_Mod_sizeOf (by decide +kernel)) rfl d_Mod_sizeOf_1 ?_
  refine J_iload_n X d_Mod_sizeOf_4 rfl 1 rfl ?_
  obtain ⟨g1, h⟩ := wk_g h
  refine J_iald X 1 0 rfl rfl g1 d_Mod_sizeOf_5 ?_
  refine J_iconst X d_Mod_sizeOf_6 ?_
  refine J_icmp_ne (tgt := 24) X d_Mod_sizeOf_7 (by decide) h (fun c2 h => ?_) (fun c2 h => ?_)
  · refine J_aload_n X d_Mod_sizeOf_24 rfl 0 rfl ?_
    refine J_get X (j_in in_Mod) 0 rfl rfl 10 (by decide) (j_m own_Mod_sizeOf (by decide +kernel)) rfl d_Mod_sizeOf_25 ?_
    refine J_iload_n X d_Mod_sizeOf_28 rfl 1 rfl ?_
    obtain ⟨g3, h⟩ := wk_g h
    refine J_iald X 1 0 rfl rfl g3 d_Mod_sizeOf_29 ?_
    refine J_iconst X d_Mod_sizeOf_30 ?_
    refine J_icmp_ne (tgt := 63) X d_Mod_sizeOf_31 (by decide) h (fun c4 h => ?_) (fun c4 h => ?_)
    · refine J_iconst X d_Mod_sizeOf_63 ?_
      cases h
      exact J_ret E ⟨_, rfl, rfl⟩ d_Mod_sizeOf_64 (Nat.le_refl _) (Nat.le_refl _) rfl
    · refine J_aload_n X d_Mod_sizeOf_34 rfl 0 rfl ?_
      refine J_get X (j_in in_Mod) 0 rfl rfl 13 (by decide) (j_m own_Mod_sizeOf (by decide +kernel)) rfl d_Mod_sizeOf_35 ?_
      refine J_iload_n X d_Mod_sizeOf_38 rfl 1 rfl ?_
      obtain ⟨g5, h⟩ := wk_g h
      refine J_iald X 3 0 rfl rfl g5 d_Mod_sizeOf_39 ?_
      refine J_aload_n X d_Mod_sizeOf_40 rfl 0 rfl ?_
      refine J_aload_n X d_Mod_sizeOf_41 rfl 0 rfl ?_
      refine J_get X (j_in in_Mod) 0 rfl rfl 12 (by decide) (j_m own_Mod_sizeOf (by decide +kernel)) rfl d_Mod_sizeOf_42 ?_
      refine J_iload_n X d_Mod_sizeOf_45 rfl 1 rfl ?_
      obtain ⟨g6, h⟩ := wk_g h
      refine J_iald X 2 0 rfl rfl g6 d_Mod_sizeOf_46 ?_
      refine J_aload_n X d_Mod_sizeOf_47 rfl 0 rfl ?_
      refine J_get X (j_in in_Mod) 0 rfl rfl 13 (by decide) (j_m own_Mod_sizeOf (by decide +kernel)) rfl d_Mod_sizeOf_48 ?_
      refine J_iload_n X d_Mod_sizeOf_51 rfl 1 rfl ?_
      obtain ⟨g7, h⟩ := wk_g h
      refine J_iald X 3 0 rfl rfl g7 d_Mod_sizeOf_52 ?_
      obtain ⟨r8, q9, h⟩ := wk_b h
      refine J_afterP (jrunV X (c_Mod_bytesOfData (ad := ad) q9) jF0_k (fun _ _ _ _ => trivial) (jgV own_Mod_sizeOf (by decide +kernel)) rfl rfl rfl pd_Mod_bytesOfData (by decide) [0, 4, 5] rfl (by decide) 0 10 rfl rfl rfl rfl (Nat.le_of_ble_eq_true rfl) d_Mod_sizeOf_53 (by decide)) ?_
      refine J_bipush X d_Mod_sizeOf_56 (by decide) ?_
      obtain ⟨g10, h⟩ := wk_g h
      refine J_idiv X g10 d_Mod_sizeOf_58 ?_
      refine J_iadd X d_Mod_sizeOf_59 ?_
      refine J_goto (tgt := 64) X d_Mod_sizeOf_60 (by decide) ?_
      cases h
      exact J_ret E ⟨_, rfl, rfl⟩ d_Mod_sizeOf_64 (Nat.le_refl _) (Nat.le_refl _) rfl
  · refine J_iconst X d_Mod_sizeOf_10 ?_
    refine J_aload_n X d_Mod_sizeOf_11 rfl 0 rfl ?_
    refine J_get X (j_in in_Mod) 0 rfl rfl 13 (by decide) (j_m own_Mod_sizeOf (by decide +kernel)) rfl d_Mod_sizeOf_12 ?_
    refine J_iload_n X d_Mod_sizeOf_15 rfl 1 rfl ?_
    obtain ⟨g11, h⟩ := wk_g h
    refine J_iald X 3 0 rfl rfl g11 d_Mod_sizeOf_16 ?_
    refine J_bipush X d_Mod_sizeOf_17 (by decide) ?_
    obtain ⟨g12, h⟩ := wk_g h
    refine J_idiv X g12 d_Mod_sizeOf_19 ?_
    refine J_iadd X d_Mod_sizeOf_20 ?_
    refine J_goto (tgt := 64) X d_Mod_sizeOf_21 (by decide) ?_
    cases h
    exact J_ret E ⟨_, rfl, rfl⟩ d_Mod_sizeOf_64 (Nat.le_refl _) (Nat.le_refl _) rfl

theorem d_Mod_arity_0 : decode b_Mod_arity 0 = .ok (.iload_n 0, 1) := by decide +kernel
theorem d_Mod_arity_1 : decode b_Mod_arity 1 = .ok (.bipush 13, 2) := by decide +kernel
theorem d_Mod_arity_3 : decode b_Mod_arity 3 = .ok (.if_icmp .eq 9, 3) := by decide +kernel
theorem d_Mod_arity_6 : decode b_Mod_arity 6 = .ok (.iload_n 0, 1) := by decide +kernel
theorem d_Mod_arity_7 : decode b_Mod_arity 7 = .ok (.bipush 16, 2) := by decide +kernel
theorem d_Mod_arity_9 : decode b_Mod_arity 9 = .ok (.if_icmp .ne 5, 3) := by decide +kernel
theorem d_Mod_arity_12 : decode b_Mod_arity 12 = .ok (.iconst 3, 1) := by decide +kernel
theorem d_Mod_arity_13 : decode b_Mod_arity 13 = .ok (.ireturn, 1) := by decide +kernel
theorem d_Mod_arity_14 : decode b_Mod_arity 14 = .ok (.iload_n 0, 1) := by decide +kernel
theorem d_Mod_arity_15 : decode b_Mod_arity 15 = .ok (.bipush 11, 2) := by decide +kernel
theorem d_Mod_arity_17 : decode b_Mod_arity 17 = .ok (.if_icmp .lt 39, 3) := by decide +kernel
theorem d_Mod_arity_20 : decode b_Mod_arity 20 = .ok (.iload_n 0, 1) := by decide +kernel
theorem d_Mod_arity_21 : decode b_Mod_arity 21 = .ok (.bipush 12, 2) := by decide +kernel
theorem d_Mod_arity_23 : decode b_Mod_arity 23 = .ok (.if_icmp .eq 33, 3) := by decide +kernel
theorem d_Mod_arity_26 : decode b_Mod_arity 26 = .ok (.iload_n 0, 1) := by decide +kernel
theorem d_Mod_arity_27 : decode b_Mod_arity 27 = .ok (.bipush 14, 2) := by decide +kernel
theorem d_Mod_arity_29 : decode b_Mod_arity 29 = .ok (.if_icmp .eq 27, 3) := by decide +kernel
theorem d_Mod_arity_32 : decode b_Mod_arity 32 = .ok (.iload_n 0, 1) := by decide +kernel
theorem d_Mod_arity_33 : decode b_Mod_arity 33 = .ok (.bipush 15, 2) := by decide +kernel
theorem d_Mod_arity_35 : decode b_Mod_arity 35 = .ok (.if_icmp .eq 21, 3) := by decide +kernel
theorem d_Mod_arity_38 : decode b_Mod_arity 38 = .ok (.iload_n 0, 1) := by decide +kernel
theorem d_Mod_arity_39 : decode b_Mod_arity 39 = .ok (.bipush 17, 2) := by decide +kernel
theorem d_Mod_arity_41 : decode b_Mod_arity 41 = .ok (.if_icmp .eq 15, 3) := by decide +kernel
theorem d_Mod_arity_44 : decode b_Mod_arity 44 = .ok (.iload_n 0, 1) := by decide +kernel
theorem d_Mod_arity_45 : decode b_Mod_arity 45 = .ok (.bipush 21, 2) := by decide +kernel
theorem d_Mod_arity_47 : decode b_Mod_arity 47 = .ok (.if_icmp .eq 9, 3) := by decide +kernel
theorem d_Mod_arity_50 : decode b_Mod_arity 50 = .ok (.iload_n 0, 1) := by decide +kernel
theorem d_Mod_arity_51 : decode b_Mod_arity 51 = .ok (.bipush 28, 2) := by decide +kernel
theorem d_Mod_arity_53 : decode b_Mod_arity 53 = .ok (.if_icmp .ne 7, 3) := by decide +kernel
theorem d_Mod_arity_56 : decode b_Mod_arity 56 = .ok (.iconst 2, 1) := by decide +kernel
theorem d_Mod_arity_57 : decode b_Mod_arity 57 = .ok (.goto 4, 3) := by decide +kernel
theorem d_Mod_arity_60 : decode b_Mod_arity 60 = .ok (.iconst 1, 1) := by decide +kernel
theorem d_Mod_arity_61 : decode b_Mod_arity 61 = .ok (.ireturn, 1) := by decide +kernel
def f_Mod_arity (p0 : Int) : Option (Int) :=
  if jr2 p0 13 = true then (if p0 = 13 then (
   some 3) else (
   if jr2 p0 16 = true then (if p0 = 16 then (
    some 3) else (
    if jr2 p0 11 = true then (if p0 < 11 then (
     some 2) else (
     if jr2 p0 12 = true then (if p0 = 12 then (
      some 2) else (
      if jr2 p0 14 = true then (if p0 = 14 then (
       some 2) else (
       if jr2 p0 15 = true then (if p0 = 15 then (
        some 2) else (
        if jr2 p0 17 = true then (if p0 = 17 then (
         some 2) else (
         if jr2 p0 21 = true then (if p0 = 21 then (
          some 2) else (
          if jr2 p0 28 = true then (if p0 = 28 then (
           some 2) else (
           some 1)) else none)) else none)) else none)) else none)) else none)) else none)) else none)) else none)) else none
set_option maxHeartbeats 4000000 in
set_option maxRecDepth 100000 in
theorem c_Mod_arity {l : Launch} {D : va_G} {cI cL cB : ClassId} {ad : Nat → Nat} {p0 : Int} {out : Int} (h : f_Mod_arity p0 = some out) : CT jF0 true l D [(cI, .int), (cL, .long), (cB, .byte)] y_Mod_arity w_Mod_arity ({ frames := 0, cells := 0, slots := 0, locals := 0 } : Room) [.int (zI p0)] [] (some (.int (zI out))) [] 0 0 := by
  refine CT_of_J (cc := b_Mod_arity) (maxL := 1) (ret := (some .int)) jF0_k (plainFor_of_name (by decide)) rfl (Nat.le_of_ble_eq_true rfl) ?_
  intro K hKl hKD X E
  subst hKl; subst hKD
  unfold f_Mod_arity at h
  refine J_iload_n X d_Mod_arity_0 rfl 0 rfl ?_
  refine J_bipush X d_Mod_arity_1 (by decide) ?_
  refine J_icmp_eq (tgt := 12) X d_Mod_arity_3 (by decide) h (fun c1 h => ?_) (fun c1 h => ?_)
  · refine J_iconst X d_Mod_arity_12 ?_
    cases h
    exact J_ret E ⟨_, rfl, rfl⟩ d_Mod_arity_13 (Nat.le_refl _) (Nat.le_refl _) rfl
  · refine J_iload_n X d_Mod_arity_6 rfl 0 rfl ?_
    refine J_bipush X d_Mod_arity_7 (by decide) ?_
    refine J_icmp_ne (tgt := 14) X d_Mod_arity_9 (by decide) h (fun c2 h => ?_) (fun c2 h => ?_)
    · refine J_iload_n X d_Mod_arity_14 rfl 0 rfl ?_
      refine J_bipush X d_Mod_arity_15 (by decide) ?_
      refine J_icmp_lt (tgt := 56) X d_Mod_arity_17 (by decide) h (fun c3 h => ?_) (fun c3 h => ?_)
      · refine J_iconst X d_Mod_arity_56 ?_
        refine J_goto (tgt := 61) X d_Mod_arity_57 (by decide) ?_
        cases h
        exact J_ret E ⟨_, rfl, rfl⟩ d_Mod_arity_61 (Nat.le_refl _) (Nat.le_refl _) rfl
      · refine J_iload_n X d_Mod_arity_20 rfl 0 rfl ?_
        refine J_bipush X d_Mod_arity_21 (by decide) ?_
        refine J_icmp_eq (tgt := 56) X d_Mod_arity_23 (by decide) h (fun c4 h => ?_) (fun c4 h => ?_)
        · refine J_iconst X d_Mod_arity_56 ?_
          refine J_goto (tgt := 61) X d_Mod_arity_57 (by decide) ?_
          cases h
          exact J_ret E ⟨_, rfl, rfl⟩ d_Mod_arity_61 (Nat.le_refl _) (Nat.le_refl _) rfl
        · refine J_iload_n X d_Mod_arity_26 rfl 0 rfl ?_
          refine J_bipush X d_Mod_arity_27 (by decide) ?_
          refine J_icmp_eq (tgt := 56) X d_Mod_arity_29 (by decide) h (fun c5 h => ?_) (fun c5 h => ?_)
          · refine J_iconst X d_Mod_arity_56 ?_
            refine J_goto (tgt := 61) X d_Mod_arity_57 (by decide) ?_
            cases h
            exact J_ret E ⟨_, rfl, rfl⟩ d_Mod_arity_61 (Nat.le_refl _) (Nat.le_refl _) rfl
          · refine J_iload_n X d_Mod_arity_32 rfl 0 rfl ?_
            refine J_bipush X d_Mod_arity_33 (by decide) ?_
            refine J_icmp_eq (tgt := 56) X d_Mod_arity_35 (by decide) h (fun c6 h => ?_) (fun c6 h => ?_)
            · refine J_iconst X d_Mod_arity_56 ?_
              refine J_goto (tgt := 61) X d_Mod_arity_57 (by decide) ?_
              cases h
              exact J_ret E ⟨_, rfl, rfl⟩ d_Mod_arity_61 (Nat.le_refl _) (Nat.le_refl _) rfl
            · refine J_iload_n X d_Mod_arity_38 rfl 0 rfl ?_
              refine J_bipush X d_Mod_arity_39 (by decide) ?_
              refine J_icmp_eq (tgt := 56) X d_Mod_arity_41 (by decide) h (fun c7 h => ?_) (fun c7 h => ?_)
              · refine J_iconst X d_Mod_arity_56 ?_
                refine J_goto (tgt := 61) X d_Mod_arity_57 (by decide) ?_
                cases h
                exact J_ret E ⟨_, rfl, rfl⟩ d_Mod_arity_61 (Nat.le_refl _) (Nat.le_refl _) rfl
              · refine J_iload_n X d_Mod_arity_44 rfl 0 rfl ?_
                refine J_bipush X d_Mod_arity_45 (by decide) ?_
                refine J_icmp_eq (tgt := 56) X d_Mod_arity_47 (by decide) h (fun c8 h => ?_) (fun c8 h => ?_)
                · refine J_iconst X d_Mod_arity_56 ?_
                  refine J_goto (tgt := 61) X d_Mod_arity_57 (by decide) ?_
                  cases h
                  exact J_ret E ⟨_, rfl, rfl⟩ d_Mod_arity_61 (Nat.le_refl _) (Nat.le_refl _) rfl
                · refine J_iload_n X d_Mod_arity_50 rfl 0 rfl ?_
                  refine J_bipush X d_Mod_arity_51 (by decide) ?_
                  refine J_icmp_ne (tgt := 60) X d_Mod_arity_53 (by decide) h (fun c9 h => ?_) (fun c9 h => ?_)
                  · refine J_iconst X d_Mod_arity_60 ?_
                    cases h
                    exact J_ret E ⟨_, rfl, rfl⟩ d_Mod_arity_61 (Nat.le_refl _) (Nat.le_refl _) rfl
                  · refine J_iconst X d_Mod_arity_56 ?_
                    refine J_goto (tgt := 61) X d_Mod_arity_57 (by decide) ?_
                    cases h
                    exact J_ret E ⟨_, rfl, rfl⟩ d_Mod_arity_61 (Nat.le_refl _) (Nat.le_refl _) rfl
    · refine J_iconst X d_Mod_arity_12 ?_
      cases h
      exact J_ret E ⟨_, rfl, rfl⟩ d_Mod_arity_13 (Nat.le_refl _) (Nat.le_refl _) rfl

theorem d_Mod_fail_0 : decode b_Mod_fail 0 = .ok (.aload_n 0, 1) := by decide +kernel
theorem d_Mod_fail_1 : decode b_Mod_fail 1 = .ok (.aload_n 0, 1) := by decide +kernel
theorem d_Mod_fail_2 : decode b_Mod_fail 2 = .ok (.getfield 165, 3) := by decide +kernel
theorem d_Mod_fail_5 : decode b_Mod_fail 5 = .ok (.ifCond .ne 7, 3) := by decide +kernel
theorem d_Mod_fail_8 : decode b_Mod_fail 8 = .ok (.iload_n 1, 1) := by decide +kernel
theorem d_Mod_fail_9 : decode b_Mod_fail 9 = .ok (.goto 7, 3) := by decide +kernel
theorem d_Mod_fail_12 : decode b_Mod_fail 12 = .ok (.aload_n 0, 1) := by decide +kernel
theorem d_Mod_fail_13 : decode b_Mod_fail 13 = .ok (.getfield 165, 3) := by decide +kernel
theorem d_Mod_fail_16 : decode b_Mod_fail 16 = .ok (.putfield 165, 3) := by decide +kernel
theorem d_Mod_fail_19 : decode b_Mod_fail 19 = .ok (.iconst 0, 1) := by decide +kernel
theorem d_Mod_fail_20 : decode b_Mod_fail 20 = .ok (.ireturn, 1) := by decide +kernel
def f_Mod_fail (R_fault : Int) (p1 : Int) : Option (Int × Int) :=
  if rI R_fault = true then (if R_fault = 0 then (
   some (0, p1)) else (
   some (0, R_fault))) else none
set_option maxHeartbeats 4000000 in
set_option maxRecDepth 100000 in
theorem c_Mod_fail {l : Launch} {D : va_G} {cI cL cB : ClassId} {ad : Nat → Nat} {R_thrown : Int} {R_used : Int} {R_many : Int} {R_values : Int} {R_textEnd : Int} {R_dataEnd : Int} {R_rowEnd : Int} {R_rowMany : Int} {R_waiting : Int} {R_mostWaiting : Int} {R_answer : Int} {R_steps : Int} {R_memory : Int} {R_maxSteps : Int} {R_maxMemory : Int} {R_fault : Int} {R_result : Int} {R_now : Int} {R_nowRow : Int} {R_come : Int} {R_puts : Int} {p1 : Int} {out : Int × Int} (h : f_Mod_fail R_fault p1 = some out) : CT jF0 false l D [(cI, .int), (cL, .long), (cB, .byte)] y_Mod_fail w_Mod_fail ({ frames := 0, cells := 0, slots := 0, locals := 0 } : Room) [.ref (ad 0), .int (zI p1)] [(ad 0, .inr (10, [.int (zI R_thrown), .ref (ad 1), .ref (ad 2), .ref (ad 3), .ref (ad 4), .ref (ad 5), .ref (ad 6), .int (zI R_used), .ref (ad 7), .int (zI R_many), .ref (ad 8), .ref (ad 9), .ref (ad 10), .ref (ad 11), .ref (ad 12), .ref (ad 13), .ref (ad 14), .ref (ad 15), .ref (ad 16), .int (zI R_values), .ref (ad 17), .int (zI R_textEnd), .ref (ad 18), .ref (ad 19), .ref (ad 20), .ref (ad 21), .int (zI R_dataEnd), .ref (ad 22), .int (zI R_rowEnd), .ref (ad 23), .ref (ad 24), .int (zI R_rowMany), .ref (ad 25), .ref (ad 26), .ref (ad 27), .ref (ad 28), .int (zI R_waiting), .int (zI R_mostWaiting), .int (zI R_answer), .int (zI R_steps), .int (zI R_memory), .int (zI R_maxSteps), .int (zI R_maxMemory), .int (zI R_fault), .int (zI R_result), .int (zI R_now), .int (zI R_nowRow), .int (zI R_come), .ref (ad 29), .ref (ad 30), .int (zI R_puts), .ref (ad 31)]))] (some (.int (zI out.1))) [(ad 0, .inr (10, [.int (zI R_thrown), .ref (ad 1), .ref (ad 2), .ref (ad 3), .ref (ad 4), .ref (ad 5), .ref (ad 6), .int (zI R_used), .ref (ad 7), .int (zI R_many), .ref (ad 8), .ref (ad 9), .ref (ad 10), .ref (ad 11), .ref (ad 12), .ref (ad 13), .ref (ad 14), .ref (ad 15), .ref (ad 16), .int (zI R_values), .ref (ad 17), .int (zI R_textEnd), .ref (ad 18), .ref (ad 19), .ref (ad 20), .ref (ad 21), .int (zI R_dataEnd), .ref (ad 22), .int (zI R_rowEnd), .ref (ad 23), .ref (ad 24), .int (zI R_rowMany), .ref (ad 25), .ref (ad 26), .ref (ad 27), .ref (ad 28), .int (zI R_waiting), .int (zI R_mostWaiting), .int (zI R_answer), .int (zI R_steps), .int (zI R_memory), .int (zI R_maxSteps), .int (zI R_maxMemory), .int (zI (out.2)), .int (zI R_result), .int (zI R_now), .int (zI R_nowRow), .int (zI R_come), .ref (ad 29), .ref (ad 30), .int (zI R_puts), .ref (ad 31)]))] 0 0 := by
  refine CT_of_J (cc := b_Mod_fail) (maxL := 2) (ret := (some .int)) jF0_k (plainFor_of_name (by decide)) rfl (Nat.le_of_ble_eq_true rfl) ?_
  intro K hKl hKD X E
  subst hKl; subst hKD
  unfold f_Mod_fail at h
  refine J_aload_n X d_Mod_fail_0 rfl 0 rfl ?_
  refine J_aload_n X d_Mod_fail_1 rfl 0 rfl ?_
  refine J_get X (j_in in_Mod) 0 rfl rfl 43 (by decide) (j_m own_Mod_fail (by decide +kernel)) rfl d_Mod_fail_2 ?_
  refine J_if_ne (tgt := 12) X d_Mod_fail_5 (by decide) h (fun c1 h => ?_) (fun c1 h => ?_)
  · refine J_aload_n X d_Mod_fail_12 rfl 0 rfl ?_
    refine J_get X (j_in in_Mod) 0 rfl rfl 43 (by decide) (j_m own_Mod_fail (by decide +kernel)) rfl d_Mod_fail_13 ?_
    refine J_put (ws' := [(ad 0, .inr (10, [.int (zI R_thrown), .ref (ad 1), .ref (ad 2), .ref (ad 3), .ref (ad 4), .ref (ad 5), .ref (ad 6), .int (zI R_used), .ref (ad 7), .int (zI R_many), .ref (ad 8), .ref (ad 9), .ref (ad 10), .ref (ad 11), .ref (ad 12), .ref (ad 13), .ref (ad 14), .ref (ad 15), .ref (ad 16), .int (zI R_values), .ref (ad 17), .int (zI R_textEnd), .ref (ad 18), .ref (ad 19), .ref (ad 20), .ref (ad 21), .int (zI R_dataEnd), .ref (ad 22), .int (zI R_rowEnd), .ref (ad 23), .ref (ad 24), .int (zI R_rowMany), .ref (ad 25), .ref (ad 26), .ref (ad 27), .ref (ad 28), .int (zI R_waiting), .int (zI R_mostWaiting), .int (zI R_answer), .int (zI R_steps), .int (zI R_memory), .int (zI R_maxSteps), .int (zI R_maxMemory), .int (zI R_fault), .int (zI R_result), .int (zI R_now), .int (zI R_nowRow), .int (zI R_come), .ref (ad 29), .ref (ad 30), .int (zI R_puts), .ref (ad 31)]))]) X (j_in in_Mod) ty_Mod tok_Mod nm_Mod 0 rfl rfl 43 (by decide) (j_m own_Mod_fail (by decide +kernel)) rfl rfl rfl (Nat.le_of_ble_eq_true rfl) d_Mod_fail_16 rfl ?_
    refine J_iconst X d_Mod_fail_19 ?_
    cases h
    exact J_ret E ⟨_, rfl, rfl⟩ d_Mod_fail_20 (Nat.le_refl _) (Nat.le_refl _) rfl
  · refine J_iload_n X d_Mod_fail_8 rfl 1 rfl ?_
    refine J_goto (tgt := 16) X d_Mod_fail_9 (by decide) ?_
    refine J_put (ws' := [(ad 0, .inr (10, [.int (zI R_thrown), .ref (ad 1), .ref (ad 2), .ref (ad 3), .ref (ad 4), .ref (ad 5), .ref (ad 6), .int (zI R_used), .ref (ad 7), .int (zI R_many), .ref (ad 8), .ref (ad 9), .ref (ad 10), .ref (ad 11), .ref (ad 12), .ref (ad 13), .ref (ad 14), .ref (ad 15), .ref (ad 16), .int (zI R_values), .ref (ad 17), .int (zI R_textEnd), .ref (ad 18), .ref (ad 19), .ref (ad 20), .ref (ad 21), .int (zI R_dataEnd), .ref (ad 22), .int (zI R_rowEnd), .ref (ad 23), .ref (ad 24), .int (zI R_rowMany), .ref (ad 25), .ref (ad 26), .ref (ad 27), .ref (ad 28), .int (zI R_waiting), .int (zI R_mostWaiting), .int (zI R_answer), .int (zI R_steps), .int (zI R_memory), .int (zI R_maxSteps), .int (zI R_maxMemory), .int (zI p1), .int (zI R_result), .int (zI R_now), .int (zI R_nowRow), .int (zI R_come), .ref (ad 29), .ref (ad 30), .int (zI R_puts), .ref (ad 31)]))]) X (j_in in_Mod) ty_Mod tok_Mod nm_Mod 0 rfl rfl 43 (by decide) (j_m own_Mod_fail (by decide +kernel)) rfl rfl rfl (Nat.le_of_ble_eq_true rfl) d_Mod_fail_16 rfl ?_
    refine J_iconst X d_Mod_fail_19 ?_
    cases h
    exact J_ret E ⟨_, rfl, rfl⟩ d_Mod_fail_20 (Nat.le_refl _) (Nat.le_refl _) rfl

theorem d_Mod_isKind_0 : decode b_Mod_isKind 0 = .ok (.aload_n 0, 1) := by decide +kernel
theorem d_Mod_isKind_1 : decode b_Mod_isKind 1 = .ok (.getfield 33, 3) := by decide +kernel
theorem d_Mod_isKind_4 : decode b_Mod_isKind 4 = .ok (.aload_n 0, 1) := by decide +kernel
theorem d_Mod_isKind_5 : decode b_Mod_isKind 5 = .ok (.getfield 102, 3) := by decide +kernel
theorem d_Mod_isKind_8 : decode b_Mod_isKind 8 = .ok (.iload_n 1, 1) := by decide +kernel
theorem d_Mod_isKind_9 : decode b_Mod_isKind 9 = .ok (.iaload, 1) := by decide +kernel
theorem d_Mod_isKind_10 : decode b_Mod_isKind 10 = .ok (.iaload, 1) := by decide +kernel
theorem d_Mod_isKind_11 : decode b_Mod_isKind 11 = .ok (.iload_n 2, 1) := by decide +kernel
theorem d_Mod_isKind_12 : decode b_Mod_isKind 12 = .ok (.if_icmp .ne 7, 3) := by decide +kernel
theorem d_Mod_isKind_15 : decode b_Mod_isKind 15 = .ok (.iconst 1, 1) := by decide +kernel
theorem d_Mod_isKind_16 : decode b_Mod_isKind 16 = .ok (.goto 4, 3) := by decide +kernel
theorem d_Mod_isKind_19 : decode b_Mod_isKind 19 = .ok (.iconst 0, 1) := by decide +kernel
theorem d_Mod_isKind_20 : decode b_Mod_isKind 20 = .ok (.ireturn, 1) := by decide +kernel
def f_Mod_isKind (R_valueKinds : Int → Int) (R_of : Int → Int) (p1 : Int) (p2 : Int) : Option (Int) :=
  if jix p1 3 = true then (
   if jix (R_of p1) 3700 = true then (
    if jr2 (R_valueKinds (R_of p1)) p2 = true then (if (R_valueKinds (R_of p1)) = p2 then (
     some 1) else (
     some 0)) else none) else none) else none
set_option maxHeartbeats 4000000 in
set_option maxRecDepth 100000 in
theorem c_Mod_isKind {l : Launch} {D : va_G} {cI cL cB : ClassId} {ad : Nat → Nat} {R_thrown : Int} {R_used : Int} {R_many : Int} {R_values : Int} {R_textEnd : Int} {R_dataEnd : Int} {R_rowEnd : Int} {R_rowMany : Int} {R_waiting : Int} {R_mostWaiting : Int} {R_answer : Int} {R_steps : Int} {R_memory : Int} {R_maxSteps : Int} {R_maxMemory : Int} {R_fault : Int} {R_result : Int} {R_now : Int} {R_nowRow : Int} {R_come : Int} {R_puts : Int} {R_valueKinds : Int → Int} {R_of : Int → Int} {p1 : Int} {p2 : Int} {out : Int} (h : f_Mod_isKind R_valueKinds R_of p1 p2 = some out) : CT jF0 true l D [(cI, .int), (cL, .long), (cB, .byte)] y_Mod_isKind w_Mod_isKind ({ frames := 0, cells := 0, slots := 0, locals := 0 } : Room) [.ref (ad 0), .int (zI p1), .int (zI p2)] [(ad 0, .inr (10, [.int (zI R_thrown), .ref (ad 1), .ref (ad 2), .ref (ad 3), .ref (ad 4), .ref (ad 5), .ref (ad 6), .int (zI R_used), .ref (ad 7), .int (zI R_many), .ref (ad 8), .ref (ad 9), .ref (ad 10), .ref (ad 11), .ref (ad 12), .ref (ad 13), .ref (ad 14), .ref (ad 15), .ref (ad 16), .int (zI R_values), .ref (ad 17), .int (zI R_textEnd), .ref (ad 18), .ref (ad 19), .ref (ad 20), .ref (ad 21), .int (zI R_dataEnd), .ref (ad 22), .int (zI R_rowEnd), .ref (ad 23), .ref (ad 24), .int (zI R_rowMany), .ref (ad 25), .ref (ad 26), .ref (ad 27), .ref (ad 28), .int (zI R_waiting), .int (zI R_mostWaiting), .int (zI R_answer), .int (zI R_steps), .int (zI R_memory), .int (zI R_maxSteps), .int (zI R_maxMemory), .int (zI R_fault), .int (zI R_result), .int (zI R_now), .int (zI R_nowRow), .int (zI R_come), .ref (ad 29), .ref (ad 30), .int (zI R_puts), .ref (ad 31)])), (ad 8, .inl (cI, 3700, .inl (zA R_valueKinds))), (ad 29, .inl (cI, 3, .inl (zA R_of)))] (some (.int (zI out))) [(ad 0, .inr (10, [.int (zI R_thrown), .ref (ad 1), .ref (ad 2), .ref (ad 3), .ref (ad 4), .ref (ad 5), .ref (ad 6), .int (zI R_used), .ref (ad 7), .int (zI R_many), .ref (ad 8), .ref (ad 9), .ref (ad 10), .ref (ad 11), .ref (ad 12), .ref (ad 13), .ref (ad 14), .ref (ad 15), .ref (ad 16), .int (zI R_values), .ref (ad 17), .int (zI R_textEnd), .ref (ad 18), .ref (ad 19), .ref (ad 20), .ref (ad 21), .int (zI R_dataEnd), .ref (ad 22), .int (zI R_rowEnd), .ref (ad 23), .ref (ad 24), .int (zI R_rowMany), .ref (ad 25), .ref (ad 26), .ref (ad 27), .ref (ad 28), .int (zI R_waiting), .int (zI R_mostWaiting), .int (zI R_answer), .int (zI R_steps), .int (zI R_memory), .int (zI R_maxSteps), .int (zI R_maxMemory), .int (zI R_fault), .int (zI R_result), .int (zI R_now), .int (zI R_nowRow), .int (zI R_come), .ref (ad 29), .ref (ad 30), .int (zI R_puts), .ref (ad 31)])), (ad 8, .inl (cI, 3700, .inl (zA R_valueKinds))), (ad 29, .inl (cI, 3, .inl (zA R_of)))] 0 0 := by
  refine CT_of_J (cc := b_Mod_isKind) (maxL := 3) (ret := (some .boolean)) jF0_k (plainFor_of_name (by decide)) rfl (Nat.le_of_ble_eq_true rfl) ?_
  intro K hKl hKD X E
  subst hKl; subst hKD
  unfold f_Mod_isKind at h
  refine J_aload_n X d_Mod_isKind_0 rfl 0 rfl ?_
  refine J_get X (j_in in_Mod) 0 rfl rfl 10 (by decide) (j_m own_Mod_isKind (by decide +kernel)) rfl d_Mod_isKind_1 ?_
  refine J_aload_n X d_Mod_isKind_4 rfl 0 rfl ?_
  refine J_get X (j_in in_Mod) 0 rfl rfl 48 (by decide) (j_m own_Mod_isKind (by decide +kernel)) rfl d_Mod_isKind_5 ?_
  refine J_iload_n X d_Mod_isKind_8 rfl 1 rfl ?_
  obtain ⟨g1, h⟩ := wk_g h
  refine J_iald X 2 0 rfl rfl g1 d_Mod_isKind_9 ?_
  obtain ⟨g2, h⟩ := wk_g h
  refine J_iald X 1 0 rfl rfl g2 d_Mod_isKind_10 ?_
  refine J_iload_n X d_Mod_isKind_11 rfl 2 rfl ?_
  refine J_icmp_ne (tgt := 19) X d_Mod_isKind_12 (by decide) h (fun c3 h => ?_) (fun c3 h => ?_)
  · refine J_iconst X d_Mod_isKind_19 ?_
    cases h
    exact J_ret E ⟨_, rfl, j_bool (Or.inl rfl)⟩ d_Mod_isKind_20 (Nat.le_refl _) (Nat.le_refl _) rfl
  · refine J_iconst X d_Mod_isKind_15 ?_
    refine J_goto (tgt := 20) X d_Mod_isKind_16 (by decide) ?_
    cases h
    exact J_ret E ⟨_, rfl, j_bool (Or.inr rfl)⟩ d_Mod_isKind_20 (Nat.le_refl _) (Nat.le_refl _) rfl

theorem d_Mod_isForm_0 : decode b_Mod_isForm 0 = .ok (.aload_n 0, 1) := by decide +kernel
theorem d_Mod_isForm_1 : decode b_Mod_isForm 1 = .ok (.iload_n 1, 1) := by decide +kernel
theorem d_Mod_isForm_2 : decode b_Mod_isForm 2 = .ok (.iconst 4, 1) := by decide +kernel
theorem d_Mod_isForm_3 : decode b_Mod_isForm 3 = .ok (.invokevirtual 168, 3) := by decide +kernel
theorem d_Mod_isForm_6 : decode b_Mod_isForm 6 = .ok (.ifCond .eq 27, 3) := by decide +kernel
theorem d_Mod_isForm_9 : decode b_Mod_isForm 9 = .ok (.aload_n 0, 1) := by decide +kernel
theorem d_Mod_isForm_10 : decode b_Mod_isForm 10 = .ok (.getfield 64, 3) := by decide +kernel
theorem d_Mod_isForm_13 : decode b_Mod_isForm 13 = .ok (.aload_n 0, 1) := by decide +kernel
theorem d_Mod_isForm_14 : decode b_Mod_isForm 14 = .ok (.getfield 39, 3) := by decide +kernel
theorem d_Mod_isForm_17 : decode b_Mod_isForm 17 = .ok (.aload_n 0, 1) := by decide +kernel
theorem d_Mod_isForm_18 : decode b_Mod_isForm 18 = .ok (.getfield 102, 3) := by decide +kernel
theorem d_Mod_isForm_21 : decode b_Mod_isForm 21 = .ok (.iload_n 1, 1) := by decide +kernel
theorem d_Mod_isForm_22 : decode b_Mod_isForm 22 = .ok (.iaload, 1) := by decide +kernel
theorem d_Mod_isForm_23 : decode b_Mod_isForm 23 = .ok (.iaload, 1) := by decide +kernel
theorem d_Mod_isForm_24 : decode b_Mod_isForm 24 = .ok (.iaload, 1) := by decide +kernel
theorem d_Mod_isForm_25 : decode b_Mod_isForm 25 = .ok (.iload_n 2, 1) := by decide +kernel
theorem d_Mod_isForm_26 : decode b_Mod_isForm 26 = .ok (.if_icmp .ne 7, 3) := by decide +kernel
theorem d_Mod_isForm_29 : decode b_Mod_isForm 29 = .ok (.iconst 1, 1) := by decide +kernel
theorem d_Mod_isForm_30 : decode b_Mod_isForm 30 = .ok (.goto 4, 3) := by decide +kernel
theorem d_Mod_isForm_33 : decode b_Mod_isForm 33 = .ok (.iconst 0, 1) := by decide +kernel
theorem d_Mod_isForm_34 : decode b_Mod_isForm 34 = .ok (.ireturn, 1) := by decide +kernel
def f_Mod_isForm (R_valueKinds : Int → Int) (R_from : Int → Int) (R_forms : Int → Int) (R_of : Int → Int) (p1 : Int) (p2 : Int) : Option (Int) :=
  Option.bind (f_Mod_isKind R_valueKinds R_of p1 4) (fun r1 =>
   if rI r1 = true then (if r1 = 0 then (
    some 0) else (
    if jix p1 3 = true then (
     if jix (R_of p1) 3700 = true then (
      if jix (R_from (R_of p1)) 5000 = true then (
       if jr2 (R_forms (R_from (R_of p1))) p2 = true then (if (R_forms (R_from (R_of p1))) = p2 then (
        some 1) else (
        some 0)) else none) else none) else none) else none)) else none)
set_option maxHeartbeats 4000000 in
set_option maxRecDepth 100000 in
theorem c_Mod_isForm {l : Launch} {D : va_G} {cI cL cB : ClassId} {ad : Nat → Nat} {R_thrown : Int} {R_used : Int} {R_many : Int} {R_values : Int} {R_textEnd : Int} {R_dataEnd : Int} {R_rowEnd : Int} {R_rowMany : Int} {R_waiting : Int} {R_mostWaiting : Int} {R_answer : Int} {R_steps : Int} {R_memory : Int} {R_maxSteps : Int} {R_maxMemory : Int} {R_fault : Int} {R_result : Int} {R_now : Int} {R_nowRow : Int} {R_come : Int} {R_puts : Int} {R_valueKinds : Int → Int} {R_from : Int → Int} {R_forms : Int → Int} {R_of : Int → Int} {p1 : Int} {p2 : Int} {out : Int} (h : f_Mod_isForm R_valueKinds R_from R_forms R_of p1 p2 = some out) : CT jF0 true l D [(cI, .int), (cL, .long), (cB, .byte)] y_Mod_isForm w_Mod_isForm ({ frames := 1, cells := 0, slots := 0, locals := 22 } : Room) [.ref (ad 0), .int (zI p1), .int (zI p2)] [(ad 0, .inr (10, [.int (zI R_thrown), .ref (ad 1), .ref (ad 2), .ref (ad 3), .ref (ad 4), .ref (ad 5), .ref (ad 6), .int (zI R_used), .ref (ad 7), .int (zI R_many), .ref (ad 8), .ref (ad 9), .ref (ad 10), .ref (ad 11), .ref (ad 12), .ref (ad 13), .ref (ad 14), .ref (ad 15), .ref (ad 16), .int (zI R_values), .ref (ad 17), .int (zI R_textEnd), .ref (ad 18), .ref (ad 19), .ref (ad 20), .ref (ad 21), .int (zI R_dataEnd), .ref (ad 22), .int (zI R_rowEnd), .ref (ad 23), .ref (ad 24), .int (zI R_rowMany), .ref (ad 25), .ref (ad 26), .ref (ad 27), .ref (ad 28), .int (zI R_waiting), .int (zI R_mostWaiting), .int (zI R_answer), .int (zI R_steps), .int (zI R_memory), .int (zI R_maxSteps), .int (zI R_maxMemory), .int (zI R_fault), .int (zI R_result), .int (zI R_now), .int (zI R_nowRow), .int (zI R_come), .ref (ad 29), .ref (ad 30), .int (zI R_puts), .ref (ad 31)])), (ad 8, .inl (cI, 3700, .inl (zA R_valueKinds))), (ad 10, .inl (cI, 3700, .inl (zA R_from))), (ad 18, .inl (cI, 5000, .inl (zA R_forms))), (ad 29, .inl (cI, 3, .inl (zA R_of)))] (some (.int (zI out))) [(ad 0, .inr (10, [.int (zI R_thrown), .ref (ad 1), .ref (ad 2), .ref (ad 3), .ref (ad 4), .ref (ad 5), .ref (ad 6), .int (zI R_used), .ref (ad 7), .int (zI R_many), .ref (ad 8), .ref (ad 9), .ref (ad 10), .ref (ad 11), .ref (ad 12), .ref (ad 13), .ref (ad 14), .ref (ad 15), .ref (ad 16), .int (zI R_values), .ref (ad 17), .int (zI R_textEnd), .ref (ad 18), .ref (ad 19), .ref (ad 20), .ref (ad 21), .int (zI R_dataEnd), .ref (ad 22), .int (zI R_rowEnd), .ref (ad 23), .ref (ad 24), .int (zI R_rowMany), .ref (ad 25), .ref (ad 26), .ref (ad 27), .ref (ad 28), .int (zI R_waiting), .int (zI R_mostWaiting), .int (zI R_answer), .int (zI R_steps), .int (zI R_memory), .int (zI R_maxSteps), .int (zI R_maxMemory), .int (zI R_fault), .int (zI R_result), .int (zI R_now), .int (zI R_nowRow), .int (zI R_come), .ref (ad 29), .ref (ad 30), .int (zI R_puts), .ref (ad 31)])), (ad 8, .inl (cI, 3700, .inl (zA R_valueKinds))), (ad 10, .inl (cI, 3700, .inl (zA R_from))), (ad 18, .inl (cI, 5000, .inl (zA R_forms))), (ad 29, .inl (cI, 3, .inl (zA R_of)))] 0 0 := by
  refine CT_of_J (cc := b_Mod_isForm) (maxL := 3) (ret := (some .boolean)) jF0_k (plainFor_of_name (by decide)) rfl (Nat.le_of_ble_eq_true rfl) ?_
  intro K hKl hKD X E
  subst hKl; subst hKD
  unfold f_Mod_isForm at h
  refine J_aload_n X d_Mod_isForm_0 rfl 0 rfl ?_
  refine J_iload_n X d_Mod_isForm_1 rfl 1 rfl ?_
  refine J_iconst X d_Mod_isForm_2 ?_
  obtain ⟨r1, q2, h⟩ := wk_b h
  refine J_afterP (jrunV X (c_Mod_isKind (ad := ad) q2) jF0_k (fun _ _ _ _ => trivial) (jgV own_Mod_isForm (by decide +kernel)) rfl rfl rfl pd_Mod_isKind (by decide) [0, 1, 4] rfl (by decide) 0 10 rfl rfl rfl rfl (Nat.le_of_ble_eq_true rfl) d_Mod_isForm_3 (by decide)) ?_
  refine J_if_eq (tgt := 33) X d_Mod_isForm_6 (by decide) h (fun c3 h => ?_) (fun c3 h => ?_)
  · refine J_iconst X d_Mod_isForm_33 ?_
    cases h
    exact J_ret E ⟨_, rfl, j_bool (Or.inl rfl)⟩ d_Mod_isForm_34 (Nat.le_refl _) (Nat.le_refl _) rfl
  · refine J_aload_n X d_Mod_isForm_9 rfl 0 rfl ?_
    refine J_get X (j_in in_Mod) 0 rfl rfl 22 (by decide) (j_m own_Mod_isForm (by decide +kernel)) rfl d_Mod_isForm_10 ?_
    refine J_aload_n X d_Mod_isForm_13 rfl 0 rfl ?_
    refine J_get X (j_in in_Mod) 0 rfl rfl 12 (by decide) (j_m own_Mod_isForm (by decide +kernel)) rfl d_Mod_isForm_14 ?_
    refine J_aload_n X d_Mod_isForm_17 rfl 0 rfl ?_
    refine J_get X (j_in in_Mod) 0 rfl rfl 48 (by decide) (j_m own_Mod_isForm (by decide +kernel)) rfl d_Mod_isForm_18 ?_
    refine J_iload_n X d_Mod_isForm_21 rfl 1 rfl ?_
    obtain ⟨g4, h⟩ := wk_g h
    refine J_iald X 4 0 rfl rfl g4 d_Mod_isForm_22 ?_
    obtain ⟨g5, h⟩ := wk_g h
    refine J_iald X 2 0 rfl rfl g5 d_Mod_isForm_23 ?_
    obtain ⟨g6, h⟩ := wk_g h
    refine J_iald X 3 0 rfl rfl g6 d_Mod_isForm_24 ?_
    refine J_iload_n X d_Mod_isForm_25 rfl 2 rfl ?_
    refine J_icmp_ne (tgt := 33) X d_Mod_isForm_26 (by decide) h (fun c7 h => ?_) (fun c7 h => ?_)
    · refine J_iconst X d_Mod_isForm_33 ?_
      cases h
      exact J_ret E ⟨_, rfl, j_bool (Or.inl rfl)⟩ d_Mod_isForm_34 (Nat.le_refl _) (Nat.le_refl _) rfl
    · refine J_iconst X d_Mod_isForm_29 ?_
      refine J_goto (tgt := 34) X d_Mod_isForm_30 (by decide) ?_
      cases h
      exact J_ret E ⟨_, rfl, j_bool (Or.inr rfl)⟩ d_Mod_isForm_34 (Nat.le_refl _) (Nat.le_refl _) rfl

