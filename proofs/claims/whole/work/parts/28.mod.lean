theorem d_Mod_constant_0 : decode b_Mod_constant 0 = .ok (.iconst (-1), 1) := by decide +kernel
theorem d_Mod_constant_1 : decode b_Mod_constant 1 = .ok (.istore_n 2, 1) := by decide +kernel
theorem d_Mod_constant_2 : decode b_Mod_constant 2 = .ok (.aload_n 0, 1) := by decide +kernel
theorem d_Mod_constant_3 : decode b_Mod_constant 3 = .ok (.getfield 7, 3) := by decide +kernel
theorem d_Mod_constant_6 : decode b_Mod_constant 6 = .ok (.iload_n 1, 1) := by decide +kernel
theorem d_Mod_constant_7 : decode b_Mod_constant 7 = .ok (.iaload, 1) := by decide +kernel
theorem d_Mod_constant_8 : decode b_Mod_constant 8 = .ok (.tableswitch 150 7 11 #[36, 51, 103, 118, 128], 36) := by decide +kernel
theorem d_Mod_constant_44 : decode b_Mod_constant 44 = .ok (.aload_n 0, 1) := by decide +kernel
theorem d_Mod_constant_45 : decode b_Mod_constant 45 = .ok (.iconst 0, 1) := by decide +kernel
theorem d_Mod_constant_46 : decode b_Mod_constant 46 = .ok (.aload_n 0, 1) := by decide +kernel
theorem d_Mod_constant_47 : decode b_Mod_constant 47 = .ok (.getfield 13, 3) := by decide +kernel
theorem d_Mod_constant_50 : decode b_Mod_constant 50 = .ok (.iload_n 1, 1) := by decide +kernel
theorem d_Mod_constant_51 : decode b_Mod_constant 51 = .ok (.laload, 1) := by decide +kernel
theorem d_Mod_constant_52 : decode b_Mod_constant 52 = .ok (.invokevirtual 141, 3) := by decide +kernel
theorem d_Mod_constant_55 : decode b_Mod_constant 55 = .ok (.istore_n 2, 1) := by decide +kernel
theorem d_Mod_constant_56 : decode b_Mod_constant 56 = .ok (.goto 102, 3) := by decide +kernel
theorem d_Mod_constant_59 : decode b_Mod_constant 59 = .ok (.aload_n 0, 1) := by decide +kernel
theorem d_Mod_constant_60 : decode b_Mod_constant 60 = .ok (.iconst 0, 1) := by decide +kernel
theorem d_Mod_constant_61 : decode b_Mod_constant 61 = .ok (.putfield 148, 3) := by decide +kernel
theorem d_Mod_constant_64 : decode b_Mod_constant 64 = .ok (.iconst 0, 1) := by decide +kernel
theorem d_Mod_constant_65 : decode b_Mod_constant 65 = .ok (.istore_n 3, 1) := by decide +kernel
theorem d_Mod_constant_66 : decode b_Mod_constant 66 = .ok (.iload_n 3, 1) := by decide +kernel
theorem d_Mod_constant_67 : decode b_Mod_constant 67 = .ok (.i2l, 1) := by decide +kernel
theorem d_Mod_constant_68 : decode b_Mod_constant 68 = .ok (.aload_n 0, 1) := by decide +kernel
theorem d_Mod_constant_69 : decode b_Mod_constant 69 = .ok (.getfield 13, 3) := by decide +kernel
theorem d_Mod_constant_72 : decode b_Mod_constant 72 = .ok (.iload_n 1, 1) := by decide +kernel
theorem d_Mod_constant_73 : decode b_Mod_constant 73 = .ok (.laload, 1) := by decide +kernel
theorem d_Mod_constant_74 : decode b_Mod_constant 74 = .ok (.lcmp, 1) := by decide +kernel
theorem d_Mod_constant_75 : decode b_Mod_constant 75 = .ok (.ifCond .ge 24, 3) := by decide +kernel
theorem d_Mod_constant_78 : decode b_Mod_constant 78 = .ok (.aload_n 0, 1) := by decide +kernel
theorem d_Mod_constant_79 : decode b_Mod_constant 79 = .ok (.aload_n 0, 1) := by decide +kernel
theorem d_Mod_constant_80 : decode b_Mod_constant 80 = .ok (.getfield 26, 3) := by decide +kernel
theorem d_Mod_constant_83 : decode b_Mod_constant 83 = .ok (.bipush 64, 2) := by decide +kernel
theorem d_Mod_constant_85 : decode b_Mod_constant 85 = .ok (.iload_n 1, 1) := by decide +kernel
theorem d_Mod_constant_86 : decode b_Mod_constant 86 = .ok (.imul, 1) := by decide +kernel
theorem d_Mod_constant_87 : decode b_Mod_constant 87 = .ok (.iload_n 3, 1) := by decide +kernel
theorem d_Mod_constant_88 : decode b_Mod_constant 88 = .ok (.iadd, 1) := by decide +kernel
theorem d_Mod_constant_89 : decode b_Mod_constant 89 = .ok (.baload, 1) := by decide +kernel
theorem d_Mod_constant_90 : decode b_Mod_constant 90 = .ok (.invokevirtual 197, 3) := by decide +kernel
theorem d_Mod_constant_93 : decode b_Mod_constant 93 = .ok (.iinc 3 1, 3) := by decide +kernel
theorem d_Mod_constant_96 : decode b_Mod_constant 96 = .ok (.goto (-30), 3) := by decide +kernel
theorem d_Mod_constant_99 : decode b_Mod_constant 99 = .ok (.aload_n 0, 1) := by decide +kernel
theorem d_Mod_constant_100 : decode b_Mod_constant 100 = .ok (.aload_n 0, 1) := by decide +kernel
theorem d_Mod_constant_101 : decode b_Mod_constant 101 = .ok (.getfield 148, 3) := by decide +kernel
theorem d_Mod_constant_104 : decode b_Mod_constant 104 = .ok (.invokevirtual 201, 3) := by decide +kernel
theorem d_Mod_constant_107 : decode b_Mod_constant 107 = .ok (.istore_n 2, 1) := by decide +kernel
theorem d_Mod_constant_108 : decode b_Mod_constant 108 = .ok (.goto 50, 3) := by decide +kernel
theorem d_Mod_constant_111 : decode b_Mod_constant 111 = .ok (.aload_n 0, 1) := by decide +kernel
theorem d_Mod_constant_112 : decode b_Mod_constant 112 = .ok (.iconst 2, 1) := by decide +kernel
theorem d_Mod_constant_113 : decode b_Mod_constant 113 = .ok (.aload_n 0, 1) := by decide +kernel
theorem d_Mod_constant_114 : decode b_Mod_constant 114 = .ok (.getfield 13, 3) := by decide +kernel
theorem d_Mod_constant_117 : decode b_Mod_constant 117 = .ok (.iload_n 1, 1) := by decide +kernel
theorem d_Mod_constant_118 : decode b_Mod_constant 118 = .ok (.laload, 1) := by decide +kernel
theorem d_Mod_constant_119 : decode b_Mod_constant 119 = .ok (.invokevirtual 141, 3) := by decide +kernel
theorem d_Mod_constant_122 : decode b_Mod_constant 122 = .ok (.istore_n 2, 1) := by decide +kernel
theorem d_Mod_constant_123 : decode b_Mod_constant 123 = .ok (.goto 35, 3) := by decide +kernel
theorem d_Mod_constant_126 : decode b_Mod_constant 126 = .ok (.aload_n 0, 1) := by decide +kernel
theorem d_Mod_constant_127 : decode b_Mod_constant 127 = .ok (.iconst 3, 1) := by decide +kernel
theorem d_Mod_constant_128 : decode b_Mod_constant 128 = .ok (.lconst 0, 1) := by decide +kernel
theorem d_Mod_constant_129 : decode b_Mod_constant 129 = .ok (.invokevirtual 141, 3) := by decide +kernel
theorem d_Mod_constant_132 : decode b_Mod_constant 132 = .ok (.istore_n 2, 1) := by decide +kernel
theorem d_Mod_constant_133 : decode b_Mod_constant 133 = .ok (.goto 25, 3) := by decide +kernel
theorem d_Mod_constant_136 : decode b_Mod_constant 136 = .ok (.aload_n 0, 1) := by decide +kernel
theorem d_Mod_constant_137 : decode b_Mod_constant 137 = .ok (.iconst 2, 1) := by decide +kernel
theorem d_Mod_constant_138 : decode b_Mod_constant 138 = .ok (.lconst 0, 1) := by decide +kernel
theorem d_Mod_constant_139 : decode b_Mod_constant 139 = .ok (.iconst 0, 1) := by decide +kernel
theorem d_Mod_constant_140 : decode b_Mod_constant 140 = .ok (.iconst 0, 1) := by decide +kernel
theorem d_Mod_constant_141 : decode b_Mod_constant 141 = .ok (.invokevirtual 154, 3) := by decide +kernel
theorem d_Mod_constant_144 : decode b_Mod_constant 144 = .ok (.aload_n 0, 1) := by decide +kernel
theorem d_Mod_constant_145 : decode b_Mod_constant 145 = .ok (.aload_n 0, 1) := by decide +kernel
theorem d_Mod_constant_146 : decode b_Mod_constant 146 = .ok (.getfield 151, 3) := by decide +kernel
theorem d_Mod_constant_149 : decode b_Mod_constant 149 = .ok (.iconst 1, 1) := by decide +kernel
theorem d_Mod_constant_150 : decode b_Mod_constant 150 = .ok (.isub, 1) := by decide +kernel
theorem d_Mod_constant_151 : decode b_Mod_constant 151 = .ok (.invokevirtual 211, 3) := by decide +kernel
theorem d_Mod_constant_154 : decode b_Mod_constant 154 = .ok (.istore_n 2, 1) := by decide +kernel
theorem d_Mod_constant_155 : decode b_Mod_constant 155 = .ok (.goto 3, 3) := by decide +kernel
theorem d_Mod_constant_158 : decode b_Mod_constant 158 = .ok (.aload_n 0, 1) := by decide +kernel
theorem d_Mod_constant_159 : decode b_Mod_constant 159 = .ok (.getfield 86, 3) := by decide +kernel
theorem d_Mod_constant_162 : decode b_Mod_constant 162 = .ok (.iload_n 1, 1) := by decide +kernel
theorem d_Mod_constant_163 : decode b_Mod_constant 163 = .ok (.iload_n 2, 1) := by decide +kernel
theorem d_Mod_constant_164 : decode b_Mod_constant 164 = .ok (.iastore, 1) := by decide +kernel
theorem d_Mod_constant_165 : decode b_Mod_constant 165 = .ok (.return_, 1) := by decide +kernel
def f_Mod_constant_L66 (R_textEnd : Int) (R_numbers : Int → Int) (R_nodeTexts : Int → Int) (x1 : Int) (x2 : Int) : Nat → Int → Int → (Int → Int) → Option (Int × Int × (Int → Int))
  | 0, _, _, _ => none
  | n + 1, x3, R_puts, R_texts =>
    if rI x3 = true then (
     if jix x1 200 = true then (
      if jl2 x3 (R_numbers x1) = true then (if (R_numbers x1) ≤ x3 then (
       some (x3, R_puts, R_texts)) else (
       if jix ((64 * x1) + x3) 12800 = true then (
        ob2 (f_Mod_putText R_textEnd R_puts R_texts (R_nodeTexts ((64 * x1) + x3))) (fun R_puts_65 R_texts_66 =>
         f_Mod_constant_L66 R_textEnd R_numbers R_nodeTexts x1 x2 n (x3 + 1) R_puts_65 R_texts_66)) else none)) else none) else none) else none
def f_Mod_constant (N : Nat) (R_values : Int) (R_textEnd : Int) (R_dataEnd : Int) (R_puts : Int) (R_kinds : Int → Int) (R_numbers : Int → Int) (R_nodeTexts : Int → Int) (R_valueKinds : Int → Int) (R_valueNumbers : Int → Int) (R_from : Int → Int) (R_length : Int → Int) (R_given : Int → Int) (R_texts : Int → Int) (R_forms : Int → Int) (R_tags : Int → Int) (R_counts : Int → Int) (R_textsAt : Int → Int) (R_constants : Int → Int) (p1 : Int) : Option (Int × Int × Int × Int × (Int → Int) × (Int → Int) × (Int → Int) × (Int → Int) × (Int → Int) × (Int → Int) × (Int → Int) × (Int → Int) × (Int → Int) × (Int → Int) × (Int → Int)) :=
  if jix p1 200 = true then (
   if rI (R_kinds p1) = true then (
    if (R_kinds p1) = 7 then (
     if jix p1 200 = true then (
      ob5 (f_Mod_make R_values R_valueKinds R_valueNumbers R_given 0 (R_numbers p1)) (fun r5 R_values_6 R_valueKinds_7 R_valueNumbers_8 R_given_9 =>
       if jix p1 200 = true then (
        some (R_values_6, R_textEnd, R_dataEnd, R_puts, R_valueKinds_7, R_valueNumbers_8, R_from, R_length, R_given_9, R_texts, R_forms, R_tags, R_counts, R_textsAt, (upZ R_constants p1 r5))) else none)) else none) else (
     if (R_kinds p1) = 8 then (
      ob3 (f_Mod_constant_L66 R_textEnd R_numbers R_nodeTexts p1 (-1) N 0 0 R_texts) (fun x3_13 R_puts_14 R_texts_15 =>
       ob8 (f_Mod_makeBytes R_values R_textEnd R_valueKinds R_valueNumbers R_from R_length R_given R_puts_14) (fun r17 R_values_18 R_textEnd_19 R_valueKinds_20 R_valueNumbers_21 R_from_22 R_length_23 R_given_24 =>
        if jix p1 200 = true then (
         some (R_values_18, R_textEnd_19, R_dataEnd, R_puts_14, R_valueKinds_20, R_valueNumbers_21, R_from_22, R_length_23, R_given_24, R_texts_15, R_forms, R_tags, R_counts, R_textsAt, (upZ R_constants p1 r17))) else none))) else (
      if (R_kinds p1) = 9 then (
       if jix p1 200 = true then (
        ob5 (f_Mod_make R_values R_valueKinds R_valueNumbers R_given 2 (R_numbers p1)) (fun r29 R_values_30 R_valueKinds_31 R_valueNumbers_32 R_given_33 =>
         if jix p1 200 = true then (
          some (R_values_30, R_textEnd, R_dataEnd, R_puts, R_valueKinds_31, R_valueNumbers_32, R_from, R_length, R_given_33, R_texts, R_forms, R_tags, R_counts, R_textsAt, (upZ R_constants p1 r29))) else none)) else none) else (
       if (R_kinds p1) = 10 then (
        ob5 (f_Mod_make R_values R_valueKinds R_valueNumbers R_given 3 0) (fun r37 R_values_38 R_valueKinds_39 R_valueNumbers_40 R_given_41 =>
         if jix p1 200 = true then (
          some (R_values_38, R_textEnd, R_dataEnd, R_puts, R_valueKinds_39, R_valueNumbers_40, R_from, R_length, R_given_41, R_texts, R_forms, R_tags, R_counts, R_textsAt, (upZ R_constants p1 r37))) else none)) else (
        if (R_kinds p1) = 11 then (
         ob5 (f_Mod_putData R_dataEnd R_forms R_tags R_counts R_textsAt 2 0 0 0) (fun R_dataEnd_45 R_forms_46 R_tags_47 R_counts_48 R_textsAt_49 =>
          ob7 (f_Mod_makeData R_values R_dataEnd_45 R_valueKinds R_valueNumbers R_from R_length R_given (R_dataEnd_45 - 1)) (fun r51 R_values_52 R_valueKinds_53 R_valueNumbers_54 R_from_55 R_length_56 R_given_57 =>
           if jix p1 200 = true then (
            some (R_values_52, R_textEnd, R_dataEnd_45, R_puts, R_valueKinds_53, R_valueNumbers_54, R_from_55, R_length_56, R_given_57, R_texts, R_forms_46, R_tags_47, R_counts_48, R_textsAt_49, (upZ R_constants p1 r51))) else none))) else (
         if jix p1 200 = true then (
          some (R_values, R_textEnd, R_dataEnd, R_puts, R_valueKinds, R_valueNumbers, R_from, R_length, R_given, R_texts, R_forms, R_tags, R_counts, R_textsAt, (upZ R_constants p1 (-1)))) else none)))))) else none) else none
set_option maxHeartbeats 4000000 in
set_option maxRecDepth 100000 in
theorem k_Mod_constant_L66 {K : jK} {cI cL cB : ClassId} {ad : Nat → Nat} {R_textEnd : Int} {R_numbers : Int → Int} {R_nodeTexts : Int → Int} {x1 : Int} {x2 : Int} {R_thrown : Int} {R_used : Int} {R_many : Int} {R_values : Int} {R_dataEnd : Int} {R_rowEnd : Int} {R_rowMany : Int} {R_waiting : Int} {R_mostWaiting : Int} {R_answer : Int} {R_steps : Int} {R_memory : Int} {R_maxSteps : Int} {R_maxMemory : Int} {R_fault : Int} {R_result : Int} {R_now : Int} {R_nowRow : Int} {R_come : Int} {R_kinds : Int → Int} {R_valueKinds : Int → Int} {R_valueNumbers : Int → Int} {R_from : Int → Int} {R_length : Int → Int} {R_given : Int → Int} {R_forms : Int → Int} {R_tags : Int → Int} {R_counts : Int → Int} {R_textsAt : Int → Int} {R_constants : Int → Int} {out : Int × Int × (Int → Int)} (X : jX jF0 K 4 b_Mod_constant w_Mod_constant R_Mod [(cI, .int), (cL, .long), (cB, .byte)]) : ∀ (n : Nat) (x3 : Int) (R_puts : Int) (R_texts : (Int → Int)), f_Mod_constant_L66 R_textEnd R_numbers R_nodeTexts x1 x2 n x3 R_puts R_texts = some out → J K 4 ({ frames := 2, cells := 0, slots := 0, locals := 45 } : Room) false 0 0 [(ad 0, .inr (10, [.int (zI R_thrown), .ref (ad 1), .ref (ad 2), .ref (ad 3), .ref (ad 4), .ref (ad 5), .ref (ad 6), .int (zI R_used), .ref (ad 7), .int (zI R_many), .ref (ad 8), .ref (ad 9), .ref (ad 10), .ref (ad 11), .ref (ad 12), .ref (ad 13), .ref (ad 14), .ref (ad 15), .ref (ad 16), .int (zI R_values), .ref (ad 17), .int (zI R_textEnd), .ref (ad 18), .ref (ad 19), .ref (ad 20), .ref (ad 21), .int (zI R_dataEnd), .ref (ad 22), .int (zI R_rowEnd), .ref (ad 23), .ref (ad 24), .int (zI R_rowMany), .ref (ad 25), .ref (ad 26), .ref (ad 27), .ref (ad 28), .int (zI R_waiting), .int (zI R_mostWaiting), .int (zI R_answer), .int (zI R_steps), .int (zI R_memory), .int (zI R_maxSteps), .int (zI R_maxMemory), .int (zI R_fault), .int (zI R_result), .int (zI R_now), .int (zI R_nowRow), .int (zI R_come), .ref (ad 29), .ref (ad 30), .int (zI (out.2.1)), .ref (ad 31)])), (ad 1, .inl (cI, 200, .inl (zA R_kinds))), (ad 2, .inl (cL, 200, .inr (.inl (zB R_numbers)))), (ad 6, .inl (cB, 12800, .inl (zA R_nodeTexts))), (ad 8, .inl (cI, 3700, .inl (zA R_valueKinds))), (ad 9, .inl (cL, 3700, .inr (.inl (zB R_valueNumbers)))), (ad 10, .inl (cI, 3700, .inl (zA R_from))), (ad 11, .inl (cI, 3700, .inl (zA R_length))), (ad 14, .inl (cI, 3700, .inl (zA R_given))), (ad 17, .inl (cB, 70000, .inl (zA (out.2.2)))), (ad 18, .inl (cI, 5000, .inl (zA R_forms))), (ad 19, .inl (cL, 5000, .inr (.inl (zB R_tags)))), (ad 20, .inl (cI, 5000, .inl (zA R_counts))), (ad 21, .inl (cI, 5000, .inl (zA R_textsAt))), (ad 25, .inl (cI, 200, .inl (zA R_constants)))] [(0, .ref (ad 0)), (1, .int (zI x1)), (2, .int (zI x2)), (3, .int (zI (out.1)))] [] 99 → J K 4 ({ frames := 2, cells := 0, slots := 0, locals := 45 } : Room) false 0 0 [(ad 0, .inr (10, [.int (zI R_thrown), .ref (ad 1), .ref (ad 2), .ref (ad 3), .ref (ad 4), .ref (ad 5), .ref (ad 6), .int (zI R_used), .ref (ad 7), .int (zI R_many), .ref (ad 8), .ref (ad 9), .ref (ad 10), .ref (ad 11), .ref (ad 12), .ref (ad 13), .ref (ad 14), .ref (ad 15), .ref (ad 16), .int (zI R_values), .ref (ad 17), .int (zI R_textEnd), .ref (ad 18), .ref (ad 19), .ref (ad 20), .ref (ad 21), .int (zI R_dataEnd), .ref (ad 22), .int (zI R_rowEnd), .ref (ad 23), .ref (ad 24), .int (zI R_rowMany), .ref (ad 25), .ref (ad 26), .ref (ad 27), .ref (ad 28), .int (zI R_waiting), .int (zI R_mostWaiting), .int (zI R_answer), .int (zI R_steps), .int (zI R_memory), .int (zI R_maxSteps), .int (zI R_maxMemory), .int (zI R_fault), .int (zI R_result), .int (zI R_now), .int (zI R_nowRow), .int (zI R_come), .ref (ad 29), .ref (ad 30), .int (zI R_puts), .ref (ad 31)])), (ad 1, .inl (cI, 200, .inl (zA R_kinds))), (ad 2, .inl (cL, 200, .inr (.inl (zB R_numbers)))), (ad 6, .inl (cB, 12800, .inl (zA R_nodeTexts))), (ad 8, .inl (cI, 3700, .inl (zA R_valueKinds))), (ad 9, .inl (cL, 3700, .inr (.inl (zB R_valueNumbers)))), (ad 10, .inl (cI, 3700, .inl (zA R_from))), (ad 11, .inl (cI, 3700, .inl (zA R_length))), (ad 14, .inl (cI, 3700, .inl (zA R_given))), (ad 17, .inl (cB, 70000, .inl (zA R_texts))), (ad 18, .inl (cI, 5000, .inl (zA R_forms))), (ad 19, .inl (cL, 5000, .inr (.inl (zB R_tags)))), (ad 20, .inl (cI, 5000, .inl (zA R_counts))), (ad 21, .inl (cI, 5000, .inl (zA R_textsAt))), (ad 25, .inl (cI, 200, .inl (zA R_constants)))] [(0, .ref (ad 0)), (1, .int (zI x1)), (2, .int (zI x2)), (3, .int (zI x3))] [] 66 := by
  intro n
  induction n with
  | zero =>
    intro x3 R_puts R_texts h hk
    cases h
  | succ n ih =>
    intro x3 R_puts R_texts h hk
    unfold f_Mod_constant_L66 at h
    refine J_iload_n X d_Mod_constant_66 rfl 3 rfl ?_
    obtain ⟨g61, h⟩ := wk_g h
    refine J_i2l X g61 d_Mod_constant_67 ?_
    refine J_aload_n X d_Mod_constant_68 rfl 0 rfl ?_
    refine J_get X (j_in in_Mod) 0 rfl rfl 2 (by decide) (j_m own_Mod_constant (by decide +kernel)) rfl d_Mod_constant_69 ?_
    refine J_iload_n X d_Mod_constant_72 rfl 1 rfl ?_
    obtain ⟨g62, h⟩ := wk_g h
    refine J_lald X 2 1 rfl rfl g62 d_Mod_constant_73 ?_
    refine J_lc_ge (tgt := 99) X d_Mod_constant_74 d_Mod_constant_75 (by decide) h (fun c63 h => ?_) (fun c63 h => ?_)
    · cases h
      refine J_lv (lv' := [(0, .ref (ad 0)), (1, .int (zI x1)), (2, .int (zI x2)), (3, .int (zI x3))]) [0, 1, 2, 3] rfl ?_
      exact hk
    · refine J_aload_n X d_Mod_constant_78 rfl 0 rfl ?_
      refine J_aload_n X d_Mod_constant_79 rfl 0 rfl ?_
      refine J_get X (j_in in_Mod) 0 rfl rfl 6 (by decide) (j_m own_Mod_constant (by decide +kernel)) rfl d_Mod_constant_80 ?_
      refine J_bipush X d_Mod_constant_83 (by decide) ?_
      refine J_iload_n X d_Mod_constant_85 rfl 1 rfl ?_
      refine J_imul X d_Mod_constant_86 ?_
      refine J_iload_n X d_Mod_constant_87 rfl 3 rfl ?_
      refine J_iadd X d_Mod_constant_88 ?_
      obtain ⟨g64, h⟩ := wk_g h
      refine J_bald X 3 2 rfl rfl g64 d_Mod_constant_89 ?_
      obtain ⟨R_puts_65, R_texts_66, q67, h⟩ := wk_b2 h
      refine J_afterI0 (ws' := [(ad 0, .inr (10, [.int (zI R_thrown), .ref (ad 1), .ref (ad 2), .ref (ad 3), .ref (ad 4), .ref (ad 5), .ref (ad 6), .int (zI R_used), .ref (ad 7), .int (zI R_many), .ref (ad 8), .ref (ad 9), .ref (ad 10), .ref (ad 11), .ref (ad 12), .ref (ad 13), .ref (ad 14), .ref (ad 15), .ref (ad 16), .int (zI R_values), .ref (ad 17), .int (zI R_textEnd), .ref (ad 18), .ref (ad 19), .ref (ad 20), .ref (ad 21), .int (zI R_dataEnd), .ref (ad 22), .int (zI R_rowEnd), .ref (ad 23), .ref (ad 24), .int (zI R_rowMany), .ref (ad 25), .ref (ad 26), .ref (ad 27), .ref (ad 28), .int (zI R_waiting), .int (zI R_mostWaiting), .int (zI R_answer), .int (zI R_steps), .int (zI R_memory), .int (zI R_maxSteps), .int (zI R_maxMemory), .int (zI R_fault), .int (zI R_result), .int (zI R_now), .int (zI R_nowRow), .int (zI R_come), .ref (ad 29), .ref (ad 30), .int (zI R_puts_65), .ref (ad 31)])), (ad 1, .inl (cI, 200, .inl (zA R_kinds))), (ad 2, .inl (cL, 200, .inr (.inl (zB R_numbers)))), (ad 6, .inl (cB, 12800, .inl (zA R_nodeTexts))), (ad 8, .inl (cI, 3700, .inl (zA R_valueKinds))), (ad 9, .inl (cL, 3700, .inr (.inl (zB R_valueNumbers)))), (ad 10, .inl (cI, 3700, .inl (zA R_from))), (ad 11, .inl (cI, 3700, .inl (zA R_length))), (ad 14, .inl (cI, 3700, .inl (zA R_given))), (ad 17, .inl (cB, 70000, .inl (zA R_texts_66))), (ad 18, .inl (cI, 5000, .inl (zA R_forms))), (ad 19, .inl (cL, 5000, .inr (.inl (zB R_tags)))), (ad 20, .inl (cI, 5000, .inl (zA R_counts))), (ad 21, .inl (cI, 5000, .inl (zA R_textsAt))), (ad 25, .inl (cI, 200, .inl (zA R_constants)))]) X (jrunV X (c_Mod_putText (ad := ad) q67) jF0_k (fun _ _ _ _ => trivial) (jgV own_Mod_constant (by decide +kernel)) rfl rfl rfl pd_Mod_putText (by decide) [0, 9] rfl (by decide) 0 10 rfl rfl rfl rfl (Nat.le_of_ble_eq_true rfl) d_Mod_constant_90 (by decide)) [0, 9] [1, 2, 3, 4, 5, 6, 7, 8, 10, 11, 12, 13, 14] [13, 0, 1, 2, 3, 4, 5, 6, 7, 14, 8, 9, 10, 11, 12] rfl rfl (by decide) (by decide) rfl (by decide) ?_
      refine J_iinc (lv' := [(3, .int (zI (x3 + 1))), (0, .ref (ad 0)), (1, .int (zI x1)), (2, .int (zI x2))]) X d_Mod_constant_93 3 rfl (by decide) rfl ?_
      refine J_goto (tgt := 66) X d_Mod_constant_96 (by decide) ?_
      refine J_lv (lv' := [(0, .ref (ad 0)), (1, .int (zI x1)), (2, .int (zI x2)), (3, .int (zI (x3 + 1)))]) [1, 2, 3, 0] rfl ?_
      exact ih _ _ _ h hk
set_option maxHeartbeats 4000000 in
set_option maxRecDepth 100000 in
theorem c_Mod_constant {l : Launch} {D : va_G} {cI cL cB : ClassId} {ad : Nat → Nat} {N : Nat} {R_thrown : Int} {R_used : Int} {R_many : Int} {R_values : Int} {R_textEnd : Int} {R_dataEnd : Int} {R_rowEnd : Int} {R_rowMany : Int} {R_waiting : Int} {R_mostWaiting : Int} {R_answer : Int} {R_steps : Int} {R_memory : Int} {R_maxSteps : Int} {R_maxMemory : Int} {R_fault : Int} {R_result : Int} {R_now : Int} {R_nowRow : Int} {R_come : Int} {R_puts : Int} {R_kinds : Int → Int} {R_numbers : Int → Int} {R_nodeTexts : Int → Int} {R_valueKinds : Int → Int} {R_valueNumbers : Int → Int} {R_from : Int → Int} {R_length : Int → Int} {R_given : Int → Int} {R_texts : Int → Int} {R_forms : Int → Int} {R_tags : Int → Int} {R_counts : Int → Int} {R_textsAt : Int → Int} {R_constants : Int → Int} {p1 : Int} {out : Int × Int × Int × Int × (Int → Int) × (Int → Int) × (Int → Int) × (Int → Int) × (Int → Int) × (Int → Int) × (Int → Int) × (Int → Int) × (Int → Int) × (Int → Int) × (Int → Int)} (h : f_Mod_constant N R_values R_textEnd R_dataEnd R_puts R_kinds R_numbers R_nodeTexts R_valueKinds R_valueNumbers R_from R_length R_given R_texts R_forms R_tags R_counts R_textsAt R_constants p1 = some out) : CT jF0 false l D [(cI, .int), (cL, .long), (cB, .byte)] y_Mod_constant w_Mod_constant ({ frames := 2, cells := 0, slots := 0, locals := 45 } : Room) [.ref (ad 0), .int (zI p1)] [(ad 0, .inr (10, [.int (zI R_thrown), .ref (ad 1), .ref (ad 2), .ref (ad 3), .ref (ad 4), .ref (ad 5), .ref (ad 6), .int (zI R_used), .ref (ad 7), .int (zI R_many), .ref (ad 8), .ref (ad 9), .ref (ad 10), .ref (ad 11), .ref (ad 12), .ref (ad 13), .ref (ad 14), .ref (ad 15), .ref (ad 16), .int (zI R_values), .ref (ad 17), .int (zI R_textEnd), .ref (ad 18), .ref (ad 19), .ref (ad 20), .ref (ad 21), .int (zI R_dataEnd), .ref (ad 22), .int (zI R_rowEnd), .ref (ad 23), .ref (ad 24), .int (zI R_rowMany), .ref (ad 25), .ref (ad 26), .ref (ad 27), .ref (ad 28), .int (zI R_waiting), .int (zI R_mostWaiting), .int (zI R_answer), .int (zI R_steps), .int (zI R_memory), .int (zI R_maxSteps), .int (zI R_maxMemory), .int (zI R_fault), .int (zI R_result), .int (zI R_now), .int (zI R_nowRow), .int (zI R_come), .ref (ad 29), .ref (ad 30), .int (zI R_puts), .ref (ad 31)])), (ad 1, .inl (cI, 200, .inl (zA R_kinds))), (ad 2, .inl (cL, 200, .inr (.inl (zB R_numbers)))), (ad 6, .inl (cB, 12800, .inl (zA R_nodeTexts))), (ad 8, .inl (cI, 3700, .inl (zA R_valueKinds))), (ad 9, .inl (cL, 3700, .inr (.inl (zB R_valueNumbers)))), (ad 10, .inl (cI, 3700, .inl (zA R_from))), (ad 11, .inl (cI, 3700, .inl (zA R_length))), (ad 14, .inl (cI, 3700, .inl (zA R_given))), (ad 17, .inl (cB, 70000, .inl (zA R_texts))), (ad 18, .inl (cI, 5000, .inl (zA R_forms))), (ad 19, .inl (cL, 5000, .inr (.inl (zB R_tags)))), (ad 20, .inl (cI, 5000, .inl (zA R_counts))), (ad 21, .inl (cI, 5000, .inl (zA R_textsAt))), (ad 25, .inl (cI, 200, .inl (zA R_constants)))] none [(ad 0, .inr (10, [.int (zI R_thrown), .ref (ad 1), .ref (ad 2), .ref (ad 3), .ref (ad 4), .ref (ad 5), .ref (ad 6), .int (zI R_used), .ref (ad 7), .int (zI R_many), .ref (ad 8), .ref (ad 9), .ref (ad 10), .ref (ad 11), .ref (ad 12), .ref (ad 13), .ref (ad 14), .ref (ad 15), .ref (ad 16), .int (zI (out.1)), .ref (ad 17), .int (zI (out.2.1)), .ref (ad 18), .ref (ad 19), .ref (ad 20), .ref (ad 21), .int (zI (out.2.2.1)), .ref (ad 22), .int (zI R_rowEnd), .ref (ad 23), .ref (ad 24), .int (zI R_rowMany), .ref (ad 25), .ref (ad 26), .ref (ad 27), .ref (ad 28), .int (zI R_waiting), .int (zI R_mostWaiting), .int (zI R_answer), .int (zI R_steps), .int (zI R_memory), .int (zI R_maxSteps), .int (zI R_maxMemory), .int (zI R_fault), .int (zI R_result), .int (zI R_now), .int (zI R_nowRow), .int (zI R_come), .ref (ad 29), .ref (ad 30), .int (zI (out.2.2.2.1)), .ref (ad 31)])), (ad 1, .inl (cI, 200, .inl (zA R_kinds))), (ad 2, .inl (cL, 200, .inr (.inl (zB R_numbers)))), (ad 6, .inl (cB, 12800, .inl (zA R_nodeTexts))), (ad 8, .inl (cI, 3700, .inl (zA (out.2.2.2.2.1)))), (ad 9, .inl (cL, 3700, .inr (.inl (zB (out.2.2.2.2.2.1))))), (ad 10, .inl (cI, 3700, .inl (zA (out.2.2.2.2.2.2.1)))), (ad 11, .inl (cI, 3700, .inl (zA (out.2.2.2.2.2.2.2.1)))), (ad 14, .inl (cI, 3700, .inl (zA (out.2.2.2.2.2.2.2.2.1)))), (ad 17, .inl (cB, 70000, .inl (zA (out.2.2.2.2.2.2.2.2.2.1)))), (ad 18, .inl (cI, 5000, .inl (zA (out.2.2.2.2.2.2.2.2.2.2.1)))), (ad 19, .inl (cL, 5000, .inr (.inl (zB (out.2.2.2.2.2.2.2.2.2.2.2.1))))), (ad 20, .inl (cI, 5000, .inl (zA (out.2.2.2.2.2.2.2.2.2.2.2.2.1)))), (ad 21, .inl (cI, 5000, .inl (zA (out.2.2.2.2.2.2.2.2.2.2.2.2.2.1)))), (ad 25, .inl (cI, 200, .inl (zA (out.2.2.2.2.2.2.2.2.2.2.2.2.2.2))))] 0 0 := by
  refine CT_of_J (cc := b_Mod_constant) (maxL := 4) (ret := none) jF0_k (plainFor_of_name (by decide)) rfl (Nat.le_of_ble_eq_true rfl) ?_
  intro K hKl hKD X E
  subst hKl; subst hKD
  unfold f_Mod_constant at h
  refine J_iconst X d_Mod_constant_0 ?_
  refine J_istore_n (lv' := [(2, .int (zI (-1))), (0, .ref (ad 0)), (1, .int (zI p1))]) X d_Mod_constant_1 rfl (by decide) rfl ?_
  refine J_aload_n X d_Mod_constant_2 rfl 1 rfl ?_
  refine J_get X (j_in in_Mod) 0 rfl rfl 1 (by decide) (j_m own_Mod_constant (by decide +kernel)) rfl d_Mod_constant_3 ?_
  refine J_iload_n X d_Mod_constant_6 rfl 2 rfl ?_
  obtain ⟨g1, h⟩ := wk_g h
  refine J_iald X 1 0 rfl rfl g1 d_Mod_constant_7 ?_
  obtain ⟨g2, h⟩ := wk_g h
  rcases wk_c h with ⟨c3, h⟩ | ⟨c3, h⟩
  · refine J_tsIn (tgt := 44) X 7 c3 g2 d_Mod_constant_8 (by decide) (by decide) rfl (by decide) ?_
    refine J_aload_n X d_Mod_constant_44 rfl 1 rfl ?_
    refine J_iconst X d_Mod_constant_45 ?_
    refine J_aload_n X d_Mod_constant_46 rfl 1 rfl ?_
    refine J_get X (j_in in_Mod) 0 rfl rfl 2 (by decide) (j_m own_Mod_constant (by decide +kernel)) rfl d_Mod_constant_47 ?_
    refine J_iload_n X d_Mod_constant_50 rfl 2 rfl ?_
    obtain ⟨g4, h⟩ := wk_g h
    refine J_lald X 2 1 rfl rfl g4 d_Mod_constant_51 ?_
    obtain ⟨r5, R_values_6, R_valueKinds_7, R_valueNumbers_8, R_given_9, q10, h⟩ := wk_b5 h
    refine J_afterI0 (ws' := [(ad 0, .inr (10, [.int (zI R_thrown), .ref (ad 1), .ref (ad 2), .ref (ad 3), .ref (ad 4), .ref (ad 5), .ref (ad 6), .int (zI R_used), .ref (ad 7), .int (zI R_many), .ref (ad 8), .ref (ad 9), .ref (ad 10), .ref (ad 11), .ref (ad 12), .ref (ad 13), .ref (ad 14), .ref (ad 15), .ref (ad 16), .int (zI R_values_6), .ref (ad 17), .int (zI R_textEnd), .ref (ad 18), .ref (ad 19), .ref (ad 20), .ref (ad 21), .int (zI R_dataEnd), .ref (ad 22), .int (zI R_rowEnd), .ref (ad 23), .ref (ad 24), .int (zI R_rowMany), .ref (ad 25), .ref (ad 26), .ref (ad 27), .ref (ad 28), .int (zI R_waiting), .int (zI R_mostWaiting), .int (zI R_answer), .int (zI R_steps), .int (zI R_memory), .int (zI R_maxSteps), .int (zI R_maxMemory), .int (zI R_fault), .int (zI R_result), .int (zI R_now), .int (zI R_nowRow), .int (zI R_come), .ref (ad 29), .ref (ad 30), .int (zI R_puts), .ref (ad 31)])), (ad 1, .inl (cI, 200, .inl (zA R_kinds))), (ad 2, .inl (cL, 200, .inr (.inl (zB R_numbers)))), (ad 6, .inl (cB, 12800, .inl (zA R_nodeTexts))), (ad 8, .inl (cI, 3700, .inl (zA R_valueKinds_7))), (ad 9, .inl (cL, 3700, .inr (.inl (zB R_valueNumbers_8)))), (ad 10, .inl (cI, 3700, .inl (zA R_from))), (ad 11, .inl (cI, 3700, .inl (zA R_length))), (ad 14, .inl (cI, 3700, .inl (zA R_given_9))), (ad 17, .inl (cB, 70000, .inl (zA R_texts))), (ad 18, .inl (cI, 5000, .inl (zA R_forms))), (ad 19, .inl (cL, 5000, .inr (.inl (zB R_tags)))), (ad 20, .inl (cI, 5000, .inl (zA R_counts))), (ad 21, .inl (cI, 5000, .inl (zA R_textsAt))), (ad 25, .inl (cI, 200, .inl (zA R_constants)))]) X (jrunV X (c_Mod_make (ad := ad) q10) jF0_k (fun _ _ _ _ => trivial) (jgV own_Mod_constant (by decide +kernel)) rfl rfl rfl pd_Mod_make (by decide) [0, 4, 5, 8] rfl (by decide) 0 10 rfl rfl rfl rfl (Nat.le_of_ble_eq_true rfl) d_Mod_constant_52 (by decide)) [0, 4, 5, 8] [1, 2, 3, 6, 7, 9, 10, 11, 12, 13, 14] [11, 0, 1, 2, 12, 13, 3, 4, 14, 5, 6, 7, 8, 9, 10] rfl rfl (by decide) (by decide) rfl (by decide) ?_
    refine J_istore_n (lv' := [(2, .int (zI r5)), (0, .ref (ad 0)), (1, .int (zI p1))]) X d_Mod_constant_55 rfl (by decide) rfl ?_
    refine J_goto (tgt := 158) X d_Mod_constant_56 (by decide) ?_
    refine J_aload_n X d_Mod_constant_158 rfl 1 rfl ?_
    refine J_get X (j_in in_Mod) 0 rfl rfl 32 (by decide) (j_m own_Mod_constant (by decide +kernel)) rfl d_Mod_constant_159 ?_
    refine J_iload_n X d_Mod_constant_162 rfl 2 rfl ?_
    refine J_iload_n X d_Mod_constant_163 rfl 0 rfl ?_
    obtain ⟨g11, h⟩ := wk_g h
    refine J_iast (ws' := [(ad 0, .inr (10, [.int (zI R_thrown), .ref (ad 1), .ref (ad 2), .ref (ad 3), .ref (ad 4), .ref (ad 5), .ref (ad 6), .int (zI R_used), .ref (ad 7), .int (zI R_many), .ref (ad 8), .ref (ad 9), .ref (ad 10), .ref (ad 11), .ref (ad 12), .ref (ad 13), .ref (ad 14), .ref (ad 15), .ref (ad 16), .int (zI R_values_6), .ref (ad 17), .int (zI R_textEnd), .ref (ad 18), .ref (ad 19), .ref (ad 20), .ref (ad 21), .int (zI R_dataEnd), .ref (ad 22), .int (zI R_rowEnd), .ref (ad 23), .ref (ad 24), .int (zI R_rowMany), .ref (ad 25), .ref (ad 26), .ref (ad 27), .ref (ad 28), .int (zI R_waiting), .int (zI R_mostWaiting), .int (zI R_answer), .int (zI R_steps), .int (zI R_memory), .int (zI R_maxSteps), .int (zI R_maxMemory), .int (zI R_fault), .int (zI R_result), .int (zI R_now), .int (zI R_nowRow), .int (zI R_come), .ref (ad 29), .ref (ad 30), .int (zI R_puts), .ref (ad 31)])), (ad 1, .inl (cI, 200, .inl (zA R_kinds))), (ad 2, .inl (cL, 200, .inr (.inl (zB R_numbers)))), (ad 6, .inl (cB, 12800, .inl (zA R_nodeTexts))), (ad 8, .inl (cI, 3700, .inl (zA R_valueKinds_7))), (ad 9, .inl (cL, 3700, .inr (.inl (zB R_valueNumbers_8)))), (ad 10, .inl (cI, 3700, .inl (zA R_from))), (ad 11, .inl (cI, 3700, .inl (zA R_length))), (ad 14, .inl (cI, 3700, .inl (zA R_given_9))), (ad 17, .inl (cB, 70000, .inl (zA R_texts))), (ad 18, .inl (cI, 5000, .inl (zA R_forms))), (ad 19, .inl (cL, 5000, .inr (.inl (zB R_tags)))), (ad 20, .inl (cI, 5000, .inl (zA R_counts))), (ad 21, .inl (cI, 5000, .inl (zA R_textsAt))), (ad 25, .inl (cI, 200, .inl (zA (upZ R_constants p1 r5))))]) X 14 0 rfl rfl g11 d_Mod_constant_164 rfl ?_
    cases h
    exact J_ret E rfl d_Mod_constant_165 (Nat.le_refl _) (Nat.le_refl _) rfl
  · rcases wk_c h with ⟨c12, h⟩ | ⟨c12, h⟩
    · refine J_tsIn (tgt := 59) X 8 c12 g2 d_Mod_constant_8 (by decide) (by decide) rfl (by decide) ?_
      refine J_aload_n X d_Mod_constant_59 rfl 1 rfl ?_
      refine J_iconst X d_Mod_constant_60 ?_
      refine J_put (ws' := [(ad 0, .inr (10, [.int (zI R_thrown), .ref (ad 1), .ref (ad 2), .ref (ad 3), .ref (ad 4), .ref (ad 5), .ref (ad 6), .int (zI R_used), .ref (ad 7), .int (zI R_many), .ref (ad 8), .ref (ad 9), .ref (ad 10), .ref (ad 11), .ref (ad 12), .ref (ad 13), .ref (ad 14), .ref (ad 15), .ref (ad 16), .int (zI R_values), .ref (ad 17), .int (zI R_textEnd), .ref (ad 18), .ref (ad 19), .ref (ad 20), .ref (ad 21), .int (zI R_dataEnd), .ref (ad 22), .int (zI R_rowEnd), .ref (ad 23), .ref (ad 24), .int (zI R_rowMany), .ref (ad 25), .ref (ad 26), .ref (ad 27), .ref (ad 28), .int (zI R_waiting), .int (zI R_mostWaiting), .int (zI R_answer), .int (zI R_steps), .int (zI R_memory), .int (zI R_maxSteps), .int (zI R_maxMemory), .int (zI R_fault), .int (zI R_result), .int (zI R_now), .int (zI R_nowRow), .int (zI R_come), .ref (ad 29), .ref (ad 30), .int (zI 0), .ref (ad 31)])), (ad 1, .inl (cI, 200, .inl (zA R_kinds))), (ad 2, .inl (cL, 200, .inr (.inl (zB R_numbers)))), (ad 6, .inl (cB, 12800, .inl (zA R_nodeTexts))), (ad 8, .inl (cI, 3700, .inl (zA R_valueKinds))), (ad 9, .inl (cL, 3700, .inr (.inl (zB R_valueNumbers)))), (ad 10, .inl (cI, 3700, .inl (zA R_from))), (ad 11, .inl (cI, 3700, .inl (zA R_length))), (ad 14, .inl (cI, 3700, .inl (zA R_given))), (ad 17, .inl (cB, 70000, .inl (zA R_texts))), (ad 18, .inl (cI, 5000, .inl (zA R_forms))), (ad 19, .inl (cL, 5000, .inr (.inl (zB R_tags)))), (ad 20, .inl (cI, 5000, .inl (zA R_counts))), (ad 21, .inl (cI, 5000, .inl (zA R_textsAt))), (ad 25, .inl (cI, 200, .inl (zA R_constants)))]) X (j_in in_Mod) ty_Mod tok_Mod nm_Mod 0 rfl rfl 50 (by decide) (j_m own_Mod_constant (by decide +kernel)) rfl rfl rfl (Nat.le_of_ble_eq_true rfl) d_Mod_constant_61 rfl ?_
      refine J_iconst X d_Mod_constant_64 ?_
      refine J_istore_n (lv' := [(3, .int (zI 0)), (2, .int (zI (-1))), (0, .ref (ad 0)), (1, .int (zI p1))]) X d_Mod_constant_65 rfl (by decide) rfl ?_
      refine J_lv (lv' := [(0, .ref (ad 0)), (1, .int (zI p1)), (2, .int (zI (-1))), (3, .int (zI 0))]) [2, 3, 1, 0] rfl ?_
      obtain ⟨x3_13, R_puts_14, R_texts_15, q16, h⟩ := wk_b3 h
      refine k_Mod_constant_L66 X _ _ _ _ q16 ?_
      refine J_aload_n X d_Mod_constant_99 rfl 0 rfl ?_
      refine J_aload_n X d_Mod_constant_100 rfl 0 rfl ?_
      refine J_get X (j_in in_Mod) 0 rfl rfl 50 (by decide) (j_m own_Mod_constant (by decide +kernel)) rfl d_Mod_constant_101 ?_
      obtain ⟨r17, R_values_18, R_textEnd_19, R_valueKinds_20, R_valueNumbers_21, R_from_22, R_length_23, R_given_24, q25, h⟩ := wk_b8 h
      refine J_afterI0 (ws' := [(ad 0, .inr (10, [.int (zI R_thrown), .ref (ad 1), .ref (ad 2), .ref (ad 3), .ref (ad 4), .ref (ad 5), .ref (ad 6), .int (zI R_used), .ref (ad 7), .int (zI R_many), .ref (ad 8), .ref (ad 9), .ref (ad 10), .ref (ad 11), .ref (ad 12), .ref (ad 13), .ref (ad 14), .ref (ad 15), .ref (ad 16), .int (zI R_values_18), .ref (ad 17), .int (zI R_textEnd_19), .ref (ad 18), .ref (ad 19), .ref (ad 20), .ref (ad 21), .int (zI R_dataEnd), .ref (ad 22), .int (zI R_rowEnd), .ref (ad 23), .ref (ad 24), .int (zI R_rowMany), .ref (ad 25), .ref (ad 26), .ref (ad 27), .ref (ad 28), .int (zI R_waiting), .int (zI R_mostWaiting), .int (zI R_answer), .int (zI R_steps), .int (zI R_memory), .int (zI R_maxSteps), .int (zI R_maxMemory), .int (zI R_fault), .int (zI R_result), .int (zI R_now), .int (zI R_nowRow), .int (zI R_come), .ref (ad 29), .ref (ad 30), .int (zI R_puts_14), .ref (ad 31)])), (ad 1, .inl (cI, 200, .inl (zA R_kinds))), (ad 2, .inl (cL, 200, .inr (.inl (zB R_numbers)))), (ad 6, .inl (cB, 12800, .inl (zA R_nodeTexts))), (ad 8, .inl (cI, 3700, .inl (zA R_valueKinds_20))), (ad 9, .inl (cL, 3700, .inr (.inl (zB R_valueNumbers_21)))), (ad 10, .inl (cI, 3700, .inl (zA R_from_22))), (ad 11, .inl (cI, 3700, .inl (zA R_length_23))), (ad 14, .inl (cI, 3700, .inl (zA R_given_24))), (ad 17, .inl (cB, 70000, .inl (zA R_texts_15))), (ad 18, .inl (cI, 5000, .inl (zA R_forms))), (ad 19, .inl (cL, 5000, .inr (.inl (zB R_tags)))), (ad 20, .inl (cI, 5000, .inl (zA R_counts))), (ad 21, .inl (cI, 5000, .inl (zA R_textsAt))), (ad 25, .inl (cI, 200, .inl (zA R_constants)))]) X (jrunV X (c_Mod_makeBytes (ad := ad) q25) jF0_k (fun _ _ _ _ => trivial) (jgV own_Mod_constant (by decide +kernel)) rfl rfl rfl pd_Mod_makeBytes (by decide) [0, 4, 5, 6, 7, 8] rfl (by decide) 0 10 rfl rfl rfl rfl (Nat.le_of_ble_eq_true rfl) d_Mod_constant_104 (by decide)) [0, 4, 5, 6, 7, 8] [1, 2, 3, 9, 10, 11, 12, 13, 14] [9, 0, 1, 2, 10, 11, 12, 13, 14, 3, 4, 5, 6, 7, 8] rfl rfl (by decide) (by decide) rfl (by decide) ?_
      refine J_istore_n (lv' := [(2, .int (zI r17)), (0, .ref (ad 0)), (1, .int (zI p1)), (3, .int (zI x3_13))]) X d_Mod_constant_107 rfl (by decide) rfl ?_
      refine J_goto (tgt := 158) X d_Mod_constant_108 (by decide) ?_
      refine J_aload_n X d_Mod_constant_158 rfl 1 rfl ?_
      refine J_get X (j_in in_Mod) 0 rfl rfl 32 (by decide) (j_m own_Mod_constant (by decide +kernel)) rfl d_Mod_constant_159 ?_
      refine J_iload_n X d_Mod_constant_162 rfl 2 rfl ?_
      refine J_iload_n X d_Mod_constant_163 rfl 0 rfl ?_
      obtain ⟨g26, h⟩ := wk_g h
      refine J_iast (ws' := [(ad 0, .inr (10, [.int (zI R_thrown), .ref (ad 1), .ref (ad 2), .ref (ad 3), .ref (ad 4), .ref (ad 5), .ref (ad 6), .int (zI R_used), .ref (ad 7), .int (zI R_many), .ref (ad 8), .ref (ad 9), .ref (ad 10), .ref (ad 11), .ref (ad 12), .ref (ad 13), .ref (ad 14), .ref (ad 15), .ref (ad 16), .int (zI R_values_18), .ref (ad 17), .int (zI R_textEnd_19), .ref (ad 18), .ref (ad 19), .ref (ad 20), .ref (ad 21), .int (zI R_dataEnd), .ref (ad 22), .int (zI R_rowEnd), .ref (ad 23), .ref (ad 24), .int (zI R_rowMany), .ref (ad 25), .ref (ad 26), .ref (ad 27), .ref (ad 28), .int (zI R_waiting), .int (zI R_mostWaiting), .int (zI R_answer), .int (zI R_steps), .int (zI R_memory), .int (zI R_maxSteps), .int (zI R_maxMemory), .int (zI R_fault), .int (zI R_result), .int (zI R_now), .int (zI R_nowRow), .int (zI R_come), .ref (ad 29), .ref (ad 30), .int (zI R_puts_14), .ref (ad 31)])), (ad 1, .inl (cI, 200, .inl (zA R_kinds))), (ad 2, .inl (cL, 200, .inr (.inl (zB R_numbers)))), (ad 6, .inl (cB, 12800, .inl (zA R_nodeTexts))), (ad 8, .inl (cI, 3700, .inl (zA R_valueKinds_20))), (ad 9, .inl (cL, 3700, .inr (.inl (zB R_valueNumbers_21)))), (ad 10, .inl (cI, 3700, .inl (zA R_from_22))), (ad 11, .inl (cI, 3700, .inl (zA R_length_23))), (ad 14, .inl (cI, 3700, .inl (zA R_given_24))), (ad 17, .inl (cB, 70000, .inl (zA R_texts_15))), (ad 18, .inl (cI, 5000, .inl (zA R_forms))), (ad 19, .inl (cL, 5000, .inr (.inl (zB R_tags)))), (ad 20, .inl (cI, 5000, .inl (zA R_counts))), (ad 21, .inl (cI, 5000, .inl (zA R_textsAt))), (ad 25, .inl (cI, 200, .inl (zA (upZ R_constants p1 r17))))]) X 14 0 rfl rfl g26 d_Mod_constant_164 rfl ?_
      cases h
      exact J_ret E rfl d_Mod_constant_165 (Nat.le_refl _) (Nat.le_refl _) rfl
    · rcases wk_c h with ⟨c27, h⟩ | ⟨c27, h⟩
      · refine J_tsIn (tgt := 111) X 9 c27 g2 d_Mod_constant_8 (by decide) (by decide) rfl (by decide) ?_
        refine J_aload_n X d_Mod_constant_111 rfl 1 rfl ?_
        refine J_iconst X d_Mod_constant_112 ?_
        refine J_aload_n X d_Mod_constant_113 rfl 1 rfl ?_
        refine J_get X (j_in in_Mod) 0 rfl rfl 2 (by decide) (j_m own_Mod_constant (by decide +kernel)) rfl d_Mod_constant_114 ?_
        refine J_iload_n X d_Mod_constant_117 rfl 2 rfl ?_
        obtain ⟨g28, h⟩ := wk_g h
        refine J_lald X 2 1 rfl rfl g28 d_Mod_constant_118 ?_
        obtain ⟨r29, R_values_30, R_valueKinds_31, R_valueNumbers_32, R_given_33, q34, h⟩ := wk_b5 h
        refine J_afterI0 (ws' := [(ad 0, .inr (10, [.int (zI R_thrown), .ref (ad 1), .ref (ad 2), .ref (ad 3), .ref (ad 4), .ref (ad 5), .ref (ad 6), .int (zI R_used), .ref (ad 7), .int (zI R_many), .ref (ad 8), .ref (ad 9), .ref (ad 10), .ref (ad 11), .ref (ad 12), .ref (ad 13), .ref (ad 14), .ref (ad 15), .ref (ad 16), .int (zI R_values_30), .ref (ad 17), .int (zI R_textEnd), .ref (ad 18), .ref (ad 19), .ref (ad 20), .ref (ad 21), .int (zI R_dataEnd), .ref (ad 22), .int (zI R_rowEnd), .ref (ad 23), .ref (ad 24), .int (zI R_rowMany), .ref (ad 25), .ref (ad 26), .ref (ad 27), .ref (ad 28), .int (zI R_waiting), .int (zI R_mostWaiting), .int (zI R_answer), .int (zI R_steps), .int (zI R_memory), .int (zI R_maxSteps), .int (zI R_maxMemory), .int (zI R_fault), .int (zI R_result), .int (zI R_now), .int (zI R_nowRow), .int (zI R_come), .ref (ad 29), .ref (ad 30), .int (zI R_puts), .ref (ad 31)])), (ad 1, .inl (cI, 200, .inl (zA R_kinds))), (ad 2, .inl (cL, 200, .inr (.inl (zB R_numbers)))), (ad 6, .inl (cB, 12800, .inl (zA R_nodeTexts))), (ad 8, .inl (cI, 3700, .inl (zA R_valueKinds_31))), (ad 9, .inl (cL, 3700, .inr (.inl (zB R_valueNumbers_32)))), (ad 10, .inl (cI, 3700, .inl (zA R_from))), (ad 11, .inl (cI, 3700, .inl (zA R_length))), (ad 14, .inl (cI, 3700, .inl (zA R_given_33))), (ad 17, .inl (cB, 70000, .inl (zA R_texts))), (ad 18, .inl (cI, 5000, .inl (zA R_forms))), (ad 19, .inl (cL, 5000, .inr (.inl (zB R_tags)))), (ad 20, .inl (cI, 5000, .inl (zA R_counts))), (ad 21, .inl (cI, 5000, .inl (zA R_textsAt))), (ad 25, .inl (cI, 200, .inl (zA R_constants)))]) X (jrunV X (c_Mod_make (ad := ad) q34) jF0_k (fun _ _ _ _ => trivial) (jgV own_Mod_constant (by decide +kernel)) rfl rfl rfl pd_Mod_make (by decide) [0, 4, 5, 8] rfl (by decide) 0 10 rfl rfl rfl rfl (Nat.le_of_ble_eq_true rfl) d_Mod_constant_119 (by decide)) [0, 4, 5, 8] [1, 2, 3, 6, 7, 9, 10, 11, 12, 13, 14] [11, 0, 1, 2, 12, 13, 3, 4, 14, 5, 6, 7, 8, 9, 10] rfl rfl (by decide) (by decide) rfl (by decide) ?_
        refine J_istore_n (lv' := [(2, .int (zI r29)), (0, .ref (ad 0)), (1, .int (zI p1))]) X d_Mod_constant_122 rfl (by decide) rfl ?_
        refine J_goto (tgt := 158) X d_Mod_constant_123 (by decide) ?_
        refine J_aload_n X d_Mod_constant_158 rfl 1 rfl ?_
        refine J_get X (j_in in_Mod) 0 rfl rfl 32 (by decide) (j_m own_Mod_constant (by decide +kernel)) rfl d_Mod_constant_159 ?_
        refine J_iload_n X d_Mod_constant_162 rfl 2 rfl ?_
        refine J_iload_n X d_Mod_constant_163 rfl 0 rfl ?_
        obtain ⟨g35, h⟩ := wk_g h
        refine J_iast (ws' := [(ad 0, .inr (10, [.int (zI R_thrown), .ref (ad 1), .ref (ad 2), .ref (ad 3), .ref (ad 4), .ref (ad 5), .ref (ad 6), .int (zI R_used), .ref (ad 7), .int (zI R_many), .ref (ad 8), .ref (ad 9), .ref (ad 10), .ref (ad 11), .ref (ad 12), .ref (ad 13), .ref (ad 14), .ref (ad 15), .ref (ad 16), .int (zI R_values_30), .ref (ad 17), .int (zI R_textEnd), .ref (ad 18), .ref (ad 19), .ref (ad 20), .ref (ad 21), .int (zI R_dataEnd), .ref (ad 22), .int (zI R_rowEnd), .ref (ad 23), .ref (ad 24), .int (zI R_rowMany), .ref (ad 25), .ref (ad 26), .ref (ad 27), .ref (ad 28), .int (zI R_waiting), .int (zI R_mostWaiting), .int (zI R_answer), .int (zI R_steps), .int (zI R_memory), .int (zI R_maxSteps), .int (zI R_maxMemory), .int (zI R_fault), .int (zI R_result), .int (zI R_now), .int (zI R_nowRow), .int (zI R_come), .ref (ad 29), .ref (ad 30), .int (zI R_puts), .ref (ad 31)])), (ad 1, .inl (cI, 200, .inl (zA R_kinds))), (ad 2, .inl (cL, 200, .inr (.inl (zB R_numbers)))), (ad 6, .inl (cB, 12800, .inl (zA R_nodeTexts))), (ad 8, .inl (cI, 3700, .inl (zA R_valueKinds_31))), (ad 9, .inl (cL, 3700, .inr (.inl (zB R_valueNumbers_32)))), (ad 10, .inl (cI, 3700, .inl (zA R_from))), (ad 11, .inl (cI, 3700, .inl (zA R_length))), (ad 14, .inl (cI, 3700, .inl (zA R_given_33))), (ad 17, .inl (cB, 70000, .inl (zA R_texts))), (ad 18, .inl (cI, 5000, .inl (zA R_forms))), (ad 19, .inl (cL, 5000, .inr (.inl (zB R_tags)))), (ad 20, .inl (cI, 5000, .inl (zA R_counts))), (ad 21, .inl (cI, 5000, .inl (zA R_textsAt))), (ad 25, .inl (cI, 200, .inl (zA (upZ R_constants p1 r29))))]) X 14 0 rfl rfl g35 d_Mod_constant_164 rfl ?_
        cases h
        exact J_ret E rfl d_Mod_constant_165 (Nat.le_refl _) (Nat.le_refl _) rfl
      · rcases wk_c h with ⟨c36, h⟩ | ⟨c36, h⟩
        · refine J_tsIn (tgt := 126) X 10 c36 g2 d_Mod_constant_8 (by decide) (by decide) rfl (by decide) ?_
          refine J_aload_n X d_Mod_constant_126 rfl 1 rfl ?_
          refine J_iconst X d_Mod_constant_127 ?_
          refine J_lconst (v := 0) X d_Mod_constant_128 (by decide) ?_
          obtain ⟨r37, R_values_38, R_valueKinds_39, R_valueNumbers_40, R_given_41, q42, h⟩ := wk_b5 h
          refine J_afterI0 (ws' := [(ad 0, .inr (10, [.int (zI R_thrown), .ref (ad 1), .ref (ad 2), .ref (ad 3), .ref (ad 4), .ref (ad 5), .ref (ad 6), .int (zI R_used), .ref (ad 7), .int (zI R_many), .ref (ad 8), .ref (ad 9), .ref (ad 10), .ref (ad 11), .ref (ad 12), .ref (ad 13), .ref (ad 14), .ref (ad 15), .ref (ad 16), .int (zI R_values_38), .ref (ad 17), .int (zI R_textEnd), .ref (ad 18), .ref (ad 19), .ref (ad 20), .ref (ad 21), .int (zI R_dataEnd), .ref (ad 22), .int (zI R_rowEnd), .ref (ad 23), .ref (ad 24), .int (zI R_rowMany), .ref (ad 25), .ref (ad 26), .ref (ad 27), .ref (ad 28), .int (zI R_waiting), .int (zI R_mostWaiting), .int (zI R_answer), .int (zI R_steps), .int (zI R_memory), .int (zI R_maxSteps), .int (zI R_maxMemory), .int (zI R_fault), .int (zI R_result), .int (zI R_now), .int (zI R_nowRow), .int (zI R_come), .ref (ad 29), .ref (ad 30), .int (zI R_puts), .ref (ad 31)])), (ad 1, .inl (cI, 200, .inl (zA R_kinds))), (ad 2, .inl (cL, 200, .inr (.inl (zB R_numbers)))), (ad 6, .inl (cB, 12800, .inl (zA R_nodeTexts))), (ad 8, .inl (cI, 3700, .inl (zA R_valueKinds_39))), (ad 9, .inl (cL, 3700, .inr (.inl (zB R_valueNumbers_40)))), (ad 10, .inl (cI, 3700, .inl (zA R_from))), (ad 11, .inl (cI, 3700, .inl (zA R_length))), (ad 14, .inl (cI, 3700, .inl (zA R_given_41))), (ad 17, .inl (cB, 70000, .inl (zA R_texts))), (ad 18, .inl (cI, 5000, .inl (zA R_forms))), (ad 19, .inl (cL, 5000, .inr (.inl (zB R_tags)))), (ad 20, .inl (cI, 5000, .inl (zA R_counts))), (ad 21, .inl (cI, 5000, .inl (zA R_textsAt))), (ad 25, .inl (cI, 200, .inl (zA R_constants)))]) X (jrunV X (c_Mod_make (ad := ad) q42) jF0_k (fun _ _ _ _ => trivial) (jgV own_Mod_constant (by decide +kernel)) rfl rfl rfl pd_Mod_make (by decide) [0, 4, 5, 8] rfl (by decide) 0 10 rfl rfl rfl rfl (Nat.le_of_ble_eq_true rfl) d_Mod_constant_129 (by decide)) [0, 4, 5, 8] [1, 2, 3, 6, 7, 9, 10, 11, 12, 13, 14] [11, 0, 1, 2, 12, 13, 3, 4, 14, 5, 6, 7, 8, 9, 10] rfl rfl (by decide) (by decide) rfl (by decide) ?_
          refine J_istore_n (lv' := [(2, .int (zI r37)), (0, .ref (ad 0)), (1, .int (zI p1))]) X d_Mod_constant_132 rfl (by decide) rfl ?_
          refine J_goto (tgt := 158) X d_Mod_constant_133 (by decide) ?_
          refine J_aload_n X d_Mod_constant_158 rfl 1 rfl ?_
          refine J_get X (j_in in_Mod) 0 rfl rfl 32 (by decide) (j_m own_Mod_constant (by decide +kernel)) rfl d_Mod_constant_159 ?_
          refine J_iload_n X d_Mod_constant_162 rfl 2 rfl ?_
          refine J_iload_n X d_Mod_constant_163 rfl 0 rfl ?_
          obtain ⟨g43, h⟩ := wk_g h
          refine J_iast (ws' := [(ad 0, .inr (10, [.int (zI R_thrown), .ref (ad 1), .ref (ad 2), .ref (ad 3), .ref (ad 4), .ref (ad 5), .ref (ad 6), .int (zI R_used), .ref (ad 7), .int (zI R_many), .ref (ad 8), .ref (ad 9), .ref (ad 10), .ref (ad 11), .ref (ad 12), .ref (ad 13), .ref (ad 14), .ref (ad 15), .ref (ad 16), .int (zI R_values_38), .ref (ad 17), .int (zI R_textEnd), .ref (ad 18), .ref (ad 19), .ref (ad 20), .ref (ad 21), .int (zI R_dataEnd), .ref (ad 22), .int (zI R_rowEnd), .ref (ad 23), .ref (ad 24), .int (zI R_rowMany), .ref (ad 25), .ref (ad 26), .ref (ad 27), .ref (ad 28), .int (zI R_waiting), .int (zI R_mostWaiting), .int (zI R_answer), .int (zI R_steps), .int (zI R_memory), .int (zI R_maxSteps), .int (zI R_maxMemory), .int (zI R_fault), .int (zI R_result), .int (zI R_now), .int (zI R_nowRow), .int (zI R_come), .ref (ad 29), .ref (ad 30), .int (zI R_puts), .ref (ad 31)])), (ad 1, .inl (cI, 200, .inl (zA R_kinds))), (ad 2, .inl (cL, 200, .inr (.inl (zB R_numbers)))), (ad 6, .inl (cB, 12800, .inl (zA R_nodeTexts))), (ad 8, .inl (cI, 3700, .inl (zA R_valueKinds_39))), (ad 9, .inl (cL, 3700, .inr (.inl (zB R_valueNumbers_40)))), (ad 10, .inl (cI, 3700, .inl (zA R_from))), (ad 11, .inl (cI, 3700, .inl (zA R_length))), (ad 14, .inl (cI, 3700, .inl (zA R_given_41))), (ad 17, .inl (cB, 70000, .inl (zA R_texts))), (ad 18, .inl (cI, 5000, .inl (zA R_forms))), (ad 19, .inl (cL, 5000, .inr (.inl (zB R_tags)))), (ad 20, .inl (cI, 5000, .inl (zA R_counts))), (ad 21, .inl (cI, 5000, .inl (zA R_textsAt))), (ad 25, .inl (cI, 200, .inl (zA (upZ R_constants p1 r37))))]) X 14 0 rfl rfl g43 d_Mod_constant_164 rfl ?_
          cases h
          exact J_ret E rfl d_Mod_constant_165 (Nat.le_refl _) (Nat.le_refl _) rfl
        · rcases wk_c h with ⟨c44, h⟩ | ⟨c44, h⟩
          · refine J_tsIn (tgt := 136) X 11 c44 g2 d_Mod_constant_8 (by decide) (by decide) rfl (by decide) ?_
            refine J_aload_n X d_Mod_constant_136 rfl 1 rfl ?_
            refine J_iconst X d_Mod_constant_137 ?_
            refine J_lconst (v := 0) X d_Mod_constant_138 (by decide) ?_
            refine J_iconst X d_Mod_constant_139 ?_
            refine J_iconst X d_Mod_constant_140 ?_
            obtain ⟨R_dataEnd_45, R_forms_46, R_tags_47, R_counts_48, R_textsAt_49, q50, h⟩ := wk_b5 h
            refine J_afterI0 (ws' := [(ad 0, .inr (10, [.int (zI R_thrown), .ref (ad 1), .ref (ad 2), .ref (ad 3), .ref (ad 4), .ref (ad 5), .ref (ad 6), .int (zI R_used), .ref (ad 7), .int (zI R_many), .ref (ad 8), .ref (ad 9), .ref (ad 10), .ref (ad 11), .ref (ad 12), .ref (ad 13), .ref (ad 14), .ref (ad 15), .ref (ad 16), .int (zI R_values), .ref (ad 17), .int (zI R_textEnd), .ref (ad 18), .ref (ad 19), .ref (ad 20), .ref (ad 21), .int (zI R_dataEnd_45), .ref (ad 22), .int (zI R_rowEnd), .ref (ad 23), .ref (ad 24), .int (zI R_rowMany), .ref (ad 25), .ref (ad 26), .ref (ad 27), .ref (ad 28), .int (zI R_waiting), .int (zI R_mostWaiting), .int (zI R_answer), .int (zI R_steps), .int (zI R_memory), .int (zI R_maxSteps), .int (zI R_maxMemory), .int (zI R_fault), .int (zI R_result), .int (zI R_now), .int (zI R_nowRow), .int (zI R_come), .ref (ad 29), .ref (ad 30), .int (zI R_puts), .ref (ad 31)])), (ad 1, .inl (cI, 200, .inl (zA R_kinds))), (ad 2, .inl (cL, 200, .inr (.inl (zB R_numbers)))), (ad 6, .inl (cB, 12800, .inl (zA R_nodeTexts))), (ad 8, .inl (cI, 3700, .inl (zA R_valueKinds))), (ad 9, .inl (cL, 3700, .inr (.inl (zB R_valueNumbers)))), (ad 10, .inl (cI, 3700, .inl (zA R_from))), (ad 11, .inl (cI, 3700, .inl (zA R_length))), (ad 14, .inl (cI, 3700, .inl (zA R_given))), (ad 17, .inl (cB, 70000, .inl (zA R_texts))), (ad 18, .inl (cI, 5000, .inl (zA R_forms_46))), (ad 19, .inl (cL, 5000, .inr (.inl (zB R_tags_47)))), (ad 20, .inl (cI, 5000, .inl (zA R_counts_48))), (ad 21, .inl (cI, 5000, .inl (zA R_textsAt_49))), (ad 25, .inl (cI, 200, .inl (zA R_constants)))]) X (jrunV X (c_Mod_putData (ad := ad) q50) jF0_k (fun _ _ _ _ => trivial) (jgV own_Mod_constant (by decide +kernel)) rfl rfl rfl pd_Mod_putData (by decide) [0, 10, 11, 12, 13] rfl (by decide) 0 10 rfl rfl rfl rfl (Nat.le_of_ble_eq_true rfl) d_Mod_constant_141 (by decide)) [0, 10, 11, 12, 13] [1, 2, 3, 4, 5, 6, 7, 8, 9, 14] [10, 0, 1, 2, 3, 4, 5, 6, 7, 8, 11, 12, 13, 14, 9] rfl rfl (by decide) (by decide) rfl (by decide) ?_
            refine J_aload_n X d_Mod_constant_144 rfl 1 rfl ?_
            refine J_aload_n X d_Mod_constant_145 rfl 1 rfl ?_
            refine J_get X (j_in in_Mod) 0 rfl rfl 26 (by decide) (j_m own_Mod_constant (by decide +kernel)) rfl d_Mod_constant_146 ?_
            refine J_iconst X d_Mod_constant_149 ?_
            refine J_isub X d_Mod_constant_150 ?_
            obtain ⟨r51, R_values_52, R_valueKinds_53, R_valueNumbers_54, R_from_55, R_length_56, R_given_57, q58, h⟩ := wk_b7 h
            refine J_afterI0 (ws' := [(ad 0, .inr (10, [.int (zI R_thrown), .ref (ad 1), .ref (ad 2), .ref (ad 3), .ref (ad 4), .ref (ad 5), .ref (ad 6), .int (zI R_used), .ref (ad 7), .int (zI R_many), .ref (ad 8), .ref (ad 9), .ref (ad 10), .ref (ad 11), .ref (ad 12), .ref (ad 13), .ref (ad 14), .ref (ad 15), .ref (ad 16), .int (zI R_values_52), .ref (ad 17), .int (zI R_textEnd), .ref (ad 18), .ref (ad 19), .ref (ad 20), .ref (ad 21), .int (zI R_dataEnd_45), .ref (ad 22), .int (zI R_rowEnd), .ref (ad 23), .ref (ad 24), .int (zI R_rowMany), .ref (ad 25), .ref (ad 26), .ref (ad 27), .ref (ad 28), .int (zI R_waiting), .int (zI R_mostWaiting), .int (zI R_answer), .int (zI R_steps), .int (zI R_memory), .int (zI R_maxSteps), .int (zI R_maxMemory), .int (zI R_fault), .int (zI R_result), .int (zI R_now), .int (zI R_nowRow), .int (zI R_come), .ref (ad 29), .ref (ad 30), .int (zI R_puts), .ref (ad 31)])), (ad 1, .inl (cI, 200, .inl (zA R_kinds))), (ad 2, .inl (cL, 200, .inr (.inl (zB R_numbers)))), (ad 6, .inl (cB, 12800, .inl (zA R_nodeTexts))), (ad 8, .inl (cI, 3700, .inl (zA R_valueKinds_53))), (ad 9, .inl (cL, 3700, .inr (.inl (zB R_valueNumbers_54)))), (ad 10, .inl (cI, 3700, .inl (zA R_from_55))), (ad 11, .inl (cI, 3700, .inl (zA R_length_56))), (ad 14, .inl (cI, 3700, .inl (zA R_given_57))), (ad 17, .inl (cB, 70000, .inl (zA R_texts))), (ad 18, .inl (cI, 5000, .inl (zA R_forms_46))), (ad 19, .inl (cL, 5000, .inr (.inl (zB R_tags_47)))), (ad 20, .inl (cI, 5000, .inl (zA R_counts_48))), (ad 21, .inl (cI, 5000, .inl (zA R_textsAt_49))), (ad 25, .inl (cI, 200, .inl (zA R_constants)))]) X (jrunV X (c_Mod_makeData (ad := ad) q58) jF0_k (fun _ _ _ _ => trivial) (jgV own_Mod_constant (by decide +kernel)) rfl rfl rfl pd_Mod_makeData (by decide) [0, 4, 5, 6, 7, 8] rfl (by decide) 0 10 rfl rfl rfl rfl (Nat.le_of_ble_eq_true rfl) d_Mod_constant_151 (by decide)) [0, 4, 5, 6, 7, 8] [1, 2, 3, 9, 10, 11, 12, 13, 14] [9, 0, 1, 2, 10, 11, 12, 13, 14, 3, 4, 5, 6, 7, 8] rfl rfl (by decide) (by decide) rfl (by decide) ?_
            refine J_istore_n (lv' := [(2, .int (zI r51)), (0, .ref (ad 0)), (1, .int (zI p1))]) X d_Mod_constant_154 rfl (by decide) rfl ?_
            refine J_goto (tgt := 158) X d_Mod_constant_155 (by decide) ?_
            refine J_aload_n X d_Mod_constant_158 rfl 1 rfl ?_
            refine J_get X (j_in in_Mod) 0 rfl rfl 32 (by decide) (j_m own_Mod_constant (by decide +kernel)) rfl d_Mod_constant_159 ?_
            refine J_iload_n X d_Mod_constant_162 rfl 2 rfl ?_
            refine J_iload_n X d_Mod_constant_163 rfl 0 rfl ?_
            obtain ⟨g59, h⟩ := wk_g h
            refine J_iast (ws' := [(ad 0, .inr (10, [.int (zI R_thrown), .ref (ad 1), .ref (ad 2), .ref (ad 3), .ref (ad 4), .ref (ad 5), .ref (ad 6), .int (zI R_used), .ref (ad 7), .int (zI R_many), .ref (ad 8), .ref (ad 9), .ref (ad 10), .ref (ad 11), .ref (ad 12), .ref (ad 13), .ref (ad 14), .ref (ad 15), .ref (ad 16), .int (zI R_values_52), .ref (ad 17), .int (zI R_textEnd), .ref (ad 18), .ref (ad 19), .ref (ad 20), .ref (ad 21), .int (zI R_dataEnd_45), .ref (ad 22), .int (zI R_rowEnd), .ref (ad 23), .ref (ad 24), .int (zI R_rowMany), .ref (ad 25), .ref (ad 26), .ref (ad 27), .ref (ad 28), .int (zI R_waiting), .int (zI R_mostWaiting), .int (zI R_answer), .int (zI R_steps), .int (zI R_memory), .int (zI R_maxSteps), .int (zI R_maxMemory), .int (zI R_fault), .int (zI R_result), .int (zI R_now), .int (zI R_nowRow), .int (zI R_come), .ref (ad 29), .ref (ad 30), .int (zI R_puts), .ref (ad 31)])), (ad 1, .inl (cI, 200, .inl (zA R_kinds))), (ad 2, .inl (cL, 200, .inr (.inl (zB R_numbers)))), (ad 6, .inl (cB, 12800, .inl (zA R_nodeTexts))), (ad 8, .inl (cI, 3700, .inl (zA R_valueKinds_53))), (ad 9, .inl (cL, 3700, .inr (.inl (zB R_valueNumbers_54)))), (ad 10, .inl (cI, 3700, .inl (zA R_from_55))), (ad 11, .inl (cI, 3700, .inl (zA R_length_56))), (ad 14, .inl (cI, 3700, .inl (zA R_given_57))), (ad 17, .inl (cB, 70000, .inl (zA R_texts))), (ad 18, .inl (cI, 5000, .inl (zA R_forms_46))), (ad 19, .inl (cL, 5000, .inr (.inl (zB R_tags_47)))), (ad 20, .inl (cI, 5000, .inl (zA R_counts_48))), (ad 21, .inl (cI, 5000, .inl (zA R_textsAt_49))), (ad 25, .inl (cI, 200, .inl (zA (upZ R_constants p1 r51))))]) X 14 0 rfl rfl g59 d_Mod_constant_164 rfl ?_
            cases h
            exact J_ret E rfl d_Mod_constant_165 (Nat.le_refl _) (Nat.le_refl _) rfl
          · refine J_tsOut (tgt := 158) X g2 d_Mod_constant_8 (by omega) (by decide) ?_
            refine J_aload_n X d_Mod_constant_158 rfl 1 rfl ?_
            refine J_get X (j_in in_Mod) 0 rfl rfl 32 (by decide) (j_m own_Mod_constant (by decide +kernel)) rfl d_Mod_constant_159 ?_
            refine J_iload_n X d_Mod_constant_162 rfl 2 rfl ?_
            refine J_iload_n X d_Mod_constant_163 rfl 0 rfl ?_
            obtain ⟨g60, h⟩ := wk_g h
            refine J_iast (ws' := [(ad 0, .inr (10, [.int (zI R_thrown), .ref (ad 1), .ref (ad 2), .ref (ad 3), .ref (ad 4), .ref (ad 5), .ref (ad 6), .int (zI R_used), .ref (ad 7), .int (zI R_many), .ref (ad 8), .ref (ad 9), .ref (ad 10), .ref (ad 11), .ref (ad 12), .ref (ad 13), .ref (ad 14), .ref (ad 15), .ref (ad 16), .int (zI R_values), .ref (ad 17), .int (zI R_textEnd), .ref (ad 18), .ref (ad 19), .ref (ad 20), .ref (ad 21), .int (zI R_dataEnd), .ref (ad 22), .int (zI R_rowEnd), .ref (ad 23), .ref (ad 24), .int (zI R_rowMany), .ref (ad 25), .ref (ad 26), .ref (ad 27), .ref (ad 28), .int (zI R_waiting), .int (zI R_mostWaiting), .int (zI R_answer), .int (zI R_steps), .int (zI R_memory), .int (zI R_maxSteps), .int (zI R_maxMemory), .int (zI R_fault), .int (zI R_result), .int (zI R_now), .int (zI R_nowRow), .int (zI R_come), .ref (ad 29), .ref (ad 30), .int (zI R_puts), .ref (ad 31)])), (ad 1, .inl (cI, 200, .inl (zA R_kinds))), (ad 2, .inl (cL, 200, .inr (.inl (zB R_numbers)))), (ad 6, .inl (cB, 12800, .inl (zA R_nodeTexts))), (ad 8, .inl (cI, 3700, .inl (zA R_valueKinds))), (ad 9, .inl (cL, 3700, .inr (.inl (zB R_valueNumbers)))), (ad 10, .inl (cI, 3700, .inl (zA R_from))), (ad 11, .inl (cI, 3700, .inl (zA R_length))), (ad 14, .inl (cI, 3700, .inl (zA R_given))), (ad 17, .inl (cB, 70000, .inl (zA R_texts))), (ad 18, .inl (cI, 5000, .inl (zA R_forms))), (ad 19, .inl (cL, 5000, .inr (.inl (zB R_tags)))), (ad 20, .inl (cI, 5000, .inl (zA R_counts))), (ad 21, .inl (cI, 5000, .inl (zA R_textsAt))), (ad 25, .inl (cI, 200, .inl (zA (upZ R_constants p1 (-1)))))]) X 14 0 rfl rfl g60 d_Mod_constant_164 rfl ?_
            cases h
            exact J_ret E rfl d_Mod_constant_165 (Nat.le_refl _) (Nat.le_refl _) rfl

