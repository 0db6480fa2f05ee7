theorem d_Mod_callFunction_0 : decode b_Mod_callFunction 0 = .ok (.aload_n 0, 1) := by decide +kernel
theorem d_Mod_callFunction_1 : decode b_Mod_callFunction 1 = .ok (.iconst 1, 1) := by decide +kernel
theorem d_Mod_callFunction_2 : decode b_Mod_callFunction 2 = .ok (.invokevirtual 279, 3) := by decide +kernel
theorem d_Mod_callFunction_5 : decode b_Mod_callFunction 5 = .ok (.ifCond .ne 4, 3) := by decide +kernel
theorem d_Mod_callFunction_8 : decode b_Mod_callFunction 8 = .ok (.return_, 1) := by decide +kernel
theorem d_Mod_callFunction_9 : decode b_Mod_callFunction 9 = .ok (.aload_n 0, 1) := by decide +kernel
theorem d_Mod_callFunction_10 : decode b_Mod_callFunction 10 = .ok (.getfield 48, 3) := by decide +kernel
theorem d_Mod_callFunction_13 : decode b_Mod_callFunction 13 = .ok (.iload_n 1, 1) := by decide +kernel
theorem d_Mod_callFunction_14 : decode b_Mod_callFunction 14 = .ok (.iaload, 1) := by decide +kernel
theorem d_Mod_callFunction_15 : decode b_Mod_callFunction 15 = .ok (.istore_n 3, 1) := by decide +kernel
theorem d_Mod_callFunction_16 : decode b_Mod_callFunction 16 = .ok (.aload_n 0, 1) := by decide +kernel
theorem d_Mod_callFunction_17 : decode b_Mod_callFunction 17 = .ok (.getfield 80, 3) := by decide +kernel
theorem d_Mod_callFunction_20 : decode b_Mod_callFunction 20 = .ok (.aload_n 0, 1) := by decide +kernel
theorem d_Mod_callFunction_21 : decode b_Mod_callFunction 21 = .ok (.getfield 286, 3) := by decide +kernel
theorem d_Mod_callFunction_24 : decode b_Mod_callFunction 24 = .ok (.aload_n 0, 1) := by decide +kernel
theorem d_Mod_callFunction_25 : decode b_Mod_callFunction 25 = .ok (.getfield 289, 3) := by decide +kernel
theorem d_Mod_callFunction_28 : decode b_Mod_callFunction 28 = .ok (.iastore, 1) := by decide +kernel
theorem d_Mod_callFunction_29 : decode b_Mod_callFunction 29 = .ok (.aload_n 0, 1) := by decide +kernel
theorem d_Mod_callFunction_30 : decode b_Mod_callFunction 30 = .ok (.getfield 83, 3) := by decide +kernel
theorem d_Mod_callFunction_33 : decode b_Mod_callFunction 33 = .ok (.aload_n 0, 1) := by decide +kernel
theorem d_Mod_callFunction_34 : decode b_Mod_callFunction 34 = .ok (.getfield 286, 3) := by decide +kernel
theorem d_Mod_callFunction_37 : decode b_Mod_callFunction 37 = .ok (.aload_n 0, 1) := by decide +kernel
theorem d_Mod_callFunction_38 : decode b_Mod_callFunction 38 = .ok (.getfield 83, 3) := by decide +kernel
theorem d_Mod_callFunction_41 : decode b_Mod_callFunction 41 = .ok (.iload_n 3, 1) := by decide +kernel
theorem d_Mod_callFunction_42 : decode b_Mod_callFunction 42 = .ok (.iaload, 1) := by decide +kernel
theorem d_Mod_callFunction_43 : decode b_Mod_callFunction 43 = .ok (.iconst 1, 1) := by decide +kernel
theorem d_Mod_callFunction_44 : decode b_Mod_callFunction 44 = .ok (.iadd, 1) := by decide +kernel
theorem d_Mod_callFunction_45 : decode b_Mod_callFunction 45 = .ok (.iastore, 1) := by decide +kernel
theorem d_Mod_callFunction_46 : decode b_Mod_callFunction 46 = .ok (.iconst 0, 1) := by decide +kernel
theorem d_Mod_callFunction_47 : decode b_Mod_callFunction 47 = .ok (.istore 4, 2) := by decide +kernel
theorem d_Mod_callFunction_49 : decode b_Mod_callFunction 49 = .ok (.iload 4, 2) := by decide +kernel
theorem d_Mod_callFunction_51 : decode b_Mod_callFunction 51 = .ok (.aload_n 0, 1) := by decide +kernel
theorem d_Mod_callFunction_52 : decode b_Mod_callFunction 52 = .ok (.getfield 83, 3) := by decide +kernel
theorem d_Mod_callFunction_55 : decode b_Mod_callFunction 55 = .ok (.iload_n 3, 1) := by decide +kernel
theorem d_Mod_callFunction_56 : decode b_Mod_callFunction 56 = .ok (.iaload, 1) := by decide +kernel
theorem d_Mod_callFunction_57 : decode b_Mod_callFunction 57 = .ok (.if_icmp .ge 35, 3) := by decide +kernel
theorem d_Mod_callFunction_60 : decode b_Mod_callFunction 60 = .ok (.aload_n 0, 1) := by decide +kernel
theorem d_Mod_callFunction_61 : decode b_Mod_callFunction 61 = .ok (.getfield 77, 3) := by decide +kernel
theorem d_Mod_callFunction_64 : decode b_Mod_callFunction 64 = .ok (.aload_n 0, 1) := by decide +kernel
theorem d_Mod_callFunction_65 : decode b_Mod_callFunction 65 = .ok (.getfield 289, 3) := by decide +kernel
theorem d_Mod_callFunction_68 : decode b_Mod_callFunction 68 = .ok (.iload 4, 2) := by decide +kernel
theorem d_Mod_callFunction_70 : decode b_Mod_callFunction 70 = .ok (.iadd, 1) := by decide +kernel
theorem d_Mod_callFunction_71 : decode b_Mod_callFunction 71 = .ok (.aload_n 0, 1) := by decide +kernel
theorem d_Mod_callFunction_72 : decode b_Mod_callFunction 72 = .ok (.getfield 77, 3) := by decide +kernel
theorem d_Mod_callFunction_75 : decode b_Mod_callFunction 75 = .ok (.aload_n 0, 1) := by decide +kernel
theorem d_Mod_callFunction_76 : decode b_Mod_callFunction 76 = .ok (.getfield 80, 3) := by decide +kernel
theorem d_Mod_callFunction_79 : decode b_Mod_callFunction 79 = .ok (.iload_n 3, 1) := by decide +kernel
theorem d_Mod_callFunction_80 : decode b_Mod_callFunction 80 = .ok (.iaload, 1) := by decide +kernel
theorem d_Mod_callFunction_81 : decode b_Mod_callFunction 81 = .ok (.iload 4, 2) := by decide +kernel
theorem d_Mod_callFunction_83 : decode b_Mod_callFunction 83 = .ok (.iadd, 1) := by decide +kernel
theorem d_Mod_callFunction_84 : decode b_Mod_callFunction 84 = .ok (.iaload, 1) := by decide +kernel
theorem d_Mod_callFunction_85 : decode b_Mod_callFunction 85 = .ok (.iastore, 1) := by decide +kernel
theorem d_Mod_callFunction_86 : decode b_Mod_callFunction 86 = .ok (.iinc 4 1, 3) := by decide +kernel
theorem d_Mod_callFunction_89 : decode b_Mod_callFunction 89 = .ok (.goto (-40), 3) := by decide +kernel
theorem d_Mod_callFunction_92 : decode b_Mod_callFunction 92 = .ok (.aload_n 0, 1) := by decide +kernel
theorem d_Mod_callFunction_93 : decode b_Mod_callFunction 93 = .ok (.dup, 1) := by decide +kernel
theorem d_Mod_callFunction_94 : decode b_Mod_callFunction 94 = .ok (.getfield 289, 3) := by decide +kernel
theorem d_Mod_callFunction_97 : decode b_Mod_callFunction 97 = .ok (.aload_n 0, 1) := by decide +kernel
theorem d_Mod_callFunction_98 : decode b_Mod_callFunction 98 = .ok (.getfield 83, 3) := by decide +kernel
theorem d_Mod_callFunction_101 : decode b_Mod_callFunction 101 = .ok (.iload_n 3, 1) := by decide +kernel
theorem d_Mod_callFunction_102 : decode b_Mod_callFunction 102 = .ok (.iaload, 1) := by decide +kernel
theorem d_Mod_callFunction_103 : decode b_Mod_callFunction 103 = .ok (.iconst 1, 1) := by decide +kernel
theorem d_Mod_callFunction_104 : decode b_Mod_callFunction 104 = .ok (.iadd, 1) := by decide +kernel
theorem d_Mod_callFunction_105 : decode b_Mod_callFunction 105 = .ok (.iadd, 1) := by decide +kernel
theorem d_Mod_callFunction_106 : decode b_Mod_callFunction 106 = .ok (.putfield 289, 3) := by decide +kernel
theorem d_Mod_callFunction_109 : decode b_Mod_callFunction 109 = .ok (.aload_n 0, 1) := by decide +kernel
theorem d_Mod_callFunction_110 : decode b_Mod_callFunction 110 = .ok (.getfield 77, 3) := by decide +kernel
theorem d_Mod_callFunction_113 : decode b_Mod_callFunction 113 = .ok (.aload_n 0, 1) := by decide +kernel
theorem d_Mod_callFunction_114 : decode b_Mod_callFunction 114 = .ok (.getfield 289, 3) := by decide +kernel
theorem d_Mod_callFunction_117 : decode b_Mod_callFunction 117 = .ok (.iconst 1, 1) := by decide +kernel
theorem d_Mod_callFunction_118 : decode b_Mod_callFunction 118 = .ok (.isub, 1) := by decide +kernel
theorem d_Mod_callFunction_119 : decode b_Mod_callFunction 119 = .ok (.iload_n 2, 1) := by decide +kernel
theorem d_Mod_callFunction_120 : decode b_Mod_callFunction 120 = .ok (.iastore, 1) := by decide +kernel
theorem d_Mod_callFunction_121 : decode b_Mod_callFunction 121 = .ok (.aload_n 0, 1) := by decide +kernel
theorem d_Mod_callFunction_122 : decode b_Mod_callFunction 122 = .ok (.aload_n 0, 1) := by decide +kernel
theorem d_Mod_callFunction_123 : decode b_Mod_callFunction 123 = .ok (.getfield 286, 3) := by decide +kernel
theorem d_Mod_callFunction_126 : decode b_Mod_callFunction 126 = .ok (.putfield 274, 3) := by decide +kernel
theorem d_Mod_callFunction_129 : decode b_Mod_callFunction 129 = .ok (.aload_n 0, 1) := by decide +kernel
theorem d_Mod_callFunction_130 : decode b_Mod_callFunction 130 = .ok (.dup, 1) := by decide +kernel
theorem d_Mod_callFunction_131 : decode b_Mod_callFunction 131 = .ok (.getfield 286, 3) := by decide +kernel
theorem d_Mod_callFunction_134 : decode b_Mod_callFunction 134 = .ok (.iconst 1, 1) := by decide +kernel
theorem d_Mod_callFunction_135 : decode b_Mod_callFunction 135 = .ok (.iadd, 1) := by decide +kernel
theorem d_Mod_callFunction_136 : decode b_Mod_callFunction 136 = .ok (.putfield 286, 3) := by decide +kernel
theorem d_Mod_callFunction_139 : decode b_Mod_callFunction 139 = .ok (.aload_n 0, 1) := by decide +kernel
theorem d_Mod_callFunction_140 : decode b_Mod_callFunction 140 = .ok (.aload_n 0, 1) := by decide +kernel
theorem d_Mod_callFunction_141 : decode b_Mod_callFunction 141 = .ok (.getfield 45, 3) := by decide +kernel
theorem d_Mod_callFunction_144 : decode b_Mod_callFunction 144 = .ok (.iload_n 1, 1) := by decide +kernel
theorem d_Mod_callFunction_145 : decode b_Mod_callFunction 145 = .ok (.iaload, 1) := by decide +kernel
theorem d_Mod_callFunction_146 : decode b_Mod_callFunction 146 = .ok (.putfield 259, 3) := by decide +kernel
theorem d_Mod_callFunction_149 : decode b_Mod_callFunction 149 = .ok (.return_, 1) := by decide +kernel
def f_Mod_callFunction_L49 (R_rowEnd : Int) (R_rowBegins : Int → Int) (R_rowSizes : Int → Int) (x1 : Int) (x2 : Int) (x3 : Int) : Nat → Int → (Int → Int) → Option (Int × (Int → Int))
  | 0, _, _ => none
  | n + 1, x4, R_rows =>
    if jix x3 3200 = true then (
     if jr2 x4 (R_rowSizes x3) = true then (if (R_rowSizes x3) ≤ x4 then (
      some (x4, R_rows)) else (
      if jix x3 3200 = true then (
       if jix ((R_rowBegins x3) + x4) 700000 = true then (
        if jix (R_rowEnd + x4) 700000 = true then (
         f_Mod_callFunction_L49 R_rowEnd R_rowBegins R_rowSizes x1 x2 x3 n (x4 + 1) (upZ R_rows (R_rowEnd + x4) (R_rows ((R_rowBegins x3) + x4)))) else none) else none) else none)) else none) else none
def f_Mod_callFunction (N : Nat) (R_rowEnd : Int) (R_rowMany : Int) (R_memory : Int) (R_maxMemory : Int) (R_fault : Int) (R_now : Int) (R_nowRow : Int) (R_nodeOf : Int → Int) (R_rowOf : Int → Int) (R_rows : Int → Int) (R_rowBegins : Int → Int) (R_rowSizes : Int → Int) (p1 : Int) (p2 : Int) : Option (Int × Int × Int × Int × Int × Int × (Int → Int) × (Int → Int) × (Int → Int)) :=
  ob3 (f_Mod_keep R_memory R_maxMemory R_fault 1) (fun r1 R_memory_2 R_fault_3 =>
   if rI r1 = true then (if r1 = 0 then (
    some (R_rowEnd, R_rowMany, R_memory_2, R_fault_3, R_now, R_nowRow, R_rows, R_rowBegins, R_rowSizes)) else (
    if jix p1 3700 = true then (
     if jix R_rowMany 3200 = true then (
      if jix (R_rowOf p1) 3200 = true then (
       if jix R_rowMany 3200 = true then (
        ob2 (f_Mod_callFunction_L49 R_rowEnd (upZ R_rowBegins R_rowMany R_rowEnd) (upZ R_rowSizes R_rowMany ((R_rowSizes (R_rowOf p1)) + 1)) p1 p2 (R_rowOf p1) N 0 R_rows) (fun x4_10 R_rows_11 =>
         if jix (R_rowOf p1) 3200 = true then (
          if jix ((R_rowEnd + (((upZ R_rowSizes R_rowMany ((R_rowSizes (R_rowOf p1)) + 1)) (R_rowOf p1)) + 1)) - 1) 700000 = true then (
           if jix p1 3700 = true then (
            some ((R_rowEnd + (((upZ R_rowSizes R_rowMany ((R_rowSizes (R_rowOf p1)) + 1)) (R_rowOf p1)) + 1)), (R_rowMany + 1), R_memory_2, R_fault_3, (R_nodeOf p1), R_rowMany, (upZ R_rows_11 ((R_rowEnd + (((upZ R_rowSizes R_rowMany ((R_rowSizes (R_rowOf p1)) + 1)) (R_rowOf p1)) + 1)) - 1) p2), (upZ R_rowBegins R_rowMany R_rowEnd), (upZ R_rowSizes R_rowMany ((R_rowSizes (R_rowOf p1)) + 1)))) else none) else none) else none)) else none) else none) else none) else none)) else none)
set_option maxHeartbeats 4000000 in
set_option maxRecDepth 100000 in
theorem k_Mod_callFunction_L49 {K : jK} {cI cL cB : ClassId} {ad : Nat → Nat} {R_rowEnd : Int} {R_rowBegins : Int → Int} {R_rowSizes : Int → Int} {x1 : Int} {x2 : Int} {x3 : Int} {R_thrown : Int} {R_used : Int} {R_many : Int} {R_values : Int} {R_textEnd : Int} {R_dataEnd : Int} {R_rowMany : Int} {R_waiting : Int} {R_mostWaiting : Int} {R_answer : Int} {R_steps : Int} {R_memory : Int} {R_maxSteps : Int} {R_maxMemory : Int} {R_fault : Int} {R_result : Int} {R_now : Int} {R_nowRow : Int} {R_come : Int} {R_puts : Int} {R_nodeOf : Int → Int} {R_rowOf : Int → Int} {out : Int × (Int → Int)} (X : jX jF0 K 5 b_Mod_callFunction w_Mod_callFunction R_Mod [(cI, .int), (cL, .long), (cB, .byte)]) : ∀ (n : Nat) (x4 : Int) (R_rows : (Int → Int)), f_Mod_callFunction_L49 R_rowEnd R_rowBegins R_rowSizes x1 x2 x3 n x4 R_rows = some out → J K 5 ({ frames := 2, cells := 0, slots := 0, locals := 43 } : Room) false 0 0 [(ad 0, .inr (10, [.int (zI R_thrown), .ref (ad 1), .ref (ad 2), .ref (ad 3), .ref (ad 4), .ref (ad 5), .ref (ad 6), .int (zI R_used), .ref (ad 7), .int (zI R_many), .ref (ad 8), .ref (ad 9), .ref (ad 10), .ref (ad 11), .ref (ad 12), .ref (ad 13), .ref (ad 14), .ref (ad 15), .ref (ad 16), .int (zI R_values), .ref (ad 17), .int (zI R_textEnd), .ref (ad 18), .ref (ad 19), .ref (ad 20), .ref (ad 21), .int (zI R_dataEnd), .ref (ad 22), .int (zI R_rowEnd), .ref (ad 23), .ref (ad 24), .int (zI R_rowMany), .ref (ad 25), .ref (ad 26), .ref (ad 27), .ref (ad 28), .int (zI R_waiting), .int (zI R_mostWaiting), .int (zI R_answer), .int (zI R_steps), .int (zI R_memory), .int (zI R_maxSteps), .int (zI R_maxMemory), .int (zI R_fault), .int (zI R_result), .int (zI R_now), .int (zI R_nowRow), .int (zI R_come), .ref (ad 29), .ref (ad 30), .int (zI R_puts), .ref (ad 31)])), (ad 12, .inl (cI, 3700, .inl (zA R_nodeOf))), (ad 13, .inl (cI, 3700, .inl (zA R_rowOf))), (ad 22, .inl (cI, 700000, .inl (zA (out.2)))), (ad 23, .inl (cI, 3200, .inl (zA R_rowBegins))), (ad 24, .inl (cI, 3200, .inl (zA R_rowSizes)))] [(0, .ref (ad 0)), (1, .int (zI x1)), (2, .int (zI x2)), (3, .int (zI x3)), (4, .int (zI (out.1)))] [] 92 → J K 5 ({ frames := 2, cells := 0, slots := 0, locals := 43 } : Room) false 0 0 [(ad 0, .inr (10, [.int (zI R_thrown), .ref (ad 1), .ref (ad 2), .ref (ad 3), .ref (ad 4), .ref (ad 5), .ref (ad 6), .int (zI R_used), .ref (ad 7), .int (zI R_many), .ref (ad 8), .ref (ad 9), .ref (ad 10), .ref (ad 11), .ref (ad 12), .ref (ad 13), .ref (ad 14), .ref (ad 15), .ref (ad 16), .int (zI R_values), .ref (ad 17), .int (zI R_textEnd), .ref (ad 18), .ref (ad 19), .ref (ad 20), .ref (ad 21), .int (zI R_dataEnd), .ref (ad 22), .int (zI R_rowEnd), .ref (ad 23), .ref (ad 24), .int (zI R_rowMany), .ref (ad 25), .ref (ad 26), .ref (ad 27), .ref (ad 28), .int (zI R_waiting), .int (zI R_mostWaiting), .int (zI R_answer), .int (zI R_steps), .int (zI R_memory), .int (zI R_maxSteps), .int (zI R_maxMemory), .int (zI R_fault), .int (zI R_result), .int (zI R_now), .int (zI R_nowRow), .int (zI R_come), .ref (ad 29), .ref (ad 30), .int (zI R_puts), .ref (ad 31)])), (ad 12, .inl (cI, 3700, .inl (zA R_nodeOf))), (ad 13, .inl (cI, 3700, .inl (zA R_rowOf))), (ad 22, .inl (cI, 700000, .inl (zA R_rows))), (ad 23, .inl (cI, 3200, .inl (zA R_rowBegins))), (ad 24, .inl (cI, 3200, .inl (zA R_rowSizes)))] [(0, .ref (ad 0)), (1, .int (zI x1)), (2, .int (zI x2)), (3, .int (zI x3)), (4, .int (zI x4))] [] 49 := by
  intro n
  induction n with
  | zero =>
    intro x4 R_rows h hk
    cases h
  | succ n ih =>
    intro x4 R_rows h hk
    unfold f_Mod_callFunction_L49 at h
    refine J_iload X d_Mod_callFunction_49 4 rfl ?_
    refine J_aload_n X d_Mod_callFunction_51 rfl 0 rfl ?_
    refine J_get X (j_in in_Mod) 0 rfl rfl 30 (by decide) (j_m own_Mod_callFunction (by decide +kernel)) rfl d_Mod_callFunction_52 ?_
    refine J_iload_n X d_Mod_callFunction_55 rfl 3 rfl ?_
    obtain ⟨g16, h⟩ := wk_g h
    refine J_iald X 5 0 rfl rfl g16 d_Mod_callFunction_56 ?_
    refine J_icmp_ge (tgt := 92) X d_Mod_callFunction_57 (by decide) h (fun c17 h => ?_) (fun c17 h => ?_)
    · cases h
      refine J_lv (lv' := [(0, .ref (ad 0)), (1, .int (zI x1)), (2, .int (zI x2)), (3, .int (zI x3)), (4, .int (zI x4))]) [0, 1, 2, 3, 4] rfl ?_
      exact hk
    · refine J_aload_n X d_Mod_callFunction_60 rfl 0 rfl ?_
      refine J_get X (j_in in_Mod) 0 rfl rfl 27 (by decide) (j_m own_Mod_callFunction (by decide +kernel)) rfl d_Mod_callFunction_61 ?_
      refine J_aload_n X d_Mod_callFunction_64 rfl 0 rfl ?_
      refine J_get X (j_in in_Mod) 0 rfl rfl 28 (by decide) (j_m own_Mod_callFunction (by decide +kernel)) rfl d_Mod_callFunction_65 ?_
      refine J_iload X d_Mod_callFunction_68 4 rfl ?_
      refine J_iadd X d_Mod_callFunction_70 ?_
      refine J_aload_n X d_Mod_callFunction_71 rfl 0 rfl ?_
      refine J_get X (j_in in_Mod) 0 rfl rfl 27 (by decide) (j_m own_Mod_callFunction (by decide +kernel)) rfl d_Mod_callFunction_72 ?_
      refine J_aload_n X d_Mod_callFunction_75 rfl 0 rfl ?_
      refine J_get X (j_in in_Mod) 0 rfl rfl 29 (by decide) (j_m own_Mod_callFunction (by decide +kernel)) rfl d_Mod_callFunction_76 ?_
      refine J_iload_n X d_Mod_callFunction_79 rfl 3 rfl ?_
      obtain ⟨g18, h⟩ := wk_g h
      refine J_iald X 4 0 rfl rfl g18 d_Mod_callFunction_80 ?_
      refine J_iload X d_Mod_callFunction_81 4 rfl ?_
      refine J_iadd X d_Mod_callFunction_83 ?_
      obtain ⟨g19, h⟩ := wk_g h
      refine J_iald X 3 0 rfl rfl g19 d_Mod_callFunction_84 ?_
      obtain ⟨g20, h⟩ := wk_g h
      refine J_iast (ws' := [(ad 0, .inr (10, [.int (zI R_thrown), .ref (ad 1), .ref (ad 2), .ref (ad 3), .ref (ad 4), .ref (ad 5), .ref (ad 6), .int (zI R_used), .ref (ad 7), .int (zI R_many), .ref (ad 8), .ref (ad 9), .ref (ad 10), .ref (ad 11), .ref (ad 12), .ref (ad 13), .ref (ad 14), .ref (ad 15), .ref (ad 16), .int (zI R_values), .ref (ad 17), .int (zI R_textEnd), .ref (ad 18), .ref (ad 19), .ref (ad 20), .ref (ad 21), .int (zI R_dataEnd), .ref (ad 22), .int (zI R_rowEnd), .ref (ad 23), .ref (ad 24), .int (zI R_rowMany), .ref (ad 25), .ref (ad 26), .ref (ad 27), .ref (ad 28), .int (zI R_waiting), .int (zI R_mostWaiting), .int (zI R_answer), .int (zI R_steps), .int (zI R_memory), .int (zI R_maxSteps), .int (zI R_maxMemory), .int (zI R_fault), .int (zI R_result), .int (zI R_now), .int (zI R_nowRow), .int (zI R_come), .ref (ad 29), .ref (ad 30), .int (zI R_puts), .ref (ad 31)])), (ad 12, .inl (cI, 3700, .inl (zA R_nodeOf))), (ad 13, .inl (cI, 3700, .inl (zA R_rowOf))), (ad 22, .inl (cI, 700000, .inl (zA (upZ R_rows (R_rowEnd + x4) (R_rows ((R_rowBegins x3) + x4)))))), (ad 23, .inl (cI, 3200, .inl (zA R_rowBegins))), (ad 24, .inl (cI, 3200, .inl (zA R_rowSizes)))]) X 3 0 rfl rfl g20 d_Mod_callFunction_85 rfl ?_
      refine J_iinc (lv' := [(4, .int (zI (x4 + 1))), (0, .ref (ad 0)), (1, .int (zI x1)), (2, .int (zI x2)), (3, .int (zI x3))]) X d_Mod_callFunction_86 4 rfl (by decide) rfl ?_
      refine J_goto (tgt := 49) X d_Mod_callFunction_89 (by decide) ?_
      refine J_lv (lv' := [(0, .ref (ad 0)), (1, .int (zI x1)), (2, .int (zI x2)), (3, .int (zI x3)), (4, .int (zI (x4 + 1)))]) [1, 2, 3, 4, 0] rfl ?_
      exact ih _ _ h hk
set_option maxHeartbeats 4000000 in
set_option maxRecDepth 100000 in
theorem c_Mod_callFunction {l : Launch} {D : va_G} {cI cL cB : ClassId} {ad : Nat → Nat} {N : Nat} {R_thrown : Int} {R_used : Int} {R_many : Int} {R_values : Int} {R_textEnd : Int} {R_dataEnd : Int} {R_rowEnd : Int} {R_rowMany : Int} {R_waiting : Int} {R_mostWaiting : Int} {R_answer : Int} {R_steps : Int} {R_memory : Int} {R_maxSteps : Int} {R_maxMemory : Int} {R_fault : Int} {R_result : Int} {R_now : Int} {R_nowRow : Int} {R_come : Int} {R_puts : Int} {R_nodeOf : Int → Int} {R_rowOf : Int → Int} {R_rows : Int → Int} {R_rowBegins : Int → Int} {R_rowSizes : Int → Int} {p1 : Int} {p2 : Int} {out : Int × Int × Int × Int × Int × Int × (Int → Int) × (Int → Int) × (Int → Int)} (h : f_Mod_callFunction N R_rowEnd R_rowMany R_memory R_maxMemory R_fault R_now R_nowRow R_nodeOf R_rowOf R_rows R_rowBegins R_rowSizes p1 p2 = some out) : CT jF0 false l D [(cI, .int), (cL, .long), (cB, .byte)] y_Mod_callFunction w_Mod_callFunction ({ frames := 2, cells := 0, slots := 0, locals := 43 } : Room) [.ref (ad 0), .int (zI p1), .int (zI p2)] [(ad 0, .inr (10, [.int (zI R_thrown), .ref (ad 1), .ref (ad 2), .ref (ad 3), .ref (ad 4), .ref (ad 5), .ref (ad 6), .int (zI R_used), .ref (ad 7), .int (zI R_many), .ref (ad 8), .ref (ad 9), .ref (ad 10), .ref (ad 11), .ref (ad 12), .ref (ad 13), .ref (ad 14), .ref (ad 15), .ref (ad 16), .int (zI R_values), .ref (ad 17), .int (zI R_textEnd), .ref (ad 18), .ref (ad 19), .ref (ad 20), .ref (ad 21), .int (zI R_dataEnd), .ref (ad 22), .int (zI R_rowEnd), .ref (ad 23), .ref (ad 24), .int (zI R_rowMany), .ref (ad 25), .ref (ad 26), .ref (ad 27), .ref (ad 28), .int (zI R_waiting), .int (zI R_mostWaiting), .int (zI R_answer), .int (zI R_steps), .int (zI R_memory), .int (zI R_maxSteps), .int (zI R_maxMemory), .int (zI R_fault), .int (zI R_result), .int (zI R_now), .int (zI R_nowRow), .int (zI R_come), .ref (ad 29), .ref (ad 30), .int (zI R_puts), .ref (ad 31)])), (ad 12, .inl (cI, 3700, .inl (zA R_nodeOf))), (ad 13, .inl (cI, 3700, .inl (zA R_rowOf))), (ad 22, .inl (cI, 700000, .inl (zA R_rows))), (ad 23, .inl (cI, 3200, .inl (zA R_rowBegins))), (ad 24, .inl (cI, 3200, .inl (zA R_rowSizes)))] none [(ad 0, .inr (10, [.int (zI R_thrown), .ref (ad 1), .ref (ad 2), .ref (ad 3), .ref (ad 4), .ref (ad 5), .ref (ad 6), .int (zI R_used), .ref (ad 7), .int (zI R_many), .ref (ad 8), .ref (ad 9), .ref (ad 10), .ref (ad 11), .ref (ad 12), .ref (ad 13), .ref (ad 14), .ref (ad 15), .ref (ad 16), .int (zI R_values), .ref (ad 17), .int (zI R_textEnd), .ref (ad 18), .ref (ad 19), .ref (ad 20), .ref (ad 21), .int (zI R_dataEnd), .ref (ad 22), .int (zI (out.1)), .ref (ad 23), .ref (ad 24), .int (zI (out.2.1)), .ref (ad 25), .ref (ad 26), .ref (ad 27), .ref (ad 28), .int (zI R_waiting), .int (zI R_mostWaiting), .int (zI R_answer), .int (zI R_steps), .int (zI (out.2.2.1)), .int (zI R_maxSteps), .int (zI R_maxMemory), .int (zI (out.2.2.2.1)), .int (zI R_result), .int (zI (out.2.2.2.2.1)), .int (zI (out.2.2.2.2.2.1)), .int (zI R_come), .ref (ad 29), .ref (ad 30), .int (zI R_puts), .ref (ad 31)])), (ad 12, .inl (cI, 3700, .inl (zA R_nodeOf))), (ad 13, .inl (cI, 3700, .inl (zA R_rowOf))), (ad 22, .inl (cI, 700000, .inl (zA (out.2.2.2.2.2.2.1)))), (ad 23, .inl (cI, 3200, .inl (zA (out.2.2.2.2.2.2.2.1)))), (ad 24, .inl (cI, 3200, .inl (zA (out.2.2.2.2.2.2.2.2))))] 0 0 := by
  refine CT_of_J (cc := b_Mod_callFunction) (maxL := 5) (ret := none) jF0_k (plainFor_of_name (by decide)) rfl (Nat.le_of_ble_eq_true rfl) ?_
  intro K hKl hKD X E
  subst hKl; subst hKD
  unfold f_Mod_callFunction at h
  refine J_aload_n X d_Mod_callFunction_0 rfl 0 rfl ?_
  refine J_iconst X d_Mod_callFunction_1 ?_
  obtain ⟨r1, R_memory_2, R_fault_3, q4, h⟩ := wk_b3 h
  refine J_afterI0 (ws' := [(ad 0, .inr (10, [.int (zI R_thrown), .ref (ad 1), .ref (ad 2), .ref (ad 3), .ref (ad 4), .ref (ad 5), .ref (ad 6), .int (zI R_used), .ref (ad 7), .int (zI R_many), .ref (ad 8), .ref (ad 9), .ref (ad 10), .ref (ad 11), .ref (ad 12), .ref (ad 13), .ref (ad 14), .ref (ad 15), .ref (ad 16), .int (zI R_values), .ref (ad 17), .int (zI R_textEnd), .ref (ad 18), .ref (ad 19), .ref (ad 20), .ref (ad 21), .int (zI R_dataEnd), .ref (ad 22), .int (zI R_rowEnd), .ref (ad 23), .ref (ad 24), .int (zI R_rowMany), .ref (ad 25), .ref (ad 26), .ref (ad 27), .ref (ad 28), .int (zI R_waiting), .int (zI R_mostWaiting), .int (zI R_answer), .int (zI R_steps), .int (zI R_memory_2), .int (zI R_maxSteps), .int (zI R_maxMemory), .int (zI R_fault_3), .int (zI R_result), .int (zI R_now), .int (zI R_nowRow), .int (zI R_come), .ref (ad 29), .ref (ad 30), .int (zI R_puts), .ref (ad 31)])), (ad 12, .inl (cI, 3700, .inl (zA R_nodeOf))), (ad 13, .inl (cI, 3700, .inl (zA R_rowOf))), (ad 22, .inl (cI, 700000, .inl (zA R_rows))), (ad 23, .inl (cI, 3200, .inl (zA R_rowBegins))), (ad 24, .inl (cI, 3200, .inl (zA R_rowSizes)))]) X (jrunV X (c_Mod_keep (ad := ad) q4) jF0_k (fun _ _ _ _ => trivial) (jgV own_Mod_callFunction (by decide +kernel)) rfl rfl rfl pd_Mod_keep (by decide) [0] rfl (by decide) 0 10 rfl rfl rfl rfl (Nat.le_of_ble_eq_true rfl) d_Mod_callFunction_2 (by decide)) [0] [1, 2, 3, 4, 5] [5, 0, 1, 2, 3, 4] rfl rfl (by decide) (by decide) rfl (by decide) ?_
  refine J_if_ne (tgt := 9) X d_Mod_callFunction_5 (by decide) h (fun c5 h => ?_) (fun c5 h => ?_)
  · refine J_aload_n X d_Mod_callFunction_9 rfl 0 rfl ?_
    refine J_get X (j_in in_Mod) 0 rfl rfl 15 (by decide) (j_m own_Mod_callFunction (by decide +kernel)) rfl d_Mod_callFunction_10 ?_
    refine J_iload_n X d_Mod_callFunction_13 rfl 1 rfl ?_
    obtain ⟨g6, h⟩ := wk_g h
    refine J_iald X 2 0 rfl rfl g6 d_Mod_callFunction_14 ?_
    refine J_istore_n (lv' := [(3, .int (zI (R_rowOf p1))), (0, .ref (ad 0)), (1, .int (zI p1)), (2, .int (zI p2))]) X d_Mod_callFunction_15 rfl (by decide) rfl ?_
    refine J_aload_n X d_Mod_callFunction_16 rfl 1 rfl ?_
    refine J_get X (j_in in_Mod) 0 rfl rfl 29 (by decide) (j_m own_Mod_callFunction (by decide +kernel)) rfl d_Mod_callFunction_17 ?_
    refine J_aload_n X d_Mod_callFunction_20 rfl 1 rfl ?_
    refine J_get X (j_in in_Mod) 0 rfl rfl 31 (by decide) (j_m own_Mod_callFunction (by decide +kernel)) rfl d_Mod_callFunction_21 ?_
    refine J_aload_n X d_Mod_callFunction_24 rfl 1 rfl ?_
    refine J_get X (j_in in_Mod) 0 rfl rfl 28 (by decide) (j_m own_Mod_callFunction (by decide +kernel)) rfl d_Mod_callFunction_25 ?_
    obtain ⟨g7, h⟩ := wk_g h
    refine J_iast (ws' := [(ad 0, .inr (10, [.int (zI R_thrown), .ref (ad 1), .ref (ad 2), .ref (ad 3), .ref (ad 4), .ref (ad 5), .ref (ad 6), .int (zI R_used), .ref (ad 7), .int (zI R_many), .ref (ad 8), .ref (ad 9), .ref (ad 10), .ref (ad 11), .ref (ad 12), .ref (ad 13), .ref (ad 14), .ref (ad 15), .ref (ad 16), .int (zI R_values), .ref (ad 17), .int (zI R_textEnd), .ref (ad 18), .ref (ad 19), .ref (ad 20), .ref (ad 21), .int (zI R_dataEnd), .ref (ad 22), .int (zI R_rowEnd), .ref (ad 23), .ref (ad 24), .int (zI R_rowMany), .ref (ad 25), .ref (ad 26), .ref (ad 27), .ref (ad 28), .int (zI R_waiting), .int (zI R_mostWaiting), .int (zI R_answer), .int (zI R_steps), .int (zI R_memory_2), .int (zI R_maxSteps), .int (zI R_maxMemory), .int (zI R_fault_3), .int (zI R_result), .int (zI R_now), .int (zI R_nowRow), .int (zI R_come), .ref (ad 29), .ref (ad 30), .int (zI R_puts), .ref (ad 31)])), (ad 12, .inl (cI, 3700, .inl (zA R_nodeOf))), (ad 13, .inl (cI, 3700, .inl (zA R_rowOf))), (ad 22, .inl (cI, 700000, .inl (zA R_rows))), (ad 23, .inl (cI, 3200, .inl (zA (upZ R_rowBegins R_rowMany R_rowEnd)))), (ad 24, .inl (cI, 3200, .inl (zA R_rowSizes)))]) X 4 0 rfl rfl g7 d_Mod_callFunction_28 rfl ?_
    refine J_aload_n X d_Mod_callFunction_29 rfl 1 rfl ?_
    refine J_get X (j_in in_Mod) 0 rfl rfl 30 (by decide) (j_m own_Mod_callFunction (by decide +kernel)) rfl d_Mod_callFunction_30 ?_
    refine J_aload_n X d_Mod_callFunction_33 rfl 1 rfl ?_
    refine J_get X (j_in in_Mod) 0 rfl rfl 31 (by decide) (j_m own_Mod_callFunction (by decide +kernel)) rfl d_Mod_callFunction_34 ?_
    refine J_aload_n X d_Mod_callFunction_37 rfl 1 rfl ?_
    refine J_get X (j_in in_Mod) 0 rfl rfl 30 (by decide) (j_m own_Mod_callFunction (by decide +kernel)) rfl d_Mod_callFunction_38 ?_
    refine J_iload_n X d_Mod_callFunction_41 rfl 0 rfl ?_
    obtain ⟨g8, h⟩ := wk_g h
    refine J_iald X 5 0 rfl rfl g8 d_Mod_callFunction_42 ?_
    refine J_iconst X d_Mod_callFunction_43 ?_
    refine J_iadd X d_Mod_callFunction_44 ?_
    obtain ⟨g9, h⟩ := wk_g h
    refine J_iast (ws' := [(ad 0, .inr (10, [.int (zI R_thrown), .ref (ad 1), .ref (ad 2), .ref (ad 3), .ref (ad 4), .ref (ad 5), .ref (ad 6), .int (zI R_used), .ref (ad 7), .int (zI R_many), .ref (ad 8), .ref (ad 9), .ref (ad 10), .ref (ad 11), .ref (ad 12), .ref (ad 13), .ref (ad 14), .ref (ad 15), .ref (ad 16), .int (zI R_values), .ref (ad 17), .int (zI R_textEnd), .ref (ad 18), .ref (ad 19), .ref (ad 20), .ref (ad 21), .int (zI R_dataEnd), .ref (ad 22), .int (zI R_rowEnd), .ref (ad 23), .ref (ad 24), .int (zI R_rowMany), .ref (ad 25), .ref (ad 26), .ref (ad 27), .ref (ad 28), .int (zI R_waiting), .int (zI R_mostWaiting), .int (zI R_answer), .int (zI R_steps), .int (zI R_memory_2), .int (zI R_maxSteps), .int (zI R_maxMemory), .int (zI R_fault_3), .int (zI R_result), .int (zI R_now), .int (zI R_nowRow), .int (zI R_come), .ref (ad 29), .ref (ad 30), .int (zI R_puts), .ref (ad 31)])), (ad 12, .inl (cI, 3700, .inl (zA R_nodeOf))), (ad 13, .inl (cI, 3700, .inl (zA R_rowOf))), (ad 22, .inl (cI, 700000, .inl (zA R_rows))), (ad 23, .inl (cI, 3200, .inl (zA (upZ R_rowBegins R_rowMany R_rowEnd)))), (ad 24, .inl (cI, 3200, .inl (zA (upZ R_rowSizes R_rowMany ((R_rowSizes (R_rowOf p1)) + 1)))))]) X 5 0 rfl rfl g9 d_Mod_callFunction_45 rfl ?_
    refine J_iconst X d_Mod_callFunction_46 ?_
    refine J_istore (lv' := [(4, .int (zI 0)), (3, .int (zI (R_rowOf p1))), (0, .ref (ad 0)), (1, .int (zI p1)), (2, .int (zI p2))]) X d_Mod_callFunction_47 (by decide) rfl ?_
    refine J_lv (lv' := [(0, .ref (ad 0)), (1, .int (zI p1)), (2, .int (zI p2)), (3, .int (zI (R_rowOf p1))), (4, .int (zI 0))]) [2, 3, 4, 1, 0] rfl ?_
    obtain ⟨x4_10, R_rows_11, q12, h⟩ := wk_b2 h
    refine k_Mod_callFunction_L49 X _ _ _ q12 ?_
    refine J_aload_n X d_Mod_callFunction_92 rfl 0 rfl ?_
    refine J_dup X d_Mod_callFunction_93 rfl ?_
    refine J_get X (j_in in_Mod) 0 rfl rfl 28 (by decide) (j_m own_Mod_callFunction (by decide +kernel)) rfl d_Mod_callFunction_94 ?_
    refine J_aload_n X d_Mod_callFunction_97 rfl 0 rfl ?_
    refine J_get X (j_in in_Mod) 0 rfl rfl 30 (by decide) (j_m own_Mod_callFunction (by decide +kernel)) rfl d_Mod_callFunction_98 ?_
    refine J_iload_n X d_Mod_callFunction_101 rfl 3 rfl ?_
    obtain ⟨g13, h⟩ := wk_g h
    refine J_iald X 5 0 rfl rfl g13 d_Mod_callFunction_102 ?_
    refine J_iconst X d_Mod_callFunction_103 ?_
    refine J_iadd X d_Mod_callFunction_104 ?_
    refine J_iadd X d_Mod_callFunction_105 ?_
    refine J_put (ws' := [(ad 0, .inr (10, [.int (zI R_thrown), .ref (ad 1), .ref (ad 2), .ref (ad 3), .ref (ad 4), .ref (ad 5), .ref (ad 6), .int (zI R_used), .ref (ad 7), .int (zI R_many), .ref (ad 8), .ref (ad 9), .ref (ad 10), .ref (ad 11), .ref (ad 12), .ref (ad 13), .ref (ad 14), .ref (ad 15), .ref (ad 16), .int (zI R_values), .ref (ad 17), .int (zI R_textEnd), .ref (ad 18), .ref (ad 19), .ref (ad 20), .ref (ad 21), .int (zI R_dataEnd), .ref (ad 22), .int (zI (R_rowEnd + (((upZ R_rowSizes R_rowMany ((R_rowSizes (R_rowOf p1)) + 1)) (R_rowOf p1)) + 1))), .ref (ad 23), .ref (ad 24), .int (zI R_rowMany), .ref (ad 25), .ref (ad 26), .ref (ad 27), .ref (ad 28), .int (zI R_waiting), .int (zI R_mostWaiting), .int (zI R_answer), .int (zI R_steps), .int (zI R_memory_2), .int (zI R_maxSteps), .int (zI R_maxMemory), .int (zI R_fault_3), .int (zI R_result), .int (zI R_now), .int (zI R_nowRow), .int (zI R_come), .ref (ad 29), .ref (ad 30), .int (zI R_puts), .ref (ad 31)])), (ad 12, .inl (cI, 3700, .inl (zA R_nodeOf))), (ad 13, .inl (cI, 3700, .inl (zA R_rowOf))), (ad 22, .inl (cI, 700000, .inl (zA R_rows_11))), (ad 23, .inl (cI, 3200, .inl (zA (upZ R_rowBegins R_rowMany R_rowEnd)))), (ad 24, .inl (cI, 3200, .inl (zA (upZ R_rowSizes R_rowMany ((R_rowSizes (R_rowOf p1)) + 1)))))]) X (j_in in_Mod) ty_Mod tok_Mod nm_Mod 0 rfl rfl 28 (by decide) (j_m own_Mod_callFunction (by decide +kernel)) rfl rfl rfl (Nat.le_of_ble_eq_true rfl) d_Mod_callFunction_106 rfl ?_
    refine J_aload_n X d_Mod_callFunction_109 rfl 0 rfl ?_
    refine J_get X (j_in in_Mod) 0 rfl rfl 27 (by decide) (j_m own_Mod_callFunction (by decide +kernel)) rfl d_Mod_callFunction_110 ?_
    refine J_aload_n X d_Mod_callFunction_113 rfl 0 rfl ?_
    refine J_get X (j_in in_Mod) 0 rfl rfl 28 (by decide) (j_m own_Mod_callFunction (by decide +kernel)) rfl d_Mod_callFunction_114 ?_
    refine J_iconst X d_Mod_callFunction_117 ?_
    refine J_isub X d_Mod_callFunction_118 ?_
    refine J_iload_n X d_Mod_callFunction_119 rfl 2 rfl ?_
    obtain ⟨g14, h⟩ := wk_g h
    refine J_iast (ws' := [(ad 0, .inr (10, [.int (zI R_thrown), .ref (ad 1), .ref (ad 2), .ref (ad 3), .ref (ad 4), .ref (ad 5), .ref (ad 6), .int (zI R_used), .ref (ad 7), .int (zI R_many), .ref (ad 8), .ref (ad 9), .ref (ad 10), .ref (ad 11), .ref (ad 12), .ref (ad 13), .ref (ad 14), .ref (ad 15), .ref (ad 16), .int (zI R_values), .ref (ad 17), .int (zI R_textEnd), .ref (ad 18), .ref (ad 19), .ref (ad 20), .ref (ad 21), .int (zI R_dataEnd), .ref (ad 22), .int (zI (R_rowEnd + (((upZ R_rowSizes R_rowMany ((R_rowSizes (R_rowOf p1)) + 1)) (R_rowOf p1)) + 1))), .ref (ad 23), .ref (ad 24), .int (zI R_rowMany), .ref (ad 25), .ref (ad 26), .ref (ad 27), .ref (ad 28), .int (zI R_waiting), .int (zI R_mostWaiting), .int (zI R_answer), .int (zI R_steps), .int (zI R_memory_2), .int (zI R_maxSteps), .int (zI R_maxMemory), .int (zI R_fault_3), .int (zI R_result), .int (zI R_now), .int (zI R_nowRow), .int (zI R_come), .ref (ad 29), .ref (ad 30), .int (zI R_puts), .ref (ad 31)])), (ad 12, .inl (cI, 3700, .inl (zA R_nodeOf))), (ad 13, .inl (cI, 3700, .inl (zA R_rowOf))), (ad 22, .inl (cI, 700000, .inl (zA (upZ R_rows_11 ((R_rowEnd + (((upZ R_rowSizes R_rowMany ((R_rowSizes (R_rowOf p1)) + 1)) (R_rowOf p1)) + 1)) - 1) p2)))), (ad 23, .inl (cI, 3200, .inl (zA (upZ R_rowBegins R_rowMany R_rowEnd)))), (ad 24, .inl (cI, 3200, .inl (zA (upZ R_rowSizes R_rowMany ((R_rowSizes (R_rowOf p1)) + 1)))))]) X 3 0 rfl rfl g14 d_Mod_callFunction_120 rfl ?_
    refine J_aload_n X d_Mod_callFunction_121 rfl 0 rfl ?_
    refine J_aload_n X d_Mod_callFunction_122 rfl 0 rfl ?_
    refine J_get X (j_in in_Mod) 0 rfl rfl 31 (by decide) (j_m own_Mod_callFunction (by decide +kernel)) rfl d_Mod_callFunction_123 ?_
    refine J_put (ws' := [(ad 0, .inr (10, [.int (zI R_thrown), .ref (ad 1), .ref (ad 2), .ref (ad 3), .ref (ad 4), .ref (ad 5), .ref (ad 6), .int (zI R_used), .ref (ad 7), .int (zI R_many), .ref (ad 8), .ref (ad 9), .ref (ad 10), .ref (ad 11), .ref (ad 12), .ref (ad 13), .ref (ad 14), .ref (ad 15), .ref (ad 16), .int (zI R_values), .ref (ad 17), .int (zI R_textEnd), .ref (ad 18), .ref (ad 19), .ref (ad 20), .ref (ad 21), .int (zI R_dataEnd), .ref (ad 22), .int (zI (R_rowEnd + (((upZ R_rowSizes R_rowMany ((R_rowSizes (R_rowOf p1)) + 1)) (R_rowOf p1)) + 1))), .ref (ad 23), .ref (ad 24), .int (zI R_rowMany), .ref (ad 25), .ref (ad 26), .ref (ad 27), .ref (ad 28), .int (zI R_waiting), .int (zI R_mostWaiting), .int (zI R_answer), .int (zI R_steps), .int (zI R_memory_2), .int (zI R_maxSteps), .int (zI R_maxMemory), .int (zI R_fault_3), .int (zI R_result), .int (zI R_now), .int (zI R_rowMany), .int (zI R_come), .ref (ad 29), .ref (ad 30), .int (zI R_puts), .ref (ad 31)])), (ad 12, .inl (cI, 3700, .inl (zA R_nodeOf))), (ad 13, .inl (cI, 3700, .inl (zA R_rowOf))), (ad 22, .inl (cI, 700000, .inl (zA (upZ R_rows_11 ((R_rowEnd + (((upZ R_rowSizes R_rowMany ((R_rowSizes (R_rowOf p1)) + 1)) (R_rowOf p1)) + 1)) - 1) p2)))), (ad 23, .inl (cI, 3200, .inl (zA (upZ R_rowBegins R_rowMany R_rowEnd)))), (ad 24, .inl (cI, 3200, .inl (zA (upZ R_rowSizes R_rowMany ((R_rowSizes (R_rowOf p1)) + 1)))))]) X (j_in in_Mod) ty_Mod tok_Mod nm_Mod 0 rfl rfl 46 (by decide) (j_m own_Mod_callFunction (by decide +kernel)) rfl rfl rfl (Nat.le_of_ble_eq_true rfl) d_Mod_callFunction_126 rfl ?_
    refine J_aload_n X d_Mod_callFunction_129 rfl 0 rfl ?_
    refine J_dup X d_Mod_callFunction_130 rfl ?_
    refine J_get X (j_in in_Mod) 0 rfl rfl 31 (by decide) (j_m own_Mod_callFunction (by decide +kernel)) rfl d_Mod_callFunction_131 ?_
    refine J_iconst X d_Mod_callFunction_134 ?_
    refine J_iadd X d_Mod_callFunction_135 ?_
    refine J_put (ws' := [(ad 0, .inr (10, [.int (zI R_thrown), .ref (ad 1), .ref (ad 2), .ref (ad 3), .ref (ad 4), .ref (ad 5), .ref (ad 6), .int (zI R_used), .ref (ad 7), .int (zI R_many), .ref (ad 8), .ref (ad 9), .ref (ad 10), .ref (ad 11), .ref (ad 12), .ref (ad 13), .ref (ad 14), .ref (ad 15), .ref (ad 16), .int (zI R_values), .ref (ad 17), .int (zI R_textEnd), .ref (ad 18), .ref (ad 19), .ref (ad 20), .ref (ad 21), .int (zI R_dataEnd), .ref (ad 22), .int (zI (R_rowEnd + (((upZ R_rowSizes R_rowMany ((R_rowSizes (R_rowOf p1)) + 1)) (R_rowOf p1)) + 1))), .ref (ad 23), .ref (ad 24), .int (zI (R_rowMany + 1)), .ref (ad 25), .ref (ad 26), .ref (ad 27), .ref (ad 28), .int (zI R_waiting), .int (zI R_mostWaiting), .int (zI R_answer), .int (zI R_steps), .int (zI R_memory_2), .int (zI R_maxSteps), .int (zI R_maxMemory), .int (zI R_fault_3), .int (zI R_result), .int (zI R_now), .int (zI R_rowMany), .int (zI R_come), .ref (ad 29), .ref (ad 30), .int (zI R_puts), .ref (ad 31)])), (ad 12, .inl (cI, 3700, .inl (zA R_nodeOf))), (ad 13, .inl (cI, 3700, .inl (zA R_rowOf))), (ad 22, .inl (cI, 700000, .inl (zA (upZ R_rows_11 ((R_rowEnd + (((upZ R_rowSizes R_rowMany ((R_rowSizes (R_rowOf p1)) + 1)) (R_rowOf p1)) + 1)) - 1) p2)))), (ad 23, .inl (cI, 3200, .inl (zA (upZ R_rowBegins R_rowMany R_rowEnd)))), (ad 24, .inl (cI, 3200, .inl (zA (upZ R_rowSizes R_rowMany ((R_rowSizes (R_rowOf p1)) + 1)))))]) X (j_in in_Mod) ty_Mod tok_Mod nm_Mod 0 rfl rfl 31 (by decide) (j_m own_Mod_callFunction (by decide +kernel)) rfl rfl rfl (Nat.le_of_ble_eq_true rfl) d_Mod_callFunction_136 rfl ?_
    refine J_aload_n X d_Mod_callFunction_139 rfl 0 rfl ?_
    refine J_aload_n X d_Mod_callFunction_140 rfl 0 rfl ?_
    refine J_get X (j_in in_Mod) 0 rfl rfl 14 (by decide) (j_m own_Mod_callFunction (by decide +kernel)) rfl d_Mod_callFunction_141 ?_
    refine J_iload_n X d_Mod_callFunction_144 rfl 1 rfl ?_
    obtain ⟨g15, h⟩ := wk_g h
    refine J_iald X 1 0 rfl rfl g15 d_Mod_callFunction_145 ?_
    refine J_put (ws' := [(ad 0, .inr (10, [.int (zI R_thrown), .ref (ad 1), .ref (ad 2), .ref (ad 3), .ref (ad 4), .ref (ad 5), .ref (ad 6), .int (zI R_used), .ref (ad 7), .int (zI R_many), .ref (ad 8), .ref (ad 9), .ref (ad 10), .ref (ad 11), .ref (ad 12), .ref (ad 13), .ref (ad 14), .ref (ad 15), .ref (ad 16), .int (zI R_values), .ref (ad 17), .int (zI R_textEnd), .ref (ad 18), .ref (ad 19), .ref (ad 20), .ref (ad 21), .int (zI R_dataEnd), .ref (ad 22), .int (zI (R_rowEnd + (((upZ R_rowSizes R_rowMany ((R_rowSizes (R_rowOf p1)) + 1)) (R_rowOf p1)) + 1))), .ref (ad 23), .ref (ad 24), .int (zI (R_rowMany + 1)), .ref (ad 25), .ref (ad 26), .ref (ad 27), .ref (ad 28), .int (zI R_waiting), .int (zI R_mostWaiting), .int (zI R_answer), .int (zI R_steps), .int (zI R_memory_2), .int (zI R_maxSteps), .int (zI R_maxMemory), .int (zI R_fault_3), .int (zI R_result), .int (zI (R_nodeOf p1)), .int (zI R_rowMany), .int (zI R_come), .ref (ad 29), .ref (ad 30), .int (zI R_puts), .ref (ad 31)])), (ad 12, .inl (cI, 3700, .inl (zA R_nodeOf))), (ad 13, .inl (cI, 3700, .inl (zA R_rowOf))), (ad 22, .inl (cI, 700000, .inl (zA (upZ R_rows_11 ((R_rowEnd + (((upZ R_rowSizes R_rowMany ((R_rowSizes (R_rowOf p1)) + 1)) (R_rowOf p1)) + 1)) - 1) p2)))), (ad 23, .inl (cI, 3200, .inl (zA (upZ R_rowBegins R_rowMany R_rowEnd)))), (ad 24, .inl (cI, 3200, .inl (zA (upZ R_rowSizes R_rowMany ((R_rowSizes (R_rowOf p1)) + 1)))))]) X (j_in in_Mod) ty_Mod tok_Mod nm_Mod 0 rfl rfl 45 (by decide) (j_m own_Mod_callFunction (by decide +kernel)) rfl rfl rfl (Nat.le_of_ble_eq_true rfl) d_Mod_callFunction_146 rfl ?_
    cases h
    exact J_ret E rfl d_Mod_callFunction_149 (Nat.le_refl _) (Nat.le_refl _) rfl
  · cases h
    exact J_ret E rfl d_Mod_callFunction_8 (Nat.le_refl _) (Nat.le_refl _) rfl

