theorem d_Mod_callFunction_0 : decode b_Mod_callFunction 0 = .ok (.aload_n 0, 1) := by decide +kernel
theorem d_Mod_callFunction_1 : decode b_Mod_callFunction 1 = .ok (.iconst 1, 1) := by decide +kernel
theorem d_Mod_callFunction_2 : decode b_Mod_callFunction 2 = .ok (.invokevirtual 279, 3) := by decide +kernel
theorem d_Mod_callFunction_5 : decode b_Mod_callFunction 5 = .ok (.ifCond .ne 4, 3) := by decide +kernel
theorem d_Mod_callFunction_8 : decode b_Mod_callFunction 8 = .ok (.return_, 1) := by decide +kernel
theorem d_Mod_callFunction_9 : decode b_Mod_callFunction 9 = .ok (.aload_n 0, 1) := by decide +kernel
theorem d_Mod_callFunction_10 : decode b_Mod_callFunction 10 = .ok (.getfield 48, 3) := by decide +kernel
theorem d_Mod_callFunction_13 : decode b_Mod_callFunction 13 = .ok (.iload_n 1, 1) := by decide +kernel
theorem d_Mod_callFunction_14 : decode b_Mod_callFunction 14 = .ok (.iaload, 1) := by decide +kernel
theorem d_Mod_callFunction_15 : decode b_Mod_callFunction 15 = .ok (.istore_n 3, 1) := by decide +kernel
theorem d_Mod_callFunction_16 : decode b_Mod_callFunction 16 = .ok (.aload_n 0, 1) := by decide +kernel
theorem d_Mod_callFunction_17 : decode b_Mod_callFunction 17 = .ok (.getfield 80, 3) := by decide +kernel
theorem d_Mod_callFunction_20 : decode b_Mod_callFunction 20 = .ok (.aload_n 0, 1) := by decide +kernel
theorem d_Mod_callFunction_21 : decode b_Mod_callFunction 21 = .ok (.getfield 286, 3) := by decide +kernel
theorem d_Mod_callFunction_24 : decode b_Mod_callFunction 24 = .ok (.aload_n 0, 1) := by decide +kernel
theorem d_Mod_callFunction_25 : decode b_Mod_callFunction 25 = .ok (.getfield 289, 3) := by decide +kernel
theorem d_Mod_callFunction_28 : decode b_Mod_callFunction 28 = .ok (.iastore, 1) := by decide +kernel
theorem d_Mod_callFunction_29 : decode b_Mod_callFunction 29 = .ok (.aload_n 0, 1) := by decide +kernel
theorem d_Mod_callFunction_30 : decode b_Mod_callFunction 30 = .ok (.getfield 83, 3) := by decide +kernel
theorem d_Mod_callFunction_33 : decode b_Mod_callFunction 33 = .ok (.aload_n 0, 1) := by decide +kernel
theorem d_Mod_callFunction_34 : decode b_Mod_callFunction 34 = .ok (.getfield 286, 3) := by decide +kernel
theorem d_Mod_callFunction_37 : decode b_Mod_callFunction 37 = .ok (.aload_n 0, 1) := by decide +kernel
theorem d_Mod_callFunction_38 : decode b_Mod_callFunction 38 = .ok (.getfield 83, 3) := by decide +kernel
theorem d_Mod_callFunction_41 : decode b_Mod_callFunction 41 = .ok (.iload_n 3, 1) := by decide +kernel
theorem d_Mod_callFunction_42 : decode b_Mod_callFunction 42 = .ok (.iaload, 1) := by decide +kernel
theorem d_Mod_callFunction_43 : decode b_Mod_callFunction 43 = .ok (.iconst 1, 1) := by decide +kernel
theorem d_Mod_callFunction_44 : decode b_Mod_callFunction 44 = .ok (.iadd, 1) := by decide +kernel
theorem d_Mod_callFunction_45 : decode b_Mod_callFunction 45 = .ok (.iastore, 1) := by decide +kernel
theorem d_Mod_callFunction_46 : decode b_Mod_callFunction 46 = .ok (.iconst 0, 1) := by decide +kernel
theorem d_Mod_callFunction_47 : decode b_Mod_callFunction 47 = .ok (.istore 4, 2) := by decide +kernel
theorem d_Mod_callFunction_49 : decode b_Mod_callFunction 49 = .ok (.iload 4, 2) := by decide +kernel
theorem d_Mod_callFunction_51 : decode b_Mod_callFunction 51 = .ok (.aload_n 0, 1) := by decide +kernel
theorem d_Mod_callFunction_52 : decode b_Mod_callFunction 52 = .ok (.getfield 83, 3) := by decide +kernel
theorem d_Mod_callFunction_55 : decode b_Mod_callFunction 55 = .ok (.iload_n 3, 1) := by decide +kernel
theorem d_Mod_callFunction_56 : decode b_Mod_callFunction 56 = .ok (.iaload, 1) := by decide +kernel
theorem d_Mod_callFunction_57 : decode b_Mod_callFunction 57 = .ok (.if_icmp .ge 35, 3) := by decide +kernel
theorem d_Mod_callFunction_60 : decode b_Mod_callFunction 60 = .ok (.aload_n 0, 1) := by decide +kernel
theorem d_Mod_callFunction_61 : decode b_Mod_callFunction 61 = .ok (.getfield 77, 3) := by decide +kernel
theorem d_Mod_callFunction_64 : decode b_Mod_callFunction 64 = .ok (.aload_n 0, 1) := by decide +kernel
theorem d_Mod_callFunction_65 : decode b_Mod_callFunction 65 = .ok (.getfield 289, 3) := by decide +kernel
theorem d_Mod_callFunction_68 : decode b_Mod_callFunction 68 = .ok (.iload 4, 2) := by decide +kernel
theorem d_Mod_callFunction_70 : decode b_Mod_callFunction 70 = .ok (.iadd, 1) := by decide +kernel
theorem d_Mod_callFunction_71 : decode b_Mod_callFunction 71 = .ok (.aload_n 0, 1) := by decide +kernel
theorem d_Mod_callFunction_72 : decode b_Mod_callFunction 72 = .ok (.getfield 77, 3) := by decide +kernel
theorem d_Mod_callFunction_75 : decode b_Mod_callFunction 75 = .ok (.aload_n 0, 1) := by decide +kernel
theorem d_Mod_callFunction_76 : decode b_Mod_callFunction 76 = .ok (.getfield 80, 3) := by decide +kernel
theorem d_Mod_callFunction_79 : decode b_Mod_callFunction 79 = .ok (.iload_n 3, 1) := by decide +kernel
theorem d_Mod_callFunction_80 : decode b_Mod_callFunction 80 = .ok (.iaload, 1) := by decide +kernel
theorem d_Mod_callFunction_81 : decode b_Mod_callFunction 81 = .ok (.iload 4, 2) := by decide +kernel
theorem d_Mod_callFunction_83 : decode b_Mod_callFunction 83 = .ok (.iadd, 1) := by decide +kernel
theorem d_Mod_callFunction_84 : decode b_Mod_callFunction 84 = .ok (.iaload, 1) := by decide +kernel
theorem d_Mod_callFunction_85 : decode b_Mod_callFunction 85 = .ok (.iastore, 1) := by decide +kernel
theorem d_Mod_callFunction_86 : decode b_Mod_callFunction 86 = .ok (.iinc 4 1, 3) := by decide +kernel
theorem d_Mod_callFunction_89 : decode b_Mod_callFunction 89 = .ok (.goto (-40), 3) := by decide +kernel
theorem d_Mod_callFunction_92 : decode b_Mod_callFunction 92 = .ok (.aload_n 0, 1) := by decide +kernel
theorem d_Mod_callFunction_93 : decode b_Mod_callFunction 93 = .ok (.dup, 1) := by decide +kernel
theorem d_Mod_callFunction_94 : decode b_Mod_callFunction 94 = .ok (.getfield 289, 3) := by decide +kernel
theorem d_Mod_callFunction_97 : decode b_Mod_callFunction 97 = .ok (.aload_n 0, 1) := by decide +kernel
theorem d_Mod_callFunction_98 : decode b_Mod_callFunction 98 = .ok (.getfield 83, 3) := by decide +kernel
theorem d_Mod_callFunction_101 : decode b_Mod_callFunction 101 = .ok (.iload_n 3, 1) := by decide +kernel
theorem d_Mod_callFunction_102 : decode b_Mod_callFunction 102 = .ok (.iaload, 1) := by decide +kernel
theorem d_Mod_callFunction_103 : decode b_Mod_callFunction 103 = .ok (.iconst 1, 1) := by decide +kernel
theorem d_Mod_callFunction_104 : decode b_Mod_callFunction 104 = .ok (.iadd, 1) := by decide +kernel
theorem d_Mod_callFunction_105 : decode b_Mod_callFunction 105 = .ok (.iadd, 1) := by decide +kernel
theorem d_Mod_callFunction_106 : decode b_Mod_callFunction 106 = .ok (.putfield 289, 3) := by decide +kernel
theorem d_Mod_callFunction_109 : decode b_Mod_callFunction 109 = .ok (.aload_n 0, 1) := by decide +kernel
theorem d_Mod_callFunction_110 : decode b_Mod_callFunction 110 = .ok (.getfield 77, 3) := by decide +kernel
theorem d_Mod_callFunction_113 : decode b_Mod_callFunction 113 = .ok (.aload_n 0, 1) := by decide +kernel
theorem d_Mod_callFunction_114 : decode b_Mod_callFunction 114 = .ok (.getfield 289, 3) := by decide +kernel
theorem d_Mod_callFunction_117 : decode b_Mod_callFunction 117 = .ok (.iconst 1, 1) := by decide +kernel
theorem d_Mod_callFunction_118 : decode b_Mod_callFunction 118 = .ok (.isub, 1) := by decide +kernel
theorem d_Mod_callFunction_119 : decode b_Mod_callFunction 119 = .ok (.iload_n 2, 1) := by decide +kernel
theorem d_Mod_callFunction_120 : decode b_Mod_callFunction 120 = .ok (.iastore, 1) := by decide +kernel
theorem d_Mod_callFunction_121 : decode b_Mod_callFunction 121 = .ok (.aload_n 0, 1) := by decide +kernel
theorem d_Mod_callFunction_122 : decode b_Mod_callFunction 122 = .ok (.aload_n 0, 1) := by decide +kernel
theorem d_Mod_callFunction_123 : decode b_Mod_callFunction 123 = .ok (.getfield 286, 3) := by decide +kernel
theorem d_Mod_callFunction_126 : decode b_Mod_callFunction 126 = .ok (.putfield 274, 3) := by decide +kernel
theorem d_Mod_callFunction_129 : decode b_Mod_callFunction 129 = .ok (.aload_n 0, 1) := by decide +kernel
theorem d_Mod_callFunction_130 : decode b_Mod_callFunction 130 = .ok (.dup, 1) := by decide +kernel
theorem d_Mod_callFunction_131 : decode b_Mod_callFunction 131 = .ok (.getfield 286, 3) := by decide +kernel
theorem d_Mod_callFunction_134 : decode b_Mod_callFunction 134 = .ok (.iconst 1, 1) := by decide +kernel
theorem d_Mod_callFunction_135 : decode b_Mod_callFunction 135 = .ok (.iadd, 1) := by decide +kernel
theorem d_Mod_callFunction_136 : decode b_Mod_callFunction 136 = .ok (.putfield 286, 3) := by decide +kernel
theorem d_Mod_callFunction_139 : decode b_Mod_callFunction 139 = .ok (.aload_n 0, 1) := by decide +kernel
theorem d_Mod_callFunction_140 : decode b_Mod_callFunction 140 = .ok (.aload_n 0, 1) := by decide +kernel
theorem d_Mod_callFunction_141 : decode b_Mod_callFunction 141 = .ok (.getfield 45, 3) := by decide +kernel
theorem d_Mod_callFunction_144 : decode b_Mod_callFunction 144 = .ok (.iload_n 1, 1) := by decide +kernel
theorem d_Mod_callFunction_145 : decode b_Mod_callFunction 145 = .ok (.iaload, 1) := by decide +kernel
theorem d_Mod_callFunction_146 : decode b_Mod_callFunction 146 = .ok (.putfield 259, 3) := by decide +kernel
theorem d_Mod_callFunction_149 : decode b_Mod_callFunction 149 = .ok (.return_, 1) := by decide +kernel
def f_Mod_callFunction_L49 (R_maxMemory : Int) (R_nodeOf : Int → Int) (R_rowOf : Int → Int) : Nat → Int → Int → Int → Int → Int → Int → Int → Int → Int → Int → (Int → Int) → (Int → Int) → (Int → Int) → Option (Int × Int × Int × Int × Int × Int × (Int → Int) × (Int → Int) × (Int → Int))
  | 0, _, _, _, _, _, _, _, _, _, _, _, _, _ => none
  | n + 1, x1, x2, x3, x4, R_rowEnd, R_rowMany, R_memory, R_fault, R_now, R_nowRow, R_rows, R_rowBegins, R_rowSizes =>
    if jix x3 3200 = true then (
     if jr2 x4 (R_rowSizes x3) = true then (if (R_rowSizes x3) ≤ x4 then (
      if jix x3 3200 = true then (
       if jix ((R_rowEnd + ((R_rowSizes x3) + 1)) - 1) 700000 = true then (
        if jix x1 3700 = true then (
         some ((R_rowEnd + ((R_rowSizes x3) + 1)), (R_rowMany + 1), R_memory, R_fault, (R_nodeOf x1), R_rowMany, (upZ R_rows ((R_rowEnd + ((R_rowSizes x3) + 1)) - 1) x2), R_rowBegins, R_rowSizes)) else none) else none) else none) else (
      if jix x3 3200 = true then (
       if jix ((R_rowBegins x3) + x4) 700000 = true then (
        if jix (R_rowEnd + x4) 700000 = true then (
         f_Mod_callFunction_L49 R_maxMemory R_nodeOf R_rowOf n x1 x2 x3 (x4 + 1) R_rowEnd R_rowMany R_memory R_fault R_now R_nowRow (upZ R_rows (R_rowEnd + x4) (R_rows ((R_rowBegins x3) + x4))) R_rowBegins R_rowSizes) else none) else none) else none)) else none) else none
def f_Mod_callFunction (N : Nat) (R_rowEnd : Int) (R_rowMany : Int) (R_memory : Int) (R_maxMemory : Int) (R_fault : Int) (R_now : Int) (R_nowRow : Int) (R_nodeOf : Int → Int) (R_rowOf : Int → Int) (R_rows : Int → Int) (R_rowBegins : Int → Int) (R_rowSizes : Int → Int) (p1 : Int) (p2 : Int) : Option (Int × Int × Int × Int × Int × Int × (Int → Int) × (Int → Int) × (Int → Int)) :=
  ob3 (f_Mod_keep R_memory R_maxMemory R_fault 1) (fun r1 R_memory_2 R_fault_3 =>
   if rI r1 = true then (if r1 = 0 then (
    some (R_rowEnd, R_rowMany, R_memory_2, R_fault_3, R_now, R_nowRow, R_rows, R_rowBegins, R_rowSizes)) else (
    if jix p1 3700 = true then (
     if jix R_rowMany 3200 = true then (
      if jix (R_rowOf p1) 3200 = true then (
       if jix R_rowMany 3200 = true then (
        f_Mod_callFunction_L49 R_maxMemory R_nodeOf R_rowOf N p1 p2 (R_rowOf p1) 0 R_rowEnd R_rowMany R_memory_2 R_fault_3 R_now R_nowRow R_rows (upZ R_rowBegins R_rowMany R_rowEnd) (upZ R_rowSizes R_rowMany ((R_rowSizes (R_rowOf p1)) + 1))) else none) else none) else none) else none)) else none)
set_option maxHeartbeats 4000000 in
set_option maxRecDepth 100000 in
theorem k_Mod_callFunction_L49 {K : jK} {cI cL cB : ClassId} {ad : Nat → Nat} {R_thrown : Int} {R_used : Int} {R_many : Int} {R_values : Int} {R_textEnd : Int} {R_dataEnd : Int} {R_waiting : Int} {R_mostWaiting : Int} {R_answer : Int} {R_steps : Int} {R_maxSteps : Int} {R_maxMemory : Int} {R_result : Int} {R_come : Int} {R_puts : Int} {R_nodeOf : Int → Int} {R_rowOf : Int → Int} {out : Int × Int × Int × Int × Int × Int × (Int → Int) × (Int → Int) × (Int → Int)} (X : jX jF0 K 5 b_Mod_callFunction w_Mod_callFunction R_Mod [(cI, .int), (cL, .long), (cB, .byte)]) (E : jE K b_Mod_callFunction none ({ frames := 2, cells := 0, slots := 0, locals := 43 } : Room) false 0 0 none [(ad 0, .inr (10, [.int (zI R_thrown), .ref (ad 1), .ref (ad 2), .ref (ad 3), .ref (ad 4), .ref (ad 5), .ref (ad 6), .int (zI R_used), .ref (ad 7), .int (zI R_many), .ref (ad 8), .ref (ad 9), .ref (ad 10), .ref (ad 11), .ref (ad 12), .ref (ad 13), .ref (ad 14), .ref (ad 15), .ref (ad 16), .int (zI R_values), .ref (ad 17), .int (zI R_textEnd), .ref (ad 18), .ref (ad 19), .ref (ad 20), .ref (ad 21), .int (zI R_dataEnd), .ref (ad 22), .int (zI (out.1)), .ref (ad 23), .ref (ad 24), .int (zI (out.2.1)), .ref (ad 25), .ref (ad 26), .ref (ad 27), .ref (ad 28), .int (zI R_waiting), .int (zI R_mostWaiting), .int (zI R_answer), .int (zI R_steps), .int (zI (out.2.2.1)), .int (zI R_maxSteps), .int (zI R_maxMemory), .int (zI (out.2.2.2.1)), .int (zI R_result), .int (zI (out.2.2.2.2.1)), .int (zI (out.2.2.2.2.2.1)), .int (zI R_come), .ref (ad 29), .ref (ad 30), .int (zI R_puts), .ref (ad 31)])), (ad 12, .inl (cI, 3700, .inl (zA R_nodeOf))), (ad 13, .inl (cI, 3700, .inl (zA R_rowOf))), (ad 22, .inl (cI, 700000, .inl (zA (out.2.2.2.2.2.2.1)))), (ad 23, .inl (cI, 3200, .inl (zA (out.2.2.2.2.2.2.2.1)))), (ad 24, .inl (cI, 3200, .inl (zA (out.2.2.2.2.2.2.2.2))))]) : ∀ (n : Nat) (x1 : Int) (x2 : Int) (x3 : Int) (x4 : Int) (R_rowEnd : Int) (R_rowMany : Int) (R_memory : Int) (R_fault : Int) (R_now : Int) (R_nowRow : Int) (R_rows : Int → Int) (R_rowBegins : Int → Int) (R_rowSizes : Int → Int), f_Mod_callFunction_L49 R_maxMemory R_nodeOf R_rowOf n x1 x2 x3 x4 R_rowEnd R_rowMany R_memory R_fault R_now R_nowRow R_rows R_rowBegins R_rowSizes = some out → J K 5 ({ frames := 2, cells := 0, slots := 0, locals := 43 } : Room) false 0 0 [(ad 0, .inr (10, [.int (zI R_thrown), .ref (ad 1), .ref (ad 2), .ref (ad 3), .ref (ad 4), .ref (ad 5), .ref (ad 6), .int (zI R_used), .ref (ad 7), .int (zI R_many), .ref (ad 8), .ref (ad 9), .ref (ad 10), .ref (ad 11), .ref (ad 12), .ref (ad 13), .ref (ad 14), .ref (ad 15), .ref (ad 16), .int (zI R_values), .ref (ad 17), .int (zI R_textEnd), .ref (ad 18), .ref (ad 19), .ref (ad 20), .ref (ad 21), .int (zI R_dataEnd), .ref (ad 22), .int (zI R_rowEnd), .ref (ad 23), .ref (ad 24), .int (zI R_rowMany), .ref (ad 25), .ref (ad 26), .ref (ad 27), .ref (ad 28), .int (zI R_waiting), .int (zI R_mostWaiting), .int (zI R_answer), .int (zI R_steps), .int (zI R_memory), .int (zI R_maxSteps), .int (zI R_maxMemory), .int (zI R_fault), .int (zI R_result), .int (zI R_now), .int (zI R_nowRow), .int (zI R_come), .ref (ad 29), .ref (ad 30), .int (zI R_puts), .ref (ad 31)])), (ad 12, .inl (cI, 3700, .inl (zA R_nodeOf))), (ad 13, .inl (cI, 3700, .inl (zA R_rowOf))), (ad 22, .inl (cI, 700000, .inl (zA R_rows))), (ad 23, .inl (cI, 3200, .inl (zA R_rowBegins))), (ad 24, .inl (cI, 3200, .inl (zA R_rowSizes)))] [(0, .ref (ad 0)), (1, .int (zI x1)), (2, .int (zI x2)), (3, .int (zI x3)), (4, .int (zI x4))] [] 49 := by
  intro n
  induction n with
  | zero =>
    intro x1 x2 x3 x4 R_rowEnd R_rowMany R_memory R_fault R_now R_nowRow R_rows R_rowBegins R_rowSizes h
    cases h
  | succ n ih =>
    intro x1 x2 x3 x4 R_rowEnd R_rowMany R_memory R_fault R_now R_nowRow R_rows R_rowBegins R_rowSizes h
    unfold f_Mod_callFunction_L49 at h
    refine J_iload X d_Mod_callFunction_49 4 rfl ?_
    refine J_aload_n X d_Mod_callFunction_51 rfl 0 rfl ?_
    refine J_get X (j_in in_Mod) 0 rfl rfl 30 (by decide) (j_m own_Mod_callFunction (by decide +kernel)) rfl d_Mod_callFunction_52 ?_
    refine J_iload_n X d_Mod_callFunction_55 rfl 3 rfl ?_
    obtain ⟨g10, h⟩ := wk_g h
    refine J_iald X 5 0 rfl rfl g10 d_Mod_callFunction_56 ?_
    refine J_icmp_ge (tgt := 92) X d_Mod_callFunction_57 (by decide) h (fun c11 h => ?_) (fun c11 h => ?_)
    · refine J_aload_n X d_Mod_callFunction_92 rfl 0 rfl ?_
      refine J_dup X d_Mod_callFunction_93 rfl ?_
      refine J_get X (j_in in_Mod) 0 rfl rfl 28 (by decide) (j_m own_Mod_callFunction (by decide +kernel)) rfl d_Mod_callFunction_94 ?_
      refine J_aload_n X d_Mod_callFunction_97 rfl 0 rfl ?_
      refine J_get X (j_in in_Mod) 0 rfl rfl 30 (by decide) (j_m own_Mod_callFunction (by decide +kernel)) rfl d_Mod_callFunction_98 ?_
      refine J_iload_n X d_Mod_callFunction_101 rfl 3 rfl ?_
      obtain ⟨g12, h⟩ := wk_g h
      refine J_iald X 5 0 rfl rfl g12 d_Mod_callFunction_102 ?_
      refine J_iconst X d_Mod_callFunction_103 ?_
      refine J_iadd X d_Mod_callFunction_104 ?_
      refine J_iadd X d_Mod_callFunction_105 ?_
      refine J_put (ws' := [(ad 0, .inr (10, [.int (zI R_thrown), .ref (ad 1), .ref (ad 2), .ref (ad 3), .ref (ad 4), .ref (ad 5), .ref (ad 6), .int (zI R_used), .ref (ad 7), .int (zI R_many), .ref (ad 8), .ref (ad 9), .ref (ad 10), .ref (ad 11), .ref (ad 12), .ref (ad 13), .ref (ad 14), .ref (ad 15), .ref (ad 16), .int (zI R_values), .ref (ad 17), .int (zI R_textEnd), .ref (ad 18), .ref (ad 19), .ref (ad 20), .ref (ad 21), .int (zI R_dataEnd), .ref (ad 22), .int (zI (R_rowEnd + ((R_rowSizes x3) + 1))), .ref (ad 23), .ref (ad 24), .int (zI R_rowMany), .ref (ad 25), .ref (ad 26), .ref (ad 27), .ref (ad 28), .int (zI R_waiting), .int (zI R_mostWaiting), .int (zI R_answer), .int (zI R_steps), .int (zI R_memory), .int (zI R_maxSteps), .int (zI R_maxMemory), .int (zI R_fault), .int (zI R_result), .int (zI R_now), .int (zI R_nowRow), .int (zI R_come), .ref (ad 29), .ref (ad 30), .int (zI R_puts), .ref (ad 31)])), (ad 12, .inl (cI, 3700, .inl (zA R_nodeOf))), (ad 13, .inl (cI, 3700, .inl (zA R_rowOf))), (ad 22, .inl (cI, 700000, .inl (zA R_rows))), (ad 23, .inl (cI, 3200, .inl (zA R_rowBegins))), (ad 24, .inl (cI, 3200, .inl (zA R_rowSizes)))]) X (j_in in_Mod) ty_Mod tok_Mod nm_Mod 0 rfl rfl 28 (by decide) (j_m own_Mod_callFunction (by decide +kernel)) rfl rfl rfl (Nat.le_of_ble_eq_true rfl) d_Mod_callFunction_106 rfl ?_
      refine J_aload_n X d_Mod_callFunction_109 rfl 0 rfl ?_
      refine J_get X (j_in in_Mod) 0 rfl rfl 27 (by decide) (j_m own_Mod_callFunction (by decide +kernel)) rfl d_Mod_callFunction_110 ?_
      refine J_aload_n X d_Mod_callFunction_113 rfl 0 rfl ?_
      refine J_get X (j_in in_Mod) 0 rfl rfl 28 (by decide) (j_m own_Mod_callFunction (by decide +kernel)) rfl d_Mod_callFunction_114 ?_
      refine J_iconst X d_Mod_callFunction_117 ?_
      refine J_isub X d_Mod_callFunction_118 ?_
      refine J_iload_n X d_Mod_callFunction_119 rfl 2 rfl ?_
      obtain ⟨g13, h⟩ := wk_g h
      refine J_iast (ws' := [(ad 0, .inr (10, [.int (zI R_thrown), .ref (ad 1), .ref (ad 2), .ref (ad 3), .ref (ad 4), .ref (ad 5), .ref (ad 6), .int (zI R_used), .ref (ad 7), .int (zI R_many), .ref (ad 8), .ref (ad 9), .ref (ad 10), .ref (ad 11), .ref (ad 12), .ref (ad 13), .ref (ad 14), .ref (ad 15), .ref (ad 16), .int (zI R_values), .ref (ad 17), .int (zI R_textEnd), .ref (ad 18), .ref (ad 19), .ref (ad 20), .ref (ad 21), .int (zI R_dataEnd), .ref (ad 22), .int (zI (R_rowEnd + ((R_rowSizes x3) + 1))), .ref (ad 23), .ref (ad 24), .int (zI R_rowMany), .ref (ad 25), .ref (ad 26), .ref (ad 27), .ref (ad 28), .int (zI R_waiting), .int (zI R_mostWaiting), .int (zI R_answer), .int (zI R_steps), .int (zI R_memory), .int (zI R_maxSteps), .int (zI R_maxMemory), .int (zI R_fault), .int (zI R_result), .int (zI R_now), .int (zI R_nowRow), .int (zI R_come), .ref (ad 29), .ref (ad 30), .int (zI R_puts), .ref (ad 31)])), (ad 12, .inl (cI, 3700, .inl (zA R_nodeOf))), (ad 13, .inl (cI, 3700, .inl (zA R_rowOf))), (ad 22, .inl (cI, 700000, .inl (zA (upZ R_rows ((R_rowEnd + ((R_rowSizes x3) + 1)) - 1) x2)))), (ad 23, .inl (cI, 3200, .inl (zA R_rowBegins))), (ad 24, .inl (cI, 3200, .inl (zA R_rowSizes)))]) X 3 0 rfl rfl g13 d_Mod_callFunction_120 rfl ?_
      refine J_aload_n X d_Mod_callFunction_121 rfl 0 rfl ?_
      refine J_aload_n X d_Mod_callFunction_122 rfl 0 rfl ?_
      refine J_get X (j_in in_Mod) 0 rfl rfl 31 (by decide) (j_m own_Mod_callFunction (by decide +kernel)) rfl d_Mod_callFunction_123 ?_
      refine J_put (ws' := [(ad 0, .inr (10, [.int (zI R_thrown), .ref (ad 1), .ref (ad 2), .ref (ad 3), .ref (ad 4), .ref (ad 5), .ref (ad 6), .int (zI R_used), .ref (ad 7), .int (zI R_many), .ref (ad 8), .ref (ad 9), .ref (ad 10), .ref (ad 11), .ref (ad 12), .ref (ad 13), .ref (ad 14), .ref (ad 15), .ref (ad 16), .int (zI R_values), .ref (ad 17), .int (zI R_textEnd), .ref (ad 18), .ref (ad 19), .ref (ad 20), .ref (ad 21), .int (zI R_dataEnd), .ref (ad 22), .int (zI (R_rowEnd + ((R_rowSizes x3) + 1))), .ref (ad 23), .ref (ad 24), .int (zI R_rowMany), .ref (ad 25), .ref (ad 26), .ref (ad 27), .ref (ad 28), .int (zI R_waiting), .int (zI R_mostWaiting), .int (zI R_answer), .int (zI R_steps), .int (zI R_memory), .int (zI R_maxSteps), .int (zI R_maxMemory), .int (zI R_fault), .int (zI R_result), .int (zI R_now), .int (zI R_rowMany), .int (zI R_come), .ref (ad 29), .ref (ad 30), .int (zI R_puts), .ref (ad 31)])), (ad 12, .inl (cI, 3700, .inl (zA R_nodeOf))), (ad 13, .inl (cI, 3700, .inl (zA R_rowOf))), (ad 22, .inl (cI, 700000, .inl (zA (upZ R_rows ((R_rowEnd + ((R_rowSizes x3) + 1)) - 1) x2)))), (ad 23, .inl (cI, 3200, .inl (zA R_rowBegins))), (ad 24, .inl (cI, 3200, .inl (zA R_rowSizes)))]) X (j_in in_Mod) ty_Mod tok_Mod nm_Mod 0 rfl rfl 46 (by decide) (j_m own_Mod_callFunction (by decide +kernel)) rfl rfl rfl (Nat.le_of_ble_eq_true rfl) d_Mod_callFunction_126 rfl ?_
      refine J_aload_n X d_Mod_callFunction_129 rfl 0 rfl ?_
      refine J_dup X d_Mod_callFunction_130 rfl ?_
      refine J_get X (j_in in_Mod) 0 rfl rfl 31 (by decide) (j_m own_Mod_callFunction (by decide +kernel)) rfl d_Mod_callFunction_131 ?_
      refine J_iconst X d_Mod_callFunction_134 ?_
      refine J_iadd X d_Mod_callFunction_135 ?_
      refine J_put (ws' := [(ad 0, .inr (10, [.int (zI R_thrown), .ref (ad 1), .ref (ad 2), .ref (ad 3), .ref (ad 4), .ref (ad 5), .ref (ad 6), .int (zI R_used), .ref (ad 7), .int (zI R_many), .ref (ad 8), .ref (ad 9), .ref (ad 10), .ref (ad 11), .ref (ad 12), .ref (ad 13), .ref (ad 14), .ref (ad 15), .ref (ad 16), .int (zI R_values), .ref (ad 17), .int (zI R_textEnd), .ref (ad 18), .ref (ad 19), .ref (ad 20), .ref (ad 21), .int (zI R_dataEnd), .ref (ad 22), .int (zI (R_rowEnd + ((R_rowSizes x3) + 1))), .ref (ad 23), .ref (ad 24), .int (zI (R_rowMany + 1)), .ref (ad 25), .ref (ad 26), .ref (ad 27), .ref (ad 28), .int (zI R_waiting), .int (zI R_mostWaiting), .int (zI R_answer), .int (zI R_steps), .int (zI R_memory), .int (zI R_maxSteps), .int (zI R_maxMemory), .int (zI R_fault), .int (zI R_result), .int (zI R_now), .int (zI R_rowMany), .int (zI R_come), .ref (ad 29), .ref (ad 30), .int (zI R_puts), .ref (ad 31)])), (ad 12, .inl (cI, 3700, .inl (zA R_nodeOf))), (ad 13, .inl (cI, 3700, .inl (zA R_rowOf))), (ad 22, .inl (cI, 700000, .inl (zA (upZ R_rows ((R_rowEnd + ((R_rowSizes x3) + 1)) - 1) x2)))), (ad 23, .inl (cI, 3200, .inl (zA R_rowBegins))), (ad 24, .inl (cI, 3200, .inl (zA R_rowSizes)))]) X (j_in in_Mod) ty_Mod tok_Mod nm_Mod 0 rfl rfl 31 (by decide) (j_m own_Mod_callFunction (by decide +kernel)) rfl rfl rfl (Nat.le_of_ble_eq_true rfl) d_Mod_callFunction_136 rfl ?_
      refine J_aload_n X d_Mod_callFunction_139 rfl 0 rfl ?_
      refine J_aload_n X d_Mod_callFunction_140 rfl 0 rfl ?_
      refine J_get X (j_in in_Mod) 0 rfl rfl 14 (by decide) (j_m own_Mod_callFunction (by decide +kernel)) rfl d_Mod_callFunction_141 ?_
      refine J_iload_n X d_Mod_callFunction_144 rfl 1 rfl ?_
      obtain ⟨g14, h⟩ := wk_g h
      refine J_iald X 1 0 rfl rfl g14 d_Mod_callFunction_145 ?_
      refine J_put (ws' := [(ad 0, .inr (10, [.int (zI R_thrown), .ref (ad 1), .ref (ad 2), .ref (ad 3), .ref (ad 4), .ref (ad 5), .ref (ad 6), .int (zI R_used), .ref (ad 7), .int (zI R_many), .ref (ad 8), .ref (ad 9), .ref (ad 10), .ref (ad 11), .ref (ad 12), .ref (ad 13), .ref (ad 14), .ref (ad 15), .ref (ad 16), .int (zI R_values), .ref (ad 17), .int (zI R_textEnd), .ref (ad 18), .ref (ad 19), .ref (ad 20), .ref (ad 21), .int (zI R_dataEnd), .ref (ad 22), .int (zI (R_rowEnd + ((R_rowSizes x3) + 1))), .ref (ad 23), .ref (ad 24), .int (zI (R_rowMany + 1)), .ref (ad 25), .ref (ad 26), .ref (ad 27), .ref (ad 28), .int (zI R_waiting), .int (zI R_mostWaiting), .int (zI R_answer), .int (zI R_steps), .int (zI R_memory), .int (zI R_maxSteps), .int (zI R_maxMemory), .int (zI R_fault), .int (zI R_result), .int (zI (R_nodeOf x1)), .int (zI R_rowMany), .int (zI R_come), .ref (ad 29), .ref (ad 30), .int (zI R_puts), .ref (ad 31)])), (ad 12, .inl (cI, 3700, .inl (zA R_nodeOf))), (ad 13, .inl (cI, 3700, .inl (zA R_rowOf))), (ad 22, .inl (cI, 700000, .inl (zA (upZ R_rows ((R_rowEnd + ((R_rowSizes x3) + 1)) - 1) x2)))), (ad 23, .inl (cI, 3200, .inl (zA R_rowBegins))), (ad 24, .inl (cI, 3200, .inl (zA R_rowSizes)))]) X (j_in in_Mod) ty_Mod tok_Mod nm_Mod 0 rfl rfl 45 (by decide) (j_m own_Mod_callFunction (by decide +kernel)) rfl rfl rfl (Nat.le_of_ble_eq_true rfl) d_Mod_callFunction_146 rfl ?_
      cases h
      exact J_ret E rfl d_Mod_callFunction_149 (Nat.le_refl _) (Nat.le_refl _) rfl
    · refine J_aload_n X d_Mod_callFunction_60 rfl 0 rfl ?_
      refine J_get X (j_in in_Mod) 0 rfl rfl 27 (by decide) (j_m own_Mod_callFunction (by decide +kernel)) rfl d_Mod_callFunction_61 ?_
      refine J_aload_n X d_Mod_callFunction_64 rfl 0 rfl ?_
      refine J_get X (j_in in_Mod) 0 rfl rfl 28 (by decide) (j_m own_Mod_callFunction (by decide +kernel)) rfl d_Mod_callFunction_65 ?_
      refine J_iload X d_Mod_callFunction_68 4 rfl ?_
      refine J_iadd X d_Mod_callFunction_70 ?_
      refine J_aload_n X d_Mod_callFunction_71 rfl 0 rfl ?_
      refine J_get X (j_in in_Mod) 0 rfl rfl 27 (by decide) (j_m own_Mod_callFunction (by decide +kernel)) rfl d_Mod_callFunction_72 ?_
      refine J_aload_n X d_Mod_callFunction_75 rfl 0 rfl ?_
      refine J_get X (j_in in_Mod) 0 rfl rfl 29 (by decide) (j_m own_Mod_callFunction (by decide +kernel)) rfl d_Mod_callFunction_76 ?_
      refine J_iload_n X d_Mod_callFunction_79 rfl 3 rfl ?_
      obtain ⟨g15, h⟩ := wk_g h
      refine J_iald X 4 0 rfl rfl g15 d_Mod_callFunction_80 ?_
      refine J_iload X d_Mod_callFunction_81 4 rfl ?_
      refine J_iadd X d_Mod_callFunction_83 ?_
      obtain ⟨g16, h⟩ := wk_g h
      refine J_iald X 3 0 rfl rfl g16 d_Mod_callFunction_84 ?_
      obtain ⟨g17, h⟩ := wk_g h
      refine J_iast (ws' := [(ad 0, .inr (10, [.int (zI R_thrown), .ref (ad 1), .ref (ad 2), .ref (ad 3), .ref (ad 4), .ref (ad 5), .ref (ad 6), .int (zI R_used), .ref (ad 7), .int (zI R_many), .ref (ad 8), .ref (ad 9), .ref (ad 10), .ref (ad 11), .ref (ad 12), .ref (ad 13), .ref (ad 14), .ref (ad 15), .ref (ad 16), .int (zI R_values), .ref (ad 17), .int (zI R_textEnd), .ref (ad 18), .ref (ad 19), .ref (ad 20), .ref (ad 21), .int (zI R_dataEnd), .ref (ad 22), .int (zI R_rowEnd), .ref (ad 23), .ref (ad 24), .int (zI R_rowMany), .ref (ad 25), .ref (ad 26), .ref (ad 27), .ref (ad 28), .int (zI R_waiting), .int (zI R_mostWaiting), .int (zI R_answer), .int (zI R_steps), .int (zI R_memory), .int (zI R_maxSteps), .int (zI R_maxMemory), .int (zI R_fault), .int (zI R_result), .int (zI R_now), .int (zI R_nowRow), .int (zI R_come), .ref (ad 29), .ref (ad 30), .int (zI R_puts), .ref (ad 31)])), (ad 12, .inl (cI, 3700, .inl (zA R_nodeOf))), (ad 13, .inl (cI, 3700, .inl (zA R_rowOf))), (ad 22, .inl (cI, 700000, .inl (zA (upZ R_rows (R_rowEnd + x4) (R_rows ((R_rowBegins x3) + x4)))))), (ad 23, .inl (cI, 3200, .inl (zA R_rowBegins))), (ad 24, .inl (cI, 3200, .inl (zA R_rowSizes)))]) X 3 0 rfl rfl g17 d_Mod_callFunction_85 rfl ?_
      refine J_iinc (lv' := [(4, .int (zI (x4 + 1))), (0, .ref (ad 0)), (1, .int (zI x1)), (2, .int (zI x2)), (3, .int (zI x3))]) X d_Mod_callFunction_86 4 rfl (by decide) rfl ?_
      refine J_goto (tgt := 49) X d_Mod_callFunction_89 (by decide) ?_
      refine J_lv (lv' := [(0, .ref (ad 0)), (1, .int (zI x1)), (2, .int (zI x2)), (3, .int (zI x3)), (4, .int (zI (x4 + 1)))]) [1, 2, 3, 4, 0] rfl ?_
      exact ih _ _ _ _ _ _ _ _ _ _ _ _ _ h
set_option maxHeartbeats 4000000 in
set_option maxRecDepth 100000 in
theorem c_Mod_callFunction {l : Launch} {D : va_G} {cI cL cB : ClassId} {ad : Nat → Nat} {N : Nat} {R_thrown : Int} {R_used : Int} {R_many : Int} {R_values : Int} {R_textEnd : Int} {R_dataEnd : Int} {R_rowEnd : Int} {R_rowMany : Int} {R_waiting : Int} {R_mostWaiting : Int} {R_answer : Int} {R_steps : Int} {R_memory : Int} {R_maxSteps : Int} {R_maxMemory : Int} {R_fault : Int} {R_result : Int} {R_now : Int} {R_nowRow : Int} {R_come : Int} {R_puts : Int} {R_nodeOf : Int → Int} {R_rowOf : Int → Int} {R_rows : Int → Int} {R_rowBegins : Int → Int} {R_rowSizes : Int → Int} {p1 : Int} {p2 : Int} {out : Int × Int × Int × Int × Int × Int × (Int → Int) × (Int → Int) × (Int → Int)} (h : f_Mod_callFunction N R_rowEnd R_rowMany R_memory R_maxMemory R_fault R_now R_nowRow R_nodeOf R_rowOf R_rows R_rowBegins R_rowSizes p1 p2 = some out) : CT jF0 false l D [(cI, .int), (cL, .long), (cB, .byte)] y_Mod_callFunction w_Mod_callFunction ({ frames := 2, cells := 0, slots := 0, locals := 43 } : Room) [.ref (ad 0), .int (zI p1), .int (zI p2)] [(ad 0, .inr (10, [.int (zI R_thrown), .ref (ad 1), .ref (ad 2), .ref (ad 3), .ref (ad 4), .ref (ad 5), .ref (ad 6), .int (zI R_used), .ref (ad 7), .int (zI R_many), .ref (ad 8), .ref (ad 9), .ref (ad 10), .ref (ad 11), .ref (ad 12), .ref (ad 13), .ref (ad 14), .ref (ad 15), .ref (ad 16), .int (zI R_values), .ref (ad 17), .int (zI R_textEnd), .ref (ad 18), .ref (ad 19), .ref (ad 20), .ref (ad 21), .int (zI R_dataEnd), .ref (ad 22), .int (zI R_rowEnd), .ref (ad 23), .ref (ad 24), .int (zI R_rowMany), .ref (ad 25), .ref (ad 26), .ref (ad 27), .ref (ad 28), .int (zI R_waiting), .int (zI R_mostWaiting), .int (zI R_answer), .int (zI R_steps), .int (zI R_memory), .int (zI R_maxSteps), .int (zI R_maxMemory), .int (zI R_fault), .int (zI R_result), .int (zI R_now), .int (zI R_nowRow), .int (zI R_come), .ref (ad 29), .ref (ad 30), .int (zI R_puts), .ref (ad 31)])), (ad 12, .inl (cI, 3700, .inl (zA R_nodeOf))), (ad 13, .inl (cI, 3700, .inl (zA R_rowOf))), (ad 22, .inl (cI, 700000, .inl (zA R_rows))), (ad 23, .inl (cI, 3200, .inl (zA R_rowBegins))), (ad 24, .inl (cI, 3200, .inl (zA R_rowSizes)))] none [(ad 0, .inr (10, [.int (zI R_thrown), .ref (ad 1), .ref (ad 2), .ref (ad 3), .ref (ad 4), .ref (ad 5), .ref (ad 6), .int (zI R_used), .ref (ad 7), .int (zI R_many), .ref (ad 8), .ref (ad 9), .ref (ad 10), .ref (ad 11), .ref (ad 12), .ref (ad 13), .ref (ad 14), .ref (ad 15), .ref (ad 16), .int (zI R_values), .ref (ad 17), .int (zI R_textEnd), .ref (ad 18), .ref (ad 19), .ref (ad 20), .ref (ad 21), .int (zI R_dataEnd), .ref (ad 22), .int (zI (out.1)), .ref (ad 23), .ref (ad 24), .int (zI (out.2.1)), .ref (ad 25), .ref (ad 26), .ref (ad 27), .ref (ad 28), .int (zI R_waiting), .int (zI R_mostWaiting), .int (zI R_answer), .int (zI R_steps), .int (zI (out.2.2.1)), .int (zI R_maxSteps), .int (zI R_maxMemory), .int (zI (out.2.2.2.1)), .int (zI R_result), .int (zI (out.2.2.2.2.1)), .int (zI (out.2.2.2.2.2.1)), .int (zI R_come), .ref (ad 29), .ref (ad 30), .int (zI R_puts), .ref (ad 31)])), (ad 12, .inl (cI, 3700, .inl (zA R_nodeOf))), (ad 13, .inl (cI, 3700, .inl (zA R_rowOf))), (ad 22, .inl (cI, 700000, .inl (zA (out.2.2.2.2.2.2.1)))), (ad 23, .inl (cI, 3200, .inl (zA (out.2.2.2.2.2.2.2.1)))), (ad 24, .inl (cI, 3200, .inl (zA (out.2.2.2.2.2.2.2.2))))] 0 0 := by
  refine CT_of_J (cc := b_Mod_callFunction) (maxL := 5) (ret := none) jF0_k (by decide) rfl (Nat.le_of_ble_eq_true rfl) ?_
  intro K hKl hKD X E
  subst hKl; subst hKD
  unfold f_Mod_callFunction at h
  refine J_aload_n X d_Mod_callFunction_0 rfl 0 rfl ?_
  refine J_iconst X d_Mod_callFunction_1 ?_
  obtain ⟨r1, R_memory_2, R_fault_3, q4, h⟩ := wk_b3 h
  refine J_afterI0 (ws' := [(ad 0, .inr (10, [.int (zI R_thrown), .ref (ad 1), .ref (ad 2), .ref (ad 3), .ref (ad 4), .ref (ad 5), .ref (ad 6), .int (zI R_used), .ref (ad 7), .int (zI R_many), .ref (ad 8), .ref (ad 9), .ref (ad 10), .ref (ad 11), .ref (ad 12), .ref (ad 13), .ref (ad 14), .ref (ad 15), .ref (ad 16), .int (zI R_values), .ref (ad 17), .int (zI R_textEnd), .ref (ad 18), .ref (ad 19), .ref (ad 20), .ref (ad 21), .int (zI R_dataEnd), .ref (ad 22), .int (zI R_rowEnd), .ref (ad 23), .ref (ad 24), .int (zI R_rowMany), .ref (ad 25), .ref (ad 26), .ref (ad 27), .ref (ad 28), .int (zI R_waiting), .int (zI R_mostWaiting), .int (zI R_answer), .int (zI R_steps), .int (zI R_memory_2), .int (zI R_maxSteps), .int (zI R_maxMemory), .int (zI R_fault_3), .int (zI R_result), .int (zI R_now), .int (zI R_nowRow), .int (zI R_come), .ref (ad 29), .ref (ad 30), .int (zI R_puts), .ref (ad 31)])), (ad 12, .inl (cI, 3700, .inl (zA R_nodeOf))), (ad 13, .inl (cI, 3700, .inl (zA R_rowOf))), (ad 22, .inl (cI, 700000, .inl (zA R_rows))), (ad 23, .inl (cI, 3200, .inl (zA R_rowBegins))), (ad 24, .inl (cI, 3200, .inl (zA R_rowSizes)))]) X (jrunV X (c_Mod_keep (ad := ad) q4) jF0_k (fun _ _ _ _ => trivial) (jgV own_Mod_callFunction (by decide +kernel)) rfl rfl rfl pd_Mod_keep (by decide) [0] rfl (by decide) 0 10 rfl rfl rfl rfl (Nat.le_of_ble_eq_true rfl) d_Mod_callFunction_2 (by decide)) [0] [1, 2, 3, 4, 5] [5, 0, 1, 2, 3, 4] rfl rfl (by decide) (by decide) rfl (by decide) ?_
  refine J_if_ne (tgt := 9) X d_Mod_callFunction_5 (by decide) h (fun c5 h => ?_) (fun c5 h => ?_)
  · refine J_aload_n X d_Mod_callFunction_9 rfl 0 rfl ?_
    refine J_get X (j_in in_Mod) 0 rfl rfl 15 (by decide) (j_m own_Mod_callFunction (by decide +kernel)) rfl d_Mod_callFunction_10 ?_
    refine J_iload_n X d_Mod_callFunction_13 rfl 1 rfl ?_
    obtain ⟨g6, h⟩ := wk_g h
    refine J_iald X 2 0 rfl rfl g6 d_Mod_callFunction_14 ?_
    refine J_istore_n (lv' := [(3, .int (zI (R_rowOf p1))), (0, .ref (ad 0)), (1, .int (zI p1)), (2, .int (zI p2))]) X d_Mod_callFunction_15 rfl (by decide) rfl ?_
    refine J_aload_n X d_Mod_callFunction_16 rfl 1 rfl ?_
    refine J_get X (j_in in_Mod) 0 rfl rfl 29 (by decide) (j_m own_Mod_callFunction (by decide +kernel)) rfl d_Mod_callFunction_17 ?_
    refine J_aload_n X d_Mod_callFunction_20 rfl 1 rfl ?_
    refine J_get X (j_in in_Mod) 0 rfl rfl 31 (by decide) (j_m own_Mod_callFunction (by decide +kernel)) rfl d_Mod_callFunction_21 ?_
    refine J_aload_n X d_Mod_callFunction_24 rfl 1 rfl ?_
    refine J_get X (j_in in_Mod) 0 rfl rfl 28 (by decide) (j_m own_Mod_callFunction (by decide +kernel)) rfl d_Mod_callFunction_25 ?_
    obtain ⟨g7, h⟩ := wk_g h
    refine J_iast (ws' := [(ad 0, .inr (10, [.int (zI R_thrown), .ref (ad 1), .ref (ad 2), .ref (ad 3), .ref (ad 4), .ref (ad 5), .ref (ad 6), .int (zI R_used), .ref (ad 7), .int (zI R_many), .ref (ad 8), .ref (ad 9), .ref (ad 10), .ref (ad 11), .ref (ad 12), .ref (ad 13), .ref (ad 14), .ref (ad 15), .ref (ad 16), .int (zI R_values), .ref (ad 17), .int (zI R_textEnd), .ref (ad 18), .ref (ad 19), .ref (ad 20), .ref (ad 21), .int (zI R_dataEnd), .ref (ad 22), .int (zI R_rowEnd), .ref (ad 23), .ref (ad 24), .int (zI R_rowMany), .ref (ad 25), .ref (ad 26), .ref (ad 27), .ref (ad 28), .int (zI R_waiting), .int (zI R_mostWaiting), .int (zI R_answer), .int (zI R_steps), .int (zI R_memory_2), .int (zI R_maxSteps), .int (zI R_maxMemory), .int (zI R_fault_3), .int (zI R_result), .int (zI R_now), .int (zI R_nowRow), .int (zI R_come), .ref (ad 29), .ref (ad 30), .int (zI R_puts), .ref (ad 31)])), (ad 12, .inl (cI, 3700, .inl (zA R_nodeOf))), (ad 13, .inl (cI, 3700, .inl (zA R_rowOf))), (ad 22, .inl (cI, 700000, .inl (zA R_rows))), (ad 23, .inl (cI, 3200, .inl (zA (upZ R_rowBegins R_rowMany R_rowEnd)))), (ad 24, .inl (cI, 3200, .inl (zA R_rowSizes)))]) X 4 0 rfl rfl g7 d_Mod_callFunction_28 rfl ?_
    refine J_aload_n X d_Mod_callFunction_29 rfl 1 rfl ?_
    refine J_get X (j_in in_Mod) 0 rfl rfl 30 (by decide) (j_m own_Mod_callFunction (by decide +kernel)) rfl d_Mod_callFunction_30 ?_
    refine J_aload_n X d_Mod_callFunction_33 rfl 1 rfl ?_
    refine J_get X (j_in in_Mod) 0 rfl rfl 31 (by decide) (j_m own_Mod_callFunction (by decide +kernel)) rfl d_Mod_callFunction_34 ?_
    refine J_aload_n X d_Mod_callFunction_37 rfl 1 rfl ?_
    refine J_get X (j_in in_Mod) 0 rfl rfl 30 (by decide) (j_m own_Mod_callFunction (by decide +kernel)) rfl d_Mod_callFunction_38 ?_
    refine J_iload_n X d_Mod_callFunction_41 rfl 0 rfl ?_
    obtain ⟨g8, h⟩ := wk_g h
    refine J_iald X 5 0 rfl rfl g8 d_Mod_callFunction_42 ?_
    refine J_iconst X d_Mod_callFunction_43 ?_
    refine J_iadd X d_Mod_callFunction_44 ?_
    obtain ⟨g9, h⟩ := wk_g h
    refine J_iast (ws' := [(ad 0, .inr (10, [.int (zI R_thrown), .ref (ad 1), .ref (ad 2), .ref (ad 3), .ref (ad 4), .ref (ad 5), .ref (ad 6), .int (zI R_used), .ref (ad 7), .int (zI R_many), .ref (ad 8), .ref (ad 9), .ref (ad 10), .ref (ad 11), .ref (ad 12), .ref (ad 13), .ref (ad 14), .ref (ad 15), .ref (ad 16), .int (zI R_values), .ref (ad 17), .int (zI R_textEnd), .ref (ad 18), .ref (ad 19), .ref (ad 20), .ref (ad 21), .int (zI R_dataEnd), .ref (ad 22), .int (zI R_rowEnd), .ref (ad 23), .ref (ad 24), .int (zI R_rowMany), .ref (ad 25), .ref (ad 26), .ref (ad 27), .ref (ad 28), .int (zI R_waiting), .int (zI R_mostWaiting), .int (zI R_answer), .int (zI R_steps), .int (zI R_memory_2), .int (zI R_maxSteps), .int (zI R_maxMemory), .int (zI R_fault_3), .int (zI R_result), .int (zI R_now), .int (zI R_nowRow), .int (zI R_come), .ref (ad 29), .ref (ad 30), .int (zI R_puts), .ref (ad 31)])), (ad 12, .inl (cI, 3700, .inl (zA R_nodeOf))), (ad 13, .inl (cI, 3700, .inl (zA R_rowOf))), (ad 22, .inl (cI, 700000, .inl (zA R_rows))), (ad 23, .inl (cI, 3200, .inl (zA (upZ R_rowBegins R_rowMany R_rowEnd)))), (ad 24, .inl (cI, 3200, .inl (zA (upZ R_rowSizes R_rowMany ((R_rowSizes (R_rowOf p1)) + 1)))))]) X 5 0 rfl rfl g9 d_Mod_callFunction_45 rfl ?_
    refine J_iconst X d_Mod_callFunction_46 ?_
    refine J_istore (lv' := [(4, .int (zI 0)), (3, .int (zI (R_rowOf p1))), (0, .ref (ad 0)), (1, .int (zI p1)), (2, .int (zI p2))]) X d_Mod_callFunction_47 (by decide) rfl ?_
    refine J_lv (lv' := [(0, .ref (ad 0)), (1, .int (zI p1)), (2, .int (zI p2)), (3, .int (zI (R_rowOf p1))), (4, .int (zI 0))]) [2, 3, 4, 1, 0] rfl ?_
    exact k_Mod_callFunction_L49 X E _ _ _ _ _ _ _ _ _ _ _ _ _ _ h
  · cases h
    exact J_ret E rfl d_Mod_callFunction_8 (Nat.le_refl _) (Nat.le_refl _) rfl

theorem d_Mod_callBuiltin_0 : decode b_Mod_callBuiltin 0 = .ok (.aload_n 0, 1) := by decide +kernel
theorem d_Mod_callBuiltin_1 : decode b_Mod_callBuiltin 1 = .ok (.getfield 36, 3) := by decide +kernel
theorem d_Mod_callBuiltin_4 : decode b_Mod_callBuiltin 4 = .ok (.iload_n 1, 1) := by decide +kernel
theorem d_Mod_callBuiltin_5 : decode b_Mod_callBuiltin 5 = .ok (.laload, 1) := by decide +kernel
theorem d_Mod_callBuiltin_6 : decode b_Mod_callBuiltin 6 = .ok (.l2i, 1) := by decide +kernel
theorem d_Mod_callBuiltin_7 : decode b_Mod_callBuiltin 7 = .ok (.istore_n 3, 1) := by decide +kernel
theorem d_Mod_callBuiltin_8 : decode b_Mod_callBuiltin 8 = .ok (.aload_n 0, 1) := by decide +kernel
theorem d_Mod_callBuiltin_9 : decode b_Mod_callBuiltin 9 = .ok (.getfield 51, 3) := by decide +kernel
theorem d_Mod_callBuiltin_12 : decode b_Mod_callBuiltin 12 = .ok (.iload_n 1, 1) := by decide +kernel
theorem d_Mod_callBuiltin_13 : decode b_Mod_callBuiltin 13 = .ok (.iaload, 1) := by decide +kernel
theorem d_Mod_callBuiltin_14 : decode b_Mod_callBuiltin 14 = .ok (.istore 4, 2) := by decide +kernel
theorem d_Mod_callBuiltin_16 : decode b_Mod_callBuiltin 16 = .ok (.iload 4, 2) := by decide +kernel
theorem d_Mod_callBuiltin_18 : decode b_Mod_callBuiltin 18 = .ok (.iconst 1, 1) := by decide +kernel
theorem d_Mod_callBuiltin_19 : decode b_Mod_callBuiltin 19 = .ok (.iadd, 1) := by decide +kernel
theorem d_Mod_callBuiltin_20 : decode b_Mod_callBuiltin 20 = .ok (.iload_n 3, 1) := by decide +kernel
theorem d_Mod_callBuiltin_21 : decode b_Mod_callBuiltin 21 = .ok (.invokestatic 292, 3) := by decide +kernel
theorem d_Mod_callBuiltin_24 : decode b_Mod_callBuiltin 24 = .ok (.if_icmp .ge 69, 3) := by decide +kernel
theorem d_Mod_callBuiltin_27 : decode b_Mod_callBuiltin 27 = .ok (.aload_n 0, 1) := by decide +kernel
theorem d_Mod_callBuiltin_28 : decode b_Mod_callBuiltin 28 = .ok (.iconst 1, 1) := by decide +kernel
theorem d_Mod_callBuiltin_29 : decode b_Mod_callBuiltin 29 = .ok (.invokevirtual 279, 3) := by decide +kernel
theorem d_Mod_callBuiltin_32 : decode b_Mod_callBuiltin 32 = .ok (.ifCond .eq 60, 3) := by decide +kernel
theorem d_Mod_callBuiltin_35 : decode b_Mod_callBuiltin 35 = .ok (.aload_n 0, 1) := by decide +kernel
theorem d_Mod_callBuiltin_36 : decode b_Mod_callBuiltin 36 = .ok (.bipush 7, 2) := by decide +kernel
theorem d_Mod_callBuiltin_38 : decode b_Mod_callBuiltin 38 = .ok (.iload_n 3, 1) := by decide +kernel
theorem d_Mod_callBuiltin_39 : decode b_Mod_callBuiltin 39 = .ok (.i2l, 1) := by decide +kernel
theorem d_Mod_callBuiltin_40 : decode b_Mod_callBuiltin 40 = .ok (.invokevirtual 141, 3) := by decide +kernel
theorem d_Mod_callBuiltin_43 : decode b_Mod_callBuiltin 43 = .ok (.istore 5, 2) := by decide +kernel
theorem d_Mod_callBuiltin_45 : decode b_Mod_callBuiltin 45 = .ok (.aload_n 0, 1) := by decide +kernel
theorem d_Mod_callBuiltin_46 : decode b_Mod_callBuiltin 46 = .ok (.getfield 51, 3) := by decide +kernel
theorem d_Mod_callBuiltin_49 : decode b_Mod_callBuiltin 49 = .ok (.iload 5, 2) := by decide +kernel
theorem d_Mod_callBuiltin_51 : decode b_Mod_callBuiltin 51 = .ok (.iload 4, 2) := by decide +kernel
theorem d_Mod_callBuiltin_53 : decode b_Mod_callBuiltin 53 = .ok (.iconst 1, 1) := by decide +kernel
theorem d_Mod_callBuiltin_54 : decode b_Mod_callBuiltin 54 = .ok (.iadd, 1) := by decide +kernel
theorem d_Mod_callBuiltin_55 : decode b_Mod_callBuiltin 55 = .ok (.iastore, 1) := by decide +kernel
theorem d_Mod_callBuiltin_56 : decode b_Mod_callBuiltin 56 = .ok (.aload_n 0, 1) := by decide +kernel
theorem d_Mod_callBuiltin_57 : decode b_Mod_callBuiltin 57 = .ok (.getfield 54, 3) := by decide +kernel
theorem d_Mod_callBuiltin_60 : decode b_Mod_callBuiltin 60 = .ok (.iload 5, 2) := by decide +kernel
theorem d_Mod_callBuiltin_62 : decode b_Mod_callBuiltin 62 = .ok (.iload 4, 2) := by decide +kernel
theorem d_Mod_callBuiltin_64 : decode b_Mod_callBuiltin 64 = .ok (.ifCond .ne 7, 3) := by decide +kernel
theorem d_Mod_callBuiltin_67 : decode b_Mod_callBuiltin 67 = .ok (.iload_n 2, 1) := by decide +kernel
theorem d_Mod_callBuiltin_68 : decode b_Mod_callBuiltin 68 = .ok (.goto 9, 3) := by decide +kernel
theorem d_Mod_callBuiltin_71 : decode b_Mod_callBuiltin 71 = .ok (.aload_n 0, 1) := by decide +kernel
theorem d_Mod_callBuiltin_72 : decode b_Mod_callBuiltin 72 = .ok (.getfield 54, 3) := by decide +kernel
theorem d_Mod_callBuiltin_75 : decode b_Mod_callBuiltin 75 = .ok (.iload_n 1, 1) := by decide +kernel
theorem d_Mod_callBuiltin_76 : decode b_Mod_callBuiltin 76 = .ok (.iaload, 1) := by decide +kernel
theorem d_Mod_callBuiltin_77 : decode b_Mod_callBuiltin 77 = .ok (.iastore, 1) := by decide +kernel
theorem d_Mod_callBuiltin_78 : decode b_Mod_callBuiltin 78 = .ok (.aload_n 0, 1) := by decide +kernel
theorem d_Mod_callBuiltin_79 : decode b_Mod_callBuiltin 79 = .ok (.getfield 57, 3) := by decide +kernel
theorem d_Mod_callBuiltin_82 : decode b_Mod_callBuiltin 82 = .ok (.iload 5, 2) := by decide +kernel
theorem d_Mod_callBuiltin_84 : decode b_Mod_callBuiltin 84 = .ok (.iload_n 2, 1) := by decide +kernel
theorem d_Mod_callBuiltin_85 : decode b_Mod_callBuiltin 85 = .ok (.iastore, 1) := by decide +kernel
theorem d_Mod_callBuiltin_86 : decode b_Mod_callBuiltin 86 = .ok (.aload_n 0, 1) := by decide +kernel
theorem d_Mod_callBuiltin_87 : decode b_Mod_callBuiltin 87 = .ok (.iload 5, 2) := by decide +kernel
theorem d_Mod_callBuiltin_89 : decode b_Mod_callBuiltin 89 = .ok (.invokevirtual 277, 3) := by decide +kernel
theorem d_Mod_callBuiltin_92 : decode b_Mod_callBuiltin 92 = .ok (.return_, 1) := by decide +kernel
theorem d_Mod_callBuiltin_93 : decode b_Mod_callBuiltin 93 = .ok (.aload_n 0, 1) := by decide +kernel
theorem d_Mod_callBuiltin_94 : decode b_Mod_callBuiltin 94 = .ok (.getfield 102, 3) := by decide +kernel
theorem d_Mod_callBuiltin_97 : decode b_Mod_callBuiltin 97 = .ok (.iconst 0, 1) := by decide +kernel
theorem d_Mod_callBuiltin_98 : decode b_Mod_callBuiltin 98 = .ok (.iload 4, 2) := by decide +kernel
theorem d_Mod_callBuiltin_100 : decode b_Mod_callBuiltin 100 = .ok (.ifCond .ne 7, 3) := by decide +kernel
theorem d_Mod_callBuiltin_103 : decode b_Mod_callBuiltin 103 = .ok (.iload_n 2, 1) := by decide +kernel
theorem d_Mod_callBuiltin_104 : decode b_Mod_callBuiltin 104 = .ok (.goto 9, 3) := by decide +kernel
theorem d_Mod_callBuiltin_107 : decode b_Mod_callBuiltin 107 = .ok (.aload_n 0, 1) := by decide +kernel
theorem d_Mod_callBuiltin_108 : decode b_Mod_callBuiltin 108 = .ok (.getfield 54, 3) := by decide +kernel
theorem d_Mod_callBuiltin_111 : decode b_Mod_callBuiltin 111 = .ok (.iload_n 1, 1) := by decide +kernel
theorem d_Mod_callBuiltin_112 : decode b_Mod_callBuiltin 112 = .ok (.iaload, 1) := by decide +kernel
theorem d_Mod_callBuiltin_113 : decode b_Mod_callBuiltin 113 = .ok (.iastore, 1) := by decide +kernel
theorem d_Mod_callBuiltin_114 : decode b_Mod_callBuiltin 114 = .ok (.aload_n 0, 1) := by decide +kernel
theorem d_Mod_callBuiltin_115 : decode b_Mod_callBuiltin 115 = .ok (.getfield 102, 3) := by decide +kernel
theorem d_Mod_callBuiltin_118 : decode b_Mod_callBuiltin 118 = .ok (.iconst 1, 1) := by decide +kernel
theorem d_Mod_callBuiltin_119 : decode b_Mod_callBuiltin 119 = .ok (.iload 4, 2) := by decide +kernel
theorem d_Mod_callBuiltin_121 : decode b_Mod_callBuiltin 121 = .ok (.iconst 1, 1) := by decide +kernel
theorem d_Mod_callBuiltin_122 : decode b_Mod_callBuiltin 122 = .ok (.if_icmp .ne 7, 3) := by decide +kernel
theorem d_Mod_callBuiltin_125 : decode b_Mod_callBuiltin 125 = .ok (.iload_n 2, 1) := by decide +kernel
theorem d_Mod_callBuiltin_126 : decode b_Mod_callBuiltin 126 = .ok (.goto 9, 3) := by decide +kernel
theorem d_Mod_callBuiltin_129 : decode b_Mod_callBuiltin 129 = .ok (.aload_n 0, 1) := by decide +kernel
theorem d_Mod_callBuiltin_130 : decode b_Mod_callBuiltin 130 = .ok (.getfield 57, 3) := by decide +kernel
theorem d_Mod_callBuiltin_133 : decode b_Mod_callBuiltin 133 = .ok (.iload_n 1, 1) := by decide +kernel
theorem d_Mod_callBuiltin_134 : decode b_Mod_callBuiltin 134 = .ok (.iaload, 1) := by decide +kernel
theorem d_Mod_callBuiltin_135 : decode b_Mod_callBuiltin 135 = .ok (.iastore, 1) := by decide +kernel
theorem d_Mod_callBuiltin_136 : decode b_Mod_callBuiltin 136 = .ok (.aload_n 0, 1) := by decide +kernel
theorem d_Mod_callBuiltin_137 : decode b_Mod_callBuiltin 137 = .ok (.getfield 102, 3) := by decide +kernel
theorem d_Mod_callBuiltin_140 : decode b_Mod_callBuiltin 140 = .ok (.iconst 2, 1) := by decide +kernel
theorem d_Mod_callBuiltin_141 : decode b_Mod_callBuiltin 141 = .ok (.iload_n 2, 1) := by decide +kernel
theorem d_Mod_callBuiltin_142 : decode b_Mod_callBuiltin 142 = .ok (.iastore, 1) := by decide +kernel
theorem d_Mod_callBuiltin_143 : decode b_Mod_callBuiltin 143 = .ok (.iconst 1, 1) := by decide +kernel
theorem d_Mod_callBuiltin_144 : decode b_Mod_callBuiltin 144 = .ok (.istore 5, 2) := by decide +kernel
theorem d_Mod_callBuiltin_146 : decode b_Mod_callBuiltin 146 = .ok (.iconst 0, 1) := by decide +kernel
theorem d_Mod_callBuiltin_147 : decode b_Mod_callBuiltin 147 = .ok (.istore 6, 2) := by decide +kernel
theorem d_Mod_callBuiltin_149 : decode b_Mod_callBuiltin 149 = .ok (.iload 6, 2) := by decide +kernel
theorem d_Mod_callBuiltin_151 : decode b_Mod_callBuiltin 151 = .ok (.iload_n 3, 1) := by decide +kernel
theorem d_Mod_callBuiltin_152 : decode b_Mod_callBuiltin 152 = .ok (.invokestatic 292, 3) := by decide +kernel
theorem d_Mod_callBuiltin_155 : decode b_Mod_callBuiltin 155 = .ok (.if_icmp .ge 25, 3) := by decide +kernel
theorem d_Mod_callBuiltin_158 : decode b_Mod_callBuiltin 158 = .ok (.iload 5, 2) := by decide +kernel
theorem d_Mod_callBuiltin_160 : decode b_Mod_callBuiltin 160 = .ok (.aload_n 0, 1) := by decide +kernel
theorem d_Mod_callBuiltin_161 : decode b_Mod_callBuiltin 161 = .ok (.aload_n 0, 1) := by decide +kernel
theorem d_Mod_callBuiltin_162 : decode b_Mod_callBuiltin 162 = .ok (.getfield 102, 3) := by decide +kernel
theorem d_Mod_callBuiltin_165 : decode b_Mod_callBuiltin 165 = .ok (.iload 6, 2) := by decide +kernel
theorem d_Mod_callBuiltin_167 : decode b_Mod_callBuiltin 167 = .ok (.iaload, 1) := by decide +kernel
theorem d_Mod_callBuiltin_168 : decode b_Mod_callBuiltin 168 = .ok (.invokevirtual 295, 3) := by decide +kernel
theorem d_Mod_callBuiltin_171 : decode b_Mod_callBuiltin 171 = .ok (.iadd, 1) := by decide +kernel
theorem d_Mod_callBuiltin_172 : decode b_Mod_callBuiltin 172 = .ok (.istore 5, 2) := by decide +kernel
theorem d_Mod_callBuiltin_174 : decode b_Mod_callBuiltin 174 = .ok (.iinc 6 1, 3) := by decide +kernel
theorem d_Mod_callBuiltin_177 : decode b_Mod_callBuiltin 177 = .ok (.goto (-28), 3) := by decide +kernel
theorem d_Mod_callBuiltin_180 : decode b_Mod_callBuiltin 180 = .ok (.aload_n 0, 1) := by decide +kernel
theorem d_Mod_callBuiltin_181 : decode b_Mod_callBuiltin 181 = .ok (.iload 5, 2) := by decide +kernel
theorem d_Mod_callBuiltin_183 : decode b_Mod_callBuiltin 183 = .ok (.invokevirtual 271, 3) := by decide +kernel
theorem d_Mod_callBuiltin_186 : decode b_Mod_callBuiltin 186 = .ok (.ifCond .eq 36, 3) := by decide +kernel
theorem d_Mod_callBuiltin_189 : decode b_Mod_callBuiltin 189 = .ok (.aload_n 0, 1) := by decide +kernel
theorem d_Mod_callBuiltin_190 : decode b_Mod_callBuiltin 190 = .ok (.iload_n 3, 1) := by decide +kernel
theorem d_Mod_callBuiltin_191 : decode b_Mod_callBuiltin 191 = .ok (.invokevirtual 298, 3) := by decide +kernel
theorem d_Mod_callBuiltin_194 : decode b_Mod_callBuiltin 194 = .ok (.istore 6, 2) := by decide +kernel
theorem d_Mod_callBuiltin_196 : decode b_Mod_callBuiltin 196 = .ok (.aload_n 0, 1) := by decide +kernel
theorem d_Mod_callBuiltin_197 : decode b_Mod_callBuiltin 197 = .ok (.getfield 165, 3) := by decide +kernel
theorem d_Mod_callBuiltin_200 : decode b_Mod_callBuiltin 200 = .ok (.ifCond .ne 22, 3) := by decide +kernel
theorem d_Mod_callBuiltin_203 : decode b_Mod_callBuiltin 203 = .ok (.aload_n 0, 1) := by decide +kernel
theorem d_Mod_callBuiltin_204 : decode b_Mod_callBuiltin 204 = .ok (.aload_n 0, 1) := by decide +kernel
theorem d_Mod_callBuiltin_205 : decode b_Mod_callBuiltin 205 = .ok (.iload 6, 2) := by decide +kernel
theorem d_Mod_callBuiltin_207 : decode b_Mod_callBuiltin 207 = .ok (.invokevirtual 295, 3) := by decide +kernel
theorem d_Mod_callBuiltin_210 : decode b_Mod_callBuiltin 210 = .ok (.invokevirtual 279, 3) := by decide +kernel
theorem d_Mod_callBuiltin_213 : decode b_Mod_callBuiltin 213 = .ok (.ifCond .eq 9, 3) := by decide +kernel
theorem d_Mod_callBuiltin_216 : decode b_Mod_callBuiltin 216 = .ok (.aload_n 0, 1) := by decide +kernel
theorem d_Mod_callBuiltin_217 : decode b_Mod_callBuiltin 217 = .ok (.iload 6, 2) := by decide +kernel
theorem d_Mod_callBuiltin_219 : decode b_Mod_callBuiltin 219 = .ok (.invokevirtual 277, 3) := by decide +kernel
theorem d_Mod_callBuiltin_222 : decode b_Mod_callBuiltin 222 = .ok (.return_, 1) := by decide +kernel
def f_Mod_callBuiltin_L149 (N : Nat) (R_maxSteps : Int) (R_maxMemory : Int) : Nat → Int → Int → Int → Int → Int → Int → Int → Int → Int → Int → Int → Int → Int → Int → Int → (Int → Int) → (Int → Int) → (Int → Int) → (Int → Int) → (Int → Int) → (Int → Int) → (Int → Int) → (Int → Int) → (Int → Int) → (Int → Int) → (Int → Int) → (Int → Int) → (Int → Int) → (Int → Int) → Option (Int × Int × Int × Int × Int × Int × Int × Int × Int × (Int → Int) × (Int → Int) × (Int → Int) × (Int → Int) × (Int → Int) × (Int → Int) × (Int → Int) × (Int → Int) × (Int → Int) × (Int → Int) × (Int → Int) × (Int → Int) × (Int → Int) × (Int → Int))
  | 0, _, _, _, _, _, _, _, _, _, _, _, _, _, _, _, _, _, _, _, _, _, _, _, _, _, _, _, _, _ => none
  | n + 1, x1, x2, x3, x4, x5, x6, R_values, R_textEnd, R_dataEnd, R_steps, R_memory, R_fault, R_now, R_come, R_puts, R_valueKinds, R_valueNumbers, R_from, R_length, R_given, R_firstGiven, R_secondGiven, R_texts, R_forms, R_tags, R_counts, R_textsAt, R_of, R_comes =>
    Option.bind (f_Mod_arity x3) (fun r47 =>
     if jr2 x6 r47 = true then (if r47 ≤ x6 then (
      ob3 (f_Mod_step R_steps R_maxSteps R_fault x5) (fun r50 R_steps_51 R_fault_52 =>
       if rI r50 = true then (if r50 = 0 then (
        some (R_values, R_textEnd, R_dataEnd, R_steps_51, R_memory, R_fault_52, R_now, R_come, R_puts, R_valueKinds, R_valueNumbers, R_from, R_length, R_given, R_firstGiven, R_secondGiven, R_texts, R_forms, R_tags, R_counts, R_textsAt, R_of, R_comes)) else (
        ob17 (f_Mod_does N R_values R_textEnd R_dataEnd R_fault_52 R_puts R_valueKinds R_valueNumbers R_from R_length R_given R_texts R_forms R_tags R_counts R_textsAt R_of R_comes x3) (fun r55 R_values_56 R_textEnd_57 R_dataEnd_58 R_fault_59 R_puts_60 R_valueKinds_61 R_valueNumbers_62 R_from_63 R_length_64 R_given_65 R_texts_66 R_forms_67 R_tags_68 R_counts_69 R_textsAt_70 R_comes_71 =>
         if rI R_fault_59 = true then (if R_fault_59 = 0 then (
          Option.bind (f_Mod_sizeOf N R_valueKinds_61 R_from_63 R_length_64 R_forms_67 R_counts_69 r55) (fun r74 =>
           ob3 (f_Mod_keep R_memory R_maxMemory R_fault_59 r74) (fun r76 R_memory_77 R_fault_78 =>
            if rI r76 = true then (if r76 = 0 then (
             some (R_values_56, R_textEnd_57, R_dataEnd_58, R_steps_51, R_memory_77, R_fault_78, R_now, R_come, R_puts_60, R_valueKinds_61, R_valueNumbers_62, R_from_63, R_length_64, R_given_65, R_firstGiven, R_secondGiven, R_texts_66, R_forms_67, R_tags_68, R_counts_69, R_textsAt_70, R_of, R_comes_71)) else (
             ob2 (f_Mod_comes R_now R_come r55) (fun R_now_81 R_come_82 =>
              some (R_values_56, R_textEnd_57, R_dataEnd_58, R_steps_51, R_memory_77, R_fault_78, R_now_81, R_come_82, R_puts_60, R_valueKinds_61, R_valueNumbers_62, R_from_63, R_length_64, R_given_65, R_firstGiven, R_secondGiven, R_texts_66, R_forms_67, R_tags_68, R_counts_69, R_textsAt_70, R_of, R_comes_71)))) else none))) else (
          some (R_values_56, R_textEnd_57, R_dataEnd_58, R_steps_51, R_memory, R_fault_59, R_now, R_come, R_puts_60, R_valueKinds_61, R_valueNumbers_62, R_from_63, R_length_64, R_given_65, R_firstGiven, R_secondGiven, R_texts_66, R_forms_67, R_tags_68, R_counts_69, R_textsAt_70, R_of, R_comes_71))) else none))) else none)) else (
      if jix x6 3 = true then (
       Option.bind (f_Mod_sizeOf N R_valueKinds R_from R_length R_forms R_counts (R_of x6)) (fun r85 =>
        f_Mod_callBuiltin_L149 N R_maxSteps R_maxMemory n x1 x2 x3 x4 (x5 + r85) (x6 + 1) R_values R_textEnd R_dataEnd R_steps R_memory R_fault R_now R_come R_puts R_valueKinds R_valueNumbers R_from R_length R_given R_firstGiven R_secondGiven R_texts R_forms R_tags R_counts R_textsAt R_of R_comes)) else none)) else none)
def f_Mod_callBuiltin (N : Nat) (R_values : Int) (R_textEnd : Int) (R_dataEnd : Int) (R_steps : Int) (R_memory : Int) (R_maxSteps : Int) (R_maxMemory : Int) (R_fault : Int) (R_now : Int) (R_come : Int) (R_puts : Int) (R_valueKinds : Int → Int) (R_valueNumbers : Int → Int) (R_from : Int → Int) (R_length : Int → Int) (R_given : Int → Int) (R_firstGiven : Int → Int) (R_secondGiven : Int → Int) (R_texts : Int → Int) (R_forms : Int → Int) (R_tags : Int → Int) (R_counts : Int → Int) (R_textsAt : Int → Int) (R_of : Int → Int) (R_comes : Int → Int) (p1 : Int) (p2 : Int) : Option (Int × Int × Int × Int × Int × Int × Int × Int × Int × (Int → Int) × (Int → Int) × (Int → Int) × (Int → Int) × (Int → Int) × (Int → Int) × (Int → Int) × (Int → Int) × (Int → Int) × (Int → Int) × (Int → Int) × (Int → Int) × (Int → Int) × (Int → Int)) :=
  if jix p1 3700 = true then (
   if jix p1 3700 = true then (
    Option.bind (f_Mod_arity (R_valueNumbers p1)) (fun r3 =>
     if jr2 ((R_given p1) + 1) r3 = true then (if r3 ≤ ((R_given p1) + 1) then (
      if rI (R_given p1) = true then (if (R_given p1) = 0 then (
       if jix 0 3 = true then (
        if jr2 (R_given p1) 1 = true then (if (R_given p1) = 1 then (
         if jix 1 3 = true then (
          if jix 2 3 = true then (
           f_Mod_callBuiltin_L149 N R_maxSteps R_maxMemory N p1 p2 (R_valueNumbers p1) (R_given p1) 1 0 R_values R_textEnd R_dataEnd R_steps R_memory R_fault R_now R_come R_puts R_valueKinds R_valueNumbers R_from R_length R_given R_firstGiven R_secondGiven R_texts R_forms R_tags R_counts R_textsAt (upZ (upZ (upZ R_of 0 p2) 1 p2) 2 p2) R_comes) else none) else none) else (
         if jix p1 3700 = true then (
          if jix 1 3 = true then (
           if jix 2 3 = true then (
            f_Mod_callBuiltin_L149 N R_maxSteps R_maxMemory N p1 p2 (R_valueNumbers p1) (R_given p1) 1 0 R_values R_textEnd R_dataEnd R_steps R_memory R_fault R_now R_come R_puts R_valueKinds R_valueNumbers R_from R_length R_given R_firstGiven R_secondGiven R_texts R_forms R_tags R_counts R_textsAt (upZ (upZ (upZ R_of 0 p2) 1 (R_secondGiven p1)) 2 p2) R_comes) else none) else none) else none)) else none) else none) else (
       if jix p1 3700 = true then (
        if jix 0 3 = true then (
         if jr2 (R_given p1) 1 = true then (if (R_given p1) = 1 then (
          if jix 1 3 = true then (
           if jix 2 3 = true then (
            f_Mod_callBuiltin_L149 N R_maxSteps R_maxMemory N p1 p2 (R_valueNumbers p1) (R_given p1) 1 0 R_values R_textEnd R_dataEnd R_steps R_memory R_fault R_now R_come R_puts R_valueKinds R_valueNumbers R_from R_length R_given R_firstGiven R_secondGiven R_texts R_forms R_tags R_counts R_textsAt (upZ (upZ (upZ R_of 0 (R_firstGiven p1)) 1 p2) 2 p2) R_comes) else none) else none) else (
          if jix p1 3700 = true then (
           if jix 1 3 = true then (
            if jix 2 3 = true then (
             f_Mod_callBuiltin_L149 N R_maxSteps R_maxMemory N p1 p2 (R_valueNumbers p1) (R_given p1) 1 0 R_values R_textEnd R_dataEnd R_steps R_memory R_fault R_now R_come R_puts R_valueKinds R_valueNumbers R_from R_length R_given R_firstGiven R_secondGiven R_texts R_forms R_tags R_counts R_textsAt (upZ (upZ (upZ R_of 0 (R_firstGiven p1)) 1 (R_secondGiven p1)) 2 p2) R_comes) else none) else none) else none)) else none) else none) else none)) else none) else (
      ob3 (f_Mod_keep R_memory R_maxMemory R_fault 1) (fun r22 R_memory_23 R_fault_24 =>
       if rI r22 = true then (if r22 = 0 then (
        some (R_values, R_textEnd, R_dataEnd, R_steps, R_memory_23, R_fault_24, R_now, R_come, R_puts, R_valueKinds, R_valueNumbers, R_from, R_length, R_given, R_firstGiven, R_secondGiven, R_texts, R_forms, R_tags, R_counts, R_textsAt, R_of, R_comes)) else (
        if rI (R_valueNumbers p1) = true then (
         ob5 (f_Mod_make R_values R_valueKinds R_valueNumbers R_given 7 (R_valueNumbers p1)) (fun r28 R_values_29 R_valueKinds_30 R_valueNumbers_31 R_given_32 =>
          if jix r28 3700 = true then (
           if rI (R_given p1) = true then (if (R_given p1) = 0 then (
            if jix r28 3700 = true then (
             if jix r28 3700 = true then (
              ob2 (f_Mod_comes R_now R_come r28) (fun R_now_44 R_come_45 =>
               some (R_values_29, R_textEnd, R_dataEnd, R_steps, R_memory_23, R_fault_24, R_now_44, R_come_45, R_puts, R_valueKinds_30, R_valueNumbers_31, R_from, R_length, (upZ R_given_32 r28 ((R_given p1) + 1)), (upZ R_firstGiven r28 p2), (upZ R_secondGiven r28 p2), R_texts, R_forms, R_tags, R_counts, R_textsAt, R_of, R_comes))) else none) else none) else (
            if jix p1 3700 = true then (
             if jix r28 3700 = true then (
              if jix r28 3700 = true then (
               ob2 (f_Mod_comes R_now R_come r28) (fun R_now_39 R_come_40 =>
                some (R_values_29, R_textEnd, R_dataEnd, R_steps, R_memory_23, R_fault_24, R_now_39, R_come_40, R_puts, R_valueKinds_30, R_valueNumbers_31, R_from, R_length, (upZ R_given_32 r28 ((R_given p1) + 1)), (upZ R_firstGiven r28 (R_firstGiven p1)), (upZ R_secondGiven r28 p2), R_texts, R_forms, R_tags, R_counts, R_textsAt, R_of, R_comes))) else none) else none) else none)) else none) else none)) else none)) else none))) else none)) else none) else none
set_option maxHeartbeats 4000000 in
set_option maxRecDepth 100000 in
theorem k_Mod_callBuiltin_L149 {K : jK} {cI cL cB : ClassId} {ad : Nat → Nat} {N : Nat} {R_thrown : Int} {R_used : Int} {R_many : Int} {R_rowEnd : Int} {R_rowMany : Int} {R_waiting : Int} {R_mostWaiting : Int} {R_answer : Int} {R_maxSteps : Int} {R_maxMemory : Int} {R_result : Int} {R_nowRow : Int} {out : Int × Int × Int × Int × Int × Int × Int × Int × Int × (Int → Int) × (Int → Int) × (Int → Int) × (Int → Int) × (Int → Int) × (Int → Int) × (Int → Int) × (Int → Int) × (Int → Int) × (Int → Int) × (Int → Int) × (Int → Int) × (Int → Int) × (Int → Int)} (X : jX jF0 K 7 b_Mod_callBuiltin w_Mod_callBuiltin R_Mod [(cI, .int), (cL, .long), (cB, .byte)]) (E : jE K b_Mod_callBuiltin none ({ frames := 6, cells := 0, slots := 0, locals := 147 } : Room) false 0 0 none [(ad 0, .inr (10, [.int (zI R_thrown), .ref (ad 1), .ref (ad 2), .ref (ad 3), .ref (ad 4), .ref (ad 5), .ref (ad 6), .int (zI R_used), .ref (ad 7), .int (zI R_many), .ref (ad 8), .ref (ad 9), .ref (ad 10), .ref (ad 11), .ref (ad 12), .ref (ad 13), .ref (ad 14), .ref (ad 15), .ref (ad 16), .int (zI (out.1)), .ref (ad 17), .int (zI (out.2.1)), .ref (ad 18), .ref (ad 19), .ref (ad 20), .ref (ad 21), .int (zI (out.2.2.1)), .ref (ad 22), .int (zI R_rowEnd), .ref (ad 23), .ref (ad 24), .int (zI R_rowMany), .ref (ad 25), .ref (ad 26), .ref (ad 27), .ref (ad 28), .int (zI R_waiting), .int (zI R_mostWaiting), .int (zI R_answer), .int (zI (out.2.2.2.1)), .int (zI (out.2.2.2.2.1)), .int (zI R_maxSteps), .int (zI R_maxMemory), .int (zI (out.2.2.2.2.2.1)), .int (zI R_result), .int (zI (out.2.2.2.2.2.2.1)), .int (zI R_nowRow), .int (zI (out.2.2.2.2.2.2.2.1)), .ref (ad 29), .ref (ad 30), .int (zI (out.2.2.2.2.2.2.2.2.1)), .ref (ad 31)])), (ad 8, .inl (cI, 3700, .inl (zA (out.2.2.2.2.2.2.2.2.2.1)))), (ad 9, .inl (cL, 3700, .inr (.inl (zB (out.2.2.2.2.2.2.2.2.2.2.1))))), (ad 10, .inl (cI, 3700, .inl (zA (out.2.2.2.2.2.2.2.2.2.2.2.1)))), (ad 11, .inl (cI, 3700, .inl (zA (out.2.2.2.2.2.2.2.2.2.2.2.2.1)))), (ad 14, .inl (cI, 3700, .inl (zA (out.2.2.2.2.2.2.2.2.2.2.2.2.2.1)))), (ad 15, .inl (cI, 3700, .inl (zA (out.2.2.2.2.2.2.2.2.2.2.2.2.2.2.1)))), (ad 16, .inl (cI, 3700, .inl (zA (out.2.2.2.2.2.2.2.2.2.2.2.2.2.2.2.1)))), (ad 17, .inl (cB, 70000, .inl (zA (out.2.2.2.2.2.2.2.2.2.2.2.2.2.2.2.2.1)))), (ad 18, .inl (cI, 5000, .inl (zA (out.2.2.2.2.2.2.2.2.2.2.2.2.2.2.2.2.2.1)))), (ad 19, .inl (cL, 5000, .inr (.inl (zB (out.2.2.2.2.2.2.2.2.2.2.2.2.2.2.2.2.2.2.1))))), (ad 20, .inl (cI, 5000, .inl (zA (out.2.2.2.2.2.2.2.2.2.2.2.2.2.2.2.2.2.2.2.1)))), (ad 21, .inl (cI, 5000, .inl (zA (out.2.2.2.2.2.2.2.2.2.2.2.2.2.2.2.2.2.2.2.2.1)))), (ad 29, .inl (cI, 3, .inl (zA (out.2.2.2.2.2.2.2.2.2.2.2.2.2.2.2.2.2.2.2.2.2.1)))), (ad 31, .inl (cI, 220, .inl (zA (out.2.2.2.2.2.2.2.2.2.2.2.2.2.2.2.2.2.2.2.2.2.2))))]) : ∀ (n : Nat) (x1 : Int) (x2 : Int) (x3 : Int) (x4 : Int) (x5 : Int) (x6 : Int) (R_values : Int) (R_textEnd : Int) (R_dataEnd : Int) (R_steps : Int) (R_memory : Int) (R_fault : Int) (R_now : Int) (R_come : Int) (R_puts : Int) (R_valueKinds : Int → Int) (R_valueNumbers : Int → Int) (R_from : Int → Int) (R_length : Int → Int) (R_given : Int → Int) (R_firstGiven : Int → Int) (R_secondGiven : Int → Int) (R_texts : Int → Int) (R_forms : Int → Int) (R_tags : Int → Int) (R_counts : Int → Int) (R_textsAt : Int → Int) (R_of : Int → Int) (R_comes : Int → Int), f_Mod_callBuiltin_L149 N R_maxSteps R_maxMemory n x1 x2 x3 x4 x5 x6 R_values R_textEnd R_dataEnd R_steps R_memory R_fault R_now R_come R_puts R_valueKinds R_valueNumbers R_from R_length R_given R_firstGiven R_secondGiven R_texts R_forms R_tags R_counts R_textsAt R_of R_comes = some out → J K 7 ({ frames := 6, cells := 0, slots := 0, locals := 147 } : Room) false 0 0 [(ad 0, .inr (10, [.int (zI R_thrown), .ref (ad 1), .ref (ad 2), .ref (ad 3), .ref (ad 4), .ref (ad 5), .ref (ad 6), .int (zI R_used), .ref (ad 7), .int (zI R_many), .ref (ad 8), .ref (ad 9), .ref (ad 10), .ref (ad 11), .ref (ad 12), .ref (ad 13), .ref (ad 14), .ref (ad 15), .ref (ad 16), .int (zI R_values), .ref (ad 17), .int (zI R_textEnd), .ref (ad 18), .ref (ad 19), .ref (ad 20), .ref (ad 21), .int (zI R_dataEnd), .ref (ad 22), .int (zI R_rowEnd), .ref (ad 23), .ref (ad 24), .int (zI R_rowMany), .ref (ad 25), .ref (ad 26), .ref (ad 27), .ref (ad 28), .int (zI R_waiting), .int (zI R_mostWaiting), .int (zI R_answer), .int (zI R_steps), .int (zI R_memory), .int (zI R_maxSteps), .int (zI R_maxMemory), .int (zI R_fault), .int (zI R_result), .int (zI R_now), .int (zI R_nowRow), .int (zI R_come), .ref (ad 29), .ref (ad 30), .int (zI R_puts), .ref (ad 31)])), (ad 8, .inl (cI, 3700, .inl (zA R_valueKinds))), (ad 9, .inl (cL, 3700, .inr (.inl (zB R_valueNumbers)))), (ad 10, .inl (cI, 3700, .inl (zA R_from))), (ad 11, .inl (cI, 3700, .inl (zA R_length))), (ad 14, .inl (cI, 3700, .inl (zA R_given))), (ad 15, .inl (cI, 3700, .inl (zA R_firstGiven))), (ad 16, .inl (cI, 3700, .inl (zA R_secondGiven))), (ad 17, .inl (cB, 70000, .inl (zA R_texts))), (ad 18, .inl (cI, 5000, .inl (zA R_forms))), (ad 19, .inl (cL, 5000, .inr (.inl (zB R_tags)))), (ad 20, .inl (cI, 5000, .inl (zA R_counts))), (ad 21, .inl (cI, 5000, .inl (zA R_textsAt))), (ad 29, .inl (cI, 3, .inl (zA R_of))), (ad 31, .inl (cI, 220, .inl (zA R_comes)))] [(0, .ref (ad 0)), (1, .int (zI x1)), (2, .int (zI x2)), (3, .int (zI x3)), (4, .int (zI x4)), (5, .int (zI x5)), (6, .int (zI x6))] [] 149 := by
  intro n
  induction n with
  | zero =>
    intro x1 x2 x3 x4 x5 x6 R_values R_textEnd R_dataEnd R_steps R_memory R_fault R_now R_come R_puts R_valueKinds R_valueNumbers R_from R_length R_given R_firstGiven R_secondGiven R_texts R_forms R_tags R_counts R_textsAt R_of R_comes h
    cases h
  | succ n ih =>
    intro x1 x2 x3 x4 x5 x6 R_values R_textEnd R_dataEnd R_steps R_memory R_fault R_now R_come R_puts R_valueKinds R_valueNumbers R_from R_length R_given R_firstGiven R_secondGiven R_texts R_forms R_tags R_counts R_textsAt R_of R_comes h
    unfold f_Mod_callBuiltin_L149 at h
    refine J_iload X d_Mod_callBuiltin_149 6 rfl ?_
    refine J_iload_n X d_Mod_callBuiltin_151 rfl 3 rfl ?_
    obtain ⟨r47, q48, h⟩ := wk_b h
    refine J_afterP (jrunS X (c_Mod_arity (ad := ad) q48) jF0_k (fun _ _ _ _ => trivial) (jgS own_Mod_callBuiltin (by decide +kernel)) rfl rfl rfl pd_Mod_arity (by decide) [] rfl (by decide) rfl rfl (Nat.le_of_ble_eq_true rfl) d_Mod_callBuiltin_152 (by decide)) ?_
    refine J_icmp_ge (tgt := 180) X d_Mod_callBuiltin_155 (by decide) h (fun c49 h => ?_) (fun c49 h => ?_)
    · refine J_aload_n X d_Mod_callBuiltin_180 rfl 0 rfl ?_
      refine J_iload X d_Mod_callBuiltin_181 5 rfl ?_
      obtain ⟨r50, R_steps_51, R_fault_52, q53, h⟩ := wk_b3 h
      refine J_afterI0 (ws' := [(ad 0, .inr (10, [.int (zI R_thrown), .ref (ad 1), .ref (ad 2), .ref (ad 3), .ref (ad 4), .ref (ad 5), .ref (ad 6), .int (zI R_used), .ref (ad 7), .int (zI R_many), .ref (ad 8), .ref (ad 9), .ref (ad 10), .ref (ad 11), .ref (ad 12), .ref (ad 13), .ref (ad 14), .ref (ad 15), .ref (ad 16), .int (zI R_values), .ref (ad 17), .int (zI R_textEnd), .ref (ad 18), .ref (ad 19), .ref (ad 20), .ref (ad 21), .int (zI R_dataEnd), .ref (ad 22), .int (zI R_rowEnd), .ref (ad 23), .ref (ad 24), .int (zI R_rowMany), .ref (ad 25), .ref (ad 26), .ref (ad 27), .ref (ad 28), .int (zI R_waiting), .int (zI R_mostWaiting), .int (zI R_answer), .int (zI R_steps_51), .int (zI R_memory), .int (zI R_maxSteps), .int (zI R_maxMemory), .int (zI R_fault_52), .int (zI R_result), .int (zI R_now), .int (zI R_nowRow), .int (zI R_come), .ref (ad 29), .ref (ad 30), .int (zI R_puts), .ref (ad 31)])), (ad 8, .inl (cI, 3700, .inl (zA R_valueKinds))), (ad 9, .inl (cL, 3700, .inr (.inl (zB R_valueNumbers)))), (ad 10, .inl (cI, 3700, .inl (zA R_from))), (ad 11, .inl (cI, 3700, .inl (zA R_length))), (ad 14, .inl (cI, 3700, .inl (zA R_given))), (ad 15, .inl (cI, 3700, .inl (zA R_firstGiven))), (ad 16, .inl (cI, 3700, .inl (zA R_secondGiven))), (ad 17, .inl (cB, 70000, .inl (zA R_texts))), (ad 18, .inl (cI, 5000, .inl (zA R_forms))), (ad 19, .inl (cL, 5000, .inr (.inl (zB R_tags)))), (ad 20, .inl (cI, 5000, .inl (zA R_counts))), (ad 21, .inl (cI, 5000, .inl (zA R_textsAt))), (ad 29, .inl (cI, 3, .inl (zA R_of))), (ad 31, .inl (cI, 220, .inl (zA R_comes)))]) X (jrunV X (c_Mod_step (ad := ad) q53) jF0_k (fun _ _ _ _ => trivial) (jgV own_Mod_callBuiltin (by decide +kernel)) rfl rfl rfl pd_Mod_step (by decide) [0] rfl (by decide) 0 10 rfl rfl rfl rfl (Nat.le_of_ble_eq_true rfl) d_Mod_callBuiltin_183 (by decide)) [0] [1, 2, 3, 4, 5, 6, 7, 8, 9, 10, 11, 12, 13, 14] [14, 0, 1, 2, 3, 4, 5, 6, 7, 8, 9, 10, 11, 12, 13] rfl rfl (by decide) (by decide) rfl (by decide) ?_
      refine J_if_eq (tgt := 222) X d_Mod_callBuiltin_186 (by decide) h (fun c54 h => ?_) (fun c54 h => ?_)
      · cases h
        exact J_ret E rfl d_Mod_callBuiltin_222 (Nat.le_refl _) (Nat.le_refl _) rfl
      · refine J_aload_n X d_Mod_callBuiltin_189 rfl 0 rfl ?_
        refine J_iload_n X d_Mod_callBuiltin_190 rfl 3 rfl ?_
        obtain ⟨r55, R_values_56, R_textEnd_57, R_dataEnd_58, R_fault_59, R_puts_60, R_valueKinds_61, R_valueNumbers_62, R_from_63, R_length_64, R_given_65, R_texts_66, R_forms_67, R_tags_68, R_counts_69, R_textsAt_70, R_comes_71, q72, h⟩ := wk_b17 h
        refine J_afterI0 (ws' := [(ad 0, .inr (10, [.int (zI R_thrown), .ref (ad 1), .ref (ad 2), .ref (ad 3), .ref (ad 4), .ref (ad 5), .ref (ad 6), .int (zI R_used), .ref (ad 7), .int (zI R_many), .ref (ad 8), .ref (ad 9), .ref (ad 10), .ref (ad 11), .ref (ad 12), .ref (ad 13), .ref (ad 14), .ref (ad 15), .ref (ad 16), .int (zI R_values_56), .ref (ad 17), .int (zI R_textEnd_57), .ref (ad 18), .ref (ad 19), .ref (ad 20), .ref (ad 21), .int (zI R_dataEnd_58), .ref (ad 22), .int (zI R_rowEnd), .ref (ad 23), .ref (ad 24), .int (zI R_rowMany), .ref (ad 25), .ref (ad 26), .ref (ad 27), .ref (ad 28), .int (zI R_waiting), .int (zI R_mostWaiting), .int (zI R_answer), .int (zI R_steps_51), .int (zI R_memory), .int (zI R_maxSteps), .int (zI R_maxMemory), .int (zI R_fault_59), .int (zI R_result), .int (zI R_now), .int (zI R_nowRow), .int (zI R_come), .ref (ad 29), .ref (ad 30), .int (zI R_puts_60), .ref (ad 31)])), (ad 8, .inl (cI, 3700, .inl (zA R_valueKinds_61))), (ad 9, .inl (cL, 3700, .inr (.inl (zB R_valueNumbers_62)))), (ad 10, .inl (cI, 3700, .inl (zA R_from_63))), (ad 11, .inl (cI, 3700, .inl (zA R_length_64))), (ad 14, .inl (cI, 3700, .inl (zA R_given_65))), (ad 15, .inl (cI, 3700, .inl (zA R_firstGiven))), (ad 16, .inl (cI, 3700, .inl (zA R_secondGiven))), (ad 17, .inl (cB, 70000, .inl (zA R_texts_66))), (ad 18, .inl (cI, 5000, .inl (zA R_forms_67))), (ad 19, .inl (cL, 5000, .inr (.inl (zB R_tags_68)))), (ad 20, .inl (cI, 5000, .inl (zA R_counts_69))), (ad 21, .inl (cI, 5000, .inl (zA R_textsAt_70))), (ad 29, .inl (cI, 3, .inl (zA R_of))), (ad 31, .inl (cI, 220, .inl (zA R_comes_71)))]) X (jrunV X (c_Mod_does (ad := ad) q72) jF0_k (fun _ _ _ _ => trivial) (jgV own_Mod_callBuiltin (by decide +kernel)) rfl rfl rfl pd_Mod_does (by decide) [0, 1, 2, 3, 4, 5, 8, 9, 10, 11, 12, 13, 14] rfl (by decide) 0 10 rfl rfl rfl rfl (Nat.le_of_ble_eq_true rfl) d_Mod_callBuiltin_191 (by decide)) [0, 1, 2, 3, 4, 5, 8, 9, 10, 11, 12, 13, 14] [6, 7] [2, 3, 4, 5, 6, 7, 0, 1, 8, 9, 10, 11, 12, 13, 14] rfl rfl (by decide) (by decide) rfl (by decide) ?_
        refine J_istore (lv' := [(6, .int (zI r55)), (0, .ref (ad 0)), (1, .int (zI x1)), (2, .int (zI x2)), (3, .int (zI x3)), (4, .int (zI x4)), (5, .int (zI x5))]) X d_Mod_callBuiltin_194 (by decide) rfl ?_
        refine J_aload_n X d_Mod_callBuiltin_196 rfl 1 rfl ?_
        refine J_get X (j_in in_Mod) 0 rfl rfl 43 (by decide) (j_m own_Mod_callBuiltin (by decide +kernel)) rfl d_Mod_callBuiltin_197 ?_
        refine J_if_ne (tgt := 222) X d_Mod_callBuiltin_200 (by decide) h (fun c73 h => ?_) (fun c73 h => ?_)
        · cases h
          exact J_ret E rfl d_Mod_callBuiltin_222 (Nat.le_refl _) (Nat.le_refl _) rfl
        · refine J_aload_n X d_Mod_callBuiltin_203 rfl 1 rfl ?_
          refine J_aload_n X d_Mod_callBuiltin_204 rfl 1 rfl ?_
          refine J_iload X d_Mod_callBuiltin_205 0 rfl ?_
          obtain ⟨r74, q75, h⟩ := wk_b h
          refine J_afterP (jrunV X (c_Mod_sizeOf (ad := ad) q75) jF0_k (fun _ _ _ _ => trivial) (jgV own_Mod_callBuiltin (by decide +kernel)) rfl rfl rfl pd_Mod_sizeOf (by decide) [0, 1, 3, 4, 9, 11] rfl (by decide) 0 10 rfl rfl rfl rfl (Nat.le_of_ble_eq_true rfl) d_Mod_callBuiltin_207 (by decide)) ?_
          obtain ⟨r76, R_memory_77, R_fault_78, q79, h⟩ := wk_b3 h
          refine J_afterI0 (ws' := [(ad 0, .inr (10, [.int (zI R_thrown), .ref (ad 1), .ref (ad 2), .ref (ad 3), .ref (ad 4), .ref (ad 5), .ref (ad 6), .int (zI R_used), .ref (ad 7), .int (zI R_many), .ref (ad 8), .ref (ad 9), .ref (ad 10), .ref (ad 11), .ref (ad 12), .ref (ad 13), .ref (ad 14), .ref (ad 15), .ref (ad 16), .int (zI R_values_56), .ref (ad 17), .int (zI R_textEnd_57), .ref (ad 18), .ref (ad 19), .ref (ad 20), .ref (ad 21), .int (zI R_dataEnd_58), .ref (ad 22), .int (zI R_rowEnd), .ref (ad 23), .ref (ad 24), .int (zI R_rowMany), .ref (ad 25), .ref (ad 26), .ref (ad 27), .ref (ad 28), .int (zI R_waiting), .int (zI R_mostWaiting), .int (zI R_answer), .int (zI R_steps_51), .int (zI R_memory_77), .int (zI R_maxSteps), .int (zI R_maxMemory), .int (zI R_fault_78), .int (zI R_result), .int (zI R_now), .int (zI R_nowRow), .int (zI R_come), .ref (ad 29), .ref (ad 30), .int (zI R_puts_60), .ref (ad 31)])), (ad 8, .inl (cI, 3700, .inl (zA R_valueKinds_61))), (ad 9, .inl (cL, 3700, .inr (.inl (zB R_valueNumbers_62)))), (ad 10, .inl (cI, 3700, .inl (zA R_from_63))), (ad 11, .inl (cI, 3700, .inl (zA R_length_64))), (ad 14, .inl (cI, 3700, .inl (zA R_given_65))), (ad 15, .inl (cI, 3700, .inl (zA R_firstGiven))), (ad 16, .inl (cI, 3700, .inl (zA R_secondGiven))), (ad 17, .inl (cB, 70000, .inl (zA R_texts_66))), (ad 18, .inl (cI, 5000, .inl (zA R_forms_67))), (ad 19, .inl (cL, 5000, .inr (.inl (zB R_tags_68)))), (ad 20, .inl (cI, 5000, .inl (zA R_counts_69))), (ad 21, .inl (cI, 5000, .inl (zA R_textsAt_70))), (ad 29, .inl (cI, 3, .inl (zA R_of))), (ad 31, .inl (cI, 220, .inl (zA R_comes_71)))]) X (jrunV X (c_Mod_keep (ad := ad) q79) jF0_k (fun _ _ _ _ => trivial) (jgV own_Mod_callBuiltin (by decide +kernel)) rfl rfl rfl pd_Mod_keep (by decide) [0] rfl (by decide) 0 10 rfl rfl rfl rfl (Nat.le_of_ble_eq_true rfl) d_Mod_callBuiltin_210 (by decide)) [0] [1, 2, 3, 4, 5, 6, 7, 8, 9, 10, 11, 12, 13, 14] [14, 0, 1, 2, 3, 4, 5, 6, 7, 8, 9, 10, 11, 12, 13] rfl rfl (by decide) (by decide) rfl (by decide) ?_
          refine J_if_eq (tgt := 222) X d_Mod_callBuiltin_213 (by decide) h (fun c80 h => ?_) (fun c80 h => ?_)
          · cases h
            exact J_ret E rfl d_Mod_callBuiltin_222 (Nat.le_refl _) (Nat.le_refl _) rfl
          · refine J_aload_n X d_Mod_callBuiltin_216 rfl 1 rfl ?_
            refine J_iload X d_Mod_callBuiltin_217 0 rfl ?_
            obtain ⟨R_now_81, R_come_82, q83, h⟩ := wk_b2 h
            refine J_afterI0 (ws' := [(ad 0, .inr (10, [.int (zI R_thrown), .ref (ad 1), .ref (ad 2), .ref (ad 3), .ref (ad 4), .ref (ad 5), .ref (ad 6), .int (zI R_used), .ref (ad 7), .int (zI R_many), .ref (ad 8), .ref (ad 9), .ref (ad 10), .ref (ad 11), .ref (ad 12), .ref (ad 13), .ref (ad 14), .ref (ad 15), .ref (ad 16), .int (zI R_values_56), .ref (ad 17), .int (zI R_textEnd_57), .ref (ad 18), .ref (ad 19), .ref (ad 20), .ref (ad 21), .int (zI R_dataEnd_58), .ref (ad 22), .int (zI R_rowEnd), .ref (ad 23), .ref (ad 24), .int (zI R_rowMany), .ref (ad 25), .ref (ad 26), .ref (ad 27), .ref (ad 28), .int (zI R_waiting), .int (zI R_mostWaiting), .int (zI R_answer), .int (zI R_steps_51), .int (zI R_memory_77), .int (zI R_maxSteps), .int (zI R_maxMemory), .int (zI R_fault_78), .int (zI R_result), .int (zI R_now_81), .int (zI R_nowRow), .int (zI R_come_82), .ref (ad 29), .ref (ad 30), .int (zI R_puts_60), .ref (ad 31)])), (ad 8, .inl (cI, 3700, .inl (zA R_valueKinds_61))), (ad 9, .inl (cL, 3700, .inr (.inl (zB R_valueNumbers_62)))), (ad 10, .inl (cI, 3700, .inl (zA R_from_63))), (ad 11, .inl (cI, 3700, .inl (zA R_length_64))), (ad 14, .inl (cI, 3700, .inl (zA R_given_65))), (ad 15, .inl (cI, 3700, .inl (zA R_firstGiven))), (ad 16, .inl (cI, 3700, .inl (zA R_secondGiven))), (ad 17, .inl (cB, 70000, .inl (zA R_texts_66))), (ad 18, .inl (cI, 5000, .inl (zA R_forms_67))), (ad 19, .inl (cL, 5000, .inr (.inl (zB R_tags_68)))), (ad 20, .inl (cI, 5000, .inl (zA R_counts_69))), (ad 21, .inl (cI, 5000, .inl (zA R_textsAt_70))), (ad 29, .inl (cI, 3, .inl (zA R_of))), (ad 31, .inl (cI, 220, .inl (zA R_comes_71)))]) X (jrunV X (c_Mod_comes (ad := ad) q83) jF0_k (fun _ _ _ _ => trivial) (jgV own_Mod_callBuiltin (by decide +kernel)) rfl rfl rfl pd_Mod_comes (by decide) [0] rfl (by decide) 0 10 rfl rfl rfl rfl (Nat.le_of_ble_eq_true rfl) d_Mod_callBuiltin_219 (by decide)) [0] [1, 2, 3, 4, 5, 6, 7, 8, 9, 10, 11, 12, 13, 14] [14, 0, 1, 2, 3, 4, 5, 6, 7, 8, 9, 10, 11, 12, 13] rfl rfl (by decide) (by decide) rfl (by decide) ?_
            cases h
            exact J_ret E rfl d_Mod_callBuiltin_222 (Nat.le_refl _) (Nat.le_refl _) rfl
    · refine J_iload X d_Mod_callBuiltin_158 5 rfl ?_
      refine J_aload_n X d_Mod_callBuiltin_160 rfl 0 rfl ?_
      refine J_aload_n X d_Mod_callBuiltin_161 rfl 0 rfl ?_
      refine J_get X (j_in in_Mod) 0 rfl rfl 48 (by decide) (j_m own_Mod_callBuiltin (by decide +kernel)) rfl d_Mod_callBuiltin_162 ?_
      refine J_iload X d_Mod_callBuiltin_165 6 rfl ?_
      obtain ⟨g84, h⟩ := wk_g h
      refine J_iald X 13 0 rfl rfl g84 d_Mod_callBuiltin_167 ?_
      obtain ⟨r85, q86, h⟩ := wk_b h
      refine J_afterP (jrunV X (c_Mod_sizeOf (ad := ad) q86) jF0_k (fun _ _ _ _ => trivial) (jgV own_Mod_callBuiltin (by decide +kernel)) rfl rfl rfl pd_Mod_sizeOf (by decide) [0, 1, 3, 4, 9, 11] rfl (by decide) 0 10 rfl rfl rfl rfl (Nat.le_of_ble_eq_true rfl) d_Mod_callBuiltin_168 (by decide)) ?_
      refine J_iadd X d_Mod_callBuiltin_171 ?_
      refine J_istore (lv' := [(5, .int (zI (x5 + r85))), (0, .ref (ad 0)), (1, .int (zI x1)), (2, .int (zI x2)), (3, .int (zI x3)), (4, .int (zI x4)), (6, .int (zI x6))]) X d_Mod_callBuiltin_172 (by decide) rfl ?_
      refine J_iinc (lv' := [(6, .int (zI (x6 + 1))), (5, .int (zI (x5 + r85))), (0, .ref (ad 0)), (1, .int (zI x1)), (2, .int (zI x2)), (3, .int (zI x3)), (4, .int (zI x4))]) X d_Mod_callBuiltin_174 6 rfl (by decide) rfl ?_
      refine J_goto (tgt := 149) X d_Mod_callBuiltin_177 (by decide) ?_
      refine J_lv (lv' := [(0, .ref (ad 0)), (1, .int (zI x1)), (2, .int (zI x2)), (3, .int (zI x3)), (4, .int (zI x4)), (5, .int (zI (x5 + r85))), (6, .int (zI (x6 + 1)))]) [2, 3, 4, 5, 6, 1, 0] rfl ?_
      exact ih _ _ _ _ _ _ _ _ _ _ _ _ _ _ _ _ _ _ _ _ _ _ _ _ _ _ _ _ _ h
set_option maxHeartbeats 4000000 in
set_option maxRecDepth 100000 in
theorem c_Mod_callBuiltin {l : Launch} {D : va_G} {cI cL cB : ClassId} {ad : Nat → Nat} {N : Nat} {R_thrown : Int} {R_used : Int} {R_many : Int} {R_values : Int} {R_textEnd : Int} {R_dataEnd : Int} {R_rowEnd : Int} {R_rowMany : Int} {R_waiting : Int} {R_mostWaiting : Int} {R_answer : Int} {R_steps : Int} {R_memory : Int} {R_maxSteps : Int} {R_maxMemory : Int} {R_fault : Int} {R_result : Int} {R_now : Int} {R_nowRow : Int} {R_come : Int} {R_puts : Int} {R_valueKinds : Int → Int} {R_valueNumbers : Int → Int} {R_from : Int → Int} {R_length : Int → Int} {R_given : Int → Int} {R_firstGiven : Int → Int} {R_secondGiven : Int → Int} {R_texts : Int → Int} {R_forms : Int → Int} {R_tags : Int → Int} {R_counts : Int → Int} {R_textsAt : Int → Int} {R_of : Int → Int} {R_comes : Int → Int} {p1 : Int} {p2 : Int} {out : Int × Int × Int × Int × Int × Int × Int × Int × Int × (Int → Int) × (Int → Int) × (Int → Int) × (Int → Int) × (Int → Int) × (Int → Int) × (Int → Int) × (Int → Int) × (Int → Int) × (Int → Int) × (Int → Int) × (Int → Int) × (Int → Int) × (Int → Int)} (h : f_Mod_callBuiltin N R_values R_textEnd R_dataEnd R_steps R_memory R_maxSteps R_maxMemory R_fault R_now R_come R_puts R_valueKinds R_valueNumbers R_from R_length R_given R_firstGiven R_secondGiven R_texts R_forms R_tags R_counts R_textsAt R_of R_comes p1 p2 = some out) : CT jF0 false l D [(cI, .int), (cL, .long), (cB, .byte)] y_Mod_callBuiltin w_Mod_callBuiltin ({ frames := 6, cells := 0, slots := 0, locals := 147 } : Room) [.ref (ad 0), .int (zI p1), .int (zI p2)] [(ad 0, .inr (10, [.int (zI R_thrown), .ref (ad 1), .ref (ad 2), .ref (ad 3), .ref (ad 4), .ref (ad 5), .ref (ad 6), .int (zI R_used), .ref (ad 7), .int (zI R_many), .ref (ad 8), .ref (ad 9), .ref (ad 10), .ref (ad 11), .ref (ad 12), .ref (ad 13), .ref (ad 14), .ref (ad 15), .ref (ad 16), .int (zI R_values), .ref (ad 17), .int (zI R_textEnd), .ref (ad 18), .ref (ad 19), .ref (ad 20), .ref (ad 21), .int (zI R_dataEnd), .ref (ad 22), .int (zI R_rowEnd), .ref (ad 23), .ref (ad 24), .int (zI R_rowMany), .ref (ad 25), .ref (ad 26), .ref (ad 27), .ref (ad 28), .int (zI R_waiting), .int (zI R_mostWaiting), .int (zI R_answer), .int (zI R_steps), .int (zI R_memory), .int (zI R_maxSteps), .int (zI R_maxMemory), .int (zI R_fault), .int (zI R_result), .int (zI R_now), .int (zI R_nowRow), .int (zI R_come), .ref (ad 29), .ref (ad 30), .int (zI R_puts), .ref (ad 31)])), (ad 8, .inl (cI, 3700, .inl (zA R_valueKinds))), (ad 9, .inl (cL, 3700, .inr (.inl (zB R_valueNumbers)))), (ad 10, .inl (cI, 3700, .inl (zA R_from))), (ad 11, .inl (cI, 3700, .inl (zA R_length))), (ad 14, .inl (cI, 3700, .inl (zA R_given))), (ad 15, .inl (cI, 3700, .inl (zA R_firstGiven))), (ad 16, .inl (cI, 3700, .inl (zA R_secondGiven))), (ad 17, .inl (cB, 70000, .inl (zA R_texts))), (ad 18, .inl (cI, 5000, .inl (zA R_forms))), (ad 19, .inl (cL, 5000, .inr (.inl (zB R_tags)))), (ad 20, .inl (cI, 5000, .inl (zA R_counts))), (ad 21, .inl (cI, 5000, .inl (zA R_textsAt))), (ad 29, .inl (cI, 3, .inl (zA R_of))), (ad 31, .inl (cI, 220, .inl (zA R_comes)))] none [(ad 0, .inr (10, [.int (zI R_thrown), .ref (ad 1), .ref (ad 2), .ref (ad 3), .ref (ad 4), .ref (ad 5), .ref (ad 6), .int (zI R_used), .ref (ad 7), .int (zI R_many), .ref (ad 8), .ref (ad 9), .ref (ad 10), .ref (ad 11), .ref (ad 12), .ref (ad 13), .ref (ad 14), .ref (ad 15), .ref (ad 16), .int (zI (out.1)), .ref (ad 17), .int (zI (out.2.1)), .ref (ad 18), .ref (ad 19), .ref (ad 20), .ref (ad 21), .int (zI (out.2.2.1)), .ref (ad 22), .int (zI R_rowEnd), .ref (ad 23), .ref (ad 24), .int (zI R_rowMany), .ref (ad 25), .ref (ad 26), .ref (ad 27), .ref (ad 28), .int (zI R_waiting), .int (zI R_mostWaiting), .int (zI R_answer), .int (zI (out.2.2.2.1)), .int (zI (out.2.2.2.2.1)), .int (zI R_maxSteps), .int (zI R_maxMemory), .int (zI (out.2.2.2.2.2.1)), .int (zI R_result), .int (zI (out.2.2.2.2.2.2.1)), .int (zI R_nowRow), .int (zI (out.2.2.2.2.2.2.2.1)), .ref (ad 29), .ref (ad 30), .int (zI (out.2.2.2.2.2.2.2.2.1)), .ref (ad 31)])), (ad 8, .inl (cI, 3700, .inl (zA (out.2.2.2.2.2.2.2.2.2.1)))), (ad 9, .inl (cL, 3700, .inr (.inl (zB (out.2.2.2.2.2.2.2.2.2.2.1))))), (ad 10, .inl (cI, 3700, .inl (zA (out.2.2.2.2.2.2.2.2.2.2.2.1)))), (ad 11, .inl (cI, 3700, .inl (zA (out.2.2.2.2.2.2.2.2.2.2.2.2.1)))), (ad 14, .inl (cI, 3700, .inl (zA (out.2.2.2.2.2.2.2.2.2.2.2.2.2.1)))), (ad 15, .inl (cI, 3700, .inl (zA (out.2.2.2.2.2.2.2.2.2.2.2.2.2.2.1)))), (ad 16, .inl (cI, 3700, .inl (zA (out.2.2.2.2.2.2.2.2.2.2.2.2.2.2.2.1)))), (ad 17, .inl (cB, 70000, .inl (zA (out.2.2.2.2.2.2.2.2.2.2.2.2.2.2.2.2.1)))), (ad 18, .inl (cI, 5000, .inl (zA (out.2.2.2.2.2.2.2.2.2.2.2.2.2.2.2.2.2.1)))), (ad 19, .inl (cL, 5000, .inr (.inl (zB (out.2.2.2.2.2.2.2.2.2.2.2.2.2.2.2.2.2.2.1))))), (ad 20, .inl (cI, 5000, .inl (zA (out.2.2.2.2.2.2.2.2.2.2.2.2.2.2.2.2.2.2.2.1)))), (ad 21, .inl (cI, 5000, .inl (zA (out.2.2.2.2.2.2.2.2.2.2.2.2.2.2.2.2.2.2.2.2.1)))), (ad 29, .inl (cI, 3, .inl (zA (out.2.2.2.2.2.2.2.2.2.2.2.2.2.2.2.2.2.2.2.2.2.1)))), (ad 31, .inl (cI, 220, .inl (zA (out.2.2.2.2.2.2.2.2.2.2.2.2.2.2.2.2.2.2.2.2.2.2))))] 0 0 := by
  refine CT_of_J (cc := b_Mod_callBuiltin) (maxL := 7) (ret := none) jF0_k (by decide) rfl (Nat.le_of_ble_eq_true rfl) ?_
  intro K hKl hKD X E
  subst hKl; subst hKD
  unfold f_Mod_callBuiltin at h
  refine J_aload_n X d_Mod_callBuiltin_0 rfl 0 rfl ?_
  refine J_get X (j_in in_Mod) 0 rfl rfl 11 (by decide) (j_m own_Mod_callBuiltin (by decide +kernel)) rfl d_Mod_callBuiltin_1 ?_
  refine J_iload_n X d_Mod_callBuiltin_4 rfl 1 rfl ?_
  obtain ⟨g1, h⟩ := wk_g h
  refine J_lald X 2 1 rfl rfl g1 d_Mod_callBuiltin_5 ?_
  refine J_l2i X d_Mod_callBuiltin_6 ?_
  refine J_istore_n (lv' := [(3, .int (zI (R_valueNumbers p1))), (0, .ref (ad 0)), (1, .int (zI p1)), (2, .int (zI p2))]) X d_Mod_callBuiltin_7 rfl (by decide) rfl ?_
  refine J_aload_n X d_Mod_callBuiltin_8 rfl 1 rfl ?_
  refine J_get X (j_in in_Mod) 0 rfl rfl 16 (by decide) (j_m own_Mod_callBuiltin (by decide +kernel)) rfl d_Mod_callBuiltin_9 ?_
  refine J_iload_n X d_Mod_callBuiltin_12 rfl 2 rfl ?_
  obtain ⟨g2, h⟩ := wk_g h
  refine J_iald X 5 0 rfl rfl g2 d_Mod_callBuiltin_13 ?_
  refine J_istore (lv' := [(4, .int (zI (R_given p1))), (3, .int (zI (R_valueNumbers p1))), (0, .ref (ad 0)), (1, .int (zI p1)), (2, .int (zI p2))]) X d_Mod_callBuiltin_14 (by decide) rfl ?_
  refine J_iload X d_Mod_callBuiltin_16 0 rfl ?_
  refine J_iconst X d_Mod_callBuiltin_18 ?_
  refine J_iadd X d_Mod_callBuiltin_19 ?_
  refine J_iload_n X d_Mod_callBuiltin_20 rfl 1 rfl ?_
  obtain ⟨r3, q4, h⟩ := wk_b h
  refine J_afterP (jrunS X (c_Mod_arity (ad := ad) q4) jF0_k (fun _ _ _ _ => trivial) (jgS own_Mod_callBuiltin (by decide +kernel)) rfl rfl rfl pd_Mod_arity (by decide) [] rfl (by decide) rfl rfl (Nat.le_of_ble_eq_true rfl) d_Mod_callBuiltin_21 (by decide)) ?_
  refine J_icmp_ge (tgt := 93) X d_Mod_callBuiltin_24 (by decide) h (fun c5 h => ?_) (fun c5 h => ?_)
  · refine J_aload_n X d_Mod_callBuiltin_93 rfl 2 rfl ?_
    refine J_get X (j_in in_Mod) 0 rfl rfl 48 (by decide) (j_m own_Mod_callBuiltin (by decide +kernel)) rfl d_Mod_callBuiltin_94 ?_
    refine J_iconst X d_Mod_callBuiltin_97 ?_
    refine J_iload X d_Mod_callBuiltin_98 0 rfl ?_
    refine J_if_ne (tgt := 107) X d_Mod_callBuiltin_100 (by decide) h (fun c6 h => ?_) (fun c6 h => ?_)
    · refine J_aload_n X d_Mod_callBuiltin_107 rfl 2 rfl ?_
      refine J_get X (j_in in_Mod) 0 rfl rfl 17 (by decide) (j_m own_Mod_callBuiltin (by decide +kernel)) rfl d_Mod_callBuiltin_108 ?_
      refine J_iload_n X d_Mod_callBuiltin_111 rfl 3 rfl ?_
      obtain ⟨g7, h⟩ := wk_g h
      refine J_iald X 6 0 rfl rfl g7 d_Mod_callBuiltin_112 ?_
      obtain ⟨g8, h⟩ := wk_g h
      refine J_iast (ws' := [(ad 0, .inr (10, [.int (zI R_thrown), .ref (ad 1), .ref (ad 2), .ref (ad 3), .ref (ad 4), .ref (ad 5), .ref (ad 6), .int (zI R_used), .ref (ad 7), .int (zI R_many), .ref (ad 8), .ref (ad 9), .ref (ad 10), .ref (ad 11), .ref (ad 12), .ref (ad 13), .ref (ad 14), .ref (ad 15), .ref (ad 16), .int (zI R_values), .ref (ad 17), .int (zI R_textEnd), .ref (ad 18), .ref (ad 19), .ref (ad 20), .ref (ad 21), .int (zI R_dataEnd), .ref (ad 22), .int (zI R_rowEnd), .ref (ad 23), .ref (ad 24), .int (zI R_rowMany), .ref (ad 25), .ref (ad 26), .ref (ad 27), .ref (ad 28), .int (zI R_waiting), .int (zI R_mostWaiting), .int (zI R_answer), .int (zI R_steps), .int (zI R_memory), .int (zI R_maxSteps), .int (zI R_maxMemory), .int (zI R_fault), .int (zI R_result), .int (zI R_now), .int (zI R_nowRow), .int (zI R_come), .ref (ad 29), .ref (ad 30), .int (zI R_puts), .ref (ad 31)])), (ad 8, .inl (cI, 3700, .inl (zA R_valueKinds))), (ad 9, .inl (cL, 3700, .inr (.inl (zB R_valueNumbers)))), (ad 10, .inl (cI, 3700, .inl (zA R_from))), (ad 11, .inl (cI, 3700, .inl (zA R_length))), (ad 14, .inl (cI, 3700, .inl (zA R_given))), (ad 15, .inl (cI, 3700, .inl (zA R_firstGiven))), (ad 16, .inl (cI, 3700, .inl (zA R_secondGiven))), (ad 17, .inl (cB, 70000, .inl (zA R_texts))), (ad 18, .inl (cI, 5000, .inl (zA R_forms))), (ad 19, .inl (cL, 5000, .inr (.inl (zB R_tags)))), (ad 20, .inl (cI, 5000, .inl (zA R_counts))), (ad 21, .inl (cI, 5000, .inl (zA R_textsAt))), (ad 29, .inl (cI, 3, .inl (zA (upZ R_of 0 (R_firstGiven p1))))), (ad 31, .inl (cI, 220, .inl (zA R_comes)))]) X 13 0 rfl rfl g8 d_Mod_callBuiltin_113 rfl ?_
      refine J_aload_n X d_Mod_callBuiltin_114 rfl 2 rfl ?_
      refine J_get X (j_in in_Mod) 0 rfl rfl 48 (by decide) (j_m own_Mod_callBuiltin (by decide +kernel)) rfl d_Mod_callBuiltin_115 ?_
      refine J_iconst X d_Mod_callBuiltin_118 ?_
      refine J_iload X d_Mod_callBuiltin_119 0 rfl ?_
      refine J_iconst X d_Mod_callBuiltin_121 ?_
      refine J_icmp_ne (tgt := 129) X d_Mod_callBuiltin_122 (by decide) h (fun c9 h => ?_) (fun c9 h => ?_)
      · refine J_aload_n X d_Mod_callBuiltin_129 rfl 2 rfl ?_
        refine J_get X (j_in in_Mod) 0 rfl rfl 18 (by decide) (j_m own_Mod_callBuiltin (by decide +kernel)) rfl d_Mod_callBuiltin_130 ?_
        refine J_iload_n X d_Mod_callBuiltin_133 rfl 3 rfl ?_
        obtain ⟨g10, h⟩ := wk_g h
        refine J_iald X 7 0 rfl rfl g10 d_Mod_callBuiltin_134 ?_
        obtain ⟨g11, h⟩ := wk_g h
        refine J_iast (ws' := [(ad 0, .inr (10, [.int (zI R_thrown), .ref (ad 1), .ref (ad 2), .ref (ad 3), .ref (ad 4), .ref (ad 5), .ref (ad 6), .int (zI R_used), .ref (ad 7), .int (zI R_many), .ref (ad 8), .ref (ad 9), .ref (ad 10), .ref (ad 11), .ref (ad 12), .ref (ad 13), .ref (ad 14), .ref (ad 15), .ref (ad 16), .int (zI R_values), .ref (ad 17), .int (zI R_textEnd), .ref (ad 18), .ref (ad 19), .ref (ad 20), .ref (ad 21), .int (zI R_dataEnd), .ref (ad 22), .int (zI R_rowEnd), .ref (ad 23), .ref (ad 24), .int (zI R_rowMany), .ref (ad 25), .ref (ad 26), .ref (ad 27), .ref (ad 28), .int (zI R_waiting), .int (zI R_mostWaiting), .int (zI R_answer), .int (zI R_steps), .int (zI R_memory), .int (zI R_maxSteps), .int (zI R_maxMemory), .int (zI R_fault), .int (zI R_result), .int (zI R_now), .int (zI R_nowRow), .int (zI R_come), .ref (ad 29), .ref (ad 30), .int (zI R_puts), .ref (ad 31)])), (ad 8, .inl (cI, 3700, .inl (zA R_valueKinds))), (ad 9, .inl (cL, 3700, .inr (.inl (zB R_valueNumbers)))), (ad 10, .inl (cI, 3700, .inl (zA R_from))), (ad 11, .inl (cI, 3700, .inl (zA R_length))), (ad 14, .inl (cI, 3700, .inl (zA R_given))), (ad 15, .inl (cI, 3700, .inl (zA R_firstGiven))), (ad 16, .inl (cI, 3700, .inl (zA R_secondGiven))), (ad 17, .inl (cB, 70000, .inl (zA R_texts))), (ad 18, .inl (cI, 5000, .inl (zA R_forms))), (ad 19, .inl (cL, 5000, .inr (.inl (zB R_tags)))), (ad 20, .inl (cI, 5000, .inl (zA R_counts))), (ad 21, .inl (cI, 5000, .inl (zA R_textsAt))), (ad 29, .inl (cI, 3, .inl (zA (upZ (upZ R_of 0 (R_firstGiven p1)) 1 (R_secondGiven p1))))), (ad 31, .inl (cI, 220, .inl (zA R_comes)))]) X 13 0 rfl rfl g11 d_Mod_callBuiltin_135 rfl ?_
        refine J_aload_n X d_Mod_callBuiltin_136 rfl 2 rfl ?_
        refine J_get X (j_in in_Mod) 0 rfl rfl 48 (by decide) (j_m own_Mod_callBuiltin (by decide +kernel)) rfl d_Mod_callBuiltin_137 ?_
        refine J_iconst X d_Mod_callBuiltin_140 ?_
        refine J_iload_n X d_Mod_callBuiltin_141 rfl 4 rfl ?_
        obtain ⟨g12, h⟩ := wk_g h
        refine J_iast (ws' := [(ad 0, .inr (10, [.int (zI R_thrown), .ref (ad 1), .ref (ad 2), .ref (ad 3), .ref (ad 4), .ref (ad 5), .ref (ad 6), .int (zI R_used), .ref (ad 7), .int (zI R_many), .ref (ad 8), .ref (ad 9), .ref (ad 10), .ref (ad 11), .ref (ad 12), .ref (ad 13), .ref (ad 14), .ref (ad 15), .ref (ad 16), .int (zI R_values), .ref (ad 17), .int (zI R_textEnd), .ref (ad 18), .ref (ad 19), .ref (ad 20), .ref (ad 21), .int (zI R_dataEnd), .ref (ad 22), .int (zI R_rowEnd), .ref (ad 23), .ref (ad 24), .int (zI R_rowMany), .ref (ad 25), .ref (ad 26), .ref (ad 27), .ref (ad 28), .int (zI R_waiting), .int (zI R_mostWaiting), .int (zI R_answer), .int (zI R_steps), .int (zI R_memory), .int (zI R_maxSteps), .int (zI R_maxMemory), .int (zI R_fault), .int (zI R_result), .int (zI R_now), .int (zI R_nowRow), .int (zI R_come), .ref (ad 29), .ref (ad 30), .int (zI R_puts), .ref (ad 31)])), (ad 8, .inl (cI, 3700, .inl (zA R_valueKinds))), (ad 9, .inl (cL, 3700, .inr (.inl (zB R_valueNumbers)))), (ad 10, .inl (cI, 3700, .inl (zA R_from))), (ad 11, .inl (cI, 3700, .inl (zA R_length))), (ad 14, .inl (cI, 3700, .inl (zA R_given))), (ad 15, .inl (cI, 3700, .inl (zA R_firstGiven))), (ad 16, .inl (cI, 3700, .inl (zA R_secondGiven))), (ad 17, .inl (cB, 70000, .inl (zA R_texts))), (ad 18, .inl (cI, 5000, .inl (zA R_forms))), (ad 19, .inl (cL, 5000, .inr (.inl (zB R_tags)))), (ad 20, .inl (cI, 5000, .inl (zA R_counts))), (ad 21, .inl (cI, 5000, .inl (zA R_textsAt))), (ad 29, .inl (cI, 3, .inl (zA (upZ (upZ (upZ R_of 0 (R_firstGiven p1)) 1 (R_secondGiven p1)) 2 p2)))), (ad 31, .inl (cI, 220, .inl (zA R_comes)))]) X 13 0 rfl rfl g12 d_Mod_callBuiltin_142 rfl ?_
        refine J_iconst X d_Mod_callBuiltin_143 ?_
        refine J_istore (lv' := [(5, .int (zI 1)), (4, .int (zI (R_given p1))), (3, .int (zI (R_valueNumbers p1))), (0, .ref (ad 0)), (1, .int (zI p1)), (2, .int (zI p2))]) X d_Mod_callBuiltin_144 (by decide) rfl ?_
        refine J_iconst X d_Mod_callBuiltin_146 ?_
        refine J_istore (lv' := [(6, .int (zI 0)), (5, .int (zI 1)), (4, .int (zI (R_given p1))), (3, .int (zI (R_valueNumbers p1))), (0, .ref (ad 0)), (1, .int (zI p1)), (2, .int (zI p2))]) X d_Mod_callBuiltin_147 (by decide) rfl ?_
        refine J_lv (lv' := [(0, .ref (ad 0)), (1, .int (zI p1)), (2, .int (zI p2)), (3, .int (zI (R_valueNumbers p1))), (4, .int (zI (R_given p1))), (5, .int (zI 1)), (6, .int (zI 0))]) [4, 5, 6, 3, 2, 1, 0] rfl ?_
        exact k_Mod_callBuiltin_L149 X E _ _ _ _ _ _ _ _ _ _ _ _ _ _ _ _ _ _ _ _ _ _ _ _ _ _ _ _ _ _ h
      · refine J_iload_n X d_Mod_callBuiltin_125 rfl 4 rfl ?_
        refine J_goto (tgt := 135) X d_Mod_callBuiltin_126 (by decide) ?_
        obtain ⟨g13, h⟩ := wk_g h
        refine J_iast (ws' := [(ad 0, .inr (10, [.int (zI R_thrown), .ref (ad 1), .ref (ad 2), .ref (ad 3), .ref (ad 4), .ref (ad 5), .ref (ad 6), .int (zI R_used), .ref (ad 7), .int (zI R_many), .ref (ad 8), .ref (ad 9), .ref (ad 10), .ref (ad 11), .ref (ad 12), .ref (ad 13), .ref (ad 14), .ref (ad 15), .ref (ad 16), .int (zI R_values), .ref (ad 17), .int (zI R_textEnd), .ref (ad 18), .ref (ad 19), .ref (ad 20), .ref (ad 21), .int (zI R_dataEnd), .ref (ad 22), .int (zI R_rowEnd), .ref (ad 23), .ref (ad 24), .int (zI R_rowMany), .ref (ad 25), .ref (ad 26), .ref (ad 27), .ref (ad 28), .int (zI R_waiting), .int (zI R_mostWaiting), .int (zI R_answer), .int (zI R_steps), .int (zI R_memory), .int (zI R_maxSteps), .int (zI R_maxMemory), .int (zI R_fault), .int (zI R_result), .int (zI R_now), .int (zI R_nowRow), .int (zI R_come), .ref (ad 29), .ref (ad 30), .int (zI R_puts), .ref (ad 31)])), (ad 8, .inl (cI, 3700, .inl (zA R_valueKinds))), (ad 9, .inl (cL, 3700, .inr (.inl (zB R_valueNumbers)))), (ad 10, .inl (cI, 3700, .inl (zA R_from))), (ad 11, .inl (cI, 3700, .inl (zA R_length))), (ad 14, .inl (cI, 3700, .inl (zA R_given))), (ad 15, .inl (cI, 3700, .inl (zA R_firstGiven))), (ad 16, .inl (cI, 3700, .inl (zA R_secondGiven))), (ad 17, .inl (cB, 70000, .inl (zA R_texts))), (ad 18, .inl (cI, 5000, .inl (zA R_forms))), (ad 19, .inl (cL, 5000, .inr (.inl (zB R_tags)))), (ad 20, .inl (cI, 5000, .inl (zA R_counts))), (ad 21, .inl (cI, 5000, .inl (zA R_textsAt))), (ad 29, .inl (cI, 3, .inl (zA (upZ (upZ R_of 0 (R_firstGiven p1)) 1 p2)))), (ad 31, .inl (cI, 220, .inl (zA R_comes)))]) X 13 0 rfl rfl g13 d_Mod_callBuiltin_135 rfl ?_
        refine J_aload_n X d_Mod_callBuiltin_136 rfl 2 rfl ?_
        refine J_get X (j_in in_Mod) 0 rfl rfl 48 (by decide) (j_m own_Mod_callBuiltin (by decide +kernel)) rfl d_Mod_callBuiltin_137 ?_
        refine J_iconst X d_Mod_callBuiltin_140 ?_
        refine J_iload_n X d_Mod_callBuiltin_141 rfl 4 rfl ?_
        obtain ⟨g14, h⟩ := wk_g h
        refine J_iast (ws' := [(ad 0, .inr (10, [.int (zI R_thrown), .ref (ad 1), .ref (ad 2), .ref (ad 3), .ref (ad 4), .ref (ad 5), .ref (ad 6), .int (zI R_used), .ref (ad 7), .int (zI R_many), .ref (ad 8), .ref (ad 9), .ref (ad 10), .ref (ad 11), .ref (ad 12), .ref (ad 13), .ref (ad 14), .ref (ad 15), .ref (ad 16), .int (zI R_values), .ref (ad 17), .int (zI R_textEnd), .ref (ad 18), .ref (ad 19), .ref (ad 20), .ref (ad 21), .int (zI R_dataEnd), .ref (ad 22), .int (zI R_rowEnd), .ref (ad 23), .ref (ad 24), .int (zI R_rowMany), .ref (ad 25), .ref (ad 26), .ref (ad 27), .ref (ad 28), .int (zI R_waiting), .int (zI R_mostWaiting), .int (zI R_answer), .int (zI R_steps), .int (zI R_memory), .int (zI R_maxSteps), .int (zI R_maxMemory), .int (zI R_fault), .int (zI R_result), .int (zI R_now), .int (zI R_nowRow), .int (zI R_come), .ref (ad 29), .ref (ad 30), .int (zI R_puts), .ref (ad 31)])), (ad 8, .inl (cI, 3700, .inl (zA R_valueKinds))), (ad 9, .inl (cL, 3700, .inr (.inl (zB R_valueNumbers)))), (ad 10, .inl (cI, 3700, .inl (zA R_from))), (ad 11, .inl (cI, 3700, .inl (zA R_length))), (ad 14, .inl (cI, 3700, .inl (zA R_given))), (ad 15, .inl (cI, 3700, .inl (zA R_firstGiven))), (ad 16, .inl (cI, 3700, .inl (zA R_secondGiven))), (ad 17, .inl (cB, 70000, .inl (zA R_texts))), (ad 18, .inl (cI, 5000, .inl (zA R_forms))), (ad 19, .inl (cL, 5000, .inr (.inl (zB R_tags)))), (ad 20, .inl (cI, 5000, .inl (zA R_counts))), (ad 21, .inl (cI, 5000, .inl (zA R_textsAt))), (ad 29, .inl (cI, 3, .inl (zA (upZ (upZ (upZ R_of 0 (R_firstGiven p1)) 1 p2) 2 p2)))), (ad 31, .inl (cI, 220, .inl (zA R_comes)))]) X 13 0 rfl rfl g14 d_Mod_callBuiltin_142 rfl ?_
        refine J_iconst X d_Mod_callBuiltin_143 ?_
        refine J_istore (lv' := [(5, .int (zI 1)), (4, .int (zI (R_given p1))), (3, .int (zI (R_valueNumbers p1))), (0, .ref (ad 0)), (1, .int (zI p1)), (2, .int (zI p2))]) X d_Mod_callBuiltin_144 (by decide) rfl ?_
        refine J_iconst X d_Mod_callBuiltin_146 ?_
        refine J_istore (lv' := [(6, .int (zI 0)), (5, .int (zI 1)), (4, .int (zI (R_given p1))), (3, .int (zI (R_valueNumbers p1))), (0, .ref (ad 0)), (1, .int (zI p1)), (2, .int (zI p2))]) X d_Mod_callBuiltin_147 (by decide) rfl ?_
        refine J_lv (lv' := [(0, .ref (ad 0)), (1, .int (zI p1)), (2, .int (zI p2)), (3, .int (zI (R_valueNumbers p1))), (4, .int (zI (R_given p1))), (5, .int (zI 1)), (6, .int (zI 0))]) [4, 5, 6, 3, 2, 1, 0] rfl ?_
        exact k_Mod_callBuiltin_L149 X E _ _ _ _ _ _ _ _ _ _ _ _ _ _ _ _ _ _ _ _ _ _ _ _ _ _ _ _ _ _ h
    · refine J_iload_n X d_Mod_callBuiltin_103 rfl 4 rfl ?_
      refine J_goto (tgt := 113) X d_Mod_callBuiltin_104 (by decide) ?_
      obtain ⟨g15, h⟩ := wk_g h
      refine J_iast (ws' := [(ad 0, .inr (10, [.int (zI R_thrown), .ref (ad 1), .ref (ad 2), .ref (ad 3), .ref (ad 4), .ref (ad 5), .ref (ad 6), .int (zI R_used), .ref (ad 7), .int (zI R_many), .ref (ad 8), .ref (ad 9), .ref (ad 10), .ref (ad 11), .ref (ad 12), .ref (ad 13), .ref (ad 14), .ref (ad 15), .ref (ad 16), .int (zI R_values), .ref (ad 17), .int (zI R_textEnd), .ref (ad 18), .ref (ad 19), .ref (ad 20), .ref (ad 21), .int (zI R_dataEnd), .ref (ad 22), .int (zI R_rowEnd), .ref (ad 23), .ref (ad 24), .int (zI R_rowMany), .ref (ad 25), .ref (ad 26), .ref (ad 27), .ref (ad 28), .int (zI R_waiting), .int (zI R_mostWaiting), .int (zI R_answer), .int (zI R_steps), .int (zI R_memory), .int (zI R_maxSteps), .int (zI R_maxMemory), .int (zI R_fault), .int (zI R_result), .int (zI R_now), .int (zI R_nowRow), .int (zI R_come), .ref (ad 29), .ref (ad 30), .int (zI R_puts), .ref (ad 31)])), (ad 8, .inl (cI, 3700, .inl (zA R_valueKinds))), (ad 9, .inl (cL, 3700, .inr (.inl (zB R_valueNumbers)))), (ad 10, .inl (cI, 3700, .inl (zA R_from))), (ad 11, .inl (cI, 3700, .inl (zA R_length))), (ad 14, .inl (cI, 3700, .inl (zA R_given))), (ad 15, .inl (cI, 3700, .inl (zA R_firstGiven))), (ad 16, .inl (cI, 3700, .inl (zA R_secondGiven))), (ad 17, .inl (cB, 70000, .inl (zA R_texts))), (ad 18, .inl (cI, 5000, .inl (zA R_forms))), (ad 19, .inl (cL, 5000, .inr (.inl (zB R_tags)))), (ad 20, .inl (cI, 5000, .inl (zA R_counts))), (ad 21, .inl (cI, 5000, .inl (zA R_textsAt))), (ad 29, .inl (cI, 3, .inl (zA (upZ R_of 0 p2)))), (ad 31, .inl (cI, 220, .inl (zA R_comes)))]) X 13 0 rfl rfl g15 d_Mod_callBuiltin_113 rfl ?_
      refine J_aload_n X d_Mod_callBuiltin_114 rfl 2 rfl ?_
      refine J_get X (j_in in_Mod) 0 rfl rfl 48 (by decide) (j_m own_Mod_callBuiltin (by decide +kernel)) rfl d_Mod_callBuiltin_115 ?_
      refine J_iconst X d_Mod_callBuiltin_118 ?_
      refine J_iload X d_Mod_callBuiltin_119 0 rfl ?_
      refine J_iconst X d_Mod_callBuiltin_121 ?_
      refine J_icmp_ne (tgt := 129) X d_Mod_callBuiltin_122 (by decide) h (fun c16 h => ?_) (fun c16 h => ?_)
      · refine J_aload_n X d_Mod_callBuiltin_129 rfl 2 rfl ?_
        refine J_get X (j_in in_Mod) 0 rfl rfl 18 (by decide) (j_m own_Mod_callBuiltin (by decide +kernel)) rfl d_Mod_callBuiltin_130 ?_
        refine J_iload_n X d_Mod_callBuiltin_133 rfl 3 rfl ?_
        obtain ⟨g17, h⟩ := wk_g h
        refine J_iald X 7 0 rfl rfl g17 d_Mod_callBuiltin_134 ?_
        obtain ⟨g18, h⟩ := wk_g h
        refine J_iast (ws' := [(ad 0, .inr (10, [.int (zI R_thrown), .ref (ad 1), .ref (ad 2), .ref (ad 3), .ref (ad 4), .ref (ad 5), .ref (ad 6), .int (zI R_used), .ref (ad 7), .int (zI R_many), .ref (ad 8), .ref (ad 9), .ref (ad 10), .ref (ad 11), .ref (ad 12), .ref (ad 13), .ref (ad 14), .ref (ad 15), .ref (ad 16), .int (zI R_values), .ref (ad 17), .int (zI R_textEnd), .ref (ad 18), .ref (ad 19), .ref (ad 20), .ref (ad 21), .int (zI R_dataEnd), .ref (ad 22), .int (zI R_rowEnd), .ref (ad 23), .ref (ad 24), .int (zI R_rowMany), .ref (ad 25), .ref (ad 26), .ref (ad 27), .ref (ad 28), .int (zI R_waiting), .int (zI R_mostWaiting), .int (zI R_answer), .int (zI R_steps), .int (zI R_memory), .int (zI R_maxSteps), .int (zI R_maxMemory), .int (zI R_fault), .int (zI R_result), .int (zI R_now), .int (zI R_nowRow), .int (zI R_come), .ref (ad 29), .ref (ad 30), .int (zI R_puts), .ref (ad 31)])), (ad 8, .inl (cI, 3700, .inl (zA R_valueKinds))), (ad 9, .inl (cL, 3700, .inr (.inl (zB R_valueNumbers)))), (ad 10, .inl (cI, 3700, .inl (zA R_from))), (ad 11, .inl (cI, 3700, .inl (zA R_length))), (ad 14, .inl (cI, 3700, .inl (zA R_given))), (ad 15, .inl (cI, 3700, .inl (zA R_firstGiven))), (ad 16, .inl (cI, 3700, .inl (zA R_secondGiven))), (ad 17, .inl (cB, 70000, .inl (zA R_texts))), (ad 18, .inl (cI, 5000, .inl (zA R_forms))), (ad 19, .inl (cL, 5000, .inr (.inl (zB R_tags)))), (ad 20, .inl (cI, 5000, .inl (zA R_counts))), (ad 21, .inl (cI, 5000, .inl (zA R_textsAt))), (ad 29, .inl (cI, 3, .inl (zA (upZ (upZ R_of 0 p2) 1 (R_secondGiven p1))))), (ad 31, .inl (cI, 220, .inl (zA R_comes)))]) X 13 0 rfl rfl g18 d_Mod_callBuiltin_135 rfl ?_
        refine J_aload_n X d_Mod_callBuiltin_136 rfl 2 rfl ?_
        refine J_get X (j_in in_Mod) 0 rfl rfl 48 (by decide) (j_m own_Mod_callBuiltin (by decide +kernel)) rfl d_Mod_callBuiltin_137 ?_
        refine J_iconst X d_Mod_callBuiltin_140 ?_
        refine J_iload_n X d_Mod_callBuiltin_141 rfl 4 rfl ?_
        obtain ⟨g19, h⟩ := wk_g h
        refine J_iast (ws' := [(ad 0, .inr (10, [.int (zI R_thrown), .ref (ad 1), .ref (ad 2), .ref (ad 3), .ref (ad 4), .ref (ad 5), .ref (ad 6), .int (zI R_used), .ref (ad 7), .int (zI R_many), .ref (ad 8), .ref (ad 9), .ref (ad 10), .ref (ad 11), .ref (ad 12), .ref (ad 13), .ref (ad 14), .ref (ad 15), .ref (ad 16), .int (zI R_values), .ref (ad 17), .int (zI R_textEnd), .ref (ad 18), .ref (ad 19), .ref (ad 20), .ref (ad 21), .int (zI R_dataEnd), .ref (ad 22), .int (zI R_rowEnd), .ref (ad 23), .ref (ad 24), .int (zI R_rowMany), .ref (ad 25), .ref (ad 26), .ref (ad 27), .ref (ad 28), .int (zI R_waiting), .int (zI R_mostWaiting), .int (zI R_answer), .int (zI R_steps), .int (zI R_memory), .int (zI R_maxSteps), .int (zI R_maxMemory), .int (zI R_fault), .int (zI R_result), .int (zI R_now), .int (zI R_nowRow), .int (zI R_come), .ref (ad 29), .ref (ad 30), .int (zI R_puts), .ref (ad 31)])), (ad 8, .inl (cI, 3700, .inl (zA R_valueKinds))), (ad 9, .inl (cL, 3700, .inr (.inl (zB R_valueNumbers)))), (ad 10, .inl (cI, 3700, .inl (zA R_from))), (ad 11, .inl (cI, 3700, .inl (zA R_length))), (ad 14, .inl (cI, 3700, .inl (zA R_given))), (ad 15, .inl (cI, 3700, .inl (zA R_firstGiven))), (ad 16, .inl (cI, 3700, .inl (zA R_secondGiven))), (ad 17, .inl (cB, 70000, .inl (zA R_texts))), (ad 18, .inl (cI, 5000, .inl (zA R_forms))), (ad 19, .inl (cL, 5000, .inr (.inl (zB R_tags)))), (ad 20, .inl (cI, 5000, .inl (zA R_counts))), (ad 21, .inl (cI, 5000, .inl (zA R_textsAt))), (ad 29, .inl (cI, 3, .inl (zA (upZ (upZ (upZ R_of 0 p2) 1 (R_secondGiven p1)) 2 p2)))), (ad 31, .inl (cI, 220, .inl (zA R_comes)))]) X 13 0 rfl rfl g19 d_Mod_callBuiltin_142 rfl ?_
        refine J_iconst X d_Mod_callBuiltin_143 ?_
        refine J_istore (lv' := [(5, .int (zI 1)), (4, .int (zI (R_given p1))), (3, .int (zI (R_valueNumbers p1))), (0, .ref (ad 0)), (1, .int (zI p1)), (2, .int (zI p2))]) X d_Mod_callBuiltin_144 (by decide) rfl ?_
        refine J_iconst X d_Mod_callBuiltin_146 ?_
        refine J_istore (lv' := [(6, .int (zI 0)), (5, .int (zI 1)), (4, .int (zI (R_given p1))), (3, .int (zI (R_valueNumbers p1))), (0, .ref (ad 0)), (1, .int (zI p1)), (2, .int (zI p2))]) X d_Mod_callBuiltin_147 (by decide) rfl ?_
        refine J_lv (lv' := [(0, .ref (ad 0)), (1, .int (zI p1)), (2, .int (zI p2)), (3, .int (zI (R_valueNumbers p1))), (4, .int (zI (R_given p1))), (5, .int (zI 1)), (6, .int (zI 0))]) [4, 5, 6, 3, 2, 1, 0] rfl ?_
        exact k_Mod_callBuiltin_L149 X E _ _ _ _ _ _ _ _ _ _ _ _ _ _ _ _ _ _ _ _ _ _ _ _ _ _ _ _ _ _ h
      · refine J_iload_n X d_Mod_callBuiltin_125 rfl 4 rfl ?_
        refine J_goto (tgt := 135) X d_Mod_callBuiltin_126 (by decide) ?_
        obtain ⟨g20, h⟩ := wk_g h
        refine J_iast (ws' := [(ad 0, .inr (10, [.int (zI R_thrown), .ref (ad 1), .ref (ad 2), .ref (ad 3), .ref (ad 4), .ref (ad 5), .ref (ad 6), .int (zI R_used), .ref (ad 7), .int (zI R_many), .ref (ad 8), .ref (ad 9), .ref (ad 10), .ref (ad 11), .ref (ad 12), .ref (ad 13), .ref (ad 14), .ref (ad 15), .ref (ad 16), .int (zI R_values), .ref (ad 17), .int (zI R_textEnd), .ref (ad 18), .ref (ad 19), .ref (ad 20), .ref (ad 21), .int (zI R_dataEnd), .ref (ad 22), .int (zI R_rowEnd), .ref (ad 23), .ref (ad 24), .int (zI R_rowMany), .ref (ad 25), .ref (ad 26), .ref (ad 27), .ref (ad 28), .int (zI R_waiting), .int (zI R_mostWaiting), .int (zI R_answer), .int (zI R_steps), .int (zI R_memory), .int (zI R_maxSteps), .int (zI R_maxMemory), .int (zI R_fault), .int (zI R_result), .int (zI R_now), .int (zI R_nowRow), .int (zI R_come), .ref (ad 29), .ref (ad 30), .int (zI R_puts), .ref (ad 31)])), (ad 8, .inl (cI, 3700, .inl (zA R_valueKinds))), (ad 9, .inl (cL, 3700, .inr (.inl (zB R_valueNumbers)))), (ad 10, .inl (cI, 3700, .inl (zA R_from))), (ad 11, .inl (cI, 3700, .inl (zA R_length))), (ad 14, .inl (cI, 3700, .inl (zA R_given))), (ad 15, .inl (cI, 3700, .inl (zA R_firstGiven))), (ad 16, .inl (cI, 3700, .inl (zA R_secondGiven))), (ad 17, .inl (cB, 70000, .inl (zA R_texts))), (ad 18, .inl (cI, 5000, .inl (zA R_forms))), (ad 19, .inl (cL, 5000, .inr (.inl (zB R_tags)))), (ad 20, .inl (cI, 5000, .inl (zA R_counts))), (ad 21, .inl (cI, 5000, .inl (zA R_textsAt))), (ad 29, .inl (cI, 3, .inl (zA (upZ (upZ R_of 0 p2) 1 p2)))), (ad 31, .inl (cI, 220, .inl (zA R_comes)))]) X 13 0 rfl rfl g20 d_Mod_callBuiltin_135 rfl ?_
        refine J_aload_n X d_Mod_callBuiltin_136 rfl 2 rfl ?_
        refine J_get X (j_in in_Mod) 0 rfl rfl 48 (by decide) (j_m own_Mod_callBuiltin (by decide +kernel)) rfl d_Mod_callBuiltin_137 ?_
        refine J_iconst X d_Mod_callBuiltin_140 ?_
        refine J_iload_n X d_Mod_callBuiltin_141 rfl 4 rfl ?_
        obtain ⟨g21, h⟩ := wk_g h
        refine J_iast (ws' := [(ad 0, .inr (10, [.int (zI R_thrown), .ref (ad 1), .ref (ad 2), .ref (ad 3), .ref (ad 4), .ref (ad 5), .ref (ad 6), .int (zI R_used), .ref (ad 7), .int (zI R_many), .ref (ad 8), .ref (ad 9), .ref (ad 10), .ref (ad 11), .ref (ad 12), .ref (ad 13), .ref (ad 14), .ref (ad 15), .ref (ad 16), .int (zI R_values), .ref (ad 17), .int (zI R_textEnd), .ref (ad 18), .ref (ad 19), .ref (ad 20), .ref (ad 21), .int (zI R_dataEnd), .ref (ad 22), .int (zI R_rowEnd), .ref (ad 23), .ref (ad 24), .int (zI R_rowMany), .ref (ad 25), .ref (ad 26), .ref (ad 27), .ref (ad 28), .int (zI R_waiting), .int (zI R_mostWaiting), .int (zI R_answer), .int (zI R_steps), .int (zI R_memory), .int (zI R_maxSteps), .int (zI R_maxMemory), .int (zI R_fault), .int (zI R_result), .int (zI R_now), .int (zI R_nowRow), .int (zI R_come), .ref (ad 29), .ref (ad 30), .int (zI R_puts), .ref (ad 31)])), (ad 8, .inl (cI, 3700, .inl (zA R_valueKinds))), (ad 9, .inl (cL, 3700, .inr (.inl (zB R_valueNumbers)))), (ad 10, .inl (cI, 3700, .inl (zA R_from))), (ad 11, .inl (cI, 3700, .inl (zA R_length))), (ad 14, .inl (cI, 3700, .inl (zA R_given))), (ad 15, .inl (cI, 3700, .inl (zA R_firstGiven))), (ad 16, .inl (cI, 3700, .inl (zA R_secondGiven))), (ad 17, .inl (cB, 70000, .inl (zA R_texts))), (ad 18, .inl (cI, 5000, .inl (zA R_forms))), (ad 19, .inl (cL, 5000, .inr (.inl (zB R_tags)))), (ad 20, .inl (cI, 5000, .inl (zA R_counts))), (ad 21, .inl (cI, 5000, .inl (zA R_textsAt))), (ad 29, .inl (cI, 3, .inl (zA (upZ (upZ (upZ R_of 0 p2) 1 p2) 2 p2)))), (ad 31, .inl (cI, 220, .inl (zA R_comes)))]) X 13 0 rfl rfl g21 d_Mod_callBuiltin_142 rfl ?_
        refine J_iconst X d_Mod_callBuiltin_143 ?_
        refine J_istore (lv' := [(5, .int (zI 1)), (4, .int (zI (R_given p1))), (3, .int (zI (R_valueNumbers p1))), (0, .ref (ad 0)), (1, .int (zI p1)), (2, .int (zI p2))]) X d_Mod_callBuiltin_144 (by decide) rfl ?_
        refine J_iconst X d_Mod_callBuiltin_146 ?_
        refine J_istore (lv' := [(6, .int (zI 0)), (5, .int (zI 1)), (4, .int (zI (R_given p1))), (3, .int (zI (R_valueNumbers p1))), (0, .ref (ad 0)), (1, .int (zI p1)), (2, .int (zI p2))]) X d_Mod_callBuiltin_147 (by decide) rfl ?_
        refine J_lv (lv' := [(0, .ref (ad 0)), (1, .int (zI p1)), (2, .int (zI p2)), (3, .int (zI (R_valueNumbers p1))), (4, .int (zI (R_given p1))), (5, .int (zI 1)), (6, .int (zI 0))]) [4, 5, 6, 3, 2, 1, 0] rfl ?_
        exact k_Mod_callBuiltin_L149 X E _ _ _ _ _ _ _ _ _ _ _ _ _ _ _ _ _ _ _ _ _ _ _ _ _ _ _ _ _ _ h
  · refine J_aload_n X d_Mod_callBuiltin_27 rfl 2 rfl ?_
    refine J_iconst X d_Mod_callBuiltin_28 ?_
    obtain ⟨r22, R_memory_23, R_fault_24, q25, h⟩ := wk_b3 h
    refine J_afterI0 (ws' := [(ad 0, .inr (10, [.int (zI R_thrown), .ref (ad 1), .ref (ad 2), .ref (ad 3), .ref (ad 4), .ref (ad 5), .ref (ad 6), .int (zI R_used), .ref (ad 7), .int (zI R_many), .ref (ad 8), .ref (ad 9), .ref (ad 10), .ref (ad 11), .ref (ad 12), .ref (ad 13), .ref (ad 14), .ref (ad 15), .ref (ad 16), .int (zI R_values), .ref (ad 17), .int (zI R_textEnd), .ref (ad 18), .ref (ad 19), .ref (ad 20), .ref (ad 21), .int (zI R_dataEnd), .ref (ad 22), .int (zI R_rowEnd), .ref (ad 23), .ref (ad 24), .int (zI R_rowMany), .ref (ad 25), .ref (ad 26), .ref (ad 27), .ref (ad 28), .int (zI R_waiting), .int (zI R_mostWaiting), .int (zI R_answer), .int (zI R_steps), .int (zI R_memory_23), .int (zI R_maxSteps), .int (zI R_maxMemory), .int (zI R_fault_24), .int (zI R_result), .int (zI R_now), .int (zI R_nowRow), .int (zI R_come), .ref (ad 29), .ref (ad 30), .int (zI R_puts), .ref (ad 31)])), (ad 8, .inl (cI, 3700, .inl (zA R_valueKinds))), (ad 9, .inl (cL, 3700, .inr (.inl (zB R_valueNumbers)))), (ad 10, .inl (cI, 3700, .inl (zA R_from))), (ad 11, .inl (cI, 3700, .inl (zA R_length))), (ad 14, .inl (cI, 3700, .inl (zA R_given))), (ad 15, .inl (cI, 3700, .inl (zA R_firstGiven))), (ad 16, .inl (cI, 3700, .inl (zA R_secondGiven))), (ad 17, .inl (cB, 70000, .inl (zA R_texts))), (ad 18, .inl (cI, 5000, .inl (zA R_forms))), (ad 19, .inl (cL, 5000, .inr (.inl (zB R_tags)))), (ad 20, .inl (cI, 5000, .inl (zA R_counts))), (ad 21, .inl (cI, 5000, .inl (zA R_textsAt))), (ad 29, .inl (cI, 3, .inl (zA R_of))), (ad 31, .inl (cI, 220, .inl (zA R_comes)))]) X (jrunV X (c_Mod_keep (ad := ad) q25) jF0_k (fun _ _ _ _ => trivial) (jgV own_Mod_callBuiltin (by decide +kernel)) rfl rfl rfl pd_Mod_keep (by decide) [0] rfl (by decide) 0 10 rfl rfl rfl rfl (Nat.le_of_ble_eq_true rfl) d_Mod_callBuiltin_29 (by decide)) [0] [1, 2, 3, 4, 5, 6, 7, 8, 9, 10, 11, 12, 13, 14] [14, 0, 1, 2, 3, 4, 5, 6, 7, 8, 9, 10, 11, 12, 13] rfl rfl (by decide) (by decide) rfl (by decide) ?_
    refine J_if_eq (tgt := 92) X d_Mod_callBuiltin_32 (by decide) h (fun c26 h => ?_) (fun c26 h => ?_)
    · cases h
      exact J_ret E rfl d_Mod_callBuiltin_92 (Nat.le_refl _) (Nat.le_refl _) rfl
    · refine J_aload_n X d_Mod_callBuiltin_35 rfl 2 rfl ?_
      refine J_bipush X d_Mod_callBuiltin_36 (by decide) ?_
      refine J_iload_n X d_Mod_callBuiltin_38 rfl 1 rfl ?_
      obtain ⟨g27, h⟩ := wk_g h
      refine J_i2l X g27 d_Mod_callBuiltin_39 ?_
      obtain ⟨r28, R_values_29, R_valueKinds_30, R_valueNumbers_31, R_given_32, q33, h⟩ := wk_b5 h
      refine J_afterI0 (ws' := [(ad 0, .inr (10, [.int (zI R_thrown), .ref (ad 1), .ref (ad 2), .ref (ad 3), .ref (ad 4), .ref (ad 5), .ref (ad 6), .int (zI R_used), .ref (ad 7), .int (zI R_many), .ref (ad 8), .ref (ad 9), .ref (ad 10), .ref (ad 11), .ref (ad 12), .ref (ad 13), .ref (ad 14), .ref (ad 15), .ref (ad 16), .int (zI R_values_29), .ref (ad 17), .int (zI R_textEnd), .ref (ad 18), .ref (ad 19), .ref (ad 20), .ref (ad 21), .int (zI R_dataEnd), .ref (ad 22), .int (zI R_rowEnd), .ref (ad 23), .ref (ad 24), .int (zI R_rowMany), .ref (ad 25), .ref (ad 26), .ref (ad 27), .ref (ad 28), .int (zI R_waiting), .int (zI R_mostWaiting), .int (zI R_answer), .int (zI R_steps), .int (zI R_memory_23), .int (zI R_maxSteps), .int (zI R_maxMemory), .int (zI R_fault_24), .int (zI R_result), .int (zI R_now), .int (zI R_nowRow), .int (zI R_come), .ref (ad 29), .ref (ad 30), .int (zI R_puts), .ref (ad 31)])), (ad 8, .inl (cI, 3700, .inl (zA R_valueKinds_30))), (ad 9, .inl (cL, 3700, .inr (.inl (zB R_valueNumbers_31)))), (ad 10, .inl (cI, 3700, .inl (zA R_from))), (ad 11, .inl (cI, 3700, .inl (zA R_length))), (ad 14, .inl (cI, 3700, .inl (zA R_given_32))), (ad 15, .inl (cI, 3700, .inl (zA R_firstGiven))), (ad 16, .inl (cI, 3700, .inl (zA R_secondGiven))), (ad 17, .inl (cB, 70000, .inl (zA R_texts))), (ad 18, .inl (cI, 5000, .inl (zA R_forms))), (ad 19, .inl (cL, 5000, .inr (.inl (zB R_tags)))), (ad 20, .inl (cI, 5000, .inl (zA R_counts))), (ad 21, .inl (cI, 5000, .inl (zA R_textsAt))), (ad 29, .inl (cI, 3, .inl (zA R_of))), (ad 31, .inl (cI, 220, .inl (zA R_comes)))]) X (jrunV X (c_Mod_make (ad := ad) q33) jF0_k (fun _ _ _ _ => trivial) (jgV own_Mod_callBuiltin (by decide +kernel)) rfl rfl rfl pd_Mod_make (by decide) [0, 1, 2, 5] rfl (by decide) 0 10 rfl rfl rfl rfl (Nat.le_of_ble_eq_true rfl) d_Mod_callBuiltin_40 (by decide)) [0, 1, 2, 5] [3, 4, 6, 7, 8, 9, 10, 11, 12, 13, 14] [11, 12, 13, 0, 1, 14, 2, 3, 4, 5, 6, 7, 8, 9, 10] rfl rfl (by decide) (by decide) rfl (by decide) ?_
      refine J_istore (lv' := [(5, .int (zI r28)), (4, .int (zI (R_given p1))), (3, .int (zI (R_valueNumbers p1))), (0, .ref (ad 0)), (1, .int (zI p1)), (2, .int (zI p2))]) X d_Mod_callBuiltin_43 (by decide) rfl ?_
      refine J_aload_n X d_Mod_callBuiltin_45 rfl 3 rfl ?_
      refine J_get X (j_in in_Mod) 0 rfl rfl 16 (by decide) (j_m own_Mod_callBuiltin (by decide +kernel)) rfl d_Mod_callBuiltin_46 ?_
      refine J_iload X d_Mod_callBuiltin_49 0 rfl ?_
      refine J_iload X d_Mod_callBuiltin_51 1 rfl ?_
      refine J_iconst X d_Mod_callBuiltin_53 ?_
      refine J_iadd X d_Mod_callBuiltin_54 ?_
      obtain ⟨g34, h⟩ := wk_g h
      refine J_iast (ws' := [(ad 0, .inr (10, [.int (zI R_thrown), .ref (ad 1), .ref (ad 2), .ref (ad 3), .ref (ad 4), .ref (ad 5), .ref (ad 6), .int (zI R_used), .ref (ad 7), .int (zI R_many), .ref (ad 8), .ref (ad 9), .ref (ad 10), .ref (ad 11), .ref (ad 12), .ref (ad 13), .ref (ad 14), .ref (ad 15), .ref (ad 16), .int (zI R_values_29), .ref (ad 17), .int (zI R_textEnd), .ref (ad 18), .ref (ad 19), .ref (ad 20), .ref (ad 21), .int (zI R_dataEnd), .ref (ad 22), .int (zI R_rowEnd), .ref (ad 23), .ref (ad 24), .int (zI R_rowMany), .ref (ad 25), .ref (ad 26), .ref (ad 27), .ref (ad 28), .int (zI R_waiting), .int (zI R_mostWaiting), .int (zI R_answer), .int (zI R_steps), .int (zI R_memory_23), .int (zI R_maxSteps), .int (zI R_maxMemory), .int (zI R_fault_24), .int (zI R_result), .int (zI R_now), .int (zI R_nowRow), .int (zI R_come), .ref (ad 29), .ref (ad 30), .int (zI R_puts), .ref (ad 31)])), (ad 8, .inl (cI, 3700, .inl (zA R_valueKinds_30))), (ad 9, .inl (cL, 3700, .inr (.inl (zB R_valueNumbers_31)))), (ad 10, .inl (cI, 3700, .inl (zA R_from))), (ad 11, .inl (cI, 3700, .inl (zA R_length))), (ad 14, .inl (cI, 3700, .inl (zA (upZ R_given_32 r28 ((R_given p1) + 1))))), (ad 15, .inl (cI, 3700, .inl (zA R_firstGiven))), (ad 16, .inl (cI, 3700, .inl (zA R_secondGiven))), (ad 17, .inl (cB, 70000, .inl (zA R_texts))), (ad 18, .inl (cI, 5000, .inl (zA R_forms))), (ad 19, .inl (cL, 5000, .inr (.inl (zB R_tags)))), (ad 20, .inl (cI, 5000, .inl (zA R_counts))), (ad 21, .inl (cI, 5000, .inl (zA R_textsAt))), (ad 29, .inl (cI, 3, .inl (zA R_of))), (ad 31, .inl (cI, 220, .inl (zA R_comes)))]) X 5 0 rfl rfl g34 d_Mod_callBuiltin_55 rfl ?_
      refine J_aload_n X d_Mod_callBuiltin_56 rfl 3 rfl ?_
      refine J_get X (j_in in_Mod) 0 rfl rfl 17 (by decide) (j_m own_Mod_callBuiltin (by decide +kernel)) rfl d_Mod_callBuiltin_57 ?_
      refine J_iload X d_Mod_callBuiltin_60 0 rfl ?_
      refine J_iload X d_Mod_callBuiltin_62 1 rfl ?_
      refine J_if_ne (tgt := 71) X d_Mod_callBuiltin_64 (by decide) h (fun c35 h => ?_) (fun c35 h => ?_)
      · refine J_aload_n X d_Mod_callBuiltin_71 rfl 3 rfl ?_
        refine J_get X (j_in in_Mod) 0 rfl rfl 17 (by decide) (j_m own_Mod_callBuiltin (by decide +kernel)) rfl d_Mod_callBuiltin_72 ?_
        refine J_iload_n X d_Mod_callBuiltin_75 rfl 4 rfl ?_
        obtain ⟨g36, h⟩ := wk_g h
        refine J_iald X 6 0 rfl rfl g36 d_Mod_callBuiltin_76 ?_
        obtain ⟨g37, h⟩ := wk_g h
        refine J_iast (ws' := [(ad 0, .inr (10, [.int (zI R_thrown), .ref (ad 1), .ref (ad 2), .ref (ad 3), .ref (ad 4), .ref (ad 5), .ref (ad 6), .int (zI R_used), .ref (ad 7), .int (zI R_many), .ref (ad 8), .ref (ad 9), .ref (ad 10), .ref (ad 11), .ref (ad 12), .ref (ad 13), .ref (ad 14), .ref (ad 15), .ref (ad 16), .int (zI R_values_29), .ref (ad 17), .int (zI R_textEnd), .ref (ad 18), .ref (ad 19), .ref (ad 20), .ref (ad 21), .int (zI R_dataEnd), .ref (ad 22), .int (zI R_rowEnd), .ref (ad 23), .ref (ad 24), .int (zI R_rowMany), .ref (ad 25), .ref (ad 26), .ref (ad 27), .ref (ad 28), .int (zI R_waiting), .int (zI R_mostWaiting), .int (zI R_answer), .int (zI R_steps), .int (zI R_memory_23), .int (zI R_maxSteps), .int (zI R_maxMemory), .int (zI R_fault_24), .int (zI R_result), .int (zI R_now), .int (zI R_nowRow), .int (zI R_come), .ref (ad 29), .ref (ad 30), .int (zI R_puts), .ref (ad 31)])), (ad 8, .inl (cI, 3700, .inl (zA R_valueKinds_30))), (ad 9, .inl (cL, 3700, .inr (.inl (zB R_valueNumbers_31)))), (ad 10, .inl (cI, 3700, .inl (zA R_from))), (ad 11, .inl (cI, 3700, .inl (zA R_length))), (ad 14, .inl (cI, 3700, .inl (zA (upZ R_given_32 r28 ((R_given p1) + 1))))), (ad 15, .inl (cI, 3700, .inl (zA (upZ R_firstGiven r28 (R_firstGiven p1))))), (ad 16, .inl (cI, 3700, .inl (zA R_secondGiven))), (ad 17, .inl (cB, 70000, .inl (zA R_texts))), (ad 18, .inl (cI, 5000, .inl (zA R_forms))), (ad 19, .inl (cL, 5000, .inr (.inl (zB R_tags)))), (ad 20, .inl (cI, 5000, .inl (zA R_counts))), (ad 21, .inl (cI, 5000, .inl (zA R_textsAt))), (ad 29, .inl (cI, 3, .inl (zA R_of))), (ad 31, .inl (cI, 220, .inl (zA R_comes)))]) X 6 0 rfl rfl g37 d_Mod_callBuiltin_77 rfl ?_
        refine J_aload_n X d_Mod_callBuiltin_78 rfl 3 rfl ?_
        refine J_get X (j_in in_Mod) 0 rfl rfl 18 (by decide) (j_m own_Mod_callBuiltin (by decide +kernel)) rfl d_Mod_callBuiltin_79 ?_
        refine J_iload X d_Mod_callBuiltin_82 0 rfl ?_
        refine J_iload_n X d_Mod_callBuiltin_84 rfl 5 rfl ?_
        obtain ⟨g38, h⟩ := wk_g h
        refine J_iast (ws' := [(ad 0, .inr (10, [.int (zI R_thrown), .ref (ad 1), .ref (ad 2), .ref (ad 3), .ref (ad 4), .ref (ad 5), .ref (ad 6), .int (zI R_used), .ref (ad 7), .int (zI R_many), .ref (ad 8), .ref (ad 9), .ref (ad 10), .ref (ad 11), .ref (ad 12), .ref (ad 13), .ref (ad 14), .ref (ad 15), .ref (ad 16), .int (zI R_values_29), .ref (ad 17), .int (zI R_textEnd), .ref (ad 18), .ref (ad 19), .ref (ad 20), .ref (ad 21), .int (zI R_dataEnd), .ref (ad 22), .int (zI R_rowEnd), .ref (ad 23), .ref (ad 24), .int (zI R_rowMany), .ref (ad 25), .ref (ad 26), .ref (ad 27), .ref (ad 28), .int (zI R_waiting), .int (zI R_mostWaiting), .int (zI R_answer), .int (zI R_steps), .int (zI R_memory_23), .int (zI R_maxSteps), .int (zI R_maxMemory), .int (zI R_fault_24), .int (zI R_result), .int (zI R_now), .int (zI R_nowRow), .int (zI R_come), .ref (ad 29), .ref (ad 30), .int (zI R_puts), .ref (ad 31)])), (ad 8, .inl (cI, 3700, .inl (zA R_valueKinds_30))), (ad 9, .inl (cL, 3700, .inr (.inl (zB R_valueNumbers_31)))), (ad 10, .inl (cI, 3700, .inl (zA R_from))), (ad 11, .inl (cI, 3700, .inl (zA R_length))), (ad 14, .inl (cI, 3700, .inl (zA (upZ R_given_32 r28 ((R_given p1) + 1))))), (ad 15, .inl (cI, 3700, .inl (zA (upZ R_firstGiven r28 (R_firstGiven p1))))), (ad 16, .inl (cI, 3700, .inl (zA (upZ R_secondGiven r28 p2)))), (ad 17, .inl (cB, 70000, .inl (zA R_texts))), (ad 18, .inl (cI, 5000, .inl (zA R_forms))), (ad 19, .inl (cL, 5000, .inr (.inl (zB R_tags)))), (ad 20, .inl (cI, 5000, .inl (zA R_counts))), (ad 21, .inl (cI, 5000, .inl (zA R_textsAt))), (ad 29, .inl (cI, 3, .inl (zA R_of))), (ad 31, .inl (cI, 220, .inl (zA R_comes)))]) X 7 0 rfl rfl g38 d_Mod_callBuiltin_85 rfl ?_
        refine J_aload_n X d_Mod_callBuiltin_86 rfl 3 rfl ?_
        refine J_iload X d_Mod_callBuiltin_87 0 rfl ?_
        obtain ⟨R_now_39, R_come_40, q41, h⟩ := wk_b2 h
        refine J_afterI0 (ws' := [(ad 0, .inr (10, [.int (zI R_thrown), .ref (ad 1), .ref (ad 2), .ref (ad 3), .ref (ad 4), .ref (ad 5), .ref (ad 6), .int (zI R_used), .ref (ad 7), .int (zI R_many), .ref (ad 8), .ref (ad 9), .ref (ad 10), .ref (ad 11), .ref (ad 12), .ref (ad 13), .ref (ad 14), .ref (ad 15), .ref (ad 16), .int (zI R_values_29), .ref (ad 17), .int (zI R_textEnd), .ref (ad 18), .ref (ad 19), .ref (ad 20), .ref (ad 21), .int (zI R_dataEnd), .ref (ad 22), .int (zI R_rowEnd), .ref (ad 23), .ref (ad 24), .int (zI R_rowMany), .ref (ad 25), .ref (ad 26), .ref (ad 27), .ref (ad 28), .int (zI R_waiting), .int (zI R_mostWaiting), .int (zI R_answer), .int (zI R_steps), .int (zI R_memory_23), .int (zI R_maxSteps), .int (zI R_maxMemory), .int (zI R_fault_24), .int (zI R_result), .int (zI R_now_39), .int (zI R_nowRow), .int (zI R_come_40), .ref (ad 29), .ref (ad 30), .int (zI R_puts), .ref (ad 31)])), (ad 8, .inl (cI, 3700, .inl (zA R_valueKinds_30))), (ad 9, .inl (cL, 3700, .inr (.inl (zB R_valueNumbers_31)))), (ad 10, .inl (cI, 3700, .inl (zA R_from))), (ad 11, .inl (cI, 3700, .inl (zA R_length))), (ad 14, .inl (cI, 3700, .inl (zA (upZ R_given_32 r28 ((R_given p1) + 1))))), (ad 15, .inl (cI, 3700, .inl (zA (upZ R_firstGiven r28 (R_firstGiven p1))))), (ad 16, .inl (cI, 3700, .inl (zA (upZ R_secondGiven r28 p2)))), (ad 17, .inl (cB, 70000, .inl (zA R_texts))), (ad 18, .inl (cI, 5000, .inl (zA R_forms))), (ad 19, .inl (cL, 5000, .inr (.inl (zB R_tags)))), (ad 20, .inl (cI, 5000, .inl (zA R_counts))), (ad 21, .inl (cI, 5000, .inl (zA R_textsAt))), (ad 29, .inl (cI, 3, .inl (zA R_of))), (ad 31, .inl (cI, 220, .inl (zA R_comes)))]) X (jrunV X (c_Mod_comes (ad := ad) q41) jF0_k (fun _ _ _ _ => trivial) (jgV own_Mod_callBuiltin (by decide +kernel)) rfl rfl rfl pd_Mod_comes (by decide) [0] rfl (by decide) 0 10 rfl rfl rfl rfl (Nat.le_of_ble_eq_true rfl) d_Mod_callBuiltin_89 (by decide)) [0] [1, 2, 3, 4, 5, 6, 7, 8, 9, 10, 11, 12, 13, 14] [14, 0, 1, 2, 3, 4, 5, 6, 7, 8, 9, 10, 11, 12, 13] rfl rfl (by decide) (by decide) rfl (by decide) ?_
        cases h
        exact J_ret E rfl d_Mod_callBuiltin_92 (Nat.le_refl _) (Nat.le_refl _) rfl
      · refine J_iload_n X d_Mod_callBuiltin_67 rfl 5 rfl ?_
        refine J_goto (tgt := 77) X d_Mod_callBuiltin_68 (by decide) ?_
        obtain ⟨g42, h⟩ := wk_g h
        refine J_iast (ws' := [(ad 0, .inr (10, [.int (zI R_thrown), .ref (ad 1), .ref (ad 2), .ref (ad 3), .ref (ad 4), .ref (ad 5), .ref (ad 6), .int (zI R_used), .ref (ad 7), .int (zI R_many), .ref (ad 8), .ref (ad 9), .ref (ad 10), .ref (ad 11), .ref (ad 12), .ref (ad 13), .ref (ad 14), .ref (ad 15), .ref (ad 16), .int (zI R_values_29), .ref (ad 17), .int (zI R_textEnd), .ref (ad 18), .ref (ad 19), .ref (ad 20), .ref (ad 21), .int (zI R_dataEnd), .ref (ad 22), .int (zI R_rowEnd), .ref (ad 23), .ref (ad 24), .int (zI R_rowMany), .ref (ad 25), .ref (ad 26), .ref (ad 27), .ref (ad 28), .int (zI R_waiting), .int (zI R_mostWaiting), .int (zI R_answer), .int (zI R_steps), .int (zI R_memory_23), .int (zI R_maxSteps), .int (zI R_maxMemory), .int (zI R_fault_24), .int (zI R_result), .int (zI R_now), .int (zI R_nowRow), .int (zI R_come), .ref (ad 29), .ref (ad 30), .int (zI R_puts), .ref (ad 31)])), (ad 8, .inl (cI, 3700, .inl (zA R_valueKinds_30))), (ad 9, .inl (cL, 3700, .inr (.inl (zB R_valueNumbers_31)))), (ad 10, .inl (cI, 3700, .inl (zA R_from))), (ad 11, .inl (cI, 3700, .inl (zA R_length))), (ad 14, .inl (cI, 3700, .inl (zA (upZ R_given_32 r28 ((R_given p1) + 1))))), (ad 15, .inl (cI, 3700, .inl (zA (upZ R_firstGiven r28 p2)))), (ad 16, .inl (cI, 3700, .inl (zA R_secondGiven))), (ad 17, .inl (cB, 70000, .inl (zA R_texts))), (ad 18, .inl (cI, 5000, .inl (zA R_forms))), (ad 19, .inl (cL, 5000, .inr (.inl (zB R_tags)))), (ad 20, .inl (cI, 5000, .inl (zA R_counts))), (ad 21, .inl (cI, 5000, .inl (zA R_textsAt))), (ad 29, .inl (cI, 3, .inl (zA R_of))), (ad 31, .inl (cI, 220, .inl (zA R_comes)))]) X 6 0 rfl rfl g42 d_Mod_callBuiltin_77 rfl ?_
        refine J_aload_n X d_Mod_callBuiltin_78 rfl 3 rfl ?_
        refine J_get X (j_in in_Mod) 0 rfl rfl 18 (by decide) (j_m own_Mod_callBuiltin (by decide +kernel)) rfl d_Mod_callBuiltin_79 ?_
        refine J_iload X d_Mod_callBuiltin_82 0 rfl ?_
        refine J_iload_n X d_Mod_callBuiltin_84 rfl 5 rfl ?_
        obtain ⟨g43, h⟩ := wk_g h
        refine J_iast (ws' := [(ad 0, .inr (10, [.int (zI R_thrown), .ref (ad 1), .ref (ad 2), .ref (ad 3), .ref (ad 4), .ref (ad 5), .ref (ad 6), .int (zI R_used), .ref (ad 7), .int (zI R_many), .ref (ad 8), .ref (ad 9), .ref (ad 10), .ref (ad 11), .ref (ad 12), .ref (ad 13), .ref (ad 14), .ref (ad 15), .ref (ad 16), .int (zI R_values_29), .ref (ad 17), .int (zI R_textEnd), .ref (ad 18), .ref (ad 19), .ref (ad 20), .ref (ad 21), .int (zI R_dataEnd), .ref (ad 22), .int (zI R_rowEnd), .ref (ad 23), .ref (ad 24), .int (zI R_rowMany), .ref (ad 25), .ref (ad 26), .ref (ad 27), .ref (ad 28), .int (zI R_waiting), .int (zI R_mostWaiting), .int (zI R_answer), .int (zI R_steps), .int (zI R_memory_23), .int (zI R_maxSteps), .int (zI R_maxMemory), .int (zI R_fault_24), .int (zI R_result), .int (zI R_now), .int (zI R_nowRow), .int (zI R_come), .ref (ad 29), .ref (ad 30), .int (zI R_puts), .ref (ad 31)])), (ad 8, .inl (cI, 3700, .inl (zA R_valueKinds_30))), (ad 9, .inl (cL, 3700, .inr (.inl (zB R_valueNumbers_31)))), (ad 10, .inl (cI, 3700, .inl (zA R_from))), (ad 11, .inl (cI, 3700, .inl (zA R_length))), (ad 14, .inl (cI, 3700, .inl (zA (upZ R_given_32 r28 ((R_given p1) + 1))))), (ad 15, .inl (cI, 3700, .inl (zA (upZ R_firstGiven r28 p2)))), (ad 16, .inl (cI, 3700, .inl (zA (upZ R_secondGiven r28 p2)))), (ad 17, .inl (cB, 70000, .inl (zA R_texts))), (ad 18, .inl (cI, 5000, .inl (zA R_forms))), (ad 19, .inl (cL, 5000, .inr (.inl (zB R_tags)))), (ad 20, .inl (cI, 5000, .inl (zA R_counts))), (ad 21, .inl (cI, 5000, .inl (zA R_textsAt))), (ad 29, .inl (cI, 3, .inl (zA R_of))), (ad 31, .inl (cI, 220, .inl (zA R_comes)))]) X 7 0 rfl rfl g43 d_Mod_callBuiltin_85 rfl ?_
        refine J_aload_n X d_Mod_callBuiltin_86 rfl 3 rfl ?_
        refine J_iload X d_Mod_callBuiltin_87 0 rfl ?_
        obtain ⟨R_now_44, R_come_45, q46, h⟩ := wk_b2 h
        refine J_afterI0 (ws' := [(ad 0, .inr (10, [.int (zI R_thrown), .ref (ad 1), .ref (ad 2), .ref (ad 3), .ref (ad 4), .ref (ad 5), .ref (ad 6), .int (zI R_used), .ref (ad 7), .int (zI R_many), .ref (ad 8), .ref (ad 9), .ref (ad 10), .ref (ad 11), .ref (ad 12), .ref (ad 13), .ref (ad 14), .ref (ad 15), .ref (ad 16), .int (zI R_values_29), .ref (ad 17), .int (zI R_textEnd), .ref (ad 18), .ref (ad 19), .ref (ad 20), .ref (ad 21), .int (zI R_dataEnd), .ref (ad 22), .int (zI R_rowEnd), .ref (ad 23), .ref (ad 24), .int (zI R_rowMany), .ref (ad 25), .ref (ad 26), .ref (ad 27), .ref (ad 28), .int (zI R_waiting), .int (zI R_mostWaiting), .int (zI R_answer), .int (zI R_steps), .int (zI R_memory_23), .int (zI R_maxSteps), .int (zI R_maxMemory), .int (zI R_fault_24), .int (zI R_result), .int (zI R_now_44), .int (zI R_nowRow), .int (zI R_come_45), .ref (ad 29), .ref (ad 30), .int (zI R_puts), .ref (ad 31)])), (ad 8, .inl (cI, 3700, .inl (zA R_valueKinds_30))), (ad 9, .inl (cL, 3700, .inr (.inl (zB R_valueNumbers_31)))), (ad 10, .inl (cI, 3700, .inl (zA R_from))), (ad 11, .inl (cI, 3700, .inl (zA R_length))), (ad 14, .inl (cI, 3700, .inl (zA (upZ R_given_32 r28 ((R_given p1) + 1))))), (ad 15, .inl (cI, 3700, .inl (zA (upZ R_firstGiven r28 p2)))), (ad 16, .inl (cI, 3700, .inl (zA (upZ R_secondGiven r28 p2)))), (ad 17, .inl (cB, 70000, .inl (zA R_texts))), (ad 18, .inl (cI, 5000, .inl (zA R_forms))), (ad 19, .inl (cL, 5000, .inr (.inl (zB R_tags)))), (ad 20, .inl (cI, 5000, .inl (zA R_counts))), (ad 21, .inl (cI, 5000, .inl (zA R_textsAt))), (ad 29, .inl (cI, 3, .inl (zA R_of))), (ad 31, .inl (cI, 220, .inl (zA R_comes)))]) X (jrunV X (c_Mod_comes (ad := ad) q46) jF0_k (fun _ _ _ _ => trivial) (jgV own_Mod_callBuiltin (by decide +kernel)) rfl rfl rfl pd_Mod_comes (by decide) [0] rfl (by decide) 0 10 rfl rfl rfl rfl (Nat.le_of_ble_eq_true rfl) d_Mod_callBuiltin_89 (by decide)) [0] [1, 2, 3, 4, 5, 6, 7, 8, 9, 10, 11, 12, 13, 14] [14, 0, 1, 2, 3, 4, 5, 6, 7, 8, 9, 10, 11, 12, 13] rfl rfl (by decide) (by decide) rfl (by decide) ?_
        cases h
        exact J_ret E rfl d_Mod_callBuiltin_92 (Nat.le_refl _) (Nat.le_refl _) rfl

