theorem d_Mod_thrown_0 : decode b_Mod_thrown 0 = .ok (.aload_n 0, 1) := by decide +kernel
theorem d_Mod_thrown_1 : decode b_Mod_thrown 1 = .ok (.getfield 111, 3) := by decide +kernel
theorem d_Mod_thrown_4 : decode b_Mod_thrown 4 = .ok (.ireturn, 1) := by decide +kernel
def f_Mod_thrown (R_thrown : Int) : Option (Int) :=
  some R_thrown
set_option maxHeartbeats 4000000 in
set_option maxRecDepth 100000 in
theorem c_Mod_thrown {l : Launch} {D : va_G} {cI cL cB : ClassId} {ad : Nat → Nat} {R_thrown : Int} {R_used : Int} {R_many : Int} {R_values : Int} {R_textEnd : Int} {R_dataEnd : Int} {R_rowEnd : Int} {R_rowMany : Int} {R_waiting : Int} {R_mostWaiting : Int} {R_answer : Int} {R_steps : Int} {R_memory : Int} {R_maxSteps : Int} {R_maxMemory : Int} {R_fault : Int} {R_result : Int} {R_now : Int} {R_nowRow : Int} {R_come : Int} {R_puts : Int} {out : Int} (h : f_Mod_thrown R_thrown = some out) : CT jF0 true l D [(cI, .int), (cL, .long), (cB, .byte)] y_Mod_thrown w_Mod_thrown ({ frames := 0, cells := 0, slots := 0, locals := 0 } : Room) [.ref (ad 0)] [(ad 0, .inr (10, [.int (zI R_thrown), .ref (ad 1), .ref (ad 2), .ref (ad 3), .ref (ad 4), .ref (ad 5), .ref (ad 6), .int (zI R_used), .ref (ad 7), .int (zI R_many), .ref (ad 8), .ref (ad 9), .ref (ad 10), .ref (ad 11), .ref (ad 12), .ref (ad 13), .ref (ad 14), .ref (ad 15), .ref (ad 16), .int (zI R_values), .ref (ad 17), .int (zI R_textEnd), .ref (ad 18), .ref (ad 19), .ref (ad 20), .ref (ad 21), .int (zI R_dataEnd), .ref (ad 22), .int (zI R_rowEnd), .ref (ad 23), .ref (ad 24), .int (zI R_rowMany), .ref (ad 25), .ref (ad 26), .ref (ad 27), .ref (ad 28), .int (zI R_waiting), .int (zI R_mostWaiting), .int (zI R_answer), .int (zI R_steps), .int (zI R_memory), .int (zI R_maxSteps), .int (zI R_maxMemory), .int (zI R_fault), .int (zI R_result), .int (zI R_now), .int (zI R_nowRow), .int (zI R_come), .ref (ad 29), .ref (ad 30), .int (zI R_puts), .ref (ad 31)]))] (some (.int (zI out))) [(ad 0, .inr (10, [.int (zI R_thrown), .ref (ad 1), .ref (ad 2), .ref (ad 3), .ref (ad 4), .ref (ad 5), .ref (ad 6), .int (zI R_used), .ref (ad 7), .int (zI R_many), .ref (ad 8), .ref (ad 9), .ref (ad 10), .ref (ad 11), .ref (ad 12), .ref (ad 13), .ref (ad 14), .ref (ad 15), .ref (ad 16), .int (zI R_values), .ref (ad 17), .int (zI R_textEnd), .ref (ad 18), .ref (ad 19), .ref (ad 20), .ref (ad 21), .int (zI R_dataEnd), .ref (ad 22), .int (zI R_rowEnd), .ref (ad 23), .ref (ad 24), .int (zI R_rowMany), .ref (ad 25), .ref (ad 26), .ref (ad 27), .ref (ad 28), .int (zI R_waiting), .int (zI R_mostWaiting), .int (zI R_answer), .int (zI R_steps), .int (zI R_memory), .int (zI R_maxSteps), .int (zI R_maxMemory), .int (zI R_fault), .int (zI R_result), .int (zI R_now), .int (zI R_nowRow), .int (zI R_come), .ref (ad 29), .ref (ad 30), .int (zI R_puts), .ref (ad 31)]))] 0 0 := by
  refine CT_of_J (cc := b_Mod_thrown) (maxL := 1) (ret := (some .int)) jF0_k (plainFor_of_name (by decide)) rfl (Nat.le_of_ble_eq_true rfl) ?_
  intro K hKl hKD X E
  subst hKl; subst hKD
  unfold f_Mod_thrown at h
  refine J_aload_n X d_Mod_thrown_0 rfl 0 rfl ?_
  refine J_get X (j_in in_Mod) 0 rfl rfl 0 (by decide) (j_m own_Mod_thrown (by decide +kernel)) rfl d_Mod_thrown_1 ?_
  cases h
  exact J_ret E ⟨_, rfl, rfl⟩ d_Mod_thrown_4 (Nat.le_refl _) (Nat.le_refl _) rfl

theorem d_Mod_takes_0 : decode b_Mod_takes 0 = .ok (.iload_n 0, 1) := by decide +kernel
theorem d_Mod_takes_1 : decode b_Mod_takes 1 = .ok (.iconst 2, 1) := by decide +kernel
theorem d_Mod_takes_2 : decode b_Mod_takes 2 = .ok (.if_icmp .ne 7, 3) := by decide +kernel
theorem d_Mod_takes_5 : decode b_Mod_takes 5 = .ok (.iconst 2, 1) := by decide +kernel
theorem d_Mod_takes_6 : decode b_Mod_takes 6 = .ok (.goto 23, 3) := by decide +kernel
theorem d_Mod_takes_9 : decode b_Mod_takes 9 = .ok (.iload_n 0, 1) := by decide +kernel
theorem d_Mod_takes_10 : decode b_Mod_takes 10 = .ok (.iconst 1, 1) := by decide +kernel
theorem d_Mod_takes_11 : decode b_Mod_takes 11 = .ok (.if_icmp .eq 13, 3) := by decide +kernel
theorem d_Mod_takes_14 : decode b_Mod_takes 14 = .ok (.iload_n 0, 1) := by decide +kernel
theorem d_Mod_takes_15 : decode b_Mod_takes 15 = .ok (.iconst 3, 1) := by decide +kernel
theorem d_Mod_takes_16 : decode b_Mod_takes 16 = .ok (.if_icmp .eq 8, 3) := by decide +kernel
theorem d_Mod_takes_19 : decode b_Mod_takes 19 = .ok (.iload_n 0, 1) := by decide +kernel
theorem d_Mod_takes_20 : decode b_Mod_takes 20 = .ok (.iconst 4, 1) := by decide +kernel
theorem d_Mod_takes_21 : decode b_Mod_takes 21 = .ok (.if_icmp .ne 7, 3) := by decide +kernel
theorem d_Mod_takes_24 : decode b_Mod_takes 24 = .ok (.iconst 1, 1) := by decide +kernel
theorem d_Mod_takes_25 : decode b_Mod_takes 25 = .ok (.goto 4, 3) := by decide +kernel
theorem d_Mod_takes_28 : decode b_Mod_takes 28 = .ok (.iconst 0, 1) := by decide +kernel
theorem d_Mod_takes_29 : decode b_Mod_takes 29 = .ok (.ireturn, 1) := by decide +kernel
def f_Mod_takes (p0 : Int) : Option (Int) :=
  if jr2 p0 2 = true then (if p0 = 2 then (
   some 2) else (
   if jr2 p0 1 = true then (if p0 = 1 then (
    some 1) else (
    if jr2 p0 3 = true then (if p0 = 3 then (
     some 1) else (
     if jr2 p0 4 = true then (if p0 = 4 then (
      some 1) else (
      some 0)) else none)) else none)) else none)) else none
set_option maxHeartbeats 4000000 in
set_option maxRecDepth 100000 in
theorem c_Mod_takes {l : Launch} {D : va_G} {cI cL cB : ClassId} {ad : Nat → Nat} {p0 : Int} {out : Int} (h : f_Mod_takes p0 = some out) : CT jF0 true l D [(cI, .int), (cL, .long), (cB, .byte)] y_Mod_takes w_Mod_takes ({ frames := 0, cells := 0, slots := 0, locals := 0 } : Room) [.int (zI p0)] [] (some (.int (zI out))) [] 0 0 := by
  refine CT_of_J (cc := b_Mod_takes) (maxL := 1) (ret := (some .int)) jF0_k (plainFor_of_name (by decide)) rfl (Nat.le_of_ble_eq_true rfl) ?_
  intro K hKl hKD X E
  subst hKl; subst hKD
  unfold f_Mod_takes at h
  refine J_iload_n X d_Mod_takes_0 rfl 0 rfl ?_
  refine J_iconst X d_Mod_takes_1 ?_
  refine J_icmp_ne (tgt := 9) X d_Mod_takes_2 (by decide) h (fun c1 h => ?_) (fun c1 h => ?_)
  · refine J_iload_n X d_Mod_takes_9 rfl 0 rfl ?_
    refine J_iconst X d_Mod_takes_10 ?_
    refine J_icmp_eq (tgt := 24) X d_Mod_takes_11 (by decide) h (fun c2 h => ?_) (fun c2 h => ?_)
    · refine J_iconst X d_Mod_takes_24 ?_
      refine J_goto (tgt := 29) X d_Mod_takes_25 (by decide) ?_
      cases h
      exact J_ret E ⟨_, rfl, rfl⟩ d_Mod_takes_29 (Nat.le_refl _) (Nat.le_refl _) rfl
    · refine J_iload_n X d_Mod_takes_14 rfl 0 rfl ?_
      refine J_iconst X d_Mod_takes_15 ?_
      refine J_icmp_eq (tgt := 24) X d_Mod_takes_16 (by decide) h (fun c3 h => ?_) (fun c3 h => ?_)
      · refine J_iconst X d_Mod_takes_24 ?_
        refine J_goto (tgt := 29) X d_Mod_takes_25 (by decide) ?_
        cases h
        exact J_ret E ⟨_, rfl, rfl⟩ d_Mod_takes_29 (Nat.le_refl _) (Nat.le_refl _) rfl
      · refine J_iload_n X d_Mod_takes_19 rfl 0 rfl ?_
        refine J_iconst X d_Mod_takes_20 ?_
        refine J_icmp_ne (tgt := 28) X d_Mod_takes_21 (by decide) h (fun c4 h => ?_) (fun c4 h => ?_)
        · refine J_iconst X d_Mod_takes_28 ?_
          cases h
          exact J_ret E ⟨_, rfl, rfl⟩ d_Mod_takes_29 (Nat.le_refl _) (Nat.le_refl _) rfl
        · refine J_iconst X d_Mod_takes_24 ?_
          refine J_goto (tgt := 29) X d_Mod_takes_25 (by decide) ?_
          cases h
          exact J_ret E ⟨_, rfl, rfl⟩ d_Mod_takes_29 (Nat.le_refl _) (Nat.le_refl _) rfl
  · refine J_iconst X d_Mod_takes_5 ?_
    refine J_goto (tgt := 29) X d_Mod_takes_6 (by decide) ?_
    cases h
    exact J_ret E ⟨_, rfl, rfl⟩ d_Mod_takes_29 (Nat.le_refl _) (Nat.le_refl _) rfl

theorem d_Mod_isArg_0 : decode b_Mod_isArg 0 = .ok (.iload_n 0, 1) := by decide +kernel
theorem d_Mod_isArg_1 : decode b_Mod_isArg 1 = .ok (.bipush 7, 2) := by decide +kernel
theorem d_Mod_isArg_3 : decode b_Mod_isArg 3 = .ok (.if_icmp .eq 74, 3) := by decide +kernel
theorem d_Mod_isArg_6 : decode b_Mod_isArg 6 = .ok (.iload_n 0, 1) := by decide +kernel
theorem d_Mod_isArg_7 : decode b_Mod_isArg 7 = .ok (.ifCond .ne 20, 3) := by decide +kernel
theorem d_Mod_isArg_10 : decode b_Mod_isArg 10 = .ok (.lload_n 1, 1) := by decide +kernel
theorem d_Mod_isArg_11 : decode b_Mod_isArg 11 = .ok (.lconst 1, 1) := by decide +kernel
theorem d_Mod_isArg_12 : decode b_Mod_isArg 12 = .ok (.lcmp, 1) := by decide +kernel
theorem d_Mod_isArg_13 : decode b_Mod_isArg 13 = .ok (.ifCond .lt 68, 3) := by decide +kernel
theorem d_Mod_isArg_16 : decode b_Mod_isArg 16 = .ok (.lload_n 1, 1) := by decide +kernel
theorem d_Mod_isArg_17 : decode b_Mod_isArg 17 = .ok (.ldc2_w 114, 3) := by decide +kernel
theorem d_Mod_isArg_20 : decode b_Mod_isArg 20 = .ok (.lcmp, 1) := by decide +kernel
theorem d_Mod_isArg_21 : decode b_Mod_isArg 21 = .ok (.ifCond .gt 60, 3) := by decide +kernel
theorem d_Mod_isArg_24 : decode b_Mod_isArg 24 = .ok (.goto 53, 3) := by decide +kernel
theorem d_Mod_isArg_27 : decode b_Mod_isArg 27 = .ok (.iload_n 0, 1) := by decide +kernel
theorem d_Mod_isArg_28 : decode b_Mod_isArg 28 = .ok (.bipush 6, 2) := by decide +kernel
theorem d_Mod_isArg_30 : decode b_Mod_isArg 30 = .ok (.if_icmp .ne 20, 3) := by decide +kernel
theorem d_Mod_isArg_33 : decode b_Mod_isArg 33 = .ok (.lload_n 1, 1) := by decide +kernel
theorem d_Mod_isArg_34 : decode b_Mod_isArg 34 = .ok (.lconst 0, 1) := by decide +kernel
theorem d_Mod_isArg_35 : decode b_Mod_isArg 35 = .ok (.lcmp, 1) := by decide +kernel
theorem d_Mod_isArg_36 : decode b_Mod_isArg 36 = .ok (.ifCond .lt 45, 3) := by decide +kernel
theorem d_Mod_isArg_39 : decode b_Mod_isArg 39 = .ok (.lload_n 1, 1) := by decide +kernel
theorem d_Mod_isArg_40 : decode b_Mod_isArg 40 = .ok (.ldc2_w 116, 3) := by decide +kernel
theorem d_Mod_isArg_43 : decode b_Mod_isArg 43 = .ok (.lcmp, 1) := by decide +kernel
theorem d_Mod_isArg_44 : decode b_Mod_isArg 44 = .ok (.ifCond .gt 37, 3) := by decide +kernel
theorem d_Mod_isArg_47 : decode b_Mod_isArg 47 = .ok (.goto 30, 3) := by decide +kernel
theorem d_Mod_isArg_50 : decode b_Mod_isArg 50 = .ok (.iload_n 0, 1) := by decide +kernel
theorem d_Mod_isArg_51 : decode b_Mod_isArg 51 = .ok (.bipush 9, 2) := by decide +kernel
theorem d_Mod_isArg_53 : decode b_Mod_isArg 53 = .ok (.if_icmp .ne 18, 3) := by decide +kernel
theorem d_Mod_isArg_56 : decode b_Mod_isArg 56 = .ok (.lload_n 1, 1) := by decide +kernel
theorem d_Mod_isArg_57 : decode b_Mod_isArg 57 = .ok (.lconst 0, 1) := by decide +kernel
theorem d_Mod_isArg_58 : decode b_Mod_isArg 58 = .ok (.lcmp, 1) := by decide +kernel
theorem d_Mod_isArg_59 : decode b_Mod_isArg 59 = .ok (.ifCond .eq 18, 3) := by decide +kernel
theorem d_Mod_isArg_62 : decode b_Mod_isArg 62 = .ok (.lload_n 1, 1) := by decide +kernel
theorem d_Mod_isArg_63 : decode b_Mod_isArg 63 = .ok (.lconst 1, 1) := by decide +kernel
theorem d_Mod_isArg_64 : decode b_Mod_isArg 64 = .ok (.lcmp, 1) := by decide +kernel
theorem d_Mod_isArg_65 : decode b_Mod_isArg 65 = .ok (.ifCond .ne 16, 3) := by decide +kernel
theorem d_Mod_isArg_68 : decode b_Mod_isArg 68 = .ok (.goto 9, 3) := by decide +kernel
theorem d_Mod_isArg_71 : decode b_Mod_isArg 71 = .ok (.lload_n 1, 1) := by decide +kernel
theorem d_Mod_isArg_72 : decode b_Mod_isArg 72 = .ok (.lconst 0, 1) := by decide +kernel
theorem d_Mod_isArg_73 : decode b_Mod_isArg 73 = .ok (.lcmp, 1) := by decide +kernel
theorem d_Mod_isArg_74 : decode b_Mod_isArg 74 = .ok (.ifCond .ne 7, 3) := by decide +kernel
theorem d_Mod_isArg_77 : decode b_Mod_isArg 77 = .ok (.iconst 1, 1) := by decide +kernel
theorem d_Mod_isArg_78 : decode b_Mod_isArg 78 = .ok (.goto 4, 3) := by decide +kernel
theorem d_Mod_isArg_81 : decode b_Mod_isArg 81 = .ok (.iconst 0, 1) := by decide +kernel
theorem d_Mod_isArg_82 : decode b_Mod_isArg 82 = .ok (.ireturn, 1) := by decide +kernel
def f_Mod_isArg (p0 : Int) (p1 : Int) : Option (Int) :=
  if jr2 p0 7 = true then (if p0 = 7 then (
   some 1) else (
   if rI p0 = true then (if p0 = 0 then (
    if jl2 p1 1 = true then (if p1 < 1 then (
     some 0) else (
     if jl2 p1 200 = true then (if 200 < p1 then (
      some 0) else (
      some 1)) else none)) else none) else (
    if jr2 p0 6 = true then (if p0 = 6 then (
     if jl2 p1 0 = true then (if p1 < 0 then (
      some 0) else (
      if jl2 p1 31 = true then (if 31 < p1 then (
       some 0) else (
       some 1)) else none)) else none) else (
     if jr2 p0 9 = true then (if p0 = 9 then (
      if jl2 p1 0 = true then (if p1 = 0 then (
       some 1) else (
       if jl2 p1 1 = true then (if p1 = 1 then (
        some 1) else (
        some 0)) else none)) else none) else (
      if jl2 p1 0 = true then (if p1 = 0 then (
       some 1) else (
       some 0)) else none)) else none)) else none)) else none)) else none
set_option maxHeartbeats 4000000 in
set_option maxRecDepth 100000 in
theorem c_Mod_isArg {l : Launch} {D : va_G} {cI cL cB : ClassId} {ad : Nat → Nat} {p0 : Int} {p1 : Int} {out : Int} (h : f_Mod_isArg p0 p1 = some out) : CT jF0 true l D [(cI, .int), (cL, .long), (cB, .byte)] y_Mod_isArg w_Mod_isArg ({ frames := 0, cells := 0, slots := 0, locals := 0 } : Room) [.int (zI p0), .long (zL p1)] [] (some (.int (zI out))) [] 0 0 := by
  refine CT_of_J (cc := b_Mod_isArg) (maxL := 3) (ret := (some .boolean)) jF0_k (plainFor_of_name (by decide)) rfl (Nat.le_of_ble_eq_true rfl) ?_
  intro K hKl hKD X E
  subst hKl; subst hKD
  unfold f_Mod_isArg at h
  refine J_iload_n X d_Mod_isArg_0 rfl 0 rfl ?_
  refine J_bipush X d_Mod_isArg_1 (by decide) ?_
  refine J_icmp_eq (tgt := 77) X d_Mod_isArg_3 (by decide) h (fun c1 h => ?_) (fun c1 h => ?_)
  · refine J_iconst X d_Mod_isArg_77 ?_
    refine J_goto (tgt := 82) X d_Mod_isArg_78 (by decide) ?_
    cases h
    exact J_ret E ⟨_, rfl, j_bool (Or.inr rfl)⟩ d_Mod_isArg_82 (Nat.le_refl _) (Nat.le_refl _) rfl
  · refine J_iload_n X d_Mod_isArg_6 rfl 0 rfl ?_
    refine J_if_ne (tgt := 27) X d_Mod_isArg_7 (by decide) h (fun c2 h => ?_) (fun c2 h => ?_)
    · refine J_iload_n X d_Mod_isArg_27 rfl 0 rfl ?_
      refine J_bipush X d_Mod_isArg_28 (by decide) ?_
      refine J_icmp_ne (tgt := 50) X d_Mod_isArg_30 (by decide) h (fun c3 h => ?_) (fun c3 h => ?_)
      · refine J_iload_n X d_Mod_isArg_50 rfl 0 rfl ?_
        refine J_bipush X d_Mod_isArg_51 (by decide) ?_
        refine J_icmp_ne (tgt := 71) X d_Mod_isArg_53 (by decide) h (fun c4 h => ?_) (fun c4 h => ?_)
        · refine J_lload_n X d_Mod_isArg_71 rfl 1 rfl ?_
          refine J_lconst (v := 0) X d_Mod_isArg_72 (by decide) ?_
          refine J_lc_ne (tgt := 81) X d_Mod_isArg_73 d_Mod_isArg_74 (by decide) h (fun c5 h => ?_) (fun c5 h => ?_)
          · refine J_iconst X d_Mod_isArg_81 ?_
            cases h
            exact J_ret E ⟨_, rfl, j_bool (Or.inl rfl)⟩ d_Mod_isArg_82 (Nat.le_refl _) (Nat.le_refl _) rfl
          · refine J_iconst X d_Mod_isArg_77 ?_
            refine J_goto (tgt := 82) X d_Mod_isArg_78 (by decide) ?_
            cases h
            exact J_ret E ⟨_, rfl, j_bool (Or.inr rfl)⟩ d_Mod_isArg_82 (Nat.le_refl _) (Nat.le_refl _) rfl
        · refine J_lload_n X d_Mod_isArg_56 rfl 1 rfl ?_
          refine J_lconst (v := 0) X d_Mod_isArg_57 (by decide) ?_
          refine J_lc_eq (tgt := 77) X d_Mod_isArg_58 d_Mod_isArg_59 (by decide) h (fun c6 h => ?_) (fun c6 h => ?_)
          · refine J_iconst X d_Mod_isArg_77 ?_
            refine J_goto (tgt := 82) X d_Mod_isArg_78 (by decide) ?_
            cases h
            exact J_ret E ⟨_, rfl, j_bool (Or.inr rfl)⟩ d_Mod_isArg_82 (Nat.le_refl _) (Nat.le_refl _) rfl
          · refine J_lload_n X d_Mod_isArg_62 rfl 1 rfl ?_
            refine J_lconst (v := 1) X d_Mod_isArg_63 (by decide) ?_
            refine J_lc_ne (tgt := 81) X d_Mod_isArg_64 d_Mod_isArg_65 (by decide) h (fun c7 h => ?_) (fun c7 h => ?_)
            · refine J_iconst X d_Mod_isArg_81 ?_
              cases h
              exact J_ret E ⟨_, rfl, j_bool (Or.inl rfl)⟩ d_Mod_isArg_82 (Nat.le_refl _) (Nat.le_refl _) rfl
            · refine J_goto (tgt := 77) X d_Mod_isArg_68 (by decide) ?_
              refine J_iconst X d_Mod_isArg_77 ?_
              refine J_goto (tgt := 82) X d_Mod_isArg_78 (by decide) ?_
              cases h
              exact J_ret E ⟨_, rfl, j_bool (Or.inr rfl)⟩ d_Mod_isArg_82 (Nat.le_refl _) (Nat.le_refl _) rfl
      · refine J_lload_n X d_Mod_isArg_33 rfl 1 rfl ?_
        refine J_lconst (v := 0) X d_Mod_isArg_34 (by decide) ?_
        refine J_lc_lt (tgt := 81) X d_Mod_isArg_35 d_Mod_isArg_36 (by decide) h (fun c8 h => ?_) (fun c8 h => ?_)
        · refine J_iconst X d_Mod_isArg_81 ?_
          cases h
          exact J_ret E ⟨_, rfl, j_bool (Or.inl rfl)⟩ d_Mod_isArg_82 (Nat.le_refl _) (Nat.le_refl _) rfl
        · refine J_lload_n X d_Mod_isArg_39 rfl 1 rfl ?_
          refine J_ldc2 (v := 31) (n := 31) X (j_m own_Mod_isArg (by decide +kernel)) (by decide) d_Mod_isArg_40 ?_
          refine J_lc_gt (tgt := 81) X d_Mod_isArg_43 d_Mod_isArg_44 (by decide) h (fun c9 h => ?_) (fun c9 h => ?_)
          · refine J_iconst X d_Mod_isArg_81 ?_
            cases h
            exact J_ret E ⟨_, rfl, j_bool (Or.inl rfl)⟩ d_Mod_isArg_82 (Nat.le_refl _) (Nat.le_refl _) rfl
          · refine J_goto (tgt := 77) X d_Mod_isArg_47 (by decide) ?_
            refine J_iconst X d_Mod_isArg_77 ?_
            refine J_goto (tgt := 82) X d_Mod_isArg_78 (by decide) ?_
            cases h
            exact J_ret E ⟨_, rfl, j_bool (Or.inr rfl)⟩ d_Mod_isArg_82 (Nat.le_refl _) (Nat.le_refl _) rfl
    · refine J_lload_n X d_Mod_isArg_10 rfl 1 rfl ?_
      refine J_lconst (v := 1) X d_Mod_isArg_11 (by decide) ?_
      refine J_lc_lt (tgt := 81) X d_Mod_isArg_12 d_Mod_isArg_13 (by decide) h (fun c10 h => ?_) (fun c10 h => ?_)
      · refine J_iconst X d_Mod_isArg_81 ?_
        cases h
        exact J_ret E ⟨_, rfl, j_bool (Or.inl rfl)⟩ d_Mod_isArg_82 (Nat.le_refl _) (Nat.le_refl _) rfl
      · refine J_lload_n X d_Mod_isArg_16 rfl 1 rfl ?_
        refine J_ldc2 (v := 200) (n := 200) X (j_m own_Mod_isArg (by decide +kernel)) (by decide) d_Mod_isArg_17 ?_
        refine J_lc_gt (tgt := 81) X d_Mod_isArg_20 d_Mod_isArg_21 (by decide) h (fun c11 h => ?_) (fun c11 h => ?_)
        · refine J_iconst X d_Mod_isArg_81 ?_
          cases h
          exact J_ret E ⟨_, rfl, j_bool (Or.inl rfl)⟩ d_Mod_isArg_82 (Nat.le_refl _) (Nat.le_refl _) rfl
        · refine J_goto (tgt := 77) X d_Mod_isArg_24 (by decide) ?_
          refine J_iconst X d_Mod_isArg_77 ?_
          refine J_goto (tgt := 82) X d_Mod_isArg_78 (by decide) ?_
          cases h
          exact J_ret E ⟨_, rfl, j_bool (Or.inr rfl)⟩ d_Mod_isArg_82 (Nat.le_refl _) (Nat.le_refl _) rfl

theorem d_Mod_clear_0 : decode b_Mod_clear 0 = .ok (.aload_n 0, 1) := by decide +kernel
theorem d_Mod_clear_1 : decode b_Mod_clear 1 = .ok (.iconst 0, 1) := by decide +kernel
theorem d_Mod_clear_2 : decode b_Mod_clear 2 = .ok (.putfield 111, 3) := by decide +kernel
theorem d_Mod_clear_5 : decode b_Mod_clear 5 = .ok (.aload_n 0, 1) := by decide +kernel
theorem d_Mod_clear_6 : decode b_Mod_clear 6 = .ok (.iconst 0, 1) := by decide +kernel
theorem d_Mod_clear_7 : decode b_Mod_clear 7 = .ok (.putfield 118, 3) := by decide +kernel
theorem d_Mod_clear_10 : decode b_Mod_clear 10 = .ok (.aload_n 0, 1) := by decide +kernel
theorem d_Mod_clear_11 : decode b_Mod_clear 11 = .ok (.iconst 0, 1) := by decide +kernel
theorem d_Mod_clear_12 : decode b_Mod_clear 12 = .ok (.putfield 121, 3) := by decide +kernel
theorem d_Mod_clear_15 : decode b_Mod_clear 15 = .ok (.return_, 1) := by decide +kernel
def f_Mod_clear (R_thrown : Int) (R_used : Int) (R_many : Int) : Option (Int × Int × Int) :=
  some (0, 0, 0)
set_option maxHeartbeats 4000000 in
set_option maxRecDepth 100000 in
theorem c_Mod_clear {l : Launch} {D : va_G} {cI cL cB : ClassId} {ad : Nat → Nat} {R_thrown : Int} {R_used : Int} {R_many : Int} {R_values : Int} {R_textEnd : Int} {R_dataEnd : Int} {R_rowEnd : Int} {R_rowMany : Int} {R_waiting : Int} {R_mostWaiting : Int} {R_answer : Int} {R_steps : Int} {R_memory : Int} {R_maxSteps : Int} {R_maxMemory : Int} {R_fault : Int} {R_result : Int} {R_now : Int} {R_nowRow : Int} {R_come : Int} {R_puts : Int} {out : Int × Int × Int} (h : f_Mod_clear R_thrown R_used R_many = some out) : CT jF0 false l D [(cI, .int), (cL, .long), (cB, .byte)] y_Mod_clear w_Mod_clear ({ frames := 0, cells := 0, slots := 0, locals := 0 } : Room) [.ref (ad 0)] [(ad 0, .inr (10, [.int (zI R_thrown), .ref (ad 1), .ref (ad 2), .ref (ad 3), .ref (ad 4), .ref (ad 5), .ref (ad 6), .int (zI R_used), .ref (ad 7), .int (zI R_many), .ref (ad 8), .ref (ad 9), .ref (ad 10), .ref (ad 11), .ref (ad 12), .ref (ad 13), .ref (ad 14), .ref (ad 15), .ref (ad 16), .int (zI R_values), .ref (ad 17), .int (zI R_textEnd), .ref (ad 18), .ref (ad 19), .ref (ad 20), .ref (ad 21), .int (zI R_dataEnd), .ref (ad 22), .int (zI R_rowEnd), .ref (ad 23), .ref (ad 24), .int (zI R_rowMany), .ref (ad 25), .ref (ad 26), .ref (ad 27), .ref (ad 28), .int (zI R_waiting), .int (zI R_mostWaiting), .int (zI R_answer), .int (zI R_steps), .int (zI R_memory), .int (zI R_maxSteps), .int (zI R_maxMemory), .int (zI R_fault), .int (zI R_result), .int (zI R_now), .int (zI R_nowRow), .int (zI R_come), .ref (ad 29), .ref (ad 30), .int (zI R_puts), .ref (ad 31)]))] none [(ad 0, .inr (10, [.int (zI (out.1)), .ref (ad 1), .ref (ad 2), .ref (ad 3), .ref (ad 4), .ref (ad 5), .ref (ad 6), .int (zI (out.2.1)), .ref (ad 7), .int (zI (out.2.2)), .ref (ad 8), .ref (ad 9), .ref (ad 10), .ref (ad 11), .ref (ad 12), .ref (ad 13), .ref (ad 14), .ref (ad 15), .ref (ad 16), .int (zI R_values), .ref (ad 17), .int (zI R_textEnd), .ref (ad 18), .ref (ad 19), .ref (ad 20), .ref (ad 21), .int (zI R_dataEnd), .ref (ad 22), .int (zI R_rowEnd), .ref (ad 23), .ref (ad 24), .int (zI R_rowMany), .ref (ad 25), .ref (ad 26), .ref (ad 27), .ref (ad 28), .int (zI R_waiting), .int (zI R_mostWaiting), .int (zI R_answer), .int (zI R_steps), .int (zI R_memory), .int (zI R_maxSteps), .int (zI R_maxMemory), .int (zI R_fault), .int (zI R_result), .int (zI R_now), .int (zI R_nowRow), .int (zI R_come), .ref (ad 29), .ref (ad 30), .int (zI R_puts), .ref (ad 31)]))] 0 0 := by
  refine CT_of_J (cc := b_Mod_clear) (maxL := 1) (ret := none) jF0_k (plainFor_of_name (by decide)) rfl (Nat.le_of_ble_eq_true rfl) ?_
  intro K hKl hKD X E
  subst hKl; subst hKD
  unfold f_Mod_clear at h
  refine J_aload_n X d_Mod_clear_0 rfl 0 rfl ?_
  refine J_iconst X d_Mod_clear_1 ?_
  refine J_put (ws' := [(ad 0, .inr (10, [.int (zI 0), .ref (ad 1), .ref (ad 2), .ref (ad 3), .ref (ad 4), .ref (ad 5), .ref (ad 6), .int (zI R_used), .ref (ad 7), .int (zI R_many), .ref (ad 8), .ref (ad 9), .ref (ad 10), .ref (ad 11), .ref (ad 12), .ref (ad 13), .ref (ad 14), .ref (ad 15), .ref (ad 16), .int (zI R_values), .ref (ad 17), .int (zI R_textEnd), .ref (ad 18), .ref (ad 19), .ref (ad 20), .ref (ad 21), .int (zI R_dataEnd), .ref (ad 22), .int (zI R_rowEnd), .ref (ad 23), .ref (ad 24), .int (zI R_rowMany), .ref (ad 25), .ref (ad 26), .ref (ad 27), .ref (ad 28), .int (zI R_waiting), .int (zI R_mostWaiting), .int (zI R_answer), .int (zI R_steps), .int (zI R_memory), .int (zI R_maxSteps), .int (zI R_maxMemory), .int (zI R_fault), .int (zI R_result), .int (zI R_now), .int (zI R_nowRow), .int (zI R_come), .ref (ad 29), .ref (ad 30), .int (zI R_puts), .ref (ad 31)]))]) X (j_in in_Mod) ty_Mod tok_Mod nm_Mod 0 rfl rfl 0 (by decide) (j_m own_Mod_clear (by decide +kernel)) rfl rfl rfl (Nat.le_of_ble_eq_true rfl) d_Mod_clear_2 rfl ?_
  refine J_aload_n X d_Mod_clear_5 rfl 0 rfl ?_
  refine J_iconst X d_Mod_clear_6 ?_
  refine J_put (ws' := [(ad 0, .inr (10, [.int (zI 0), .ref (ad 1), .ref (ad 2), .ref (ad 3), .ref (ad 4), .ref (ad 5), .ref (ad 6), .int (zI 0), .ref (ad 7), .int (zI R_many), .ref (ad 8), .ref (ad 9), .ref (ad 10), .ref (ad 11), .ref (ad 12), .ref (ad 13), .ref (ad 14), .ref (ad 15), .ref (ad 16), .int (zI R_values), .ref (ad 17), .int (zI R_textEnd), .ref (ad 18), .ref (ad 19), .ref (ad 20), .ref (ad 21), .int (zI R_dataEnd), .ref (ad 22), .int (zI R_rowEnd), .ref (ad 23), .ref (ad 24), .int (zI R_rowMany), .ref (ad 25), .ref (ad 26), .ref (ad 27), .ref (ad 28), .int (zI R_waiting), .int (zI R_mostWaiting), .int (zI R_answer), .int (zI R_steps), .int (zI R_memory), .int (zI R_maxSteps), .int (zI R_maxMemory), .int (zI R_fault), .int (zI R_result), .int (zI R_now), .int (zI R_nowRow), .int (zI R_come), .ref (ad 29), .ref (ad 30), .int (zI R_puts), .ref (ad 31)]))]) X (j_in in_Mod) ty_Mod tok_Mod nm_Mod 0 rfl rfl 7 (by decide) (j_m own_Mod_clear (by decide +kernel)) rfl rfl rfl (Nat.le_of_ble_eq_true rfl) d_Mod_clear_7 rfl ?_
  refine J_aload_n X d_Mod_clear_10 rfl 0 rfl ?_
  refine J_iconst X d_Mod_clear_11 ?_
  refine J_put (ws' := [(ad 0, .inr (10, [.int (zI 0), .ref (ad 1), .ref (ad 2), .ref (ad 3), .ref (ad 4), .ref (ad 5), .ref (ad 6), .int (zI 0), .ref (ad 7), .int (zI 0), .ref (ad 8), .ref (ad 9), .ref (ad 10), .ref (ad 11), .ref (ad 12), .ref (ad 13), .ref (ad 14), .ref (ad 15), .ref (ad 16), .int (zI R_values), .ref (ad 17), .int (zI R_textEnd), .ref (ad 18), .ref (ad 19), .ref (ad 20), .ref (ad 21), .int (zI R_dataEnd), .ref (ad 22), .int (zI R_rowEnd), .ref (ad 23), .ref (ad 24), .int (zI R_rowMany), .ref (ad 25), .ref (ad 26), .ref (ad 27), .ref (ad 28), .int (zI R_waiting), .int (zI R_mostWaiting), .int (zI R_answer), .int (zI R_steps), .int (zI R_memory), .int (zI R_maxSteps), .int (zI R_maxMemory), .int (zI R_fault), .int (zI R_result), .int (zI R_now), .int (zI R_nowRow), .int (zI R_come), .ref (ad 29), .ref (ad 30), .int (zI R_puts), .ref (ad 31)]))]) X (j_in in_Mod) ty_Mod tok_Mod nm_Mod 0 rfl rfl 9 (by decide) (j_m own_Mod_clear (by decide +kernel)) rfl rfl rfl (Nat.le_of_ble_eq_true rfl) d_Mod_clear_12 rfl ?_
  cases h
  exact J_ret E rfl d_Mod_clear_15 (Nat.le_refl _) (Nat.le_refl _) rfl

theorem d_Mod_node_0 : decode b_Mod_node 0 = .ok (.aload_n 0, 1) := by decide +kernel
theorem d_Mod_node_1 : decode b_Mod_node 1 = .ok (.iload_n 1, 1) := by decide +kernel
theorem d_Mod_node_2 : decode b_Mod_node 2 = .ok (.ifCond .lt 23, 3) := by decide +kernel
theorem d_Mod_node_5 : decode b_Mod_node 5 = .ok (.iload_n 1, 1) := by decide +kernel
theorem d_Mod_node_6 : decode b_Mod_node 6 = .ok (.bipush 11, 2) := by decide +kernel
theorem d_Mod_node_8 : decode b_Mod_node 8 = .ok (.if_icmp .gt 17, 3) := by decide +kernel
theorem d_Mod_node_11 : decode b_Mod_node 11 = .ok (.iload_n 1, 1) := by decide +kernel
theorem d_Mod_node_12 : decode b_Mod_node 12 = .ok (.bipush 8, 2) := by decide +kernel
theorem d_Mod_node_14 : decode b_Mod_node 14 = .ok (.if_icmp .eq 11, 3) := by decide +kernel
theorem d_Mod_node_17 : decode b_Mod_node 17 = .ok (.iload_n 1, 1) := by decide +kernel
theorem d_Mod_node_18 : decode b_Mod_node 18 = .ok (.lload_n 2, 1) := by decide +kernel
theorem d_Mod_node_19 : decode b_Mod_node 19 = .ok (.invokestatic 124, 3) := by decide +kernel
theorem d_Mod_node_22 : decode b_Mod_node 22 = .ok (.ifCond .ne 7, 3) := by decide +kernel
theorem d_Mod_node_25 : decode b_Mod_node 25 = .ok (.iconst 1, 1) := by decide +kernel
theorem d_Mod_node_26 : decode b_Mod_node 26 = .ok (.goto 4, 3) := by decide +kernel
theorem d_Mod_node_29 : decode b_Mod_node 29 = .ok (.iconst 0, 1) := by decide +kernel
theorem d_Mod_node_30 : decode b_Mod_node 30 = .ok (.putfield 111, 3) := by decide +kernel
theorem d_Mod_node_33 : decode b_Mod_node 33 = .ok (.aload_n 0, 1) := by decide +kernel
theorem d_Mod_node_34 : decode b_Mod_node 34 = .ok (.getfield 111, 3) := by decide +kernel
theorem d_Mod_node_37 : decode b_Mod_node 37 = .ok (.ifCond .le 5, 3) := by decide +kernel
theorem d_Mod_node_40 : decode b_Mod_node 40 = .ok (.iconst 0, 1) := by decide +kernel
theorem d_Mod_node_41 : decode b_Mod_node 41 = .ok (.ireturn, 1) := by decide +kernel
theorem d_Mod_node_42 : decode b_Mod_node 42 = .ok (.aload_n 0, 1) := by decide +kernel
theorem d_Mod_node_43 : decode b_Mod_node 43 = .ok (.aload_n 0, 1) := by decide +kernel
theorem d_Mod_node_44 : decode b_Mod_node 44 = .ok (.getfield 121, 3) := by decide +kernel
theorem d_Mod_node_47 : decode b_Mod_node 47 = .ok (.iload_n 1, 1) := by decide +kernel
theorem d_Mod_node_48 : decode b_Mod_node 48 = .ok (.invokestatic 128, 3) := by decide +kernel
theorem d_Mod_node_51 : decode b_Mod_node 51 = .ok (.if_icmp .lt 13, 3) := by decide +kernel
theorem d_Mod_node_54 : decode b_Mod_node 54 = .ok (.aload_n 0, 1) := by decide +kernel
theorem d_Mod_node_55 : decode b_Mod_node 55 = .ok (.getfield 118, 3) := by decide +kernel
theorem d_Mod_node_58 : decode b_Mod_node 58 = .ok (.sipush 200, 3) := by decide +kernel
theorem d_Mod_node_61 : decode b_Mod_node 61 = .ok (.if_icmp .ne 7, 3) := by decide +kernel
theorem d_Mod_node_64 : decode b_Mod_node 64 = .ok (.iconst 2, 1) := by decide +kernel
theorem d_Mod_node_65 : decode b_Mod_node 65 = .ok (.goto 4, 3) := by decide +kernel
theorem d_Mod_node_68 : decode b_Mod_node 68 = .ok (.iconst 0, 1) := by decide +kernel
theorem d_Mod_node_69 : decode b_Mod_node 69 = .ok (.putfield 111, 3) := by decide +kernel
theorem d_Mod_node_72 : decode b_Mod_node 72 = .ok (.aload_n 0, 1) := by decide +kernel
theorem d_Mod_node_73 : decode b_Mod_node 73 = .ok (.getfield 111, 3) := by decide +kernel
theorem d_Mod_node_76 : decode b_Mod_node 76 = .ok (.ifCond .le 5, 3) := by decide +kernel
theorem d_Mod_node_79 : decode b_Mod_node 79 = .ok (.iconst 0, 1) := by decide +kernel
theorem d_Mod_node_80 : decode b_Mod_node 80 = .ok (.ireturn, 1) := by decide +kernel
theorem d_Mod_node_81 : decode b_Mod_node 81 = .ok (.aload_n 0, 1) := by decide +kernel
theorem d_Mod_node_82 : decode b_Mod_node 82 = .ok (.getfield 118, 3) := by decide +kernel
theorem d_Mod_node_85 : decode b_Mod_node 85 = .ok (.istore 4, 2) := by decide +kernel
theorem d_Mod_node_87 : decode b_Mod_node 87 = .ok (.aload_n 0, 1) := by decide +kernel
theorem d_Mod_node_88 : decode b_Mod_node 88 = .ok (.dup, 1) := by decide +kernel
theorem d_Mod_node_89 : decode b_Mod_node 89 = .ok (.getfield 118, 3) := by decide +kernel
theorem d_Mod_node_92 : decode b_Mod_node 92 = .ok (.iconst 1, 1) := by decide +kernel
theorem d_Mod_node_93 : decode b_Mod_node 93 = .ok (.iadd, 1) := by decide +kernel
theorem d_Mod_node_94 : decode b_Mod_node 94 = .ok (.putfield 118, 3) := by decide +kernel
theorem d_Mod_node_97 : decode b_Mod_node 97 = .ok (.aload_n 0, 1) := by decide +kernel
theorem d_Mod_node_98 : decode b_Mod_node 98 = .ok (.getfield 7, 3) := by decide +kernel
theorem d_Mod_node_101 : decode b_Mod_node 101 = .ok (.iload 4, 2) := by decide +kernel
theorem d_Mod_node_103 : decode b_Mod_node 103 = .ok (.iload_n 1, 1) := by decide +kernel
theorem d_Mod_node_104 : decode b_Mod_node 104 = .ok (.iastore, 1) := by decide +kernel
theorem d_Mod_node_105 : decode b_Mod_node 105 = .ok (.aload_n 0, 1) := by decide +kernel
theorem d_Mod_node_106 : decode b_Mod_node 106 = .ok (.getfield 13, 3) := by decide +kernel
theorem d_Mod_node_109 : decode b_Mod_node 109 = .ok (.iload 4, 2) := by decide +kernel
theorem d_Mod_node_111 : decode b_Mod_node 111 = .ok (.lload_n 2, 1) := by decide +kernel
theorem d_Mod_node_112 : decode b_Mod_node 112 = .ok (.lastore, 1) := by decide +kernel
theorem d_Mod_node_113 : decode b_Mod_node 113 = .ok (.aload_n 0, 1) := by decide +kernel
theorem d_Mod_node_114 : decode b_Mod_node 114 = .ok (.getfield 17, 3) := by decide +kernel
theorem d_Mod_node_117 : decode b_Mod_node 117 = .ok (.iload 4, 2) := by decide +kernel
theorem d_Mod_node_119 : decode b_Mod_node 119 = .ok (.iconst (-1), 1) := by decide +kernel
theorem d_Mod_node_120 : decode b_Mod_node 120 = .ok (.iastore, 1) := by decide +kernel
theorem d_Mod_node_121 : decode b_Mod_node 121 = .ok (.aload_n 0, 1) := by decide +kernel
theorem d_Mod_node_122 : decode b_Mod_node 122 = .ok (.getfield 20, 3) := by decide +kernel
theorem d_Mod_node_125 : decode b_Mod_node 125 = .ok (.iload 4, 2) := by decide +kernel
theorem d_Mod_node_127 : decode b_Mod_node 127 = .ok (.iconst (-1), 1) := by decide +kernel
theorem d_Mod_node_128 : decode b_Mod_node 128 = .ok (.iastore, 1) := by decide +kernel
theorem d_Mod_node_129 : decode b_Mod_node 129 = .ok (.aload_n 0, 1) := by decide +kernel
theorem d_Mod_node_130 : decode b_Mod_node 130 = .ok (.getfield 23, 3) := by decide +kernel
theorem d_Mod_node_133 : decode b_Mod_node 133 = .ok (.iload 4, 2) := by decide +kernel
theorem d_Mod_node_135 : decode b_Mod_node 135 = .ok (.iconst 1, 1) := by decide +kernel
theorem d_Mod_node_136 : decode b_Mod_node 136 = .ok (.iastore, 1) := by decide +kernel
theorem d_Mod_node_137 : decode b_Mod_node 137 = .ok (.iload_n 1, 1) := by decide +kernel
theorem d_Mod_node_138 : decode b_Mod_node 138 = .ok (.invokestatic 128, 3) := by decide +kernel
theorem d_Mod_node_141 : decode b_Mod_node 141 = .ok (.iconst 2, 1) := by decide +kernel
theorem d_Mod_node_142 : decode b_Mod_node 142 = .ok (.if_icmp .ne 53, 3) := by decide +kernel
theorem d_Mod_node_145 : decode b_Mod_node 145 = .ok (.aload_n 0, 1) := by decide +kernel
theorem d_Mod_node_146 : decode b_Mod_node 146 = .ok (.dup, 1) := by decide +kernel
theorem d_Mod_node_147 : decode b_Mod_node 147 = .ok (.getfield 121, 3) := by decide +kernel
theorem d_Mod_node_150 : decode b_Mod_node 150 = .ok (.iconst 1, 1) := by decide +kernel
theorem d_Mod_node_151 : decode b_Mod_node 151 = .ok (.isub, 1) := by decide +kernel
theorem d_Mod_node_152 : decode b_Mod_node 152 = .ok (.putfield 121, 3) := by decide +kernel
theorem d_Mod_node_155 : decode b_Mod_node 155 = .ok (.aload_n 0, 1) := by decide +kernel
theorem d_Mod_node_156 : decode b_Mod_node 156 = .ok (.getfield 20, 3) := by decide +kernel
theorem d_Mod_node_159 : decode b_Mod_node 159 = .ok (.iload 4, 2) := by decide +kernel
theorem d_Mod_node_161 : decode b_Mod_node 161 = .ok (.aload_n 0, 1) := by decide +kernel
theorem d_Mod_node_162 : decode b_Mod_node 162 = .ok (.getfield 30, 3) := by decide +kernel
theorem d_Mod_node_165 : decode b_Mod_node 165 = .ok (.aload_n 0, 1) := by decide +kernel
theorem d_Mod_node_166 : decode b_Mod_node 166 = .ok (.getfield 121, 3) := by decide +kernel
theorem d_Mod_node_169 : decode b_Mod_node 169 = .ok (.iaload, 1) := by decide +kernel
theorem d_Mod_node_170 : decode b_Mod_node 170 = .ok (.iastore, 1) := by decide +kernel
theorem d_Mod_node_171 : decode b_Mod_node 171 = .ok (.aload_n 0, 1) := by decide +kernel
theorem d_Mod_node_172 : decode b_Mod_node 172 = .ok (.getfield 23, 3) := by decide +kernel
theorem d_Mod_node_175 : decode b_Mod_node 175 = .ok (.iload 4, 2) := by decide +kernel
theorem d_Mod_node_177 : decode b_Mod_node 177 = .ok (.dup2, 1) := by decide +kernel
theorem d_Mod_node_178 : decode b_Mod_node 178 = .ok (.iaload, 1) := by decide +kernel
theorem d_Mod_node_179 : decode b_Mod_node 179 = .ok (.aload_n 0, 1) := by decide +kernel
theorem d_Mod_node_180 : decode b_Mod_node 180 = .ok (.getfield 23, 3) := by decide +kernel
theorem d_Mod_node_183 : decode b_Mod_node 183 = .ok (.aload_n 0, 1) := by decide +kernel
theorem d_Mod_node_184 : decode b_Mod_node 184 = .ok (.getfield 30, 3) := by decide +kernel
theorem d_Mod_node_187 : decode b_Mod_node 187 = .ok (.aload_n 0, 1) := by decide +kernel
theorem d_Mod_node_188 : decode b_Mod_node 188 = .ok (.getfield 121, 3) := by decide +kernel
theorem d_Mod_node_191 : decode b_Mod_node 191 = .ok (.iaload, 1) := by decide +kernel
theorem d_Mod_node_192 : decode b_Mod_node 192 = .ok (.iaload, 1) := by decide +kernel
theorem d_Mod_node_193 : decode b_Mod_node 193 = .ok (.iadd, 1) := by decide +kernel
theorem d_Mod_node_194 : decode b_Mod_node 194 = .ok (.iastore, 1) := by decide +kernel
theorem d_Mod_node_195 : decode b_Mod_node 195 = .ok (.iload_n 1, 1) := by decide +kernel
theorem d_Mod_node_196 : decode b_Mod_node 196 = .ok (.invokestatic 128, 3) := by decide +kernel
theorem d_Mod_node_199 : decode b_Mod_node 199 = .ok (.ifCond .le 53, 3) := by decide +kernel
theorem d_Mod_node_202 : decode b_Mod_node 202 = .ok (.aload_n 0, 1) := by decide +kernel
theorem d_Mod_node_203 : decode b_Mod_node 203 = .ok (.dup, 1) := by decide +kernel
theorem d_Mod_node_204 : decode b_Mod_node 204 = .ok (.getfield 121, 3) := by decide +kernel
theorem d_Mod_node_207 : decode b_Mod_node 207 = .ok (.iconst 1, 1) := by decide +kernel
theorem d_Mod_node_208 : decode b_Mod_node 208 = .ok (.isub, 1) := by decide +kernel
theorem d_Mod_node_209 : decode b_Mod_node 209 = .ok (.putfield 121, 3) := by decide +kernel
theorem d_Mod_node_212 : decode b_Mod_node 212 = .ok (.aload_n 0, 1) := by decide +kernel
theorem d_Mod_node_213 : decode b_Mod_node 213 = .ok (.getfield 17, 3) := by decide +kernel
theorem d_Mod_node_216 : decode b_Mod_node 216 = .ok (.iload 4, 2) := by decide +kernel
theorem d_Mod_node_218 : decode b_Mod_node 218 = .ok (.aload_n 0, 1) := by decide +kernel
theorem d_Mod_node_219 : decode b_Mod_node 219 = .ok (.getfield 30, 3) := by decide +kernel
theorem d_Mod_node_222 : decode b_Mod_node 222 = .ok (.aload_n 0, 1) := by decide +kernel
theorem d_Mod_node_223 : decode b_Mod_node 223 = .ok (.getfield 121, 3) := by decide +kernel
theorem d_Mod_node_226 : decode b_Mod_node 226 = .ok (.iaload, 1) := by decide +kernel
theorem d_Mod_node_227 : decode b_Mod_node 227 = .ok (.iastore, 1) := by decide +kernel
theorem d_Mod_node_228 : decode b_Mod_node 228 = .ok (.aload_n 0, 1) := by decide +kernel
theorem d_Mod_node_229 : decode b_Mod_node 229 = .ok (.getfield 23, 3) := by decide +kernel
theorem d_Mod_node_232 : decode b_Mod_node 232 = .ok (.iload 4, 2) := by decide +kernel
theorem d_Mod_node_234 : decode b_Mod_node 234 = .ok (.dup2, 1) := by decide +kernel
theorem d_Mod_node_235 : decode b_Mod_node 235 = .ok (.iaload, 1) := by decide +kernel
theorem d_Mod_node_236 : decode b_Mod_node 236 = .ok (.aload_n 0, 1) := by decide +kernel
theorem d_Mod_node_237 : decode b_Mod_node 237 = .ok (.getfield 23, 3) := by decide +kernel
theorem d_Mod_node_240 : decode b_Mod_node 240 = .ok (.aload_n 0, 1) := by decide +kernel
theorem d_Mod_node_241 : decode b_Mod_node 241 = .ok (.getfield 30, 3) := by decide +kernel
theorem d_Mod_node_244 : decode b_Mod_node 244 = .ok (.aload_n 0, 1) := by decide +kernel
theorem d_Mod_node_245 : decode b_Mod_node 245 = .ok (.getfield 121, 3) := by decide +kernel
theorem d_Mod_node_248 : decode b_Mod_node 248 = .ok (.iaload, 1) := by decide +kernel
theorem d_Mod_node_249 : decode b_Mod_node 249 = .ok (.iaload, 1) := by decide +kernel
theorem d_Mod_node_250 : decode b_Mod_node 250 = .ok (.iadd, 1) := by decide +kernel
theorem d_Mod_node_251 : decode b_Mod_node 251 = .ok (.iastore, 1) := by decide +kernel
theorem d_Mod_node_252 : decode b_Mod_node 252 = .ok (.aload_n 0, 1) := by decide +kernel
theorem d_Mod_node_253 : decode b_Mod_node 253 = .ok (.getfield 30, 3) := by decide +kernel
theorem d_Mod_node_256 : decode b_Mod_node 256 = .ok (.aload_n 0, 1) := by decide +kernel
theorem d_Mod_node_257 : decode b_Mod_node 257 = .ok (.getfield 121, 3) := by decide +kernel
theorem d_Mod_node_260 : decode b_Mod_node 260 = .ok (.iload 4, 2) := by decide +kernel
theorem d_Mod_node_262 : decode b_Mod_node 262 = .ok (.iastore, 1) := by decide +kernel
theorem d_Mod_node_263 : decode b_Mod_node 263 = .ok (.aload_n 0, 1) := by decide +kernel
theorem d_Mod_node_264 : decode b_Mod_node 264 = .ok (.dup, 1) := by decide +kernel
theorem d_Mod_node_265 : decode b_Mod_node 265 = .ok (.getfield 121, 3) := by decide +kernel
theorem d_Mod_node_268 : decode b_Mod_node 268 = .ok (.iconst 1, 1) := by decide +kernel
theorem d_Mod_node_269 : decode b_Mod_node 269 = .ok (.iadd, 1) := by decide +kernel
theorem d_Mod_node_270 : decode b_Mod_node 270 = .ok (.putfield 121, 3) := by decide +kernel
theorem d_Mod_node_273 : decode b_Mod_node 273 = .ok (.aload_n 0, 1) := by decide +kernel
theorem d_Mod_node_274 : decode b_Mod_node 274 = .ok (.getfield 121, 3) := by decide +kernel
theorem d_Mod_node_277 : decode b_Mod_node 277 = .ok (.ireturn, 1) := by decide +kernel
def f_Mod_node (R_thrown : Int) (R_used : Int) (R_many : Int) (R_kinds : Int → Int) (R_numbers : Int → Int) (R_firsts : Int → Int) (R_seconds : Int → Int) (R_sizes : Int → Int) (R_terms : Int → Int) (p1 : Int) (p2 : Int) : Option (Int × Int × Int × Int × (Int → Int) × (Int → Int) × (Int → Int) × (Int → Int) × (Int → Int) × (Int → Int)) :=
  if rI p1 = true then (if p1 < 0 then (
   some (0, 1, R_used, R_many, R_kinds, R_numbers, R_firsts, R_seconds, R_sizes, R_terms)) else (
   if jr2 p1 11 = true then (if 11 < p1 then (
    some (0, 1, R_used, R_many, R_kinds, R_numbers, R_firsts, R_seconds, R_sizes, R_terms)) else (
    if jr2 p1 8 = true then (if p1 = 8 then (
     some (0, 1, R_used, R_many, R_kinds, R_numbers, R_firsts, R_seconds, R_sizes, R_terms)) else (
     Option.bind (f_Mod_isArg p1 p2) (fun r4 =>
      if rI r4 = true then (if r4 = 0 then (
       some (0, 1, R_used, R_many, R_kinds, R_numbers, R_firsts, R_seconds, R_sizes, R_terms)) else (
       Option.bind (f_Mod_takes p1) (fun r7 =>
        if jr2 R_many r7 = true then (if R_many < r7 then (
         some (0, 2, R_used, R_many, R_kinds, R_numbers, R_firsts, R_seconds, R_sizes, R_terms)) else (
         if jr2 R_used 200 = true then (if R_used = 200 then (
          some (0, 2, R_used, R_many, R_kinds, R_numbers, R_firsts, R_seconds, R_sizes, R_terms)) else (
          if jix R_used 200 = true then (
           if jix R_used 200 = true then (
            if jix R_used 200 = true then (
             if jix R_used 200 = true then (
              if jix R_used 200 = true then (
               Option.bind (f_Mod_takes p1) (fun r16 =>
                if jr2 r16 2 = true then (if r16 = 2 then (
                 if jix (R_many - 1) 200 = true then (
                  if jix R_used 200 = true then (
                   if jix R_used 200 = true then (
                    if jix (R_many - 1) 200 = true then (
                     if jix (R_terms (R_many - 1)) 200 = true then (
                      if jix R_used 200 = true then (
                       Option.bind (f_Mod_takes p1) (fun r36 =>
                        if rI r36 = true then (if r36 ≤ 0 then (
                         if jix (R_many - 1) 200 = true then (
                          some (((R_many - 1) + 1), 0, (R_used + 1), ((R_many - 1) + 1), (upZ R_kinds R_used p1), (upZ R_numbers R_used p2), (upZ R_firsts R_used (-1)), (upZ (upZ R_seconds R_used (-1)) R_used (R_terms (R_many - 1))), (upZ (upZ R_sizes R_used 1) R_used (((upZ R_sizes R_used 1) R_used) + ((upZ R_sizes R_used 1) (R_terms (R_many - 1))))), (upZ R_terms (R_many - 1) R_used))) else none) else (
                         if jix ((R_many - 1) - 1) 200 = true then (
                          if jix R_used 200 = true then (
                           if jix R_used 200 = true then (
                            if jix ((R_many - 1) - 1) 200 = true then (
                             if jix (R_terms ((R_many - 1) - 1)) 200 = true then (
                              if jix R_used 200 = true then (
                               if jix ((R_many - 1) - 1) 200 = true then (
                                some ((((R_many - 1) - 1) + 1), 0, (R_used + 1), (((R_many - 1) - 1) + 1), (upZ R_kinds R_used p1), (upZ R_numbers R_used p2), (upZ (upZ R_firsts R_used (-1)) R_used (R_terms ((R_many - 1) - 1))), (upZ (upZ R_seconds R_used (-1)) R_used (R_terms (R_many - 1))), (upZ (upZ (upZ R_sizes R_used 1) R_used (((upZ R_sizes R_used 1) R_used) + ((upZ R_sizes R_used 1) (R_terms (R_many - 1))))) R_used (((upZ (upZ R_sizes R_used 1) R_used (((upZ R_sizes R_used 1) R_used) + ((upZ R_sizes R_used 1) (R_terms (R_many - 1))))) R_used) + ((upZ (upZ R_sizes R_used 1) R_used (((upZ R_sizes R_used 1) R_used) + ((upZ R_sizes R_used 1) (R_terms (R_many - 1))))) (R_terms ((R_many - 1) - 1))))), (upZ R_terms ((R_many - 1) - 1) R_used))) else none) else none) else none) else none) else none) else none) else none)) else none)) else none) else none) else none) else none) else none) else none) else (
                 Option.bind (f_Mod_takes p1) (fun r19 =>
                  if rI r19 = true then (if r19 ≤ 0 then (
                   if jix R_many 200 = true then (
                    some ((R_many + 1), 0, (R_used + 1), (R_many + 1), (upZ R_kinds R_used p1), (upZ R_numbers R_used p2), (upZ R_firsts R_used (-1)), (upZ R_seconds R_used (-1)), (upZ R_sizes R_used 1), (upZ R_terms R_many R_used))) else none) else (
                   if jix (R_many - 1) 200 = true then (
                    if jix R_used 200 = true then (
                     if jix R_used 200 = true then (
                      if jix (R_many - 1) 200 = true then (
                       if jix (R_terms (R_many - 1)) 200 = true then (
                        if jix R_used 200 = true then (
                         if jix (R_many - 1) 200 = true then (
                          some (((R_many - 1) + 1), 0, (R_used + 1), ((R_many - 1) + 1), (upZ R_kinds R_used p1), (upZ R_numbers R_used p2), (upZ (upZ R_firsts R_used (-1)) R_used (R_terms (R_many - 1))), (upZ R_seconds R_used (-1)), (upZ (upZ R_sizes R_used 1) R_used (((upZ R_sizes R_used 1) R_used) + ((upZ R_sizes R_used 1) (R_terms (R_many - 1))))), (upZ R_terms (R_many - 1) R_used))) else none) else none) else none) else none) else none) else none) else none)) else none))) else none)) else none) else none) else none) else none) else none)) else none)) else none))) else none))) else none)) else none)) else none
set_option maxHeartbeats 4000000 in
set_option maxRecDepth 100000 in
theorem c_Mod_node {l : Launch} {D : va_G} {cI cL cB : ClassId} {ad : Nat → Nat} {R_thrown : Int} {R_used : Int} {R_many : Int} {R_values : Int} {R_textEnd : Int} {R_dataEnd : Int} {R_rowEnd : Int} {R_rowMany : Int} {R_waiting : Int} {R_mostWaiting : Int} {R_answer : Int} {R_steps : Int} {R_memory : Int} {R_maxSteps : Int} {R_maxMemory : Int} {R_fault : Int} {R_result : Int} {R_now : Int} {R_nowRow : Int} {R_come : Int} {R_puts : Int} {R_kinds : Int → Int} {R_numbers : Int → Int} {R_firsts : Int → Int} {R_seconds : Int → Int} {R_sizes : Int → Int} {R_terms : Int → Int} {p1 : Int} {p2 : Int} {out : Int × Int × Int × Int × (Int → Int) × (Int → Int) × (Int → Int) × (Int → Int) × (Int → Int) × (Int → Int)} (h : f_Mod_node R_thrown R_used R_many R_kinds R_numbers R_firsts R_seconds R_sizes R_terms p1 p2 = some out) : CT jF0 false l D [(cI, .int), (cL, .long), (cB, .byte)] y_Mod_node w_Mod_node ({ frames := 1, cells := 0, slots := 0, locals := 22 } : Room) [.ref (ad 0), .int (zI p1), .long (zL p2)] [(ad 0, .inr (10, [.int (zI R_thrown), .ref (ad 1), .ref (ad 2), .ref (ad 3), .ref (ad 4), .ref (ad 5), .ref (ad 6), .int (zI R_used), .ref (ad 7), .int (zI R_many), .ref (ad 8), .ref (ad 9), .ref (ad 10), .ref (ad 11), .ref (ad 12), .ref (ad 13), .ref (ad 14), .ref (ad 15), .ref (ad 16), .int (zI R_values), .ref (ad 17), .int (zI R_textEnd), .ref (ad 18), .ref (ad 19), .ref (ad 20), .ref (ad 21), .int (zI R_dataEnd), .ref (ad 22), .int (zI R_rowEnd), .ref (ad 23), .ref (ad 24), .int (zI R_rowMany), .ref (ad 25), .ref (ad 26), .ref (ad 27), .ref (ad 28), .int (zI R_waiting), .int (zI R_mostWaiting), .int (zI R_answer), .int (zI R_steps), .int (zI R_memory), .int (zI R_maxSteps), .int (zI R_maxMemory), .int (zI R_fault), .int (zI R_result), .int (zI R_now), .int (zI R_nowRow), .int (zI R_come), .ref (ad 29), .ref (ad 30), .int (zI R_puts), .ref (ad 31)])), (ad 1, .inl (cI, 200, .inl (zA R_kinds))), (ad 2, .inl (cL, 200, .inr (.inl (zB R_numbers)))), (ad 3, .inl (cI, 200, .inl (zA R_firsts))), (ad 4, .inl (cI, 200, .inl (zA R_seconds))), (ad 5, .inl (cI, 200, .inl (zA R_sizes))), (ad 7, .inl (cI, 200, .inl (zA R_terms)))] (some (.int (zI out.1))) [(ad 0, .inr (10, [.int (zI (out.2.1)), .ref (ad 1), .ref (ad 2), .ref (ad 3), .ref (ad 4), .ref (ad 5), .ref (ad 6), .int (zI (out.2.2.1)), .ref (ad 7), .int (zI (out.2.2.2.1)), .ref (ad 8), .ref (ad 9), .ref (ad 10), .ref (ad 11), .ref (ad 12), .ref (ad 13), .ref (ad 14), .ref (ad 15), .ref (ad 16), .int (zI R_values), .ref (ad 17), .int (zI R_textEnd), .ref (ad 18), .ref (ad 19), .ref (ad 20), .ref (ad 21), .int (zI R_dataEnd), .ref (ad 22), .int (zI R_rowEnd), .ref (ad 23), .ref (ad 24), .int (zI R_rowMany), .ref (ad 25), .ref (ad 26), .ref (ad 27), .ref (ad 28), .int (zI R_waiting), .int (zI R_mostWaiting), .int (zI R_answer), .int (zI R_steps), .int (zI R_memory), .int (zI R_maxSteps), .int (zI R_maxMemory), .int (zI R_fault), .int (zI R_result), .int (zI R_now), .int (zI R_nowRow), .int (zI R_come), .ref (ad 29), .ref (ad 30), .int (zI R_puts), .ref (ad 31)])), (ad 1, .inl (cI, 200, .inl (zA (out.2.2.2.2.1)))), (ad 2, .inl (cL, 200, .inr (.inl (zB (out.2.2.2.2.2.1))))), (ad 3, .inl (cI, 200, .inl (zA (out.2.2.2.2.2.2.1)))), (ad 4, .inl (cI, 200, .inl (zA (out.2.2.2.2.2.2.2.1)))), (ad 5, .inl (cI, 200, .inl (zA (out.2.2.2.2.2.2.2.2.1)))), (ad 7, .inl (cI, 200, .inl (zA (out.2.2.2.2.2.2.2.2.2))))] 0 0 := by
  refine CT_of_J (cc := b_Mod_node) (maxL := 5) (ret := (some .int)) jF0_k (plainFor_of_name (by decide)) rfl (Nat.le_of_ble_eq_true rfl) ?_
  intro K hKl hKD X E
  subst hKl; subst hKD
  unfold f_Mod_node at h
  refine J_aload_n X d_Mod_node_0 rfl 0 rfl ?_
  refine J_iload_n X d_Mod_node_1 rfl 1 rfl ?_
  refine J_if_lt (tgt := 25) X d_Mod_node_2 (by decide) h (fun c1 h => ?_) (fun c1 h => ?_)
  · refine J_iconst X d_Mod_node_25 ?_
    refine J_goto (tgt := 30) X d_Mod_node_26 (by decide) ?_
    refine J_put (ws' := [(ad 0, .inr (10, [.int (zI 1), .ref (ad 1), .ref (ad 2), .ref (ad 3), .ref (ad 4), .ref (ad 5), .ref (ad 6), .int (zI R_used), .ref (ad 7), .int (zI R_many), .ref (ad 8), .ref (ad 9), .ref (ad 10), .ref (ad 11), .ref (ad 12), .ref (ad 13), .ref (ad 14), .ref (ad 15), .ref (ad 16), .int (zI R_values), .ref (ad 17), .int (zI R_textEnd), .ref (ad 18), .ref (ad 19), .ref (ad 20), .ref (ad 21), .int (zI R_dataEnd), .ref (ad 22), .int (zI R_rowEnd), .ref (ad 23), .ref (ad 24), .int (zI R_rowMany), .ref (ad 25), .ref (ad 26), .ref (ad 27), .ref (ad 28), .int (zI R_waiting), .int (zI R_mostWaiting), .int (zI R_answer), .int (zI R_steps), .int (zI R_memory), .int (zI R_maxSteps), .int (zI R_maxMemory), .int (zI R_fault), .int (zI R_result), .int (zI R_now), .int (zI R_nowRow), .int (zI R_come), .ref (ad 29), .ref (ad 30), .int (zI R_puts), .ref (ad 31)])), (ad 1, .inl (cI, 200, .inl (zA R_kinds))), (ad 2, .inl (cL, 200, .inr (.inl (zB R_numbers)))), (ad 3, .inl (cI, 200, .inl (zA R_firsts))), (ad 4, .inl (cI, 200, .inl (zA R_seconds))), (ad 5, .inl (cI, 200, .inl (zA R_sizes))), (ad 7, .inl (cI, 200, .inl (zA R_terms)))]) X (j_in in_Mod) ty_Mod tok_Mod nm_Mod 0 rfl rfl 0 (by decide) (j_m own_Mod_node (by decide +kernel)) rfl rfl rfl (Nat.le_of_ble_eq_true rfl) d_Mod_node_30 rfl ?_
    refine J_aload_n X d_Mod_node_33 rfl 0 rfl ?_
    refine J_get X (j_in in_Mod) 0 rfl rfl 0 (by decide) (j_m own_Mod_node (by decide +kernel)) rfl d_Mod_node_34 ?_
    refine J_if_le (pa := none) (pb := some ()) (o := ()) (tgt := 42) X d_Mod_node_37 (by decide) (by decide) (fun _ h => by cases h) (fun _ _ => ?_)
    refine J_iconst X d_Mod_node_40 ?_
    cases h
    exact J_ret E ⟨_, rfl, rfl⟩ d_Mod_node_41 (Nat.le_refl _) (Nat.le_refl _) rfl
  · refine J_iload_n X d_Mod_node_5 rfl 1 rfl ?_
    refine J_bipush X d_Mod_node_6 (by decide) ?_
    refine J_icmp_gt (tgt := 25) X d_Mod_node_8 (by decide) h (fun c2 h => ?_) (fun c2 h => ?_)
    · refine J_iconst X d_Mod_node_25 ?_
      refine J_goto (tgt := 30) X d_Mod_node_26 (by decide) ?_
      refine J_put (ws' := [(ad 0, .inr (10, [.int (zI 1), .ref (ad 1), .ref (ad 2), .ref (ad 3), .ref (ad 4), .ref (ad 5), .ref (ad 6), .int (zI R_used), .ref (ad 7), .int (zI R_many), .ref (ad 8), .ref (ad 9), .ref (ad 10), .ref (ad 11), .ref (ad 12), .ref (ad 13), .ref (ad 14), .ref (ad 15), .ref (ad 16), .int (zI R_values), .ref (ad 17), .int (zI R_textEnd), .ref (ad 18), .ref (ad 19), .ref (ad 20), .ref (ad 21), .int (zI R_dataEnd), .ref (ad 22), .int (zI R_rowEnd), .ref (ad 23), .ref (ad 24), .int (zI R_rowMany), .ref (ad 25), .ref (ad 26), .ref (ad 27), .ref (ad 28), .int (zI R_waiting), .int (zI R_mostWaiting), .int (zI R_answer), .int (zI R_steps), .int (zI R_memory), .int (zI R_maxSteps), .int (zI R_maxMemory), .int (zI R_fault), .int (zI R_result), .int (zI R_now), .int (zI R_nowRow), .int (zI R_come), .ref (ad 29), .ref (ad 30), .int (zI R_puts), .ref (ad 31)])), (ad 1, .inl (cI, 200, .inl (zA R_kinds))), (ad 2, .inl (cL, 200, .inr (.inl (zB R_numbers)))), (ad 3, .inl (cI, 200, .inl (zA R_firsts))), (ad 4, .inl (cI, 200, .inl (zA R_seconds))), (ad 5, .inl (cI, 200, .inl (zA R_sizes))), (ad 7, .inl (cI, 200, .inl (zA R_terms)))]) X (j_in in_Mod) ty_Mod tok_Mod nm_Mod 0 rfl rfl 0 (by decide) (j_m own_Mod_node (by decide +kernel)) rfl rfl rfl (Nat.le_of_ble_eq_true rfl) d_Mod_node_30 rfl ?_
      refine J_aload_n X d_Mod_node_33 rfl 0 rfl ?_
      refine J_get X (j_in in_Mod) 0 rfl rfl 0 (by decide) (j_m own_Mod_node (by decide +kernel)) rfl d_Mod_node_34 ?_
      refine J_if_le (pa := none) (pb := some ()) (o := ()) (tgt := 42) X d_Mod_node_37 (by decide) (by decide) (fun _ h => by cases h) (fun _ _ => ?_)
      refine J_iconst X d_Mod_node_40 ?_
      cases h
      exact J_ret E ⟨_, rfl, rfl⟩ d_Mod_node_41 (Nat.le_refl _) (Nat.le_refl _) rfl
    · refine J_iload_n X d_Mod_node_11 rfl 1 rfl ?_
      refine J_bipush X d_Mod_node_12 (by decide) ?_
      refine J_icmp_eq (tgt := 25) X d_Mod_node_14 (by decide) h (fun c3 h => ?_) (fun c3 h => ?_)
      · refine J_iconst X d_Mod_node_25 ?_
        refine J_goto (tgt := 30) X d_Mod_node_26 (by decide) ?_
        refine J_put (ws' := [(ad 0, .inr (10, [.int (zI 1), .ref (ad 1), .ref (ad 2), .ref (ad 3), .ref (ad 4), .ref (ad 5), .ref (ad 6), .int (zI R_used), .ref (ad 7), .int (zI R_many), .ref (ad 8), .ref (ad 9), .ref (ad 10), .ref (ad 11), .ref (ad 12), .ref (ad 13), .ref (ad 14), .ref (ad 15), .ref (ad 16), .int (zI R_values), .ref (ad 17), .int (zI R_textEnd), .ref (ad 18), .ref (ad 19), .ref (ad 20), .ref (ad 21), .int (zI R_dataEnd), .ref (ad 22), .int (zI R_rowEnd), .ref (ad 23), .ref (ad 24), .int (zI R_rowMany), .ref (ad 25), .ref (ad 26), .ref (ad 27), .ref (ad 28), .int (zI R_waiting), .int (zI R_mostWaiting), .int (zI R_answer), .int (zI R_steps), .int (zI R_memory), .int (zI R_maxSteps), .int (zI R_maxMemory), .int (zI R_fault), .int (zI R_result), .int (zI R_now), .int (zI R_nowRow), .int (zI R_come), .ref (ad 29), .ref (ad 30), .int (zI R_puts), .ref (ad 31)])), (ad 1, .inl (cI, 200, .inl (zA R_kinds))), (ad 2, .inl (cL, 200, .inr (.inl (zB R_numbers)))), (ad 3, .inl (cI, 200, .inl (zA R_firsts))), (ad 4, .inl (cI, 200, .inl (zA R_seconds))), (ad 5, .inl (cI, 200, .inl (zA R_sizes))), (ad 7, .inl (cI, 200, .inl (zA R_terms)))]) X (j_in in_Mod) ty_Mod tok_Mod nm_Mod 0 rfl rfl 0 (by decide) (j_m own_Mod_node (by decide +kernel)) rfl rfl rfl (Nat.le_of_ble_eq_true rfl) d_Mod_node_30 rfl ?_
        refine J_aload_n X d_Mod_node_33 rfl 0 rfl ?_
        refine J_get X (j_in in_Mod) 0 rfl rfl 0 (by decide) (j_m own_Mod_node (by decide +kernel)) rfl d_Mod_node_34 ?_
        refine J_if_le (pa := none) (pb := some ()) (o := ()) (tgt := 42) X d_Mod_node_37 (by decide) (by decide) (fun _ h => by cases h) (fun _ _ => ?_)
        refine J_iconst X d_Mod_node_40 ?_
        cases h
        exact J_ret E ⟨_, rfl, rfl⟩ d_Mod_node_41 (Nat.le_refl _) (Nat.le_refl _) rfl
      · refine J_iload_n X d_Mod_node_17 rfl 1 rfl ?_
        refine J_lload_n X d_Mod_node_18 rfl 2 rfl ?_
        obtain ⟨r4, q5, h⟩ := wk_b h
        refine J_afterP (jrunS X (c_Mod_isArg (ad := ad) q5) jF0_k (fun _ _ _ _ => trivial) (jgS own_Mod_node (by decide +kernel)) rfl rfl rfl pd_Mod_isArg (by decide) [] rfl (by decide) rfl rfl (Nat.le_of_ble_eq_true rfl) d_Mod_node_19 (by decide)) ?_
        refine J_if_ne (tgt := 29) X d_Mod_node_22 (by decide) h (fun c6 h => ?_) (fun c6 h => ?_)
        · refine J_iconst X d_Mod_node_29 ?_
          refine J_put (ws' := [(ad 0, .inr (10, [.int (zI 0), .ref (ad 1), .ref (ad 2), .ref (ad 3), .ref (ad 4), .ref (ad 5), .ref (ad 6), .int (zI R_used), .ref (ad 7), .int (zI R_many), .ref (ad 8), .ref (ad 9), .ref (ad 10), .ref (ad 11), .ref (ad 12), .ref (ad 13), .ref (ad 14), .ref (ad 15), .ref (ad 16), .int (zI R_values), .ref (ad 17), .int (zI R_textEnd), .ref (ad 18), .ref (ad 19), .ref (ad 20), .ref (ad 21), .int (zI R_dataEnd), .ref (ad 22), .int (zI R_rowEnd), .ref (ad 23), .ref (ad 24), .int (zI R_rowMany), .ref (ad 25), .ref (ad 26), .ref (ad 27), .ref (ad 28), .int (zI R_waiting), .int (zI R_mostWaiting), .int (zI R_answer), .int (zI R_steps), .int (zI R_memory), .int (zI R_maxSteps), .int (zI R_maxMemory), .int (zI R_fault), .int (zI R_result), .int (zI R_now), .int (zI R_nowRow), .int (zI R_come), .ref (ad 29), .ref (ad 30), .int (zI R_puts), .ref (ad 31)])), (ad 1, .inl (cI, 200, .inl (zA R_kinds))), (ad 2, .inl (cL, 200, .inr (.inl (zB R_numbers)))), (ad 3, .inl (cI, 200, .inl (zA R_firsts))), (ad 4, .inl (cI, 200, .inl (zA R_seconds))), (ad 5, .inl (cI, 200, .inl (zA R_sizes))), (ad 7, .inl (cI, 200, .inl (zA R_terms)))]) X (j_in in_Mod) ty_Mod tok_Mod nm_Mod 0 rfl rfl 0 (by decide) (j_m own_Mod_node (by decide +kernel)) rfl rfl rfl (Nat.le_of_ble_eq_true rfl) d_Mod_node_30 rfl ?_
          refine J_aload_n X d_Mod_node_33 rfl 0 rfl ?_
          refine J_get X (j_in in_Mod) 0 rfl rfl 0 (by decide) (j_m own_Mod_node (by decide +kernel)) rfl d_Mod_node_34 ?_
          refine J_if_le (pa := some ()) (pb := none) (o := ()) (tgt := 42) X d_Mod_node_37 (by decide) (by decide) (fun _ _ => ?_) (fun _ h => by cases h)
          refine J_aload_n X d_Mod_node_42 rfl 0 rfl ?_
          refine J_aload_n X d_Mod_node_43 rfl 0 rfl ?_
          refine J_get X (j_in in_Mod) 0 rfl rfl 9 (by decide) (j_m own_Mod_node (by decide +kernel)) rfl d_Mod_node_44 ?_
          refine J_iload_n X d_Mod_node_47 rfl 1 rfl ?_
          obtain ⟨r7, q8, h⟩ := wk_b h
          refine J_afterP (jrunS X (c_Mod_takes (ad := ad) q8) jF0_k (fun _ _ _ _ => trivial) (jgS own_Mod_node (by decide +kernel)) rfl rfl rfl pd_Mod_takes (by decide) [] rfl (by decide) rfl rfl (Nat.le_of_ble_eq_true rfl) d_Mod_node_48 (by decide)) ?_
          refine J_icmp_lt (tgt := 64) X d_Mod_node_51 (by decide) h (fun c9 h => ?_) (fun c9 h => ?_)
          · refine J_iconst X d_Mod_node_64 ?_
            refine J_goto (tgt := 69) X d_Mod_node_65 (by decide) ?_
            refine J_put (ws' := [(ad 0, .inr (10, [.int (zI 2), .ref (ad 1), .ref (ad 2), .ref (ad 3), .ref (ad 4), .ref (ad 5), .ref (ad 6), .int (zI R_used), .ref (ad 7), .int (zI R_many), .ref (ad 8), .ref (ad 9), .ref (ad 10), .ref (ad 11), .ref (ad 12), .ref (ad 13), .ref (ad 14), .ref (ad 15), .ref (ad 16), .int (zI R_values), .ref (ad 17), .int (zI R_textEnd), .ref (ad 18), .ref (ad 19), .ref (ad 20), .ref (ad 21), .int (zI R_dataEnd), .ref (ad 22), .int (zI R_rowEnd), .ref (ad 23), .ref (ad 24), .int (zI R_rowMany), .ref (ad 25), .ref (ad 26), .ref (ad 27), .ref (ad 28), .int (zI R_waiting), .int (zI R_mostWaiting), .int (zI R_answer), .int (zI R_steps), .int (zI R_memory), .int (zI R_maxSteps), .int (zI R_maxMemory), .int (zI R_fault), .int (zI R_result), .int (zI R_now), .int (zI R_nowRow), .int (zI R_come), .ref (ad 29), .ref (ad 30), .int (zI R_puts), .ref (ad 31)])), (ad 1, .inl (cI, 200, .inl (zA R_kinds))), (ad 2, .inl (cL, 200, .inr (.inl (zB R_numbers)))), (ad 3, .inl (cI, 200, .inl (zA R_firsts))), (ad 4, .inl (cI, 200, .inl (zA R_seconds))), (ad 5, .inl (cI, 200, .inl (zA R_sizes))), (ad 7, .inl (cI, 200, .inl (zA R_terms)))]) X (j_in in_Mod) ty_Mod tok_Mod nm_Mod 0 rfl rfl 0 (by decide) (j_m own_Mod_node (by decide +kernel)) rfl rfl rfl (Nat.le_of_ble_eq_true rfl) d_Mod_node_69 rfl ?_
            refine J_aload_n X d_Mod_node_72 rfl 0 rfl ?_
            refine J_get X (j_in in_Mod) 0 rfl rfl 0 (by decide) (j_m own_Mod_node (by decide +kernel)) rfl d_Mod_node_73 ?_
            refine J_if_le (pa := none) (pb := some ()) (o := ()) (tgt := 81) X d_Mod_node_76 (by decide) (by decide) (fun _ h => by cases h) (fun _ _ => ?_)
            refine J_iconst X d_Mod_node_79 ?_
            cases h
            exact J_ret E ⟨_, rfl, rfl⟩ d_Mod_node_80 (Nat.le_refl _) (Nat.le_refl _) rfl
          · refine J_aload_n X d_Mod_node_54 rfl 0 rfl ?_
            refine J_get X (j_in in_Mod) 0 rfl rfl 7 (by decide) (j_m own_Mod_node (by decide +kernel)) rfl d_Mod_node_55 ?_
            refine J_sipush X d_Mod_node_58 (by decide) ?_
            refine J_icmp_ne (tgt := 68) X d_Mod_node_61 (by decide) h (fun c10 h => ?_) (fun c10 h => ?_)
            · refine J_iconst X d_Mod_node_68 ?_
              refine J_put (ws' := [(ad 0, .inr (10, [.int (zI 0), .ref (ad 1), .ref (ad 2), .ref (ad 3), .ref (ad 4), .ref (ad 5), .ref (ad 6), .int (zI R_used), .ref (ad 7), .int (zI R_many), .ref (ad 8), .ref (ad 9), .ref (ad 10), .ref (ad 11), .ref (ad 12), .ref (ad 13), .ref (ad 14), .ref (ad 15), .ref (ad 16), .int (zI R_values), .ref (ad 17), .int (zI R_textEnd), .ref (ad 18), .ref (ad 19), .ref (ad 20), .ref (ad 21), .int (zI R_dataEnd), .ref (ad 22), .int (zI R_rowEnd), .ref (ad 23), .ref (ad 24), .int (zI R_rowMany), .ref (ad 25), .ref (ad 26), .ref (ad 27), .ref (ad 28), .int (zI R_waiting), .int (zI R_mostWaiting), .int (zI R_answer), .int (zI R_steps), .int (zI R_memory), .int (zI R_maxSteps), .int (zI R_maxMemory), .int (zI R_fault), .int (zI R_result), .int (zI R_now), .int (zI R_nowRow), .int (zI R_come), .ref (ad 29), .ref (ad 30), .int (zI R_puts), .ref (ad 31)])), (ad 1, .inl (cI, 200, .inl (zA R_kinds))), (ad 2, .inl (cL, 200, .inr (.inl (zB R_numbers)))), (ad 3, .inl (cI, 200, .inl (zA R_firsts))), (ad 4, .inl (cI, 200, .inl (zA R_seconds))), (ad 5, .inl (cI, 200, .inl (zA R_sizes))), (ad 7, .inl (cI, 200, .inl (zA R_terms)))]) X (j_in in_Mod) ty_Mod tok_Mod nm_Mod 0 rfl rfl 0 (by decide) (j_m own_Mod_node (by decide +kernel)) rfl rfl rfl (Nat.le_of_ble_eq_true rfl) d_Mod_node_69 rfl ?_
              refine J_aload_n X d_Mod_node_72 rfl 0 rfl ?_
              refine J_get X (j_in in_Mod) 0 rfl rfl 0 (by decide) (j_m own_Mod_node (by decide +kernel)) rfl d_Mod_node_73 ?_
              refine J_if_le (pa := some ()) (pb := none) (o := ()) (tgt := 81) X d_Mod_node_76 (by decide) (by decide) (fun _ _ => ?_) (fun _ h => by cases h)
              refine J_aload_n X d_Mod_node_81 rfl 0 rfl ?_
              refine J_get X (j_in in_Mod) 0 rfl rfl 7 (by decide) (j_m own_Mod_node (by decide +kernel)) rfl d_Mod_node_82 ?_
              refine J_istore (lv' := [(4, .int (zI R_used)), (0, .ref (ad 0)), (1, .int (zI p1)), (2, .long (zL p2))]) X d_Mod_node_85 (by decide) rfl ?_
              refine J_aload_n X d_Mod_node_87 rfl 1 rfl ?_
              refine J_dup X d_Mod_node_88 rfl ?_
              refine J_get X (j_in in_Mod) 0 rfl rfl 7 (by decide) (j_m own_Mod_node (by decide +kernel)) rfl d_Mod_node_89 ?_
              refine J_iconst X d_Mod_node_92 ?_
              refine J_iadd X d_Mod_node_93 ?_
              refine J_put (ws' := [(ad 0, .inr (10, [.int (zI 0), .ref (ad 1), .ref (ad 2), .ref (ad 3), .ref (ad 4), .ref (ad 5), .ref (ad 6), .int (zI (R_used + 1)), .ref (ad 7), .int (zI R_many), .ref (ad 8), .ref (ad 9), .ref (ad 10), .ref (ad 11), .ref (ad 12), .ref (ad 13), .ref (ad 14), .ref (ad 15), .ref (ad 16), .int (zI R_values), .ref (ad 17), .int (zI R_textEnd), .ref (ad 18), .ref (ad 19), .ref (ad 20), .ref (ad 21), .int (zI R_dataEnd), .ref (ad 22), .int (zI R_rowEnd), .ref (ad 23), .ref (ad 24), .int (zI R_rowMany), .ref (ad 25), .ref (ad 26), .ref (ad 27), .ref (ad 28), .int (zI R_waiting), .int (zI R_mostWaiting), .int (zI R_answer), .int (zI R_steps), .int (zI R_memory), .int (zI R_maxSteps), .int (zI R_maxMemory), .int (zI R_fault), .int (zI R_result), .int (zI R_now), .int (zI R_nowRow), .int (zI R_come), .ref (ad 29), .ref (ad 30), .int (zI R_puts), .ref (ad 31)])), (ad 1, .inl (cI, 200, .inl (zA R_kinds))), (ad 2, .inl (cL, 200, .inr (.inl (zB R_numbers)))), (ad 3, .inl (cI, 200, .inl (zA R_firsts))), (ad 4, .inl (cI, 200, .inl (zA R_seconds))), (ad 5, .inl (cI, 200, .inl (zA R_sizes))), (ad 7, .inl (cI, 200, .inl (zA R_terms)))]) X (j_in in_Mod) ty_Mod tok_Mod nm_Mod 0 rfl rfl 7 (by decide) (j_m own_Mod_node (by decide +kernel)) rfl rfl rfl (Nat.le_of_ble_eq_true rfl) d_Mod_node_94 rfl ?_
              refine J_aload_n X d_Mod_node_97 rfl 1 rfl ?_
              refine J_get X (j_in in_Mod) 0 rfl rfl 1 (by decide) (j_m own_Mod_node (by decide +kernel)) rfl d_Mod_node_98 ?_
              refine J_iload X d_Mod_node_101 0 rfl ?_
              refine J_iload_n X d_Mod_node_103 rfl 2 rfl ?_
              obtain ⟨g11, h⟩ := wk_g h
              refine J_iast (ws' := [(ad 0, .inr (10, [.int (zI 0), .ref (ad 1), .ref (ad 2), .ref (ad 3), .ref (ad 4), .ref (ad 5), .ref (ad 6), .int (zI (R_used + 1)), .ref (ad 7), .int (zI R_many), .ref (ad 8), .ref (ad 9), .ref (ad 10), .ref (ad 11), .ref (ad 12), .ref (ad 13), .ref (ad 14), .ref (ad 15), .ref (ad 16), .int (zI R_values), .ref (ad 17), .int (zI R_textEnd), .ref (ad 18), .ref (ad 19), .ref (ad 20), .ref (ad 21), .int (zI R_dataEnd), .ref (ad 22), .int (zI R_rowEnd), .ref (ad 23), .ref (ad 24), .int (zI R_rowMany), .ref (ad 25), .ref (ad 26), .ref (ad 27), .ref (ad 28), .int (zI R_waiting), .int (zI R_mostWaiting), .int (zI R_answer), .int (zI R_steps), .int (zI R_memory), .int (zI R_maxSteps), .int (zI R_maxMemory), .int (zI R_fault), .int (zI R_result), .int (zI R_now), .int (zI R_nowRow), .int (zI R_come), .ref (ad 29), .ref (ad 30), .int (zI R_puts), .ref (ad 31)])), (ad 1, .inl (cI, 200, .inl (zA (upZ R_kinds R_used p1)))), (ad 2, .inl (cL, 200, .inr (.inl (zB R_numbers)))), (ad 3, .inl (cI, 200, .inl (zA R_firsts))), (ad 4, .inl (cI, 200, .inl (zA R_seconds))), (ad 5, .inl (cI, 200, .inl (zA R_sizes))), (ad 7, .inl (cI, 200, .inl (zA R_terms)))]) X 1 0 rfl rfl g11 d_Mod_node_104 rfl ?_
              refine J_aload_n X d_Mod_node_105 rfl 1 rfl ?_
              refine J_get X (j_in in_Mod) 0 rfl rfl 2 (by decide) (j_m own_Mod_node (by decide +kernel)) rfl d_Mod_node_106 ?_
              refine J_iload X d_Mod_node_109 0 rfl ?_
              refine J_lload_n X d_Mod_node_111 rfl 3 rfl ?_
              obtain ⟨g12, h⟩ := wk_g h
              refine J_last (ws' := [(ad 0, .inr (10, [.int (zI 0), .ref (ad 1), .ref (ad 2), .ref (ad 3), .ref (ad 4), .ref (ad 5), .ref (ad 6), .int (zI (R_used + 1)), .ref (ad 7), .int (zI R_many), .ref (ad 8), .ref (ad 9), .ref (ad 10), .ref (ad 11), .ref (ad 12), .ref (ad 13), .ref (ad 14), .ref (ad 15), .ref (ad 16), .int (zI R_values), .ref (ad 17), .int (zI R_textEnd), .ref (ad 18), .ref (ad 19), .ref (ad 20), .ref (ad 21), .int (zI R_dataEnd), .ref (ad 22), .int (zI R_rowEnd), .ref (ad 23), .ref (ad 24), .int (zI R_rowMany), .ref (ad 25), .ref (ad 26), .ref (ad 27), .ref (ad 28), .int (zI R_waiting), .int (zI R_mostWaiting), .int (zI R_answer), .int (zI R_steps), .int (zI R_memory), .int (zI R_maxSteps), .int (zI R_maxMemory), .int (zI R_fault), .int (zI R_result), .int (zI R_now), .int (zI R_nowRow), .int (zI R_come), .ref (ad 29), .ref (ad 30), .int (zI R_puts), .ref (ad 31)])), (ad 1, .inl (cI, 200, .inl (zA (upZ R_kinds R_used p1)))), (ad 2, .inl (cL, 200, .inr (.inl (zB (upZ R_numbers R_used p2))))), (ad 3, .inl (cI, 200, .inl (zA R_firsts))), (ad 4, .inl (cI, 200, .inl (zA R_seconds))), (ad 5, .inl (cI, 200, .inl (zA R_sizes))), (ad 7, .inl (cI, 200, .inl (zA R_terms)))]) X 2 1 rfl rfl g12 d_Mod_node_112 rfl ?_
              refine J_aload_n X d_Mod_node_113 rfl 1 rfl ?_
              refine J_get X (j_in in_Mod) 0 rfl rfl 3 (by decide) (j_m own_Mod_node (by decide +kernel)) rfl d_Mod_node_114 ?_
              refine J_iload X d_Mod_node_117 0 rfl ?_
              refine J_iconst X d_Mod_node_119 ?_
              obtain ⟨g13, h⟩ := wk_g h
              refine J_iast (ws' := [(ad 0, .inr (10, [.int (zI 0), .ref (ad 1), .ref (ad 2), .ref (ad 3), .ref (ad 4), .ref (ad 5), .ref (ad 6), .int (zI (R_used + 1)), .ref (ad 7), .int (zI R_many), .ref (ad 8), .ref (ad 9), .ref (ad 10), .ref (ad 11), .ref (ad 12), .ref (ad 13), .ref (ad 14), .ref (ad 15), .ref (ad 16), .int (zI R_values), .ref (ad 17), .int (zI R_textEnd), .ref (ad 18), .ref (ad 19), .ref (ad 20), .ref (ad 21), .int (zI R_dataEnd), .ref (ad 22), .int (zI R_rowEnd), .ref (ad 23), .ref (ad 24), .int (zI R_rowMany), .ref (ad 25), .ref (ad 26), .ref (ad 27), .ref (ad 28), .int (zI R_waiting), .int (zI R_mostWaiting), .int (zI R_answer), .int (zI R_steps), .int (zI R_memory), .int (zI R_maxSteps), .int (zI R_maxMemory), .int (zI R_fault), .int (zI R_result), .int (zI R_now), .int (zI R_nowRow), .int (zI R_come), .ref (ad 29), .ref (ad 30), .int (zI R_puts), .ref (ad 31)])), (ad 1, .inl (cI, 200, .inl (zA (upZ R_kinds R_used p1)))), (ad 2, .inl (cL, 200, .inr (.inl (zB (upZ R_numbers R_used p2))))), (ad 3, .inl (cI, 200, .inl (zA (upZ R_firsts R_used (-1))))), (ad 4, .inl (cI, 200, .inl (zA R_seconds))), (ad 5, .inl (cI, 200, .inl (zA R_sizes))), (ad 7, .inl (cI, 200, .inl (zA R_terms)))]) X 3 0 rfl rfl g13 d_Mod_node_120 rfl ?_
              refine J_aload_n X d_Mod_node_121 rfl 1 rfl ?_
              refine J_get X (j_in in_Mod) 0 rfl rfl 4 (by decide) (j_m own_Mod_node (by decide +kernel)) rfl d_Mod_node_122 ?_
              refine J_iload X d_Mod_node_125 0 rfl ?_
              refine J_iconst X d_Mod_node_127 ?_
              obtain ⟨g14, h⟩ := wk_g h
              refine J_iast (ws' := [(ad 0, .inr (10, [.int (zI 0), .ref (ad 1), .ref (ad 2), .ref (ad 3), .ref (ad 4), .ref (ad 5), .ref (ad 6), .int (zI (R_used + 1)), .ref (ad 7), .int (zI R_many), .ref (ad 8), .ref (ad 9), .ref (ad 10), .ref (ad 11), .ref (ad 12), .ref (ad 13), .ref (ad 14), .ref (ad 15), .ref (ad 16), .int (zI R_values), .ref (ad 17), .int (zI R_textEnd), .ref (ad 18), .ref (ad 19), .ref (ad 20), .ref (ad 21), .int (zI R_dataEnd), .ref (ad 22), .int (zI R_rowEnd), .ref (ad 23), .ref (ad 24), .int (zI R_rowMany), .ref (ad 25), .ref (ad 26), .ref (ad 27), .ref (ad 28), .int (zI R_waiting), .int (zI R_mostWaiting), .int (zI R_answer), .int (zI R_steps), .int (zI R_memory), .int (zI R_maxSteps), .int (zI R_maxMemory), .int (zI R_fault), .int (zI R_result), .int (zI R_now), .int (zI R_nowRow), .int (zI R_come), .ref (ad 29), .ref (ad 30), .int (zI R_puts), .ref (ad 31)])), (ad 1, .inl (cI, 200, .inl (zA (upZ R_kinds R_used p1)))), (ad 2, .inl (cL, 200, .inr (.inl (zB (upZ R_numbers R_used p2))))), (ad 3, .inl (cI, 200, .inl (zA (upZ R_firsts R_used (-1))))), (ad 4, .inl (cI, 200, .inl (zA (upZ R_seconds R_used (-1))))), (ad 5, .inl (cI, 200, .inl (zA R_sizes))), (ad 7, .inl (cI, 200, .inl (zA R_terms)))]) X 4 0 rfl rfl g14 d_Mod_node_128 rfl ?_
              refine J_aload_n X d_Mod_node_129 rfl 1 rfl ?_
              refine J_get X (j_in in_Mod) 0 rfl rfl 5 (by decide) (j_m own_Mod_node (by decide +kernel)) rfl d_Mod_node_130 ?_
              refine J_iload X d_Mod_node_133 0 rfl ?_
              refine J_iconst X d_Mod_node_135 ?_
              obtain ⟨g15, h⟩ := wk_g h
              refine J_iast (ws' := [(ad 0, .inr (10, [.int (zI 0), .ref (ad 1), .ref (ad 2), .ref (ad 3), .ref (ad 4), .ref (ad 5), .ref (ad 6), .int (zI (R_used + 1)), .ref (ad 7), .int (zI R_many), .ref (ad 8), .ref (ad 9), .ref (ad 10), .ref (ad 11), .ref (ad 12), .ref (ad 13), .ref (ad 14), .ref (ad 15), .ref (ad 16), .int (zI R_values), .ref (ad 17), .int (zI R_textEnd), .ref (ad 18), .ref (ad 19), .ref (ad 20), .ref (ad 21), .int (zI R_dataEnd), .ref (ad 22), .int (zI R_rowEnd), .ref (ad 23), .ref (ad 24), .int (zI R_rowMany), .ref (ad 25), .ref (ad 26), .ref (ad 27), .ref (ad 28), .int (zI R_waiting), .int (zI R_mostWaiting), .int (zI R_answer), .int (zI R_steps), .int (zI R_memory), .int (zI R_maxSteps), .int (zI R_maxMemory), .int (zI R_fault), .int (zI R_result), .int (zI R_now), .int (zI R_nowRow), .int (zI R_come), .ref (ad 29), .ref (ad 30), .int (zI R_puts), .ref (ad 31)])), (ad 1, .inl (cI, 200, .inl (zA (upZ R_kinds R_used p1)))), (ad 2, .inl (cL, 200, .inr (.inl (zB (upZ R_numbers R_used p2))))), (ad 3, .inl (cI, 200, .inl (zA (upZ R_firsts R_used (-1))))), (ad 4, .inl (cI, 200, .inl (zA (upZ R_seconds R_used (-1))))), (ad 5, .inl (cI, 200, .inl (zA (upZ R_sizes R_used 1)))), (ad 7, .inl (cI, 200, .inl (zA R_terms)))]) X 5 0 rfl rfl g15 d_Mod_node_136 rfl ?_
              refine J_iload_n X d_Mod_node_137 rfl 2 rfl ?_
              obtain ⟨r16, q17, h⟩ := wk_b h
              refine J_afterP (jrunS X (c_Mod_takes (ad := ad) q17) jF0_k (fun _ _ _ _ => trivial) (jgS own_Mod_node (by decide +kernel)) rfl rfl rfl pd_Mod_takes (by decide) [] rfl (by decide) rfl rfl (Nat.le_of_ble_eq_true rfl) d_Mod_node_138 (by decide)) ?_
              refine J_iconst X d_Mod_node_141 ?_
              refine J_icmp_ne (tgt := 195) X d_Mod_node_142 (by decide) h (fun c18 h => ?_) (fun c18 h => ?_)
              · refine J_iload_n X d_Mod_node_195 rfl 2 rfl ?_
                obtain ⟨r19, q20, h⟩ := wk_b h
                refine J_afterP (jrunS X (c_Mod_takes (ad := ad) q20) jF0_k (fun _ _ _ _ => trivial) (jgS own_Mod_node (by decide +kernel)) rfl rfl rfl pd_Mod_takes (by decide) [] rfl (by decide) rfl rfl (Nat.le_of_ble_eq_true rfl) d_Mod_node_196 (by decide)) ?_
                refine J_if_le (tgt := 252) X d_Mod_node_199 (by decide) h (fun c21 h => ?_) (fun c21 h => ?_)
                · refine J_aload_n X d_Mod_node_252 rfl 1 rfl ?_
                  refine J_get X (j_in in_Mod) 0 rfl rfl 8 (by decide) (j_m own_Mod_node (by decide +kernel)) rfl d_Mod_node_253 ?_
                  refine J_aload_n X d_Mod_node_256 rfl 1 rfl ?_
                  refine J_get X (j_in in_Mod) 0 rfl rfl 9 (by decide) (j_m own_Mod_node (by decide +kernel)) rfl d_Mod_node_257 ?_
                  refine J_iload X d_Mod_node_260 0 rfl ?_
                  obtain ⟨g22, h⟩ := wk_g h
                  refine J_iast (ws' := [(ad 0, .inr (10, [.int (zI 0), .ref (ad 1), .ref (ad 2), .ref (ad 3), .ref (ad 4), .ref (ad 5), .ref (ad 6), .int (zI (R_used + 1)), .ref (ad 7), .int (zI R_many), .ref (ad 8), .ref (ad 9), .ref (ad 10), .ref (ad 11), .ref (ad 12), .ref (ad 13), .ref (ad 14), .ref (ad 15), .ref (ad 16), .int (zI R_values), .ref (ad 17), .int (zI R_textEnd), .ref (ad 18), .ref (ad 19), .ref (ad 20), .ref (ad 21), .int (zI R_dataEnd), .ref (ad 22), .int (zI R_rowEnd), .ref (ad 23), .ref (ad 24), .int (zI R_rowMany), .ref (ad 25), .ref (ad 26), .ref (ad 27), .ref (ad 28), .int (zI R_waiting), .int (zI R_mostWaiting), .int (zI R_answer), .int (zI R_steps), .int (zI R_memory), .int (zI R_maxSteps), .int (zI R_maxMemory), .int (zI R_fault), .int (zI R_result), .int (zI R_now), .int (zI R_nowRow), .int (zI R_come), .ref (ad 29), .ref (ad 30), .int (zI R_puts), .ref (ad 31)])), (ad 1, .inl (cI, 200, .inl (zA (upZ R_kinds R_used p1)))), (ad 2, .inl (cL, 200, .inr (.inl (zB (upZ R_numbers R_used p2))))), (ad 3, .inl (cI, 200, .inl (zA (upZ R_firsts R_used (-1))))), (ad 4, .inl (cI, 200, .inl (zA (upZ R_seconds R_used (-1))))), (ad 5, .inl (cI, 200, .inl (zA (upZ R_sizes R_used 1)))), (ad 7, .inl (cI, 200, .inl (zA (upZ R_terms R_many R_used))))]) X 6 0 rfl rfl g22 d_Mod_node_262 rfl ?_
                  refine J_aload_n X d_Mod_node_263 rfl 1 rfl ?_
                  refine J_dup X d_Mod_node_264 rfl ?_
                  refine J_get X (j_in in_Mod) 0 rfl rfl 9 (by decide) (j_m own_Mod_node (by decide +kernel)) rfl d_Mod_node_265 ?_
                  refine J_iconst X d_Mod_node_268 ?_
                  refine J_iadd X d_Mod_node_269 ?_
                  refine J_put (ws' := [(ad 0, .inr (10, [.int (zI 0), .ref (ad 1), .ref (ad 2), .ref (ad 3), .ref (ad 4), .ref (ad 5), .ref (ad 6), .int (zI (R_used + 1)), .ref (ad 7), .int (zI (R_many + 1)), .ref (ad 8), .ref (ad 9), .ref (ad 10), .ref (ad 11), .ref (ad 12), .ref (ad 13), .ref (ad 14), .ref (ad 15), .ref (ad 16), .int (zI R_values), .ref (ad 17), .int (zI R_textEnd), .ref (ad 18), .ref (ad 19), .ref (ad 20), .ref (ad 21), .int (zI R_dataEnd), .ref (ad 22), .int (zI R_rowEnd), .ref (ad 23), .ref (ad 24), .int (zI R_rowMany), .ref (ad 25), .ref (ad 26), .ref (ad 27), .ref (ad 28), .int (zI R_waiting), .int (zI R_mostWaiting), .int (zI R_answer), .int (zI R_steps), .int (zI R_memory), .int (zI R_maxSteps), .int (zI R_maxMemory), .int (zI R_fault), .int (zI R_result), .int (zI R_now), .int (zI R_nowRow), .int (zI R_come), .ref (ad 29), .ref (ad 30), .int (zI R_puts), .ref (ad 31)])), (ad 1, .inl (cI, 200, .inl (zA (upZ R_kinds R_used p1)))), (ad 2, .inl (cL, 200, .inr (.inl (zB (upZ R_numbers R_used p2))))), (ad 3, .inl (cI, 200, .inl (zA (upZ R_firsts R_used (-1))))), (ad 4, .inl (cI, 200, .inl (zA (upZ R_seconds R_used (-1))))), (ad 5, .inl (cI, 200, .inl (zA (upZ R_sizes R_used 1)))), (ad 7, .inl (cI, 200, .inl (zA (upZ R_terms R_many R_used))))]) X (j_in in_Mod) ty_Mod tok_Mod nm_Mod 0 rfl rfl 9 (by decide) (j_m own_Mod_node (by decide +kernel)) rfl rfl rfl (Nat.le_of_ble_eq_true rfl) d_Mod_node_270 rfl ?_
                  refine J_aload_n X d_Mod_node_273 rfl 1 rfl ?_
                  refine J_get X (j_in in_Mod) 0 rfl rfl 9 (by decide) (j_m own_Mod_node (by decide +kernel)) rfl d_Mod_node_274 ?_
                  cases h
                  exact J_ret E ⟨_, rfl, rfl⟩ d_Mod_node_277 (Nat.le_refl _) (Nat.le_refl _) rfl
                · refine J_aload_n X d_Mod_node_202 rfl 1 rfl ?_
                  refine J_dup X d_Mod_node_203 rfl ?_
                  refine J_get X (j_in in_Mod) 0 rfl rfl 9 (by decide) (j_m own_Mod_node (by decide +kernel)) rfl d_Mod_node_204 ?_
                  refine J_iconst X d_Mod_node_207 ?_
                  refine J_isub X d_Mod_node_208 ?_
                  refine J_put (ws' := [(ad 0, .inr (10, [.int (zI 0), .ref (ad 1), .ref (ad 2), .ref (ad 3), .ref (ad 4), .ref (ad 5), .ref (ad 6), .int (zI (R_used + 1)), .ref (ad 7), .int (zI (R_many - 1)), .ref (ad 8), .ref (ad 9), .ref (ad 10), .ref (ad 11), .ref (ad 12), .ref (ad 13), .ref (ad 14), .ref (ad 15), .ref (ad 16), .int (zI R_values), .ref (ad 17), .int (zI R_textEnd), .ref (ad 18), .ref (ad 19), .ref (ad 20), .ref (ad 21), .int (zI R_dataEnd), .ref (ad 22), .int (zI R_rowEnd), .ref (ad 23), .ref (ad 24), .int (zI R_rowMany), .ref (ad 25), .ref (ad 26), .ref (ad 27), .ref (ad 28), .int (zI R_waiting), .int (zI R_mostWaiting), .int (zI R_answer), .int (zI R_steps), .int (zI R_memory), .int (zI R_maxSteps), .int (zI R_maxMemory), .int (zI R_fault), .int (zI R_result), .int (zI R_now), .int (zI R_nowRow), .int (zI R_come), .ref (ad 29), .ref (ad 30), .int (zI R_puts), .ref (ad 31)])), (ad 1, .inl (cI, 200, .inl (zA (upZ R_kinds R_used p1)))), (ad 2, .inl (cL, 200, .inr (.inl (zB (upZ R_numbers R_used p2))))), (ad 3, .inl (cI, 200, .inl (zA (upZ R_firsts R_used (-1))))), (ad 4, .inl (cI, 200, .inl (zA (upZ R_seconds R_used (-1))))), (ad 5, .inl (cI, 200, .inl (zA (upZ R_sizes R_used 1)))), (ad 7, .inl (cI, 200, .inl (zA R_terms)))]) X (j_in in_Mod) ty_Mod tok_Mod nm_Mod 0 rfl rfl 9 (by decide) (j_m own_Mod_node (by decide +kernel)) rfl rfl rfl (Nat.le_of_ble_eq_true rfl) d_Mod_node_209 rfl ?_
                  refine J_aload_n X d_Mod_node_212 rfl 1 rfl ?_
                  refine J_get X (j_in in_Mod) 0 rfl rfl 3 (by decide) (j_m own_Mod_node (by decide +kernel)) rfl d_Mod_node_213 ?_
                  refine J_iload X d_Mod_node_216 0 rfl ?_
                  refine J_aload_n X d_Mod_node_218 rfl 1 rfl ?_
                  refine J_get X (j_in in_Mod) 0 rfl rfl 8 (by decide) (j_m own_Mod_node (by decide +kernel)) rfl d_Mod_node_219 ?_
                  refine J_aload_n X d_Mod_node_222 rfl 1 rfl ?_
                  refine J_get X (j_in in_Mod) 0 rfl rfl 9 (by decide) (j_m own_Mod_node (by decide +kernel)) rfl d_Mod_node_223 ?_
                  obtain ⟨g23, h⟩ := wk_g h
                  refine J_iald X 6 0 rfl rfl g23 d_Mod_node_226 ?_
                  obtain ⟨g24, h⟩ := wk_g h
                  refine J_iast (ws' := [(ad 0, .inr (10, [.int (zI 0), .ref (ad 1), .ref (ad 2), .ref (ad 3), .ref (ad 4), .ref (ad 5), .ref (ad 6), .int (zI (R_used + 1)), .ref (ad 7), .int (zI (R_many - 1)), .ref (ad 8), .ref (ad 9), .ref (ad 10), .ref (ad 11), .ref (ad 12), .ref (ad 13), .ref (ad 14), .ref (ad 15), .ref (ad 16), .int (zI R_values), .ref (ad 17), .int (zI R_textEnd), .ref (ad 18), .ref (ad 19), .ref (ad 20), .ref (ad 21), .int (zI R_dataEnd), .ref (ad 22), .int (zI R_rowEnd), .ref (ad 23), .ref (ad 24), .int (zI R_rowMany), .ref (ad 25), .ref (ad 26), .ref (ad 27), .ref (ad 28), .int (zI R_waiting), .int (zI R_mostWaiting), .int (zI R_answer), .int (zI R_steps), .int (zI R_memory), .int (zI R_maxSteps), .int (zI R_maxMemory), .int (zI R_fault), .int (zI R_result), .int (zI R_now), .int (zI R_nowRow), .int (zI R_come), .ref (ad 29), .ref (ad 30), .int (zI R_puts), .ref (ad 31)])), (ad 1, .inl (cI, 200, .inl (zA (upZ R_kinds R_used p1)))), (ad 2, .inl (cL, 200, .inr (.inl (zB (upZ R_numbers R_used p2))))), (ad 3, .inl (cI, 200, .inl (zA (upZ (upZ R_firsts R_used (-1)) R_used (R_terms (R_many - 1)))))), (ad 4, .inl (cI, 200, .inl (zA (upZ R_seconds R_used (-1))))), (ad 5, .inl (cI, 200, .inl (zA (upZ R_sizes R_used 1)))), (ad 7, .inl (cI, 200, .inl (zA R_terms)))]) X 3 0 rfl rfl g24 d_Mod_node_227 rfl ?_
                  refine J_aload_n X d_Mod_node_228 rfl 1 rfl ?_
                  refine J_get X (j_in in_Mod) 0 rfl rfl 5 (by decide) (j_m own_Mod_node (by decide +kernel)) rfl d_Mod_node_229 ?_
                  refine J_iload X d_Mod_node_232 0 rfl ?_
                  refine J_dup2 X d_Mod_node_234 rfl rfl ?_
                  obtain ⟨g25, h⟩ := wk_g h
                  refine J_iald X 5 0 rfl rfl g25 d_Mod_node_235 ?_
                  refine J_aload_n X d_Mod_node_236 rfl 1 rfl ?_
                  refine J_get X (j_in in_Mod) 0 rfl rfl 5 (by decide) (j_m own_Mod_node (by decide +kernel)) rfl d_Mod_node_237 ?_
                  refine J_aload_n X d_Mod_node_240 rfl 1 rfl ?_
                  refine J_get X (j_in in_Mod) 0 rfl rfl 8 (by decide) (j_m own_Mod_node (by decide +kernel)) rfl d_Mod_node_241 ?_
                  refine J_aload_n X d_Mod_node_244 rfl 1 rfl ?_
                  refine J_get X (j_in in_Mod) 0 rfl rfl 9 (by decide) (j_m own_Mod_node (by decide +kernel)) rfl d_Mod_node_245 ?_
                  obtain ⟨g26, h⟩ := wk_g h
                  refine J_iald X 6 0 rfl rfl g26 d_Mod_node_248 ?_
                  obtain ⟨g27, h⟩ := wk_g h
                  refine J_iald X 5 0 rfl rfl g27 d_Mod_node_249 ?_
                  refine J_iadd X d_Mod_node_250 ?_
                  obtain ⟨g28, h⟩ := wk_g h
                  refine J_iast (ws' := [(ad 0, .inr (10, [.int (zI 0), .ref (ad 1), .ref (ad 2), .ref (ad 3), .ref (ad 4), .ref (ad 5), .ref (ad 6), .int (zI (R_used + 1)), .ref (ad 7), .int (zI (R_many - 1)), .ref (ad 8), .ref (ad 9), .ref (ad 10), .ref (ad 11), .ref (ad 12), .ref (ad 13), .ref (ad 14), .ref (ad 15), .ref (ad 16), .int (zI R_values), .ref (ad 17), .int (zI R_textEnd), .ref (ad 18), .ref (ad 19), .ref (ad 20), .ref (ad 21), .int (zI R_dataEnd), .ref (ad 22), .int (zI R_rowEnd), .ref (ad 23), .ref (ad 24), .int (zI R_rowMany), .ref (ad 25), .ref (ad 26), .ref (ad 27), .ref (ad 28), .int (zI R_waiting), .int (zI R_mostWaiting), .int (zI R_answer), .int (zI R_steps), .int (zI R_memory), .int (zI R_maxSteps), .int (zI R_maxMemory), .int (zI R_fault), .int (zI R_result), .int (zI R_now), .int (zI R_nowRow), .int (zI R_come), .ref (ad 29), .ref (ad 30), .int (zI R_puts), .ref (ad 31)])), (ad 1, .inl (cI, 200, .inl (zA (upZ R_kinds R_used p1)))), (ad 2, .inl (cL, 200, .inr (.inl (zB (upZ R_numbers R_used p2))))), (ad 3, .inl (cI, 200, .inl (zA (upZ (upZ R_firsts R_used (-1)) R_used (R_terms (R_many - 1)))))), (ad 4, .inl (cI, 200, .inl (zA (upZ R_seconds R_used (-1))))), (ad 5, .inl (cI, 200, .inl (zA (upZ (upZ R_sizes R_used 1) R_used (((upZ R_sizes R_used 1) R_used) + ((upZ R_sizes R_used 1) (R_terms (R_many - 1)))))))), (ad 7, .inl (cI, 200, .inl (zA R_terms)))]) X 5 0 rfl rfl g28 d_Mod_node_251 rfl ?_
                  refine J_aload_n X d_Mod_node_252 rfl 1 rfl ?_
                  refine J_get X (j_in in_Mod) 0 rfl rfl 8 (by decide) (j_m own_Mod_node (by decide +kernel)) rfl d_Mod_node_253 ?_
                  refine J_aload_n X d_Mod_node_256 rfl 1 rfl ?_
                  refine J_get X (j_in in_Mod) 0 rfl rfl 9 (by decide) (j_m own_Mod_node (by decide +kernel)) rfl d_Mod_node_257 ?_
                  refine J_iload X d_Mod_node_260 0 rfl ?_
                  obtain ⟨g29, h⟩ := wk_g h
                  refine J_iast (ws' := [(ad 0, .inr (10, [.int (zI 0), .ref (ad 1), .ref (ad 2), .ref (ad 3), .ref (ad 4), .ref (ad 5), .ref (ad 6), .int (zI (R_used + 1)), .ref (ad 7), .int (zI (R_many - 1)), .ref (ad 8), .ref (ad 9), .ref (ad 10), .ref (ad 11), .ref (ad 12), .ref (ad 13), .ref (ad 14), .ref (ad 15), .ref (ad 16), .int (zI R_values), .ref (ad 17), .int (zI R_textEnd), .ref (ad 18), .ref (ad 19), .ref (ad 20), .ref (ad 21), .int (zI R_dataEnd), .ref (ad 22), .int (zI R_rowEnd), .ref (ad 23), .ref (ad 24), .int (zI R_rowMany), .ref (ad 25), .ref (ad 26), .ref (ad 27), .ref (ad 28), .int (zI R_waiting), .int (zI R_mostWaiting), .int (zI R_answer), .int (zI R_steps), .int (zI R_memory), .int (zI R_maxSteps), .int (zI R_maxMemory), .int (zI R_fault), .int (zI R_result), .int (zI R_now), .int (zI R_nowRow), .int (zI R_come), .ref (ad 29), .ref (ad 30), .int (zI R_puts), .ref (ad 31)])), (ad 1, .inl (cI, 200, .inl (zA (upZ R_kinds R_used p1)))), (ad 2, .inl (cL, 200, .inr (.inl (zB (upZ R_numbers R_used p2))))), (ad 3, .inl (cI, 200, .inl (zA (upZ (upZ R_firsts R_used (-1)) R_used (R_terms (R_many - 1)))))), (ad 4, .inl (cI, 200, .inl (zA (upZ R_seconds R_used (-1))))), (ad 5, .inl (cI, 200, .inl (zA (upZ (upZ R_sizes R_used 1) R_used (((upZ R_sizes R_used 1) R_used) + ((upZ R_sizes R_used 1) (R_terms (R_many - 1)))))))), (ad 7, .inl (cI, 200, .inl (zA (upZ R_terms (R_many - 1) R_used))))]) X 6 0 rfl rfl g29 d_Mod_node_262 rfl ?_
                  refine J_aload_n X d_Mod_node_263 rfl 1 rfl ?_
                  refine J_dup X d_Mod_node_264 rfl ?_
                  refine J_get X (j_in in_Mod) 0 rfl rfl 9 (by decide) (j_m own_Mod_node (by decide +kernel)) rfl d_Mod_node_265 ?_
                  refine J_iconst X d_Mod_node_268 ?_
                  refine J_iadd X d_Mod_node_269 ?_
                  refine J_put (ws' := [(ad 0, .inr (10, [.int (zI 0), .ref (ad 1), .ref (ad 2), .ref (ad 3), .ref (ad 4), .ref (ad 5), .ref (ad 6), .int (zI (R_used + 1)), .ref (ad 7), .int (zI ((R_many - 1) + 1)), .ref (ad 8), .ref (ad 9), .ref (ad 10), .ref (ad 11), .ref (ad 12), .ref (ad 13), .ref (ad 14), .ref (ad 15), .ref (ad 16), .int (zI R_values), .ref (ad 17), .int (zI R_textEnd), .ref (ad 18), .ref (ad 19), .ref (ad 20), .ref (ad 21), .int (zI R_dataEnd), .ref (ad 22), .int (zI R_rowEnd), .ref (ad 23), .ref (ad 24), .int (zI R_rowMany), .ref (ad 25), .ref (ad 26), .ref (ad 27), .ref (ad 28), .int (zI R_waiting), .int (zI R_mostWaiting), .int (zI R_answer), .int (zI R_steps), .int (zI R_memory), .int (zI R_maxSteps), .int (zI R_maxMemory), .int (zI R_fault), .int (zI R_result), .int (zI R_now), .int (zI R_nowRow), .int (zI R_come), .ref (ad 29), .ref (ad 30), .int (zI R_puts), .ref (ad 31)])), (ad 1, .inl (cI, 200, .inl (zA (upZ R_kinds R_used p1)))), (ad 2, .inl (cL, 200, .inr (.inl (zB (upZ R_numbers R_used p2))))), (ad 3, .inl (cI, 200, .inl (zA (upZ (upZ R_firsts R_used (-1)) R_used (R_terms (R_many - 1)))))), (ad 4, .inl (cI, 200, .inl (zA (upZ R_seconds R_used (-1))))), (ad 5, .inl (cI, 200, .inl (zA (upZ (upZ R_sizes R_used 1) R_used (((upZ R_sizes R_used 1) R_used) + ((upZ R_sizes R_used 1) (R_terms (R_many - 1)))))))), (ad 7, .inl (cI, 200, .inl (zA (upZ R_terms (R_many - 1) R_used))))]) X (j_in in_Mod) ty_Mod tok_Mod nm_Mod 0 rfl rfl 9 (by decide) (j_m own_Mod_node (by decide +kernel)) rfl rfl rfl (Nat.le_of_ble_eq_true rfl) d_Mod_node_270 rfl ?_
                  refine J_aload_n X d_Mod_node_273 rfl 1 rfl ?_
                  refine J_get X (j_in in_Mod) 0 rfl rfl 9 (by decide) (j_m own_Mod_node (by decide +kernel)) rfl d_Mod_node_274 ?_
                  cases h
                  exact J_ret E ⟨_, rfl, rfl⟩ d_Mod_node_277 (Nat.le_refl _) (Nat.le_refl _) rfl
              · refine J_aload_n X d_Mod_node_145 rfl 1 rfl ?_
                refine J_dup X d_Mod_node_146 rfl ?_
                refine J_get X (j_in in_Mod) 0 rfl rfl 9 (by decide) (j_m own_Mod_node (by decide +kernel)) rfl d_Mod_node_147 ?_
                refine J_iconst X d_Mod_node_150 ?_
                refine J_isub X d_Mod_node_151 ?_
                refine J_put (ws' := [(ad 0, .inr (10, [.int (zI 0), .ref (ad 1), .ref (ad 2), .ref (ad 3), .ref (ad 4), .ref (ad 5), .ref (ad 6), .int (zI (R_used + 1)), .ref (ad 7), .int (zI (R_many - 1)), .ref (ad 8), .ref (ad 9), .ref (ad 10), .ref (ad 11), .ref (ad 12), .ref (ad 13), .ref (ad 14), .ref (ad 15), .ref (ad 16), .int (zI R_values), .ref (ad 17), .int (zI R_textEnd), .ref (ad 18), .ref (ad 19), .ref (ad 20), .ref (ad 21), .int (zI R_dataEnd), .ref (ad 22), .int (zI R_rowEnd), .ref (ad 23), .ref (ad 24), .int (zI R_rowMany), .ref (ad 25), .ref (ad 26), .ref (ad 27), .ref (ad 28), .int (zI R_waiting), .int (zI R_mostWaiting), .int (zI R_answer), .int (zI R_steps), .int (zI R_memory), .int (zI R_maxSteps), .int (zI R_maxMemory), .int (zI R_fault), .int (zI R_result), .int (zI R_now), .int (zI R_nowRow), .int (zI R_come), .ref (ad 29), .ref (ad 30), .int (zI R_puts), .ref (ad 31)])), (ad 1, .inl (cI, 200, .inl (zA (upZ R_kinds R_used p1)))), (ad 2, .inl (cL, 200, .inr (.inl (zB (upZ R_numbers R_used p2))))), (ad 3, .inl (cI, 200, .inl (zA (upZ R_firsts R_used (-1))))), (ad 4, .inl (cI, 200, .inl (zA (upZ R_seconds R_used (-1))))), (ad 5, .inl (cI, 200, .inl (zA (upZ R_sizes R_used 1)))), (ad 7, .inl (cI, 200, .inl (zA R_terms)))]) X (j_in in_Mod) ty_Mod tok_Mod nm_Mod 0 rfl rfl 9 (by decide) (j_m own_Mod_node (by decide +kernel)) rfl rfl rfl (Nat.le_of_ble_eq_true rfl) d_Mod_node_152 rfl ?_
                refine J_aload_n X d_Mod_node_155 rfl 1 rfl ?_
                refine J_get X (j_in in_Mod) 0 rfl rfl 4 (by decide) (j_m own_Mod_node (by decide +kernel)) rfl d_Mod_node_156 ?_
                refine J_iload X d_Mod_node_159 0 rfl ?_
                refine J_aload_n X d_Mod_node_161 rfl 1 rfl ?_
                refine J_get X (j_in in_Mod) 0 rfl rfl 8 (by decide) (j_m own_Mod_node (by decide +kernel)) rfl d_Mod_node_162 ?_
                refine J_aload_n X d_Mod_node_165 rfl 1 rfl ?_
                refine J_get X (j_in in_Mod) 0 rfl rfl 9 (by decide) (j_m own_Mod_node (by decide +kernel)) rfl d_Mod_node_166 ?_
                obtain ⟨g30, h⟩ := wk_g h
                refine J_iald X 6 0 rfl rfl g30 d_Mod_node_169 ?_
                obtain ⟨g31, h⟩ := wk_g h
                refine J_iast (ws' := [(ad 0, .inr (10, [.int (zI 0), .ref (ad 1), .ref (ad 2), .ref (ad 3), .ref (ad 4), .ref (ad 5), .ref (ad 6), .int (zI (R_used + 1)), .ref (ad 7), .int (zI (R_many - 1)), .ref (ad 8), .ref (ad 9), .ref (ad 10), .ref (ad 11), .ref (ad 12), .ref (ad 13), .ref (ad 14), .ref (ad 15), .ref (ad 16), .int (zI R_values), .ref (ad 17), .int (zI R_textEnd), .ref (ad 18), .ref (ad 19), .ref (ad 20), .ref (ad 21), .int (zI R_dataEnd), .ref (ad 22), .int (zI R_rowEnd), .ref (ad 23), .ref (ad 24), .int (zI R_rowMany), .ref (ad 25), .ref (ad 26), .ref (ad 27), .ref (ad 28), .int (zI R_waiting), .int (zI R_mostWaiting), .int (zI R_answer), .int (zI R_steps), .int (zI R_memory), .int (zI R_maxSteps), .int (zI R_maxMemory), .int (zI R_fault), .int (zI R_result), .int (zI R_now), .int (zI R_nowRow), .int (zI R_come), .ref (ad 29), .ref (ad 30), .int (zI R_puts), .ref (ad 31)])), (ad 1, .inl (cI, 200, .inl (zA (upZ R_kinds R_used p1)))), (ad 2, .inl (cL, 200, .inr (.inl (zB (upZ R_numbers R_used p2))))), (ad 3, .inl (cI, 200, .inl (zA (upZ R_firsts R_used (-1))))), (ad 4, .inl (cI, 200, .inl (zA (upZ (upZ R_seconds R_used (-1)) R_used (R_terms (R_many - 1)))))), (ad 5, .inl (cI, 200, .inl (zA (upZ R_sizes R_used 1)))), (ad 7, .inl (cI, 200, .inl (zA R_terms)))]) X 4 0 rfl rfl g31 d_Mod_node_170 rfl ?_
                refine J_aload_n X d_Mod_node_171 rfl 1 rfl ?_
                refine J_get X (j_in in_Mod) 0 rfl rfl 5 (by decide) (j_m own_Mod_node (by decide +kernel)) rfl d_Mod_node_172 ?_
                refine J_iload X d_Mod_node_175 0 rfl ?_
                refine J_dup2 X d_Mod_node_177 rfl rfl ?_
                obtain ⟨g32, h⟩ := wk_g h
                refine J_iald X 5 0 rfl rfl g32 d_Mod_node_178 ?_
                refine J_aload_n X d_Mod_node_179 rfl 1 rfl ?_
                refine J_get X (j_in in_Mod) 0 rfl rfl 5 (by decide) (j_m own_Mod_node (by decide +kernel)) rfl d_Mod_node_180 ?_
                refine J_aload_n X d_Mod_node_183 rfl 1 rfl ?_
                refine J_get X (j_in in_Mod) 0 rfl rfl 8 (by decide) (j_m own_Mod_node (by decide +kernel)) rfl d_Mod_node_184 ?_
                refine J_aload_n X d_Mod_node_187 rfl 1 rfl ?_
                refine J_get X (j_in in_Mod) 0 rfl rfl 9 (by decide) (j_m own_Mod_node (by decide +kernel)) rfl d_Mod_node_188 ?_
                obtain ⟨g33, h⟩ := wk_g h
                refine J_iald X 6 0 rfl rfl g33 d_Mod_node_191 ?_
                obtain ⟨g34, h⟩ := wk_g h
                refine J_iald X 5 0 rfl rfl g34 d_Mod_node_192 ?_
                refine J_iadd X d_Mod_node_193 ?_
                obtain ⟨g35, h⟩ := wk_g h
                refine J_iast (ws' := [(ad 0, .inr (10, [.int (zI 0), .ref (ad 1), .ref (ad 2), .ref (ad 3), .ref (ad 4), .ref (ad 5), .ref (ad 6), .int (zI (R_used + 1)), .ref (ad 7), .int (zI (R_many - 1)), .ref (ad 8), .ref (ad 9), .ref (ad 10), .ref (ad 11), .ref (ad 12), .ref (ad 13), .ref (ad 14), .ref (ad 15), .ref (ad 16), .int (zI R_values), .ref (ad 17), .int (zI R_textEnd), .ref (ad 18), .ref (ad 19), .ref (ad 20), .ref (ad 21), .int (zI R_dataEnd), .ref (ad 22), .int (zI R_rowEnd), .ref (ad 23), .ref (ad 24), .int (zI R_rowMany), .ref (ad 25), .ref (ad 26), .ref (ad 27), .ref (ad 28), .int (zI R_waiting), .int (zI R_mostWaiting), .int (zI R_answer), .int (zI R_steps), .int (zI R_memory), .int (zI R_maxSteps), .int (zI R_maxMemory), .int (zI R_fault), .int (zI R_result), .int (zI R_now), .int (zI R_nowRow), .int (zI R_come), .ref (ad 29), .ref (ad 30), .int (zI R_puts), .ref (ad 31)])), (ad 1, .inl (cI, 200, .inl (zA (upZ R_kinds R_used p1)))), (ad 2, .inl (cL, 200, .inr (.inl (zB (upZ R_numbers R_used p2))))), (ad 3, .inl (cI, 200, .inl (zA (upZ R_firsts R_used (-1))))), (ad 4, .inl (cI, 200, .inl (zA (upZ (upZ R_seconds R_used (-1)) R_used (R_terms (R_many - 1)))))), (ad 5, .inl (cI, 200, .inl (zA (upZ (upZ R_sizes R_used 1) R_used (((upZ R_sizes R_used 1) R_used) + ((upZ R_sizes R_used 1) (R_terms (R_many - 1)))))))), (ad 7, .inl (cI, 200, .inl (zA R_terms)))]) X 5 0 rfl rfl g35 d_Mod_node_194 rfl ?_
                refine J_iload_n X d_Mod_node_195 rfl 2 rfl ?_
                obtain ⟨r36, q37, h⟩ := wk_b h
                refine J_afterP (jrunS X (c_Mod_takes (ad := ad) q37) jF0_k (fun _ _ _ _ => trivial) (jgS own_Mod_node (by decide +kernel)) rfl rfl rfl pd_Mod_takes (by decide) [] rfl (by decide) rfl rfl (Nat.le_of_ble_eq_true rfl) d_Mod_node_196 (by decide)) ?_
                refine J_if_le (tgt := 252) X d_Mod_node_199 (by decide) h (fun c38 h => ?_) (fun c38 h => ?_)
                · refine J_aload_n X d_Mod_node_252 rfl 1 rfl ?_
                  refine J_get X (j_in in_Mod) 0 rfl rfl 8 (by decide) (j_m own_Mod_node (by decide +kernel)) rfl d_Mod_node_253 ?_
                  refine J_aload_n X d_Mod_node_256 rfl 1 rfl ?_
                  refine J_get X (j_in in_Mod) 0 rfl rfl 9 (by decide) (j_m own_Mod_node (by decide +kernel)) rfl d_Mod_node_257 ?_
                  refine J_iload X d_Mod_node_260 0 rfl ?_
                  obtain ⟨g39, h⟩ := wk_g h
                  refine J_iast (ws' := [(ad 0, .inr (10, [.int (zI 0), .ref (ad 1), .ref (ad 2), .ref (ad 3), .ref (ad 4), .ref (ad 5), .ref (ad 6), .int (zI (R_used + 1)), .ref (ad 7), .int (zI (R_many - 1)), .ref (ad 8), .ref (ad 9), .ref (ad 10), .ref (ad 11), .ref (ad 12), .ref (ad 13), .ref (ad 14), .ref (ad 15), .ref (ad 16), .int (zI R_values), .ref (ad 17), .int (zI R_textEnd), .ref (ad 18), .ref (ad 19), .ref (ad 20), .ref (ad 21), .int (zI R_dataEnd), .ref (ad 22), .int (zI R_rowEnd), .ref (ad 23), .ref (ad 24), .int (zI R_rowMany), .ref (ad 25), .ref (ad 26), .ref (ad 27), .ref (ad 28), .int (zI R_waiting), .int (zI R_mostWaiting), .int (zI R_answer), .int (zI R_steps), .int (zI R_memory), .int (zI R_maxSteps), .int (zI R_maxMemory), .int (zI R_fault), .int (zI R_result), .int (zI R_now), .int (zI R_nowRow), .int (zI R_come), .ref (ad 29), .ref (ad 30), .int (zI R_puts), .ref (ad 31)])), (ad 1, .inl (cI, 200, .inl (zA (upZ R_kinds R_used p1)))), (ad 2, .inl (cL, 200, .inr (.inl (zB (upZ R_numbers R_used p2))))), (ad 3, .inl (cI, 200, .inl (zA (upZ R_firsts R_used (-1))))), (ad 4, .inl (cI, 200, .inl (zA (upZ (upZ R_seconds R_used (-1)) R_used (R_terms (R_many - 1)))))), (ad 5, .inl (cI, 200, .inl (zA (upZ (upZ R_sizes R_used 1) R_used (((upZ R_sizes R_used 1) R_used) + ((upZ R_sizes R_used 1) (R_terms (R_many - 1)))))))), (ad 7, .inl (cI, 200, .inl (zA (upZ R_terms (R_many - 1) R_used))))]) X 6 0 rfl rfl g39 d_Mod_node_262 rfl ?_
                  refine J_aload_n X d_Mod_node_263 rfl 1 rfl ?_
                  refine J_dup X d_Mod_node_264 rfl ?_
                  refine J_get X (j_in in_Mod) 0 rfl rfl 9 (by decide) (j_m own_Mod_node (by decide +kernel)) rfl d_Mod_node_265 ?_
                  refine J_iconst X d_Mod_node_268 ?_
                  refine J_iadd X d_Mod_node_269 ?_
                  refine J_put (ws' := [(ad 0, .inr (10, [.int (zI 0), .ref (ad 1), .ref (ad 2), .ref (ad 3), .ref (ad 4), .ref (ad 5), .ref (ad 6), .int (zI (R_used + 1)), .ref (ad 7), .int (zI ((R_many - 1) + 1)), .ref (ad 8), .ref (ad 9), .ref (ad 10), .ref (ad 11), .ref (ad 12), .ref (ad 13), .ref (ad 14), .ref (ad 15), .ref (ad 16), .int (zI R_values), .ref (ad 17), .int (zI R_textEnd), .ref (ad 18), .ref (ad 19), .ref (ad 20), .ref (ad 21), .int (zI R_dataEnd), .ref (ad 22), .int (zI R_rowEnd), .ref (ad 23), .ref (ad 24), .int (zI R_rowMany), .ref (ad 25), .ref (ad 26), .ref (ad 27), .ref (ad 28), .int (zI R_waiting), .int (zI R_mostWaiting), .int (zI R_answer), .int (zI R_steps), .int (zI R_memory), .int (zI R_maxSteps), .int (zI R_maxMemory), .int (zI R_fault), .int (zI R_result), .int (zI R_now), .int (zI R_nowRow), .int (zI R_come), .ref (ad 29), .ref (ad 30), .int (zI R_puts), .ref (ad 31)])), (ad 1, .inl (cI, 200, .inl (zA (upZ R_kinds R_used p1)))), (ad 2, .inl (cL, 200, .inr (.inl (zB (upZ R_numbers R_used p2))))), (ad 3, .inl (cI, 200, .inl (zA (upZ R_firsts R_used (-1))))), (ad 4, .inl (cI, 200, .inl (zA (upZ (upZ R_seconds R_used (-1)) R_used (R_terms (R_many - 1)))))), (ad 5, .inl (cI, 200, .inl (zA (upZ (upZ R_sizes R_used 1) R_used (((upZ R_sizes R_used 1) R_used) + ((upZ R_sizes R_used 1) (R_terms (R_many - 1)))))))), (ad 7, .inl (cI, 200, .inl (zA (upZ R_terms (R_many - 1) R_used))))]) X (j_in in_Mod) ty_Mod tok_Mod nm_Mod 0 rfl rfl 9 (by decide) (j_m own_Mod_node (by decide +kernel)) rfl rfl rfl (Nat.le_of_ble_eq_true rfl) d_Mod_node_270 rfl ?_
                  refine J_aload_n X d_Mod_node_273 rfl 1 rfl ?_
                  refine J_get X (j_in in_Mod) 0 rfl rfl 9 (by decide) (j_m own_Mod_node (by decide +kernel)) rfl d_Mod_node_274 ?_
                  cases h
                  exact J_ret E ⟨_, rfl, rfl⟩ d_Mod_node_277 (Nat.le_refl _) (Nat.le_refl _) rfl
                · refine J_aload_n X d_Mod_node_202 rfl 1 rfl ?_
                  refine J_dup X d_Mod_node_203 rfl ?_
                  refine J_get X (j_in in_Mod) 0 rfl rfl 9 (by decide) (j_m own_Mod_node (by decide +kernel)) rfl d_Mod_node_204 ?_
                  refine J_iconst X d_Mod_node_207 ?_
                  refine J_isub X d_Mod_node_208 ?_
                  refine J_put (ws' := [(ad 0, .inr (10, [.int (zI 0), .ref (ad 1), .ref (ad 2), .ref (ad 3), .ref (ad 4), .ref (ad 5), .ref (ad 6), .int (zI (R_used + 1)), .ref (ad 7), .int (zI ((R_many - 1) - 1)), .ref (ad 8), .ref (ad 9), .ref (ad 10), .ref (ad 11), .ref (ad 12), .ref (ad 13), .ref (ad 14), .ref (ad 15), .ref (ad 16), .int (zI R_values), .ref (ad 17), .int (zI R_textEnd), .ref (ad 18), .ref (ad 19), .ref (ad 20), .ref (ad 21), .int (zI R_dataEnd), .ref (ad 22), .int (zI R_rowEnd), .ref (ad 23), .ref (ad 24), .int (zI R_rowMany), .ref (ad 25), .ref (ad 26), .ref (ad 27), .ref (ad 28), .int (zI R_waiting), .int (zI R_mostWaiting), .int (zI R_answer), .int (zI R_steps), .int (zI R_memory), .int (zI R_maxSteps), .int (zI R_maxMemory), .int (zI R_fault), .int (zI R_result), .int (zI R_now), .int (zI R_nowRow), .int (zI R_come), .ref (ad 29), .ref (ad 30), .int (zI R_puts), .ref (ad 31)])), (ad 1, .inl (cI, 200, .inl (zA (upZ R_kinds R_used p1)))), (ad 2, .inl (cL, 200, .inr (.inl (zB (upZ R_numbers R_used p2))))), (ad 3, .inl (cI, 200, .inl (zA (upZ R_firsts R_used (-1))))), (ad 4, .inl (cI, 200, .inl (zA (upZ (upZ R_seconds R_used (-1)) R_used (R_terms (R_many - 1)))))), (ad 5, .inl (cI, 200, .inl (zA (upZ (upZ R_sizes R_used 1) R_used (((upZ R_sizes R_used 1) R_used) + ((upZ R_sizes R_used 1) (R_terms (R_many - 1)))))))), (ad 7, .inl (cI, 200, .inl (zA R_terms)))]) X (j_in in_Mod) ty_Mod tok_Mod nm_Mod 0 rfl rfl 9 (by decide) (j_m own_Mod_node (by decide +kernel)) rfl rfl rfl (Nat.le_of_ble_eq_true rfl) d_Mod_node_209 rfl ?_
                  refine J_aload_n X d_Mod_node_212 rfl 1 rfl ?_
                  refine J_get X (j_in in_Mod) 0 rfl rfl 3 (by decide) (j_m own_Mod_node (by decide +kernel)) rfl d_Mod_node_213 ?_
                  refine J_iload X d_Mod_node_216 0 rfl ?_
                  refine J_aload_n X d_Mod_node_218 rfl 1 rfl ?_
                  refine J_get X (j_in in_Mod) 0 rfl rfl 8 (by decide) (j_m own_Mod_node (by decide +kernel)) rfl d_Mod_node_219 ?_
                  refine J_aload_n X d_Mod_node_222 rfl 1 rfl ?_
                  refine J_get X (j_in in_Mod) 0 rfl rfl 9 (by decide) (j_m own_Mod_node (by decide +kernel)) rfl d_Mod_node_223 ?_
                  obtain ⟨g40, h⟩ := wk_g h
                  refine J_iald X 6 0 rfl rfl g40 d_Mod_node_226 ?_
                  obtain ⟨g41, h⟩ := wk_g h
                  refine J_iast (ws' := [(ad 0, .inr (10, [.int (zI 0), .ref (ad 1), .ref (ad 2), .ref (ad 3), .ref (ad 4), .ref (ad 5), .ref (ad 6), .int (zI (R_used + 1)), .ref (ad 7), .int (zI ((R_many - 1) - 1)), .ref (ad 8), .ref (ad 9), .ref (ad 10), .ref (ad 11), .ref (ad 12), .ref (ad 13), .ref (ad 14), .ref (ad 15), .ref (ad 16), .int (zI R_values), .ref (ad 17), .int (zI R_textEnd), .ref (ad 18), .ref (ad 19), .ref (ad 20), .ref (ad 21), .int (zI R_dataEnd), .ref (ad 22), .int (zI R_rowEnd), .ref (ad 23), .ref (ad 24), .int (zI R_rowMany), .ref (ad 25), .ref (ad 26), .ref (ad 27), .ref (ad 28), .int (zI R_waiting), .int (zI R_mostWaiting), .int (zI R_answer), .int (zI R_steps), .int (zI R_memory), .int (zI R_maxSteps), .int (zI R_maxMemory), .int (zI R_fault), .int (zI R_result), .int (zI R_now), .int (zI R_nowRow), .int (zI R_come), .ref (ad 29), .ref (ad 30), .int (zI R_puts), .ref (ad 31)])), (ad 1, .inl (cI, 200, .inl (zA (upZ R_kinds R_used p1)))), (ad 2, .inl (cL, 200, .inr (.inl (zB (upZ R_numbers R_used p2))))), (ad 3, .inl (cI, 200, .inl (zA (upZ (upZ R_firsts R_used (-1)) R_used (R_terms ((R_many - 1) - 1)))))), (ad 4, .inl (cI, 200, .inl (zA (upZ (upZ R_seconds R_used (-1)) R_used (R_terms (R_many - 1)))))), (ad 5, .inl (cI, 200, .inl (zA (upZ (upZ R_sizes R_used 1) R_used (((upZ R_sizes R_used 1) R_used) + ((upZ R_sizes R_used 1) (R_terms (R_many - 1)))))))), (ad 7, .inl (cI, 200, .inl (zA R_terms)))]) X 3 0 rfl rfl g41 d_Mod_node_227 rfl ?_
                  refine J_aload_n X d_Mod_node_228 rfl 1 rfl ?_
                  refine J_get X (j_in in_Mod) 0 rfl rfl 5 (by decide) (j_m own_Mod_node (by decide +kernel)) rfl d_Mod_node_229 ?_
                  refine J_iload X d_Mod_node_232 0 rfl ?_
                  refine J_dup2 X d_Mod_node_234 rfl rfl ?_
                  obtain ⟨g42, h⟩ := wk_g h
                  refine J_iald X 5 0 rfl rfl g42 d_Mod_node_235 ?_
                  refine J_aload_n X d_Mod_node_236 rfl 1 rfl ?_
                  refine J_get X (j_in in_Mod) 0 rfl rfl 5 (by decide) (j_m own_Mod_node (by decide +kernel)) rfl d_Mod_node_237 ?_
                  refine J_aload_n X d_Mod_node_240 rfl 1 rfl ?_
                  refine J_get X (j_in in_Mod) 0 rfl rfl 8 (by decide) (j_m own_Mod_node (by decide +kernel)) rfl d_Mod_node_241 ?_
                  refine J_aload_n X d_Mod_node_244 rfl 1 rfl ?_
                  refine J_get X (j_in in_Mod) 0 rfl rfl 9 (by decide) (j_m own_Mod_node (by decide +kernel)) rfl d_Mod_node_245 ?_
                  obtain ⟨g43, h⟩ := wk_g h
                  refine J_iald X 6 0 rfl rfl g43 d_Mod_node_248 ?_
                  obtain ⟨g44, h⟩ := wk_g h
                  refine J_iald X 5 0 rfl rfl g44 d_Mod_node_249 ?_
                  refine J_iadd X d_Mod_node_250 ?_
                  obtain ⟨g45, h⟩ := wk_g h
                  refine J_iast (ws' := [(ad 0, .inr (10, [.int (zI 0), .ref (ad 1), .ref (ad 2), .ref (ad 3), .ref (ad 4), .ref (ad 5), .ref (ad 6), .int (zI (R_used + 1)), .ref (ad 7), .int (zI ((R_many - 1) - 1)), .ref (ad 8), .ref (ad 9), .ref (ad 10), .ref (ad 11), .ref (ad 12), .ref (ad 13), .ref (ad 14), .ref (ad 15), .ref (ad 16), .int (zI R_values), .ref (ad 17), .int (zI R_textEnd), .ref (ad 18), .ref (ad 19), .ref (ad 20), .ref (ad 21), .int (zI R_dataEnd), .ref (ad 22), .int (zI R_rowEnd), .ref (ad 23), .ref (ad 24), .int (zI R_rowMany), .ref (ad 25), .ref (ad 26), .ref (ad 27), .ref (ad 28), .int (zI R_waiting), .int (zI R_mostWaiting), .int (zI R_answer), .int (zI R_steps), .int (zI R_memory), .int (zI R_maxSteps), .int (zI R_maxMemory), .int (zI R_fault), .int (zI R_result), .int (zI R_now), .int (zI R_nowRow), .int (zI R_come), .ref (ad 29), .ref (ad 30), .int (zI R_puts), .ref (ad 31)])), (ad 1, .inl (cI, 200, .inl (zA (upZ R_kinds R_used p1)))), (ad 2, .inl (cL, 200, .inr (.inl (zB (upZ R_numbers R_used p2))))), (ad 3, .inl (cI, 200, .inl (zA (upZ (upZ R_firsts R_used (-1)) R_used (R_terms ((R_many - 1) - 1)))))), (ad 4, .inl (cI, 200, .inl (zA (upZ (upZ R_seconds R_used (-1)) R_used (R_terms (R_many - 1)))))), (ad 5, .inl (cI, 200, .inl (zA (upZ (upZ (upZ R_sizes R_used 1) R_used (((upZ R_sizes R_used 1) R_used) + ((upZ R_sizes R_used 1) (R_terms (R_many - 1))))) R_used (((upZ (upZ R_sizes R_used 1) R_used (((upZ R_sizes R_used 1) R_used) + ((upZ R_sizes R_used 1) (R_terms (R_many - 1))))) R_used) + ((upZ (upZ R_sizes R_used 1) R_used (((upZ R_sizes R_used 1) R_used) + ((upZ R_sizes R_used 1) (R_terms (R_many - 1))))) (R_terms ((R_many - 1) - 1)))))))), (ad 7, .inl (cI, 200, .inl (zA R_terms)))]) X 5 0 rfl rfl g45 d_Mod_node_251 rfl ?_
                  refine J_aload_n X d_Mod_node_252 rfl 1 rfl ?_
                  refine J_get X (j_in in_Mod) 0 rfl rfl 8 (by decide) (j_m own_Mod_node (by decide +kernel)) rfl d_Mod_node_253 ?_
                  refine J_aload_n X d_Mod_node_256 rfl 1 rfl ?_
                  refine J_get X (j_in in_Mod) 0 rfl rfl 9 (by decide) (j_m own_Mod_node (by decide +kernel)) rfl d_Mod_node_257 ?_
                  refine J_iload X d_Mod_node_260 0 rfl ?_
                  obtain ⟨g46, h⟩ := wk_g h
                  refine J_iast (ws' := [(ad 0, .inr (10, [.int (zI 0), .ref (ad 1), .ref (ad 2), .ref (ad 3), .ref (ad 4), .ref (ad 5), .ref (ad 6), .int (zI (R_used + 1)), .ref (ad 7), .int (zI ((R_many - 1) - 1)), .ref (ad 8), .ref (ad 9), .ref (ad 10), .ref (ad 11), .ref (ad 12), .ref (ad 13), .ref (ad 14), .ref (ad 15), .ref (ad 16), .int (zI R_values), .ref (ad 17), .int (zI R_textEnd), .ref (ad 18), .ref (ad 19), .ref (ad 20), .ref (ad 21), .int (zI R_dataEnd), .ref (ad 22), .int (zI R_rowEnd), .ref (ad 23), .ref (ad 24), .int (zI R_rowMany), .ref (ad 25), .ref (ad 26), .ref (ad 27), .ref (ad 28), .int (zI R_waiting), .int (zI R_mostWaiting), .int (zI R_answer), .int (zI R_steps), .int (zI R_memory), .int (zI R_maxSteps), .int (zI R_maxMemory), .int (zI R_fault), .int (zI R_result), .int (zI R_now), .int (zI R_nowRow), .int (zI R_come), .ref (ad 29), .ref (ad 30), .int (zI R_puts), .ref (ad 31)])), (ad 1, .inl (cI, 200, .inl (zA (upZ R_kinds R_used p1)))), (ad 2, .inl (cL, 200, .inr (.inl (zB (upZ R_numbers R_used p2))))), (ad 3, .inl (cI, 200, .inl (zA (upZ (upZ R_firsts R_used (-1)) R_used (R_terms ((R_many - 1) - 1)))))), (ad 4, .inl (cI, 200, .inl (zA (upZ (upZ R_seconds R_used (-1)) R_used (R_terms (R_many - 1)))))), (ad 5, .inl (cI, 200, .inl (zA (upZ (upZ (upZ R_sizes R_used 1) R_used (((upZ R_sizes R_used 1) R_used) + ((upZ R_sizes R_used 1) (R_terms (R_many - 1))))) R_used (((upZ (upZ R_sizes R_used 1) R_used (((upZ R_sizes R_used 1) R_used) + ((upZ R_sizes R_used 1) (R_terms (R_many - 1))))) R_used) + ((upZ (upZ R_sizes R_used 1) R_used (((upZ R_sizes R_used 1) R_used) + ((upZ R_sizes R_used 1) (R_terms (R_many - 1))))) (R_terms ((R_many - 1) - 1)))))))), (ad 7, .inl (cI, 200, .inl (zA (upZ R_terms ((R_many - 1) - 1) R_used))))]) X 6 0 rfl rfl g46 d_Mod_node_262 rfl ?_
                  refine J_aload_n X d_Mod_node_263 rfl 1 rfl ?_
                  refine J_dup X d_Mod_node_264 rfl ?_
                  refine J_get X (j_in in_Mod) 0 rfl rfl 9 (by decide) (j_m own_Mod_node (by decide +kernel)) rfl d_Mod_node_265 ?_
                  refine J_iconst X d_Mod_node_268 ?_
                  refine J_iadd X d_Mod_node_269 ?_
                  refine J_put (ws' := [(ad 0, .inr (10, [.int (zI 0), .ref (ad 1), .ref (ad 2), .ref (ad 3), .ref (ad 4), .ref (ad 5), .ref (ad 6), .int (zI (R_used + 1)), .ref (ad 7), .int (zI (((R_many - 1) - 1) + 1)), .ref (ad 8), .ref (ad 9), .ref (ad 10), .ref (ad 11), .ref (ad 12), .ref (ad 13), .ref (ad 14), .ref (ad 15), .ref (ad 16), .int (zI R_values), .ref (ad 17), .int (zI R_textEnd), .ref (ad 18), .ref (ad 19), .ref (ad 20), .ref (ad 21), .int (zI R_dataEnd), .ref (ad 22), .int (zI R_rowEnd), .ref (ad 23), .ref (ad 24), .int (zI R_rowMany), .ref (ad 25), .ref (ad 26), .ref (ad 27), .ref (ad 28), .int (zI R_waiting), .int (zI R_mostWaiting), .int (zI R_answer), .int (zI R_steps), .int (zI R_memory), .int (zI R_maxSteps), .int (zI R_maxMemory), .int (zI R_fault), .int (zI R_result), .int (zI R_now), .int (zI R_nowRow), .int (zI R_come), .ref (ad 29), .ref (ad 30), .int (zI R_puts), .ref (ad 31)])), (ad 1, .inl (cI, 200, .inl (zA (upZ R_kinds R_used p1)))), (ad 2, .inl (cL, 200, .inr (.inl (zB (upZ R_numbers R_used p2))))), (ad 3, .inl (cI, 200, .inl (zA (upZ (upZ R_firsts R_used (-1)) R_used (R_terms ((R_many - 1) - 1)))))), (ad 4, .inl (cI, 200, .inl (zA (upZ (upZ R_seconds R_used (-1)) R_used (R_terms (R_many - 1)))))), (ad 5, .inl (cI, 200, .inl (zA (upZ (upZ (upZ R_sizes R_used 1) R_used (((upZ R_sizes R_used 1) R_used) + ((upZ R_sizes R_used 1) (R_terms (R_many - 1))))) R_used (((upZ (upZ R_sizes R_used 1) R_used (((upZ R_sizes R_used 1) R_used) + ((upZ R_sizes R_used 1) (R_terms (R_many - 1))))) R_used) + ((upZ (upZ R_sizes R_used 1) R_used (((upZ R_sizes R_used 1) R_used) + ((upZ R_sizes R_used 1) (R_terms (R_many - 1))))) (R_terms ((R_many - 1) - 1)))))))), (ad 7, .inl (cI, 200, .inl (zA (upZ R_terms ((R_many - 1) - 1) R_used))))]) X (j_in in_Mod) ty_Mod tok_Mod nm_Mod 0 rfl rfl 9 (by decide) (j_m own_Mod_node (by decide +kernel)) rfl rfl rfl (Nat.le_of_ble_eq_true rfl) d_Mod_node_270 rfl ?_
                  refine J_aload_n X d_Mod_node_273 rfl 1 rfl ?_
                  refine J_get X (j_in in_Mod) 0 rfl rfl 9 (by decide) (j_m own_Mod_node (by decide +kernel)) rfl d_Mod_node_274 ?_
                  cases h
                  exact J_ret E ⟨_, rfl, rfl⟩ d_Mod_node_277 (Nat.le_refl _) (Nat.le_refl _) rfl
            · refine J_iconst X d_Mod_node_64 ?_
              refine J_goto (tgt := 69) X d_Mod_node_65 (by decide) ?_
              refine J_put (ws' := [(ad 0, .inr (10, [.int (zI 2), .ref (ad 1), .ref (ad 2), .ref (ad 3), .ref (ad 4), .ref (ad 5), .ref (ad 6), .int (zI R_used), .ref (ad 7), .int (zI R_many), .ref (ad 8), .ref (ad 9), .ref (ad 10), .ref (ad 11), .ref (ad 12), .ref (ad 13), .ref (ad 14), .ref (ad 15), .ref (ad 16), .int (zI R_values), .ref (ad 17), .int (zI R_textEnd), .ref (ad 18), .ref (ad 19), .ref (ad 20), .ref (ad 21), .int (zI R_dataEnd), .ref (ad 22), .int (zI R_rowEnd), .ref (ad 23), .ref (ad 24), .int (zI R_rowMany), .ref (ad 25), .ref (ad 26), .ref (ad 27), .ref (ad 28), .int (zI R_waiting), .int (zI R_mostWaiting), .int (zI R_answer), .int (zI R_steps), .int (zI R_memory), .int (zI R_maxSteps), .int (zI R_maxMemory), .int (zI R_fault), .int (zI R_result), .int (zI R_now), .int (zI R_nowRow), .int (zI R_come), .ref (ad 29), .ref (ad 30), .int (zI R_puts), .ref (ad 31)])), (ad 1, .inl (cI, 200, .inl (zA R_kinds))), (ad 2, .inl (cL, 200, .inr (.inl (zB R_numbers)))), (ad 3, .inl (cI, 200, .inl (zA R_firsts))), (ad 4, .inl (cI, 200, .inl (zA R_seconds))), (ad 5, .inl (cI, 200, .inl (zA R_sizes))), (ad 7, .inl (cI, 200, .inl (zA R_terms)))]) X (j_in in_Mod) ty_Mod tok_Mod nm_Mod 0 rfl rfl 0 (by decide) (j_m own_Mod_node (by decide +kernel)) rfl rfl rfl (Nat.le_of_ble_eq_true rfl) d_Mod_node_69 rfl ?_
              refine J_aload_n X d_Mod_node_72 rfl 0 rfl ?_
              refine J_get X (j_in in_Mod) 0 rfl rfl 0 (by decide) (j_m own_Mod_node (by decide +kernel)) rfl d_Mod_node_73 ?_
              refine J_if_le (pa := none) (pb := some ()) (o := ()) (tgt := 81) X d_Mod_node_76 (by decide) (by decide) (fun _ h => by cases h) (fun _ _ => ?_)
              refine J_iconst X d_Mod_node_79 ?_
              cases h
              exact J_ret E ⟨_, rfl, rfl⟩ d_Mod_node_80 (Nat.le_refl _) (Nat.le_refl _) rfl
        · refine J_iconst X d_Mod_node_25 ?_
          refine J_goto (tgt := 30) X d_Mod_node_26 (by decide) ?_
          refine J_put (ws' := [(ad 0, .inr (10, [.int (zI 1), .ref (ad 1), .ref (ad 2), .ref (ad 3), .ref (ad 4), .ref (ad 5), .ref (ad 6), .int (zI R_used), .ref (ad 7), .int (zI R_many), .ref (ad 8), .ref (ad 9), .ref (ad 10), .ref (ad 11), .ref (ad 12), .ref (ad 13), .ref (ad 14), .ref (ad 15), .ref (ad 16), .int (zI R_values), .ref (ad 17), .int (zI R_textEnd), .ref (ad 18), .ref (ad 19), .ref (ad 20), .ref (ad 21), .int (zI R_dataEnd), .ref (ad 22), .int (zI R_rowEnd), .ref (ad 23), .ref (ad 24), .int (zI R_rowMany), .ref (ad 25), .ref (ad 26), .ref (ad 27), .ref (ad 28), .int (zI R_waiting), .int (zI R_mostWaiting), .int (zI R_answer), .int (zI R_steps), .int (zI R_memory), .int (zI R_maxSteps), .int (zI R_maxMemory), .int (zI R_fault), .int (zI R_result), .int (zI R_now), .int (zI R_nowRow), .int (zI R_come), .ref (ad 29), .ref (ad 30), .int (zI R_puts), .ref (ad 31)])), (ad 1, .inl (cI, 200, .inl (zA R_kinds))), (ad 2, .inl (cL, 200, .inr (.inl (zB R_numbers)))), (ad 3, .inl (cI, 200, .inl (zA R_firsts))), (ad 4, .inl (cI, 200, .inl (zA R_seconds))), (ad 5, .inl (cI, 200, .inl (zA R_sizes))), (ad 7, .inl (cI, 200, .inl (zA R_terms)))]) X (j_in in_Mod) ty_Mod tok_Mod nm_Mod 0 rfl rfl 0 (by decide) (j_m own_Mod_node (by decide +kernel)) rfl rfl rfl (Nat.le_of_ble_eq_true rfl) d_Mod_node_30 rfl ?_
          refine J_aload_n X d_Mod_node_33 rfl 0 rfl ?_
          refine J_get X (j_in in_Mod) 0 rfl rfl 0 (by decide) (j_m own_Mod_node (by decide +kernel)) rfl d_Mod_node_34 ?_
          refine J_if_le (pa := none) (pb := some ()) (o := ()) (tgt := 42) X d_Mod_node_37 (by decide) (by decide) (fun _ h => by cases h) (fun _ _ => ?_)
          refine J_iconst X d_Mod_node_40 ?_
          cases h
          exact J_ret E ⟨_, rfl, rfl⟩ d_Mod_node_41 (Nat.le_refl _) (Nat.le_refl _) rfl

theorem d_Mod_append_0 : decode b_Mod_append 0 = .ok (.iload 4, 2) := by decide +kernel
theorem d_Mod_append_2 : decode b_Mod_append 2 = .ok (.iconst 1, 1) := by decide +kernel
theorem d_Mod_append_3 : decode b_Mod_append 3 = .ok (.isub, 1) := by decide +kernel
theorem d_Mod_append_4 : decode b_Mod_append 4 = .ok (.istore 5, 2) := by decide +kernel
theorem d_Mod_append_6 : decode b_Mod_append 6 = .ok (.iload 5, 2) := by decide +kernel
theorem d_Mod_append_8 : decode b_Mod_append 8 = .ok (.ifCond .lt 45, 3) := by decide +kernel
theorem d_Mod_append_11 : decode b_Mod_append 11 = .ok (.aload_n 0, 1) := by decide +kernel
theorem d_Mod_append_12 : decode b_Mod_append 12 = .ok (.getfield 26, 3) := by decide +kernel
theorem d_Mod_append_15 : decode b_Mod_append 15 = .ok (.bipush 64, 2) := by decide +kernel
theorem d_Mod_append_17 : decode b_Mod_append 17 = .ok (.iload_n 1, 1) := by decide +kernel
theorem d_Mod_append_18 : decode b_Mod_append 18 = .ok (.imul, 1) := by decide +kernel
theorem d_Mod_append_19 : decode b_Mod_append 19 = .ok (.aload_n 0, 1) := by decide +kernel
theorem d_Mod_append_20 : decode b_Mod_append 20 = .ok (.getfield 13, 3) := by decide +kernel
theorem d_Mod_append_23 : decode b_Mod_append 23 = .ok (.iload_n 1, 1) := by decide +kernel
theorem d_Mod_append_24 : decode b_Mod_append 24 = .ok (.laload, 1) := by decide +kernel
theorem d_Mod_append_25 : decode b_Mod_append 25 = .ok (.l2i, 1) := by decide +kernel
theorem d_Mod_append_26 : decode b_Mod_append 26 = .ok (.iadd, 1) := by decide +kernel
theorem d_Mod_append_27 : decode b_Mod_append 27 = .ok (.lload_n 2, 1) := by decide +kernel
theorem d_Mod_append_28 : decode b_Mod_append 28 = .ok (.bipush 8, 2) := by decide +kernel
theorem d_Mod_append_30 : decode b_Mod_append 30 = .ok (.iload 5, 2) := by decide +kernel
theorem d_Mod_append_32 : decode b_Mod_append 32 = .ok (.imul, 1) := by decide +kernel
theorem d_Mod_append_33 : decode b_Mod_append 33 = .ok (.lshr, 1) := by decide +kernel
theorem d_Mod_append_34 : decode b_Mod_append 34 = .ok (.l2i, 1) := by decide +kernel
theorem d_Mod_append_35 : decode b_Mod_append 35 = .ok (.i2b, 1) := by decide +kernel
theorem d_Mod_append_36 : decode b_Mod_append 36 = .ok (.bastore, 1) := by decide +kernel
theorem d_Mod_append_37 : decode b_Mod_append 37 = .ok (.aload_n 0, 1) := by decide +kernel
theorem d_Mod_append_38 : decode b_Mod_append 38 = .ok (.getfield 13, 3) := by decide +kernel
theorem d_Mod_append_41 : decode b_Mod_append 41 = .ok (.iload_n 1, 1) := by decide +kernel
theorem d_Mod_append_42 : decode b_Mod_append 42 = .ok (.dup2, 1) := by decide +kernel
theorem d_Mod_append_43 : decode b_Mod_append 43 = .ok (.laload, 1) := by decide +kernel
theorem d_Mod_append_44 : decode b_Mod_append 44 = .ok (.lconst 1, 1) := by decide +kernel
theorem d_Mod_append_45 : decode b_Mod_append 45 = .ok (.ladd, 1) := by decide +kernel
theorem d_Mod_append_46 : decode b_Mod_append 46 = .ok (.lastore, 1) := by decide +kernel
theorem d_Mod_append_47 : decode b_Mod_append 47 = .ok (.iinc 5 (-1), 3) := by decide +kernel
theorem d_Mod_append_50 : decode b_Mod_append 50 = .ok (.goto (-44), 3) := by decide +kernel
theorem d_Mod_append_53 : decode b_Mod_append 53 = .ok (.return_, 1) := by decide +kernel
def f_Mod_append_L6 (x1 : Int) (x2 : Int) (x4 : Int) : Nat → Int → (Int → Int) → (Int → Int) → Option (Int × (Int → Int) × (Int → Int))
  | 0, _, _, _ => none
  | n + 1, x5, R_numbers, R_nodeTexts =>
    if rI x5 = true then (if x5 < 0 then (
     some (x5, R_numbers, R_nodeTexts)) else (
     if jix x1 200 = true then (
      if jix ((64 * x1) + (R_numbers x1)) 12800 = true then (
       if jix x1 200 = true then (
        if jix x1 200 = true then (
         f_Mod_append_L6 x1 x2 x4 n (x5 + (-1)) (upZ R_numbers x1 ((R_numbers x1) + 1)) (upZ R_nodeTexts ((64 * x1) + (R_numbers x1)) (j_b8 (j_b8 (j_shr x2 (8 * x5)))))) else none) else none) else none) else none)) else none
def f_Mod_append (N : Nat) (R_numbers : Int → Int) (R_nodeTexts : Int → Int) (p1 : Int) (p2 : Int) (p4 : Int) : Option ((Int → Int) × (Int → Int)) :=
  ob3 (f_Mod_append_L6 p1 p2 p4 N (p4 - 1) R_numbers R_nodeTexts) (fun x5_1 R_numbers_2 R_nodeTexts_3 =>
   some (R_numbers_2, R_nodeTexts_3))
set_option maxHeartbeats 4000000 in
set_option maxRecDepth 100000 in
theorem k_Mod_append_L6 {K : jK} {cI cL cB : ClassId} {ad : Nat → Nat} {x1 : Int} {x2 : Int} {x4 : Int} {R_thrown : Int} {R_used : Int} {R_many : Int} {R_values : Int} {R_textEnd : Int} {R_dataEnd : Int} {R_rowEnd : Int} {R_rowMany : Int} {R_waiting : Int} {R_mostWaiting : Int} {R_answer : Int} {R_steps : Int} {R_memory : Int} {R_maxSteps : Int} {R_maxMemory : Int} {R_fault : Int} {R_result : Int} {R_now : Int} {R_nowRow : Int} {R_come : Int} {R_puts : Int} {out : Int × (Int → Int) × (Int → Int)} (X : jX jF0 K 6 b_Mod_append w_Mod_append R_Mod [(cI, .int), (cL, .long), (cB, .byte)]) : ∀ (n : Nat) (x5 : Int) (R_numbers : (Int → Int)) (R_nodeTexts : (Int → Int)), f_Mod_append_L6 x1 x2 x4 n x5 R_numbers R_nodeTexts = some out → J K 6 ({ frames := 0, cells := 0, slots := 0, locals := 0 } : Room) false 0 0 [(ad 0, .inr (10, [.int (zI R_thrown), .ref (ad 1), .ref (ad 2), .ref (ad 3), .ref (ad 4), .ref (ad 5), .ref (ad 6), .int (zI R_used), .ref (ad 7), .int (zI R_many), .ref (ad 8), .ref (ad 9), .ref (ad 10), .ref (ad 11), .ref (ad 12), .ref (ad 13), .ref (ad 14), .ref (ad 15), .ref (ad 16), .int (zI R_values), .ref (ad 17), .int (zI R_textEnd), .ref (ad 18), .ref (ad 19), .ref (ad 20), .ref (ad 21), .int (zI R_dataEnd), .ref (ad 22), .int (zI R_rowEnd), .ref (ad 23), .ref (ad 24), .int (zI R_rowMany), .ref (ad 25), .ref (ad 26), .ref (ad 27), .ref (ad 28), .int (zI R_waiting), .int (zI R_mostWaiting), .int (zI R_answer), .int (zI R_steps), .int (zI R_memory), .int (zI R_maxSteps), .int (zI R_maxMemory), .int (zI R_fault), .int (zI R_result), .int (zI R_now), .int (zI R_nowRow), .int (zI R_come), .ref (ad 29), .ref (ad 30), .int (zI R_puts), .ref (ad 31)])), (ad 2, .inl (cL, 200, .inr (.inl (zB (out.2.1))))), (ad 6, .inl (cB, 12800, .inl (zA (out.2.2))))] [(0, .ref (ad 0)), (1, .int (zI x1)), (2, .long (zL x2)), (4, .int (zI x4)), (5, .int (zI (out.1)))] [] 53 → J K 6 ({ frames := 0, cells := 0, slots := 0, locals := 0 } : Room) false 0 0 [(ad 0, .inr (10, [.int (zI R_thrown), .ref (ad 1), .ref (ad 2), .ref (ad 3), .ref (ad 4), .ref (ad 5), .ref (ad 6), .int (zI R_used), .ref (ad 7), .int (zI R_many), .ref (ad 8), .ref (ad 9), .ref (ad 10), .ref (ad 11), .ref (ad 12), .ref (ad 13), .ref (ad 14), .ref (ad 15), .ref (ad 16), .int (zI R_values), .ref (ad 17), .int (zI R_textEnd), .ref (ad 18), .ref (ad 19), .ref (ad 20), .ref (ad 21), .int (zI R_dataEnd), .ref (ad 22), .int (zI R_rowEnd), .ref (ad 23), .ref (ad 24), .int (zI R_rowMany), .ref (ad 25), .ref (ad 26), .ref (ad 27), .ref (ad 28), .int (zI R_waiting), .int (zI R_mostWaiting), .int (zI R_answer), .int (zI R_steps), .int (zI R_memory), .int (zI R_maxSteps), .int (zI R_maxMemory), .int (zI R_fault), .int (zI R_result), .int (zI R_now), .int (zI R_nowRow), .int (zI R_come), .ref (ad 29), .ref (ad 30), .int (zI R_puts), .ref (ad 31)])), (ad 2, .inl (cL, 200, .inr (.inl (zB R_numbers)))), (ad 6, .inl (cB, 12800, .inl (zA R_nodeTexts)))] [(0, .ref (ad 0)), (1, .int (zI x1)), (2, .long (zL x2)), (4, .int (zI x4)), (5, .int (zI x5))] [] 6 := by
  intro n
  induction n with
  | zero =>
    intro x5 R_numbers R_nodeTexts h hk
    cases h
  | succ n ih =>
    intro x5 R_numbers R_nodeTexts h hk
    unfold f_Mod_append_L6 at h
    refine J_iload X d_Mod_append_6 4 rfl ?_
    refine J_if_lt (tgt := 53) X d_Mod_append_8 (by decide) h (fun c5 h => ?_) (fun c5 h => ?_)
    · cases h
      refine J_lv (lv' := [(0, .ref (ad 0)), (1, .int (zI x1)), (2, .long (zL x2)), (4, .int (zI x4)), (5, .int (zI x5))]) [0, 1, 2, 3, 4] rfl ?_
      exact hk
    · refine J_aload_n X d_Mod_append_11 rfl 0 rfl ?_
      refine J_get X (j_in in_Mod) 0 rfl rfl 6 (by decide) (j_m own_Mod_append (by decide +kernel)) rfl d_Mod_append_12 ?_
      refine J_bipush X d_Mod_append_15 (by decide) ?_
      refine J_iload_n X d_Mod_append_17 rfl 1 rfl ?_
      refine J_imul X d_Mod_append_18 ?_
      refine J_aload_n X d_Mod_append_19 rfl 0 rfl ?_
      refine J_get X (j_in in_Mod) 0 rfl rfl 2 (by decide) (j_m own_Mod_append (by decide +kernel)) rfl d_Mod_append_20 ?_
      refine J_iload_n X d_Mod_append_23 rfl 1 rfl ?_
      obtain ⟨g6, h⟩ := wk_g h
      refine J_lald X 1 1 rfl rfl g6 d_Mod_append_24 ?_
      refine J_l2i X d_Mod_append_25 ?_
      refine J_iadd X d_Mod_append_26 ?_
      refine J_lload_n X d_Mod_append_27 rfl 2 rfl ?_
      refine J_bipush X d_Mod_append_28 (by decide) ?_
      refine J_iload X d_Mod_append_30 4 rfl ?_
      refine J_imul X d_Mod_append_32 ?_
      refine J_lshr X d_Mod_append_33 ?_
      refine J_l2i X d_Mod_append_34 ?_
      refine J_i2b X d_Mod_append_35 ?_
      obtain ⟨g7, h⟩ := wk_g h
      refine J_bast (ws' := [(ad 0, .inr (10, [.int (zI R_thrown), .ref (ad 1), .ref (ad 2), .ref (ad 3), .ref (ad 4), .ref (ad 5), .ref (ad 6), .int (zI R_used), .ref (ad 7), .int (zI R_many), .ref (ad 8), .ref (ad 9), .ref (ad 10), .ref (ad 11), .ref (ad 12), .ref (ad 13), .ref (ad 14), .ref (ad 15), .ref (ad 16), .int (zI R_values), .ref (ad 17), .int (zI R_textEnd), .ref (ad 18), .ref (ad 19), .ref (ad 20), .ref (ad 21), .int (zI R_dataEnd), .ref (ad 22), .int (zI R_rowEnd), .ref (ad 23), .ref (ad 24), .int (zI R_rowMany), .ref (ad 25), .ref (ad 26), .ref (ad 27), .ref (ad 28), .int (zI R_waiting), .int (zI R_mostWaiting), .int (zI R_answer), .int (zI R_steps), .int (zI R_memory), .int (zI R_maxSteps), .int (zI R_maxMemory), .int (zI R_fault), .int (zI R_result), .int (zI R_now), .int (zI R_nowRow), .int (zI R_come), .ref (ad 29), .ref (ad 30), .int (zI R_puts), .ref (ad 31)])), (ad 2, .inl (cL, 200, .inr (.inl (zB R_numbers)))), (ad 6, .inl (cB, 12800, .inl (zA (upZ R_nodeTexts ((64 * x1) + (R_numbers x1)) (j_b8 (j_b8 (j_shr x2 (8 * x5))))))))]) X 2 2 rfl rfl g7 d_Mod_append_36 rfl ?_
      refine J_aload_n X d_Mod_append_37 rfl 0 rfl ?_
      refine J_get X (j_in in_Mod) 0 rfl rfl 2 (by decide) (j_m own_Mod_append (by decide +kernel)) rfl d_Mod_append_38 ?_
      refine J_iload_n X d_Mod_append_41 rfl 1 rfl ?_
      refine J_dup2 X d_Mod_append_42 rfl rfl ?_
      obtain ⟨g8, h⟩ := wk_g h
      refine J_lald X 1 1 rfl rfl g8 d_Mod_append_43 ?_
      refine J_lconst (v := 1) X d_Mod_append_44 (by decide) ?_
      refine J_ladd X d_Mod_append_45 ?_
      obtain ⟨g9, h⟩ := wk_g h
      refine J_last (ws' := [(ad 0, .inr (10, [.int (zI R_thrown), .ref (ad 1), .ref (ad 2), .ref (ad 3), .ref (ad 4), .ref (ad 5), .ref (ad 6), .int (zI R_used), .ref (ad 7), .int (zI R_many), .ref (ad 8), .ref (ad 9), .ref (ad 10), .ref (ad 11), .ref (ad 12), .ref (ad 13), .ref (ad 14), .ref (ad 15), .ref (ad 16), .int (zI R_values), .ref (ad 17), .int (zI R_textEnd), .ref (ad 18), .ref (ad 19), .ref (ad 20), .ref (ad 21), .int (zI R_dataEnd), .ref (ad 22), .int (zI R_rowEnd), .ref (ad 23), .ref (ad 24), .int (zI R_rowMany), .ref (ad 25), .ref (ad 26), .ref (ad 27), .ref (ad 28), .int (zI R_waiting), .int (zI R_mostWaiting), .int (zI R_answer), .int (zI R_steps), .int (zI R_memory), .int (zI R_maxSteps), .int (zI R_maxMemory), .int (zI R_fault), .int (zI R_result), .int (zI R_now), .int (zI R_nowRow), .int (zI R_come), .ref (ad 29), .ref (ad 30), .int (zI R_puts), .ref (ad 31)])), (ad 2, .inl (cL, 200, .inr (.inl (zB (upZ R_numbers x1 ((R_numbers x1) + 1)))))), (ad 6, .inl (cB, 12800, .inl (zA (upZ R_nodeTexts ((64 * x1) + (R_numbers x1)) (j_b8 (j_b8 (j_shr x2 (8 * x5))))))))]) X 1 1 rfl rfl g9 d_Mod_append_46 rfl ?_
      refine J_iinc (lv' := [(5, .int (zI (x5 + (-1)))), (0, .ref (ad 0)), (1, .int (zI x1)), (2, .long (zL x2)), (4, .int (zI x4))]) X d_Mod_append_47 4 rfl (by decide) rfl ?_
      refine J_goto (tgt := 6) X d_Mod_append_50 (by decide) ?_
      refine J_lv (lv' := [(0, .ref (ad 0)), (1, .int (zI x1)), (2, .long (zL x2)), (4, .int (zI x4)), (5, .int (zI (x5 + (-1))))]) [1, 2, 3, 4, 0] rfl ?_
      exact ih _ _ _ h hk
set_option maxHeartbeats 4000000 in
set_option maxRecDepth 100000 in
theorem c_Mod_append {l : Launch} {D : va_G} {cI cL cB : ClassId} {ad : Nat → Nat} {N : Nat} {R_thrown : Int} {R_used : Int} {R_many : Int} {R_values : Int} {R_textEnd : Int} {R_dataEnd : Int} {R_rowEnd : Int} {R_rowMany : Int} {R_waiting : Int} {R_mostWaiting : Int} {R_answer : Int} {R_steps : Int} {R_memory : Int} {R_maxSteps : Int} {R_maxMemory : Int} {R_fault : Int} {R_result : Int} {R_now : Int} {R_nowRow : Int} {R_come : Int} {R_puts : Int} {R_numbers : Int → Int} {R_nodeTexts : Int → Int} {p1 : Int} {p2 : Int} {p4 : Int} {out : (Int → Int) × (Int → Int)} (h : f_Mod_append N R_numbers R_nodeTexts p1 p2 p4 = some out) : CT jF0 false l D [(cI, .int), (cL, .long), (cB, .byte)] y_Mod_append w_Mod_append ({ frames := 0, cells := 0, slots := 0, locals := 0 } : Room) [.ref (ad 0), .int (zI p1), .long (zL p2), .int (zI p4)] [(ad 0, .inr (10, [.int (zI R_thrown), .ref (ad 1), .ref (ad 2), .ref (ad 3), .ref (ad 4), .ref (ad 5), .ref (ad 6), .int (zI R_used), .ref (ad 7), .int (zI R_many), .ref (ad 8), .ref (ad 9), .ref (ad 10), .ref (ad 11), .ref (ad 12), .ref (ad 13), .ref (ad 14), .ref (ad 15), .ref (ad 16), .int (zI R_values), .ref (ad 17), .int (zI R_textEnd), .ref (ad 18), .ref (ad 19), .ref (ad 20), .ref (ad 21), .int (zI R_dataEnd), .ref (ad 22), .int (zI R_rowEnd), .ref (ad 23), .ref (ad 24), .int (zI R_rowMany), .ref (ad 25), .ref (ad 26), .ref (ad 27), .ref (ad 28), .int (zI R_waiting), .int (zI R_mostWaiting), .int (zI R_answer), .int (zI R_steps), .int (zI R_memory), .int (zI R_maxSteps), .int (zI R_maxMemory), .int (zI R_fault), .int (zI R_result), .int (zI R_now), .int (zI R_nowRow), .int (zI R_come), .ref (ad 29), .ref (ad 30), .int (zI R_puts), .ref (ad 31)])), (ad 2, .inl (cL, 200, .inr (.inl (zB R_numbers)))), (ad 6, .inl (cB, 12800, .inl (zA R_nodeTexts)))] none [(ad 0, .inr (10, [.int (zI R_thrown), .ref (ad 1), .ref (ad 2), .ref (ad 3), .ref (ad 4), .ref (ad 5), .ref (ad 6), .int (zI R_used), .ref (ad 7), .int (zI R_many), .ref (ad 8), .ref (ad 9), .ref (ad 10), .ref (ad 11), .ref (ad 12), .ref (ad 13), .ref (ad 14), .ref (ad 15), .ref (ad 16), .int (zI R_values), .ref (ad 17), .int (zI R_textEnd), .ref (ad 18), .ref (ad 19), .ref (ad 20), .ref (ad 21), .int (zI R_dataEnd), .ref (ad 22), .int (zI R_rowEnd), .ref (ad 23), .ref (ad 24), .int (zI R_rowMany), .ref (ad 25), .ref (ad 26), .ref (ad 27), .ref (ad 28), .int (zI R_waiting), .int (zI R_mostWaiting), .int (zI R_answer), .int (zI R_steps), .int (zI R_memory), .int (zI R_maxSteps), .int (zI R_maxMemory), .int (zI R_fault), .int (zI R_result), .int (zI R_now), .int (zI R_nowRow), .int (zI R_come), .ref (ad 29), .ref (ad 30), .int (zI R_puts), .ref (ad 31)])), (ad 2, .inl (cL, 200, .inr (.inl (zB (out.1))))), (ad 6, .inl (cB, 12800, .inl (zA (out.2))))] 0 0 := by
  refine CT_of_J (cc := b_Mod_append) (maxL := 6) (ret := none) jF0_k (plainFor_of_name (by decide)) rfl (Nat.le_of_ble_eq_true rfl) ?_
  intro K hKl hKD X E
  subst hKl; subst hKD
  unfold f_Mod_append at h
  refine J_iload X d_Mod_append_0 3 rfl ?_
  refine J_iconst X d_Mod_append_2 ?_
  refine J_isub X d_Mod_append_3 ?_
  refine J_istore (lv' := [(5, .int (zI (p4 - 1))), (0, .ref (ad 0)), (1, .int (zI p1)), (2, .long (zL p2)), (4, .int (zI p4))]) X d_Mod_append_4 (by decide) rfl ?_
  refine J_lv (lv' := [(0, .ref (ad 0)), (1, .int (zI p1)), (2, .long (zL p2)), (4, .int (zI p4)), (5, .int (zI (p4 - 1)))]) [1, 2, 3, 4, 0] rfl ?_
  obtain ⟨x5_1, R_numbers_2, R_nodeTexts_3, q4, h⟩ := wk_b3 h
  refine k_Mod_append_L6 X _ _ _ _ q4 ?_
  cases h
  exact J_ret E rfl d_Mod_append_53 (Nat.le_refl _) (Nat.le_refl _) rfl

theorem d_Mod_bytes_0 : decode b_Mod_bytes 0 = .ok (.aload_n 0, 1) := by decide +kernel
theorem d_Mod_bytes_1 : decode b_Mod_bytes 1 = .ok (.iload_n 3, 1) := by decide +kernel
theorem d_Mod_bytes_2 : decode b_Mod_bytes 2 = .ok (.ifCond .lt 9, 3) := by decide +kernel
theorem d_Mod_bytes_5 : decode b_Mod_bytes 5 = .ok (.iload_n 3, 1) := by decide +kernel
theorem d_Mod_bytes_6 : decode b_Mod_bytes 6 = .ok (.bipush 8, 2) := by decide +kernel
theorem d_Mod_bytes_8 : decode b_Mod_bytes 8 = .ok (.if_icmp .le 7, 3) := by decide +kernel
theorem d_Mod_bytes_11 : decode b_Mod_bytes 11 = .ok (.iconst 1, 1) := by decide +kernel
theorem d_Mod_bytes_12 : decode b_Mod_bytes 12 = .ok (.goto 18, 3) := by decide +kernel
theorem d_Mod_bytes_15 : decode b_Mod_bytes 15 = .ok (.aload_n 0, 1) := by decide +kernel
theorem d_Mod_bytes_16 : decode b_Mod_bytes 16 = .ok (.getfield 118, 3) := by decide +kernel
theorem d_Mod_bytes_19 : decode b_Mod_bytes 19 = .ok (.sipush 200, 3) := by decide +kernel
theorem d_Mod_bytes_22 : decode b_Mod_bytes 22 = .ok (.if_icmp .ne 7, 3) := by decide +kernel
theorem d_Mod_bytes_25 : decode b_Mod_bytes 25 = .ok (.iconst 2, 1) := by decide +kernel
theorem d_Mod_bytes_26 : decode b_Mod_bytes 26 = .ok (.goto 4, 3) := by decide +kernel
theorem d_Mod_bytes_29 : decode b_Mod_bytes 29 = .ok (.iconst 0, 1) := by decide +kernel
theorem d_Mod_bytes_30 : decode b_Mod_bytes 30 = .ok (.putfield 111, 3) := by decide +kernel
theorem d_Mod_bytes_33 : decode b_Mod_bytes 33 = .ok (.aload_n 0, 1) := by decide +kernel
theorem d_Mod_bytes_34 : decode b_Mod_bytes 34 = .ok (.getfield 111, 3) := by decide +kernel
theorem d_Mod_bytes_37 : decode b_Mod_bytes 37 = .ok (.ifCond .le 5, 3) := by decide +kernel
theorem d_Mod_bytes_40 : decode b_Mod_bytes 40 = .ok (.iconst 0, 1) := by decide +kernel
theorem d_Mod_bytes_41 : decode b_Mod_bytes 41 = .ok (.ireturn, 1) := by decide +kernel
theorem d_Mod_bytes_42 : decode b_Mod_bytes 42 = .ok (.aload_n 0, 1) := by decide +kernel
theorem d_Mod_bytes_43 : decode b_Mod_bytes 43 = .ok (.getfield 118, 3) := by decide +kernel
theorem d_Mod_bytes_46 : decode b_Mod_bytes 46 = .ok (.istore 4, 2) := by decide +kernel
theorem d_Mod_bytes_48 : decode b_Mod_bytes 48 = .ok (.aload_n 0, 1) := by decide +kernel
theorem d_Mod_bytes_49 : decode b_Mod_bytes 49 = .ok (.dup, 1) := by decide +kernel
theorem d_Mod_bytes_50 : decode b_Mod_bytes 50 = .ok (.getfield 118, 3) := by decide +kernel
theorem d_Mod_bytes_53 : decode b_Mod_bytes 53 = .ok (.iconst 1, 1) := by decide +kernel
theorem d_Mod_bytes_54 : decode b_Mod_bytes 54 = .ok (.iadd, 1) := by decide +kernel
theorem d_Mod_bytes_55 : decode b_Mod_bytes 55 = .ok (.putfield 118, 3) := by decide +kernel
theorem d_Mod_bytes_58 : decode b_Mod_bytes 58 = .ok (.aload_n 0, 1) := by decide +kernel
theorem d_Mod_bytes_59 : decode b_Mod_bytes 59 = .ok (.getfield 7, 3) := by decide +kernel
theorem d_Mod_bytes_62 : decode b_Mod_bytes 62 = .ok (.iload 4, 2) := by decide +kernel
theorem d_Mod_bytes_64 : decode b_Mod_bytes 64 = .ok (.bipush 8, 2) := by decide +kernel
theorem d_Mod_bytes_66 : decode b_Mod_bytes 66 = .ok (.iastore, 1) := by decide +kernel
theorem d_Mod_bytes_67 : decode b_Mod_bytes 67 = .ok (.aload_n 0, 1) := by decide +kernel
theorem d_Mod_bytes_68 : decode b_Mod_bytes 68 = .ok (.getfield 13, 3) := by decide +kernel
theorem d_Mod_bytes_71 : decode b_Mod_bytes 71 = .ok (.iload 4, 2) := by decide +kernel
theorem d_Mod_bytes_73 : decode b_Mod_bytes 73 = .ok (.lconst 0, 1) := by decide +kernel
theorem d_Mod_bytes_74 : decode b_Mod_bytes 74 = .ok (.lastore, 1) := by decide +kernel
theorem d_Mod_bytes_75 : decode b_Mod_bytes 75 = .ok (.aload_n 0, 1) := by decide +kernel
theorem d_Mod_bytes_76 : decode b_Mod_bytes 76 = .ok (.getfield 17, 3) := by decide +kernel
theorem d_Mod_bytes_79 : decode b_Mod_bytes 79 = .ok (.iload 4, 2) := by decide +kernel
theorem d_Mod_bytes_81 : decode b_Mod_bytes 81 = .ok (.iconst (-1), 1) := by decide +kernel
theorem d_Mod_bytes_82 : decode b_Mod_bytes 82 = .ok (.iastore, 1) := by decide +kernel
theorem d_Mod_bytes_83 : decode b_Mod_bytes 83 = .ok (.aload_n 0, 1) := by decide +kernel
theorem d_Mod_bytes_84 : decode b_Mod_bytes 84 = .ok (.getfield 20, 3) := by decide +kernel
theorem d_Mod_bytes_87 : decode b_Mod_bytes 87 = .ok (.iload 4, 2) := by decide +kernel
theorem d_Mod_bytes_89 : decode b_Mod_bytes 89 = .ok (.iconst (-1), 1) := by decide +kernel
theorem d_Mod_bytes_90 : decode b_Mod_bytes 90 = .ok (.iastore, 1) := by decide +kernel
theorem d_Mod_bytes_91 : decode b_Mod_bytes 91 = .ok (.aload_n 0, 1) := by decide +kernel
theorem d_Mod_bytes_92 : decode b_Mod_bytes 92 = .ok (.getfield 23, 3) := by decide +kernel
theorem d_Mod_bytes_95 : decode b_Mod_bytes 95 = .ok (.iload 4, 2) := by decide +kernel
theorem d_Mod_bytes_97 : decode b_Mod_bytes 97 = .ok (.iconst 1, 1) := by decide +kernel
theorem d_Mod_bytes_98 : decode b_Mod_bytes 98 = .ok (.iastore, 1) := by decide +kernel
theorem d_Mod_bytes_99 : decode b_Mod_bytes 99 = .ok (.aload_n 0, 1) := by decide +kernel
theorem d_Mod_bytes_100 : decode b_Mod_bytes 100 = .ok (.iload 4, 2) := by decide +kernel
theorem d_Mod_bytes_102 : decode b_Mod_bytes 102 = .ok (.lload_n 1, 1) := by decide +kernel
theorem d_Mod_bytes_103 : decode b_Mod_bytes 103 = .ok (.iload_n 3, 1) := by decide +kernel
theorem d_Mod_bytes_104 : decode b_Mod_bytes 104 = .ok (.invokevirtual 132, 3) := by decide +kernel
theorem d_Mod_bytes_107 : decode b_Mod_bytes 107 = .ok (.aload_n 0, 1) := by decide +kernel
theorem d_Mod_bytes_108 : decode b_Mod_bytes 108 = .ok (.getfield 30, 3) := by decide +kernel
theorem d_Mod_bytes_111 : decode b_Mod_bytes 111 = .ok (.aload_n 0, 1) := by decide +kernel
theorem d_Mod_bytes_112 : decode b_Mod_bytes 112 = .ok (.getfield 121, 3) := by decide +kernel
theorem d_Mod_bytes_115 : decode b_Mod_bytes 115 = .ok (.iload 4, 2) := by decide +kernel
theorem d_Mod_bytes_117 : decode b_Mod_bytes 117 = .ok (.iastore, 1) := by decide +kernel
theorem d_Mod_bytes_118 : decode b_Mod_bytes 118 = .ok (.aload_n 0, 1) := by decide +kernel
theorem d_Mod_bytes_119 : decode b_Mod_bytes 119 = .ok (.dup, 1) := by decide +kernel
theorem d_Mod_bytes_120 : decode b_Mod_bytes 120 = .ok (.getfield 121, 3) := by decide +kernel
theorem d_Mod_bytes_123 : decode b_Mod_bytes 123 = .ok (.iconst 1, 1) := by decide +kernel
theorem d_Mod_bytes_124 : decode b_Mod_bytes 124 = .ok (.iadd, 1) := by decide +kernel
theorem d_Mod_bytes_125 : decode b_Mod_bytes 125 = .ok (.putfield 121, 3) := by decide +kernel
theorem d_Mod_bytes_128 : decode b_Mod_bytes 128 = .ok (.aload_n 0, 1) := by decide +kernel
theorem d_Mod_bytes_129 : decode b_Mod_bytes 129 = .ok (.getfield 121, 3) := by decide +kernel
theorem d_Mod_bytes_132 : decode b_Mod_bytes 132 = .ok (.ireturn, 1) := by decide +kernel
def f_Mod_bytes (N : Nat) (R_thrown : Int) (R_used : Int) (R_many : Int) (R_kinds : Int → Int) (R_numbers : Int → Int) (R_firsts : Int → Int) (R_seconds : Int → Int) (R_sizes : Int → Int) (R_nodeTexts : Int → Int) (R_terms : Int → Int) (p1 : Int) (p3 : Int) : Option (Int × Int × Int × Int × (Int → Int) × (Int → Int) × (Int → Int) × (Int → Int) × (Int → Int) × (Int → Int) × (Int → Int)) :=
  if rI p3 = true then (if p3 < 0 then (
   some (0, 1, R_used, R_many, R_kinds, R_numbers, R_firsts, R_seconds, R_sizes, R_nodeTexts, R_terms)) else (
   if jr2 p3 8 = true then (if p3 ≤ 8 then (
    if jr2 R_used 200 = true then (if R_used = 200 then (
     some (0, 2, R_used, R_many, R_kinds, R_numbers, R_firsts, R_seconds, R_sizes, R_nodeTexts, R_terms)) else (
     if jix R_used 200 = true then (
      if jix R_used 200 = true then (
       if jix R_used 200 = true then (
        if jix R_used 200 = true then (
         if jix R_used 200 = true then (
          ob2 (f_Mod_append N (upZ R_numbers R_used 0) R_nodeTexts R_used p1 p3) (fun R_numbers_9 R_nodeTexts_10 =>
           if jix R_many 200 = true then (
            some ((R_many + 1), 0, (R_used + 1), (R_many + 1), (upZ R_kinds R_used 8), R_numbers_9, (upZ R_firsts R_used (-1)), (upZ R_seconds R_used (-1)), (upZ R_sizes R_used 1), R_nodeTexts_10, (upZ R_terms R_many R_used))) else none)) else none) else none) else none) else none) else none)) else none) else (
    some (0, 1, R_used, R_many, R_kinds, R_numbers, R_firsts, R_seconds, R_sizes, R_nodeTexts, R_terms))) else none)) else none
set_option maxHeartbeats 4000000 in
set_option maxRecDepth 100000 in
theorem c_Mod_bytes {l : Launch} {D : va_G} {cI cL cB : ClassId} {ad : Nat → Nat} {N : Nat} {R_thrown : Int} {R_used : Int} {R_many : Int} {R_values : Int} {R_textEnd : Int} {R_dataEnd : Int} {R_rowEnd : Int} {R_rowMany : Int} {R_waiting : Int} {R_mostWaiting : Int} {R_answer : Int} {R_steps : Int} {R_memory : Int} {R_maxSteps : Int} {R_maxMemory : Int} {R_fault : Int} {R_result : Int} {R_now : Int} {R_nowRow : Int} {R_come : Int} {R_puts : Int} {R_kinds : Int → Int} {R_numbers : Int → Int} {R_firsts : Int → Int} {R_seconds : Int → Int} {R_sizes : Int → Int} {R_nodeTexts : Int → Int} {R_terms : Int → Int} {p1 : Int} {p3 : Int} {out : Int × Int × Int × Int × (Int → Int) × (Int → Int) × (Int → Int) × (Int → Int) × (Int → Int) × (Int → Int) × (Int → Int)} (h : f_Mod_bytes N R_thrown R_used R_many R_kinds R_numbers R_firsts R_seconds R_sizes R_nodeTexts R_terms p1 p3 = some out) : CT jF0 false l D [(cI, .int), (cL, .long), (cB, .byte)] y_Mod_bytes w_Mod_bytes ({ frames := 1, cells := 0, slots := 0, locals := 25 } : Room) [.ref (ad 0), .long (zL p1), .int (zI p3)] [(ad 0, .inr (10, [.int (zI R_thrown), .ref (ad 1), .ref (ad 2), .ref (ad 3), .ref (ad 4), .ref (ad 5), .ref (ad 6), .int (zI R_used), .ref (ad 7), .int (zI R_many), .ref (ad 8), .ref (ad 9), .ref (ad 10), .ref (ad 11), .ref (ad 12), .ref (ad 13), .ref (ad 14), .ref (ad 15), .ref (ad 16), .int (zI R_values), .ref (ad 17), .int (zI R_textEnd), .ref (ad 18), .ref (ad 19), .ref (ad 20), .ref (ad 21), .int (zI R_dataEnd), .ref (ad 22), .int (zI R_rowEnd), .ref (ad 23), .ref (ad 24), .int (zI R_rowMany), .ref (ad 25), .ref (ad 26), .ref (ad 27), .ref (ad 28), .int (zI R_waiting), .int (zI R_mostWaiting), .int (zI R_answer), .int (zI R_steps), .int (zI R_memory), .int (zI R_maxSteps), .int (zI R_maxMemory), .int (zI R_fault), .int (zI R_result), .int (zI R_now), .int (zI R_nowRow), .int (zI R_come), .ref (ad 29), .ref (ad 30), .int (zI R_puts), .ref (ad 31)])), (ad 1, .inl (cI, 200, .inl (zA R_kinds))), (ad 2, .inl (cL, 200, .inr (.inl (zB R_numbers)))), (ad 3, .inl (cI, 200, .inl (zA R_firsts))), (ad 4, .inl (cI, 200, .inl (zA R_seconds))), (ad 5, .inl (cI, 200, .inl (zA R_sizes))), (ad 6, .inl (cB, 12800, .inl (zA R_nodeTexts))), (ad 7, .inl (cI, 200, .inl (zA R_terms)))] (some (.int (zI out.1))) [(ad 0, .inr (10, [.int (zI (out.2.1)), .ref (ad 1), .ref (ad 2), .ref (ad 3), .ref (ad 4), .ref (ad 5), .ref (ad 6), .int (zI (out.2.2.1)), .ref (ad 7), .int (zI (out.2.2.2.1)), .ref (ad 8), .ref (ad 9), .ref (ad 10), .ref (ad 11), .ref (ad 12), .ref (ad 13), .ref (ad 14), .ref (ad 15), .ref (ad 16), .int (zI R_values), .ref (ad 17), .int (zI R_textEnd), .ref (ad 18), .ref (ad 19), .ref (ad 20), .ref (ad 21), .int (zI R_dataEnd), .ref (ad 22), .int (zI R_rowEnd), .ref (ad 23), .ref (ad 24), .int (zI R_rowMany), .ref (ad 25), .ref (ad 26), .ref (ad 27), .ref (ad 28), .int (zI R_waiting), .int (zI R_mostWaiting), .int (zI R_answer), .int (zI R_steps), .int (zI R_memory), .int (zI R_maxSteps), .int (zI R_maxMemory), .int (zI R_fault), .int (zI R_result), .int (zI R_now), .int (zI R_nowRow), .int (zI R_come), .ref (ad 29), .ref (ad 30), .int (zI R_puts), .ref (ad 31)])), (ad 1, .inl (cI, 200, .inl (zA (out.2.2.2.2.1)))), (ad 2, .inl (cL, 200, .inr (.inl (zB (out.2.2.2.2.2.1))))), (ad 3, .inl (cI, 200, .inl (zA (out.2.2.2.2.2.2.1)))), (ad 4, .inl (cI, 200, .inl (zA (out.2.2.2.2.2.2.2.1)))), (ad 5, .inl (cI, 200, .inl (zA (out.2.2.2.2.2.2.2.2.1)))), (ad 6, .inl (cB, 12800, .inl (zA (out.2.2.2.2.2.2.2.2.2.1)))), (ad 7, .inl (cI, 200, .inl (zA (out.2.2.2.2.2.2.2.2.2.2))))] 0 0 := by
  refine CT_of_J (cc := b_Mod_bytes) (maxL := 5) (ret := (some .int)) jF0_k (plainFor_of_name (by decide)) rfl (Nat.le_of_ble_eq_true rfl) ?_
  intro K hKl hKD X E
  subst hKl; subst hKD
  unfold f_Mod_bytes at h
  refine J_aload_n X d_Mod_bytes_0 rfl 0 rfl ?_
  refine J_iload_n X d_Mod_bytes_1 rfl 2 rfl ?_
  refine J_if_lt (tgt := 11) X d_Mod_bytes_2 (by decide) h (fun c1 h => ?_) (fun c1 h => ?_)
  · refine J_iconst X d_Mod_bytes_11 ?_
    refine J_goto (tgt := 30) X d_Mod_bytes_12 (by decide) ?_
    refine J_put (ws' := [(ad 0, .inr (10, [.int (zI 1), .ref (ad 1), .ref (ad 2), .ref (ad 3), .ref (ad 4), .ref (ad 5), .ref (ad 6), .int (zI R_used), .ref (ad 7), .int (zI R_many), .ref (ad 8), .ref (ad 9), .ref (ad 10), .ref (ad 11), .ref (ad 12), .ref (ad 13), .ref (ad 14), .ref (ad 15), .ref (ad 16), .int (zI R_values), .ref (ad 17), .int (zI R_textEnd), .ref (ad 18), .ref (ad 19), .ref (ad 20), .ref (ad 21), .int (zI R_dataEnd), .ref (ad 22), .int (zI R_rowEnd), .ref (ad 23), .ref (ad 24), .int (zI R_rowMany), .ref (ad 25), .ref (ad 26), .ref (ad 27), .ref (ad 28), .int (zI R_waiting), .int (zI R_mostWaiting), .int (zI R_answer), .int (zI R_steps), .int (zI R_memory), .int (zI R_maxSteps), .int (zI R_maxMemory), .int (zI R_fault), .int (zI R_result), .int (zI R_now), .int (zI R_nowRow), .int (zI R_come), .ref (ad 29), .ref (ad 30), .int (zI R_puts), .ref (ad 31)])), (ad 1, .inl (cI, 200, .inl (zA R_kinds))), (ad 2, .inl (cL, 200, .inr (.inl (zB R_numbers)))), (ad 3, .inl (cI, 200, .inl (zA R_firsts))), (ad 4, .inl (cI, 200, .inl (zA R_seconds))), (ad 5, .inl (cI, 200, .inl (zA R_sizes))), (ad 6, .inl (cB, 12800, .inl (zA R_nodeTexts))), (ad 7, .inl (cI, 200, .inl (zA R_terms)))]) X (j_in in_Mod) ty_Mod tok_Mod nm_Mod 0 rfl rfl 0 (by decide) (j_m own_Mod_bytes (by decide +kernel)) rfl rfl rfl (Nat.le_of_ble_eq_true rfl) d_Mod_bytes_30 rfl ?_
    refine J_aload_n X d_Mod_bytes_33 rfl 0 rfl ?_
    refine J_get X (j_in in_Mod) 0 rfl rfl 0 (by decide) (j_m own_Mod_bytes (by decide +kernel)) rfl d_Mod_bytes_34 ?_
    refine J_if_le (pa := none) (pb := some ()) (o := ()) (tgt := 42) X d_Mod_bytes_37 (by decide) (by decide) (fun _ h => by cases h) (fun _ _ => ?_)
    refine J_iconst X d_Mod_bytes_40 ?_
    cases h
    exact J_ret E ⟨_, rfl, rfl⟩ d_Mod_bytes_41 (Nat.le_refl _) (Nat.le_refl _) rfl
  · refine J_iload_n X d_Mod_bytes_5 rfl 2 rfl ?_
    refine J_bipush X d_Mod_bytes_6 (by decide) ?_
    refine J_icmp_le (tgt := 15) X d_Mod_bytes_8 (by decide) h (fun c2 h => ?_) (fun c2 h => ?_)
    · refine J_aload_n X d_Mod_bytes_15 rfl 0 rfl ?_
      refine J_get X (j_in in_Mod) 0 rfl rfl 7 (by decide) (j_m own_Mod_bytes (by decide +kernel)) rfl d_Mod_bytes_16 ?_
      refine J_sipush X d_Mod_bytes_19 (by decide) ?_
      refine J_icmp_ne (tgt := 29) X d_Mod_bytes_22 (by decide) h (fun c3 h => ?_) (fun c3 h => ?_)
      · refine J_iconst X d_Mod_bytes_29 ?_
        refine J_put (ws' := [(ad 0, .inr (10, [.int (zI 0), .ref (ad 1), .ref (ad 2), .ref (ad 3), .ref (ad 4), .ref (ad 5), .ref (ad 6), .int (zI R_used), .ref (ad 7), .int (zI R_many), .ref (ad 8), .ref (ad 9), .ref (ad 10), .ref (ad 11), .ref (ad 12), .ref (ad 13), .ref (ad 14), .ref (ad 15), .ref (ad 16), .int (zI R_values), .ref (ad 17), .int (zI R_textEnd), .ref (ad 18), .ref (ad 19), .ref (ad 20), .ref (ad 21), .int (zI R_dataEnd), .ref (ad 22), .int (zI R_rowEnd), .ref (ad 23), .ref (ad 24), .int (zI R_rowMany), .ref (ad 25), .ref (ad 26), .ref (ad 27), .ref (ad 28), .int (zI R_waiting), .int (zI R_mostWaiting), .int (zI R_answer), .int (zI R_steps), .int (zI R_memory), .int (zI R_maxSteps), .int (zI R_maxMemory), .int (zI R_fault), .int (zI R_result), .int (zI R_now), .int (zI R_nowRow), .int (zI R_come), .ref (ad 29), .ref (ad 30), .int (zI R_puts), .ref (ad 31)])), (ad 1, .inl (cI, 200, .inl (zA R_kinds))), (ad 2, .inl (cL, 200, .inr (.inl (zB R_numbers)))), (ad 3, .inl (cI, 200, .inl (zA R_firsts))), (ad 4, .inl (cI, 200, .inl (zA R_seconds))), (ad 5, .inl (cI, 200, .inl (zA R_sizes))), (ad 6, .inl (cB, 12800, .inl (zA R_nodeTexts))), (ad 7, .inl (cI, 200, .inl (zA R_terms)))]) X (j_in in_Mod) ty_Mod tok_Mod nm_Mod 0 rfl rfl 0 (by decide) (j_m own_Mod_bytes (by decide +kernel)) rfl rfl rfl (Nat.le_of_ble_eq_true rfl) d_Mod_bytes_30 rfl ?_
        refine J_aload_n X d_Mod_bytes_33 rfl 0 rfl ?_
        refine J_get X (j_in in_Mod) 0 rfl rfl 0 (by decide) (j_m own_Mod_bytes (by decide +kernel)) rfl d_Mod_bytes_34 ?_
        refine J_if_le (pa := some ()) (pb := none) (o := ()) (tgt := 42) X d_Mod_bytes_37 (by decide) (by decide) (fun _ _ => ?_) (fun _ h => by cases h)
        refine J_aload_n X d_Mod_bytes_42 rfl 0 rfl ?_
        refine J_get X (j_in in_Mod) 0 rfl rfl 7 (by decide) (j_m own_Mod_bytes (by decide +kernel)) rfl d_Mod_bytes_43 ?_
        refine J_istore (lv' := [(4, .int (zI R_used)), (0, .ref (ad 0)), (1, .long (zL p1)), (3, .int (zI p3))]) X d_Mod_bytes_46 (by decide) rfl ?_
        refine J_aload_n X d_Mod_bytes_48 rfl 1 rfl ?_
        refine J_dup X d_Mod_bytes_49 rfl ?_
        refine J_get X (j_in in_Mod) 0 rfl rfl 7 (by decide) (j_m own_Mod_bytes (by decide +kernel)) rfl d_Mod_bytes_50 ?_
        refine J_iconst X d_Mod_bytes_53 ?_
        refine J_iadd X d_Mod_bytes_54 ?_
        refine J_put (ws' := [(ad 0, .inr (10, [.int (zI 0), .ref (ad 1), .ref (ad 2), .ref (ad 3), .ref (ad 4), .ref (ad 5), .ref (ad 6), .int (zI (R_used + 1)), .ref (ad 7), .int (zI R_many), .ref (ad 8), .ref (ad 9), .ref (ad 10), .ref (ad 11), .ref (ad 12), .ref (ad 13), .ref (ad 14), .ref (ad 15), .ref (ad 16), .int (zI R_values), .ref (ad 17), .int (zI R_textEnd), .ref (ad 18), .ref (ad 19), .ref (ad 20), .ref (ad 21), .int (zI R_dataEnd), .ref (ad 22), .int (zI R_rowEnd), .ref (ad 23), .ref (ad 24), .int (zI R_rowMany), .ref (ad 25), .ref (ad 26), .ref (ad 27), .ref (ad 28), .int (zI R_waiting), .int (zI R_mostWaiting), .int (zI R_answer), .int (zI R_steps), .int (zI R_memory), .int (zI R_maxSteps), .int (zI R_maxMemory), .int (zI R_fault), .int (zI R_result), .int (zI R_now), .int (zI R_nowRow), .int (zI R_come), .ref (ad 29), .ref (ad 30), .int (zI R_puts), .ref (ad 31)])), (ad 1, .inl (cI, 200, .inl (zA R_kinds))), (ad 2, .inl (cL, 200, .inr (.inl (zB R_numbers)))), (ad 3, .inl (cI, 200, .inl (zA R_firsts))), (ad 4, .inl (cI, 200, .inl (zA R_seconds))), (ad 5, .inl (cI, 200, .inl (zA R_sizes))), (ad 6, .inl (cB, 12800, .inl (zA R_nodeTexts))), (ad 7, .inl (cI, 200, .inl (zA R_terms)))]) X (j_in in_Mod) ty_Mod tok_Mod nm_Mod 0 rfl rfl 7 (by decide) (j_m own_Mod_bytes (by decide +kernel)) rfl rfl rfl (Nat.le_of_ble_eq_true rfl) d_Mod_bytes_55 rfl ?_
        refine J_aload_n X d_Mod_bytes_58 rfl 1 rfl ?_
        refine J_get X (j_in in_Mod) 0 rfl rfl 1 (by decide) (j_m own_Mod_bytes (by decide +kernel)) rfl d_Mod_bytes_59 ?_
        refine J_iload X d_Mod_bytes_62 0 rfl ?_
        refine J_bipush X d_Mod_bytes_64 (by decide) ?_
        obtain ⟨g4, h⟩ := wk_g h
        refine J_iast (ws' := [(ad 0, .inr (10, [.int (zI 0), .ref (ad 1), .ref (ad 2), .ref (ad 3), .ref (ad 4), .ref (ad 5), .ref (ad 6), .int (zI (R_used + 1)), .ref (ad 7), .int (zI R_many), .ref (ad 8), .ref (ad 9), .ref (ad 10), .ref (ad 11), .ref (ad 12), .ref (ad 13), .ref (ad 14), .ref (ad 15), .ref (ad 16), .int (zI R_values), .ref (ad 17), .int (zI R_textEnd), .ref (ad 18), .ref (ad 19), .ref (ad 20), .ref (ad 21), .int (zI R_dataEnd), .ref (ad 22), .int (zI R_rowEnd), .ref (ad 23), .ref (ad 24), .int (zI R_rowMany), .ref (ad 25), .ref (ad 26), .ref (ad 27), .ref (ad 28), .int (zI R_waiting), .int (zI R_mostWaiting), .int (zI R_answer), .int (zI R_steps), .int (zI R_memory), .int (zI R_maxSteps), .int (zI R_maxMemory), .int (zI R_fault), .int (zI R_result), .int (zI R_now), .int (zI R_nowRow), .int (zI R_come), .ref (ad 29), .ref (ad 30), .int (zI R_puts), .ref (ad 31)])), (ad 1, .inl (cI, 200, .inl (zA (upZ R_kinds R_used 8)))), (ad 2, .inl (cL, 200, .inr (.inl (zB R_numbers)))), (ad 3, .inl (cI, 200, .inl (zA R_firsts))), (ad 4, .inl (cI, 200, .inl (zA R_seconds))), (ad 5, .inl (cI, 200, .inl (zA R_sizes))), (ad 6, .inl (cB, 12800, .inl (zA R_nodeTexts))), (ad 7, .inl (cI, 200, .inl (zA R_terms)))]) X 1 0 rfl rfl g4 d_Mod_bytes_66 rfl ?_
        refine J_aload_n X d_Mod_bytes_67 rfl 1 rfl ?_
        refine J_get X (j_in in_Mod) 0 rfl rfl 2 (by decide) (j_m own_Mod_bytes (by decide +kernel)) rfl d_Mod_bytes_68 ?_
        refine J_iload X d_Mod_bytes_71 0 rfl ?_
        refine J_lconst (v := 0) X d_Mod_bytes_73 (by decide) ?_
        obtain ⟨g5, h⟩ := wk_g h
        refine J_last (ws' := [(ad 0, .inr (10, [.int (zI 0), .ref (ad 1), .ref (ad 2), .ref (ad 3), .ref (ad 4), .ref (ad 5), .ref (ad 6), .int (zI (R_used + 1)), .ref (ad 7), .int (zI R_many), .ref (ad 8), .ref (ad 9), .ref (ad 10), .ref (ad 11), .ref (ad 12), .ref (ad 13), .ref (ad 14), .ref (ad 15), .ref (ad 16), .int (zI R_values), .ref (ad 17), .int (zI R_textEnd), .ref (ad 18), .ref (ad 19), .ref (ad 20), .ref (ad 21), .int (zI R_dataEnd), .ref (ad 22), .int (zI R_rowEnd), .ref (ad 23), .ref (ad 24), .int (zI R_rowMany), .ref (ad 25), .ref (ad 26), .ref (ad 27), .ref (ad 28), .int (zI R_waiting), .int (zI R_mostWaiting), .int (zI R_answer), .int (zI R_steps), .int (zI R_memory), .int (zI R_maxSteps), .int (zI R_maxMemory), .int (zI R_fault), .int (zI R_result), .int (zI R_now), .int (zI R_nowRow), .int (zI R_come), .ref (ad 29), .ref (ad 30), .int (zI R_puts), .ref (ad 31)])), (ad 1, .inl (cI, 200, .inl (zA (upZ R_kinds R_used 8)))), (ad 2, .inl (cL, 200, .inr (.inl (zB (upZ R_numbers R_used 0))))), (ad 3, .inl (cI, 200, .inl (zA R_firsts))), (ad 4, .inl (cI, 200, .inl (zA R_seconds))), (ad 5, .inl (cI, 200, .inl (zA R_sizes))), (ad 6, .inl (cB, 12800, .inl (zA R_nodeTexts))), (ad 7, .inl (cI, 200, .inl (zA R_terms)))]) X 2 1 rfl rfl g5 d_Mod_bytes_74 rfl ?_
        refine J_aload_n X d_Mod_bytes_75 rfl 1 rfl ?_
        refine J_get X (j_in in_Mod) 0 rfl rfl 3 (by decide) (j_m own_Mod_bytes (by decide +kernel)) rfl d_Mod_bytes_76 ?_
        refine J_iload X d_Mod_bytes_79 0 rfl ?_
        refine J_iconst X d_Mod_bytes_81 ?_
        obtain ⟨g6, h⟩ := wk_g h
        refine J_iast (ws' := [(ad 0, .inr (10, [.int (zI 0), .ref (ad 1), .ref (ad 2), .ref (ad 3), .ref (ad 4), .ref (ad 5), .ref (ad 6), .int (zI (R_used + 1)), .ref (ad 7), .int (zI R_many), .ref (ad 8), .ref (ad 9), .ref (ad 10), .ref (ad 11), .ref (ad 12), .ref (ad 13), .ref (ad 14), .ref (ad 15), .ref (ad 16), .int (zI R_values), .ref (ad 17), .int (zI R_textEnd), .ref (ad 18), .ref (ad 19), .ref (ad 20), .ref (ad 21), .int (zI R_dataEnd), .ref (ad 22), .int (zI R_rowEnd), .ref (ad 23), .ref (ad 24), .int (zI R_rowMany), .ref (ad 25), .ref (ad 26), .ref (ad 27), .ref (ad 28), .int (zI R_waiting), .int (zI R_mostWaiting), .int (zI R_answer), .int (zI R_steps), .int (zI R_memory), .int (zI R_maxSteps), .int (zI R_maxMemory), .int (zI R_fault), .int (zI R_result), .int (zI R_now), .int (zI R_nowRow), .int (zI R_come), .ref (ad 29), .ref (ad 30), .int (zI R_puts), .ref (ad 31)])), (ad 1, .inl (cI, 200, .inl (zA (upZ R_kinds R_used 8)))), (ad 2, .inl (cL, 200, .inr (.inl (zB (upZ R_numbers R_used 0))))), (ad 3, .inl (cI, 200, .inl (zA (upZ R_firsts R_used (-1))))), (ad 4, .inl (cI, 200, .inl (zA R_seconds))), (ad 5, .inl (cI, 200, .inl (zA R_sizes))), (ad 6, .inl (cB, 12800, .inl (zA R_nodeTexts))), (ad 7, .inl (cI, 200, .inl (zA R_terms)))]) X 3 0 rfl rfl g6 d_Mod_bytes_82 rfl ?_
        refine J_aload_n X d_Mod_bytes_83 rfl 1 rfl ?_
        refine J_get X (j_in in_Mod) 0 rfl rfl 4 (by decide) (j_m own_Mod_bytes (by decide +kernel)) rfl d_Mod_bytes_84 ?_
        refine J_iload X d_Mod_bytes_87 0 rfl ?_
        refine J_iconst X d_Mod_bytes_89 ?_
        obtain ⟨g7, h⟩ := wk_g h
        refine J_iast (ws' := [(ad 0, .inr (10, [.int (zI 0), .ref (ad 1), .ref (ad 2), .ref (ad 3), .ref (ad 4), .ref (ad 5), .ref (ad 6), .int (zI (R_used + 1)), .ref (ad 7), .int (zI R_many), .ref (ad 8), .ref (ad 9), .ref (ad 10), .ref (ad 11), .ref (ad 12), .ref (ad 13), .ref (ad 14), .ref (ad 15), .ref (ad 16), .int (zI R_values), .ref (ad 17), .int (zI R_textEnd), .ref (ad 18), .ref (ad 19), .ref (ad 20), .ref (ad 21), .int (zI R_dataEnd), .ref (ad 22), .int (zI R_rowEnd), .ref (ad 23), .ref (ad 24), .int (zI R_rowMany), .ref (ad 25), .ref (ad 26), .ref (ad 27), .ref (ad 28), .int (zI R_waiting), .int (zI R_mostWaiting), .int (zI R_answer), .int (zI R_steps), .int (zI R_memory), .int (zI R_maxSteps), .int (zI R_maxMemory), .int (zI R_fault), .int (zI R_result), .int (zI R_now), .int (zI R_nowRow), .int (zI R_come), .ref (ad 29), .ref (ad 30), .int (zI R_puts), .ref (ad 31)])), (ad 1, .inl (cI, 200, .inl (zA (upZ R_kinds R_used 8)))), (ad 2, .inl (cL, 200, .inr (.inl (zB (upZ R_numbers R_used 0))))), (ad 3, .inl (cI, 200, .inl (zA (upZ R_firsts R_used (-1))))), (ad 4, .inl (cI, 200, .inl (zA (upZ R_seconds R_used (-1))))), (ad 5, .inl (cI, 200, .inl (zA R_sizes))), (ad 6, .inl (cB, 12800, .inl (zA R_nodeTexts))), (ad 7, .inl (cI, 200, .inl (zA R_terms)))]) X 4 0 rfl rfl g7 d_Mod_bytes_90 rfl ?_
        refine J_aload_n X d_Mod_bytes_91 rfl 1 rfl ?_
        refine J_get X (j_in in_Mod) 0 rfl rfl 5 (by decide) (j_m own_Mod_bytes (by decide +kernel)) rfl d_Mod_bytes_92 ?_
        refine J_iload X d_Mod_bytes_95 0 rfl ?_
        refine J_iconst X d_Mod_bytes_97 ?_
        obtain ⟨g8, h⟩ := wk_g h
        refine J_iast (ws' := [(ad 0, .inr (10, [.int (zI 0), .ref (ad 1), .ref (ad 2), .ref (ad 3), .ref (ad 4), .ref (ad 5), .ref (ad 6), .int (zI (R_used + 1)), .ref (ad 7), .int (zI R_many), .ref (ad 8), .ref (ad 9), .ref (ad 10), .ref (ad 11), .ref (ad 12), .ref (ad 13), .ref (ad 14), .ref (ad 15), .ref (ad 16), .int (zI R_values), .ref (ad 17), .int (zI R_textEnd), .ref (ad 18), .ref (ad 19), .ref (ad 20), .ref (ad 21), .int (zI R_dataEnd), .ref (ad 22), .int (zI R_rowEnd), .ref (ad 23), .ref (ad 24), .int (zI R_rowMany), .ref (ad 25), .ref (ad 26), .ref (ad 27), .ref (ad 28), .int (zI R_waiting), .int (zI R_mostWaiting), .int (zI R_answer), .int (zI R_steps), .int (zI R_memory), .int (zI R_maxSteps), .int (zI R_maxMemory), .int (zI R_fault), .int (zI R_result), .int (zI R_now), .int (zI R_nowRow), .int (zI R_come), .ref (ad 29), .ref (ad 30), .int (zI R_puts), .ref (ad 31)])), (ad 1, .inl (cI, 200, .inl (zA (upZ R_kinds R_used 8)))), (ad 2, .inl (cL, 200, .inr (.inl (zB (upZ R_numbers R_used 0))))), (ad 3, .inl (cI, 200, .inl (zA (upZ R_firsts R_used (-1))))), (ad 4, .inl (cI, 200, .inl (zA (upZ R_seconds R_used (-1))))), (ad 5, .inl (cI, 200, .inl (zA (upZ R_sizes R_used 1)))), (ad 6, .inl (cB, 12800, .inl (zA R_nodeTexts))), (ad 7, .inl (cI, 200, .inl (zA R_terms)))]) X 5 0 rfl rfl g8 d_Mod_bytes_98 rfl ?_
        refine J_aload_n X d_Mod_bytes_99 rfl 1 rfl ?_
        refine J_iload X d_Mod_bytes_100 0 rfl ?_
        refine J_lload_n X d_Mod_bytes_102 rfl 2 rfl ?_
        refine J_iload_n X d_Mod_bytes_103 rfl 3 rfl ?_
        obtain ⟨R_numbers_9, R_nodeTexts_10, q11, h⟩ := wk_b2 h
        refine J_afterI0 (ws' := [(ad 0, .inr (10, [.int (zI 0), .ref (ad 1), .ref (ad 2), .ref (ad 3), .ref (ad 4), .ref (ad 5), .ref (ad 6), .int (zI (R_used + 1)), .ref (ad 7), .int (zI R_many), .ref (ad 8), .ref (ad 9), .ref (ad 10), .ref (ad 11), .ref (ad 12), .ref (ad 13), .ref (ad 14), .ref (ad 15), .ref (ad 16), .int (zI R_values), .ref (ad 17), .int (zI R_textEnd), .ref (ad 18), .ref (ad 19), .ref (ad 20), .ref (ad 21), .int (zI R_dataEnd), .ref (ad 22), .int (zI R_rowEnd), .ref (ad 23), .ref (ad 24), .int (zI R_rowMany), .ref (ad 25), .ref (ad 26), .ref (ad 27), .ref (ad 28), .int (zI R_waiting), .int (zI R_mostWaiting), .int (zI R_answer), .int (zI R_steps), .int (zI R_memory), .int (zI R_maxSteps), .int (zI R_maxMemory), .int (zI R_fault), .int (zI R_result), .int (zI R_now), .int (zI R_nowRow), .int (zI R_come), .ref (ad 29), .ref (ad 30), .int (zI R_puts), .ref (ad 31)])), (ad 1, .inl (cI, 200, .inl (zA (upZ R_kinds R_used 8)))), (ad 2, .inl (cL, 200, .inr (.inl (zB R_numbers_9)))), (ad 3, .inl (cI, 200, .inl (zA (upZ R_firsts R_used (-1))))), (ad 4, .inl (cI, 200, .inl (zA (upZ R_seconds R_used (-1))))), (ad 5, .inl (cI, 200, .inl (zA (upZ R_sizes R_used 1)))), (ad 6, .inl (cB, 12800, .inl (zA R_nodeTexts_10))), (ad 7, .inl (cI, 200, .inl (zA R_terms)))]) X (jrunV X (c_Mod_append (ad := ad) q11) jF0_k (fun _ _ _ _ => trivial) (jgV own_Mod_bytes (by decide +kernel)) rfl rfl rfl pd_Mod_append (by decide) [0, 2, 6] rfl (by decide) 0 10 rfl rfl rfl rfl (Nat.le_of_ble_eq_true rfl) d_Mod_bytes_104 (by decide)) [0, 2, 6] [1, 3, 4, 5, 7] [5, 0, 6, 1, 2, 3, 7, 4] rfl rfl (by decide) (by decide) rfl (by decide) ?_
        refine J_aload_n X d_Mod_bytes_107 rfl 1 rfl ?_
        refine J_get X (j_in in_Mod) 0 rfl rfl 8 (by decide) (j_m own_Mod_bytes (by decide +kernel)) rfl d_Mod_bytes_108 ?_
        refine J_aload_n X d_Mod_bytes_111 rfl 1 rfl ?_
        refine J_get X (j_in in_Mod) 0 rfl rfl 9 (by decide) (j_m own_Mod_bytes (by decide +kernel)) rfl d_Mod_bytes_112 ?_
        refine J_iload X d_Mod_bytes_115 0 rfl ?_
        obtain ⟨g12, h⟩ := wk_g h
        refine J_iast (ws' := [(ad 0, .inr (10, [.int (zI 0), .ref (ad 1), .ref (ad 2), .ref (ad 3), .ref (ad 4), .ref (ad 5), .ref (ad 6), .int (zI (R_used + 1)), .ref (ad 7), .int (zI R_many), .ref (ad 8), .ref (ad 9), .ref (ad 10), .ref (ad 11), .ref (ad 12), .ref (ad 13), .ref (ad 14), .ref (ad 15), .ref (ad 16), .int (zI R_values), .ref (ad 17), .int (zI R_textEnd), .ref (ad 18), .ref (ad 19), .ref (ad 20), .ref (ad 21), .int (zI R_dataEnd), .ref (ad 22), .int (zI R_rowEnd), .ref (ad 23), .ref (ad 24), .int (zI R_rowMany), .ref (ad 25), .ref (ad 26), .ref (ad 27), .ref (ad 28), .int (zI R_waiting), .int (zI R_mostWaiting), .int (zI R_answer), .int (zI R_steps), .int (zI R_memory), .int (zI R_maxSteps), .int (zI R_maxMemory), .int (zI R_fault), .int (zI R_result), .int (zI R_now), .int (zI R_nowRow), .int (zI R_come), .ref (ad 29), .ref (ad 30), .int (zI R_puts), .ref (ad 31)])), (ad 1, .inl (cI, 200, .inl (zA (upZ R_kinds R_used 8)))), (ad 2, .inl (cL, 200, .inr (.inl (zB R_numbers_9)))), (ad 3, .inl (cI, 200, .inl (zA (upZ R_firsts R_used (-1))))), (ad 4, .inl (cI, 200, .inl (zA (upZ R_seconds R_used (-1))))), (ad 5, .inl (cI, 200, .inl (zA (upZ R_sizes R_used 1)))), (ad 6, .inl (cB, 12800, .inl (zA R_nodeTexts_10))), (ad 7, .inl (cI, 200, .inl (zA (upZ R_terms R_many R_used))))]) X 7 0 rfl rfl g12 d_Mod_bytes_117 rfl ?_
        refine J_aload_n X d_Mod_bytes_118 rfl 1 rfl ?_
        refine J_dup X d_Mod_bytes_119 rfl ?_
        refine J_get X (j_in in_Mod) 0 rfl rfl 9 (by decide) (j_m own_Mod_bytes (by decide +kernel)) rfl d_Mod_bytes_120 ?_
        refine J_iconst X d_Mod_bytes_123 ?_
        refine J_iadd X d_Mod_bytes_124 ?_
        refine J_put (ws' := [(ad 0, .inr (10, [.int (zI 0), .ref (ad 1), .ref (ad 2), .ref (ad 3), .ref (ad 4), .ref (ad 5), .ref (ad 6), .int (zI (R_used + 1)), .ref (ad 7), .int (zI (R_many + 1)), .ref (ad 8), .ref (ad 9), .ref (ad 10), .ref (ad 11), .ref (ad 12), .ref (ad 13), .ref (ad 14), .ref (ad 15), .ref (ad 16), .int (zI R_values), .ref (ad 17), .int (zI R_textEnd), .ref (ad 18), .ref (ad 19), .ref (ad 20), .ref (ad 21), .int (zI R_dataEnd), .ref (ad 22), .int (zI R_rowEnd), .ref (ad 23), .ref (ad 24), .int (zI R_rowMany), .ref (ad 25), .ref (ad 26), .ref (ad 27), .ref (ad 28), .int (zI R_waiting), .int (zI R_mostWaiting), .int (zI R_answer), .int (zI R_steps), .int (zI R_memory), .int (zI R_maxSteps), .int (zI R_maxMemory), .int (zI R_fault), .int (zI R_result), .int (zI R_now), .int (zI R_nowRow), .int (zI R_come), .ref (ad 29), .ref (ad 30), .int (zI R_puts), .ref (ad 31)])), (ad 1, .inl (cI, 200, .inl (zA (upZ R_kinds R_used 8)))), (ad 2, .inl (cL, 200, .inr (.inl (zB R_numbers_9)))), (ad 3, .inl (cI, 200, .inl (zA (upZ R_firsts R_used (-1))))), (ad 4, .inl (cI, 200, .inl (zA (upZ R_seconds R_used (-1))))), (ad 5, .inl (cI, 200, .inl (zA (upZ R_sizes R_used 1)))), (ad 6, .inl (cB, 12800, .inl (zA R_nodeTexts_10))), (ad 7, .inl (cI, 200, .inl (zA (upZ R_terms R_many R_used))))]) X (j_in in_Mod) ty_Mod tok_Mod nm_Mod 0 rfl rfl 9 (by decide) (j_m own_Mod_bytes (by decide +kernel)) rfl rfl rfl (Nat.le_of_ble_eq_true rfl) d_Mod_bytes_125 rfl ?_
        refine J_aload_n X d_Mod_bytes_128 rfl 1 rfl ?_
        refine J_get X (j_in in_Mod) 0 rfl rfl 9 (by decide) (j_m own_Mod_bytes (by decide +kernel)) rfl d_Mod_bytes_129 ?_
        cases h
        exact J_ret E ⟨_, rfl, rfl⟩ d_Mod_bytes_132 (Nat.le_refl _) (Nat.le_refl _) rfl
      · refine J_iconst X d_Mod_bytes_25 ?_
        refine J_goto (tgt := 30) X d_Mod_bytes_26 (by decide) ?_
        refine J_put (ws' := [(ad 0, .inr (10, [.int (zI 2), .ref (ad 1), .ref (ad 2), .ref (ad 3), .ref (ad 4), .ref (ad 5), .ref (ad 6), .int (zI R_used), .ref (ad 7), .int (zI R_many), .ref (ad 8), .ref (ad 9), .ref (ad 10), .ref (ad 11), .ref (ad 12), .ref (ad 13), .ref (ad 14), .ref (ad 15), .ref (ad 16), .int (zI R_values), .ref (ad 17), .int (zI R_textEnd), .ref (ad 18), .ref (ad 19), .ref (ad 20), .ref (ad 21), .int (zI R_dataEnd), .ref (ad 22), .int (zI R_rowEnd), .ref (ad 23), .ref (ad 24), .int (zI R_rowMany), .ref (ad 25), .ref (ad 26), .ref (ad 27), .ref (ad 28), .int (zI R_waiting), .int (zI R_mostWaiting), .int (zI R_answer), .int (zI R_steps), .int (zI R_memory), .int (zI R_maxSteps), .int (zI R_maxMemory), .int (zI R_fault), .int (zI R_result), .int (zI R_now), .int (zI R_nowRow), .int (zI R_come), .ref (ad 29), .ref (ad 30), .int (zI R_puts), .ref (ad 31)])), (ad 1, .inl (cI, 200, .inl (zA R_kinds))), (ad 2, .inl (cL, 200, .inr (.inl (zB R_numbers)))), (ad 3, .inl (cI, 200, .inl (zA R_firsts))), (ad 4, .inl (cI, 200, .inl (zA R_seconds))), (ad 5, .inl (cI, 200, .inl (zA R_sizes))), (ad 6, .inl (cB, 12800, .inl (zA R_nodeTexts))), (ad 7, .inl (cI, 200, .inl (zA R_terms)))]) X (j_in in_Mod) ty_Mod tok_Mod nm_Mod 0 rfl rfl 0 (by decide) (j_m own_Mod_bytes (by decide +kernel)) rfl rfl rfl (Nat.le_of_ble_eq_true rfl) d_Mod_bytes_30 rfl ?_
        refine J_aload_n X d_Mod_bytes_33 rfl 0 rfl ?_
        refine J_get X (j_in in_Mod) 0 rfl rfl 0 (by decide) (j_m own_Mod_bytes (by decide +kernel)) rfl d_Mod_bytes_34 ?_
        refine J_if_le (pa := none) (pb := some ()) (o := ()) (tgt := 42) X d_Mod_bytes_37 (by decide) (by decide) (fun _ h => by cases h) (fun _ _ => ?_)
        refine J_iconst X d_Mod_bytes_40 ?_
        cases h
        exact J_ret E ⟨_, rfl, rfl⟩ d_Mod_bytes_41 (Nat.le_refl _) (Nat.le_refl _) rfl
    · refine J_iconst X d_Mod_bytes_11 ?_
      refine J_goto (tgt := 30) X d_Mod_bytes_12 (by decide) ?_
      refine J_put (ws' := [(ad 0, .inr (10, [.int (zI 1), .ref (ad 1), .ref (ad 2), .ref (ad 3), .ref (ad 4), .ref (ad 5), .ref (ad 6), .int (zI R_used), .ref (ad 7), .int (zI R_many), .ref (ad 8), .ref (ad 9), .ref (ad 10), .ref (ad 11), .ref (ad 12), .ref (ad 13), .ref (ad 14), .ref (ad 15), .ref (ad 16), .int (zI R_values), .ref (ad 17), .int (zI R_textEnd), .ref (ad 18), .ref (ad 19), .ref (ad 20), .ref (ad 21), .int (zI R_dataEnd), .ref (ad 22), .int (zI R_rowEnd), .ref (ad 23), .ref (ad 24), .int (zI R_rowMany), .ref (ad 25), .ref (ad 26), .ref (ad 27), .ref (ad 28), .int (zI R_waiting), .int (zI R_mostWaiting), .int (zI R_answer), .int (zI R_steps), .int (zI R_memory), .int (zI R_maxSteps), .int (zI R_maxMemory), .int (zI R_fault), .int (zI R_result), .int (zI R_now), .int (zI R_nowRow), .int (zI R_come), .ref (ad 29), .ref (ad 30), .int (zI R_puts), .ref (ad 31)])), (ad 1, .inl (cI, 200, .inl (zA R_kinds))), (ad 2, .inl (cL, 200, .inr (.inl (zB R_numbers)))), (ad 3, .inl (cI, 200, .inl (zA R_firsts))), (ad 4, .inl (cI, 200, .inl (zA R_seconds))), (ad 5, .inl (cI, 200, .inl (zA R_sizes))), (ad 6, .inl (cB, 12800, .inl (zA R_nodeTexts))), (ad 7, .inl (cI, 200, .inl (zA R_terms)))]) X (j_in in_Mod) ty_Mod tok_Mod nm_Mod 0 rfl rfl 0 (by decide) (j_m own_Mod_bytes (by decide +kernel)) rfl rfl rfl (Nat.le_of_ble_eq_true rfl) d_Mod_bytes_30 rfl ?_
      refine J_aload_n X d_Mod_bytes_33 rfl 0 rfl ?_
      refine J_get X (j_in in_Mod) 0 rfl rfl 0 (by decide) (j_m own_Mod_bytes (by decide +kernel)) rfl d_Mod_bytes_34 ?_
      refine J_if_le (pa := none) (pb := some ()) (o := ()) (tgt := 42) X d_Mod_bytes_37 (by decide) (by decide) (fun _ h => by cases h) (fun _ _ => ?_)
      refine J_iconst X d_Mod_bytes_40 ?_
      cases h
      exact J_ret E ⟨_, rfl, rfl⟩ d_Mod_bytes_41 (Nat.le_refl _) (Nat.le_refl _) rfl

