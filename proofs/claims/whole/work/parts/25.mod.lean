theorem d_Mod_order_0 : decode b_Mod_order 0 = .ok (.iconst 0, 1) := by decide +kernel
theorem d_Mod_order_1 : decode b_Mod_order 1 = .ok (.istore_n 3, 1) := by decide +kernel
theorem d_Mod_order_2 : decode b_Mod_order 2 = .ok (.iload_n 3, 1) := by decide +kernel
theorem d_Mod_order_3 : decode b_Mod_order 3 = .ok (.aload_n 0, 1) := by decide +kernel
theorem d_Mod_order_4 : decode b_Mod_order 4 = .ok (.getfield 42, 3) := by decide +kernel
theorem d_Mod_order_7 : decode b_Mod_order 7 = .ok (.iload_n 1, 1) := by decide +kernel
theorem d_Mod_order_8 : decode b_Mod_order 8 = .ok (.iaload, 1) := by decide +kernel
theorem d_Mod_order_9 : decode b_Mod_order 9 = .ok (.if_icmp .ge 48, 3) := by decide +kernel
theorem d_Mod_order_12 : decode b_Mod_order 12 = .ok (.iload_n 3, 1) := by decide +kernel
theorem d_Mod_order_13 : decode b_Mod_order 13 = .ok (.aload_n 0, 1) := by decide +kernel
theorem d_Mod_order_14 : decode b_Mod_order 14 = .ok (.getfield 42, 3) := by decide +kernel
theorem d_Mod_order_17 : decode b_Mod_order 17 = .ok (.iload_n 2, 1) := by decide +kernel
theorem d_Mod_order_18 : decode b_Mod_order 18 = .ok (.iaload, 1) := by decide +kernel
theorem d_Mod_order_19 : decode b_Mod_order 19 = .ok (.if_icmp .ge 38, 3) := by decide +kernel
theorem d_Mod_order_22 : decode b_Mod_order 22 = .ok (.aload_n 0, 1) := by decide +kernel
theorem d_Mod_order_23 : decode b_Mod_order 23 = .ok (.iload_n 1, 1) := by decide +kernel
theorem d_Mod_order_24 : decode b_Mod_order 24 = .ok (.iload_n 3, 1) := by decide +kernel
theorem d_Mod_order_25 : decode b_Mod_order 25 = .ok (.invokevirtual 194, 3) := by decide +kernel
theorem d_Mod_order_28 : decode b_Mod_order 28 = .ok (.aload_n 0, 1) := by decide +kernel
theorem d_Mod_order_29 : decode b_Mod_order 29 = .ok (.iload_n 2, 1) := by decide +kernel
theorem d_Mod_order_30 : decode b_Mod_order 30 = .ok (.iload_n 3, 1) := by decide +kernel
theorem d_Mod_order_31 : decode b_Mod_order 31 = .ok (.invokevirtual 194, 3) := by decide +kernel
theorem d_Mod_order_34 : decode b_Mod_order 34 = .ok (.if_icmp .eq 17, 3) := by decide +kernel
theorem d_Mod_order_37 : decode b_Mod_order 37 = .ok (.aload_n 0, 1) := by decide +kernel
theorem d_Mod_order_38 : decode b_Mod_order 38 = .ok (.iload_n 1, 1) := by decide +kernel
theorem d_Mod_order_39 : decode b_Mod_order 39 = .ok (.iload_n 3, 1) := by decide +kernel
theorem d_Mod_order_40 : decode b_Mod_order 40 = .ok (.invokevirtual 194, 3) := by decide +kernel
theorem d_Mod_order_43 : decode b_Mod_order 43 = .ok (.aload_n 0, 1) := by decide +kernel
theorem d_Mod_order_44 : decode b_Mod_order 44 = .ok (.iload_n 2, 1) := by decide +kernel
theorem d_Mod_order_45 : decode b_Mod_order 45 = .ok (.iload_n 3, 1) := by decide +kernel
theorem d_Mod_order_46 : decode b_Mod_order 46 = .ok (.invokevirtual 194, 3) := by decide +kernel
theorem d_Mod_order_49 : decode b_Mod_order 49 = .ok (.isub, 1) := by decide +kernel
theorem d_Mod_order_50 : decode b_Mod_order 50 = .ok (.ireturn, 1) := by decide +kernel
theorem d_Mod_order_51 : decode b_Mod_order 51 = .ok (.iinc 3 1, 3) := by decide +kernel
theorem d_Mod_order_54 : decode b_Mod_order 54 = .ok (.goto (-52), 3) := by decide +kernel
theorem d_Mod_order_57 : decode b_Mod_order 57 = .ok (.aload_n 0, 1) := by decide +kernel
theorem d_Mod_order_58 : decode b_Mod_order 58 = .ok (.getfield 42, 3) := by decide +kernel
theorem d_Mod_order_61 : decode b_Mod_order 61 = .ok (.iload_n 1, 1) := by decide +kernel
theorem d_Mod_order_62 : decode b_Mod_order 62 = .ok (.iaload, 1) := by decide +kernel
theorem d_Mod_order_63 : decode b_Mod_order 63 = .ok (.aload_n 0, 1) := by decide +kernel
theorem d_Mod_order_64 : decode b_Mod_order 64 = .ok (.getfield 42, 3) := by decide +kernel
theorem d_Mod_order_67 : decode b_Mod_order 67 = .ok (.iload_n 2, 1) := by decide +kernel
theorem d_Mod_order_68 : decode b_Mod_order 68 = .ok (.iaload, 1) := by decide +kernel
theorem d_Mod_order_69 : decode b_Mod_order 69 = .ok (.isub, 1) := by decide +kernel
theorem d_Mod_order_70 : decode b_Mod_order 70 = .ok (.ireturn, 1) := by decide +kernel
def f_Mod_order_L2 (R_from : Int → Int) (R_length : Int → Int) (R_texts : Int → Int) : Nat → Int → Int → Int → Option (Int)
  | 0, _, _, _ => none
  | n + 1, x1, x2, x3 =>
    if jix x1 3700 = true then (
     if jr2 x3 (R_length x1) = true then (if (R_length x1) ≤ x3 then (
      if jix x1 3700 = true then (
       if jix x2 3700 = true then (
        some ((R_length x1) - (R_length x2))) else none) else none) else (
      if jix x2 3700 = true then (
       if jr2 x3 (R_length x2) = true then (if (R_length x2) ≤ x3 then (
        if jix x1 3700 = true then (
         if jix x2 3700 = true then (
          some ((R_length x1) - (R_length x2))) else none) else none) else (
        Option.bind (f_Mod_byteOf R_from R_texts x1 x3) (fun r9 =>
         Option.bind (f_Mod_byteOf R_from R_texts x2 x3) (fun r11 =>
          if jr2 r9 r11 = true then (if r9 = r11 then (
           f_Mod_order_L2 R_from R_length R_texts n x1 x2 (x3 + 1)) else (
           Option.bind (f_Mod_byteOf R_from R_texts x1 x3) (fun r14 =>
            Option.bind (f_Mod_byteOf R_from R_texts x2 x3) (fun r16 =>
             some (r14 - r16))))) else none)))) else none) else none)) else none) else none
def f_Mod_order (N : Nat) (R_from : Int → Int) (R_length : Int → Int) (R_texts : Int → Int) (p1 : Int) (p2 : Int) : Option (Int) :=
  f_Mod_order_L2 R_from R_length R_texts N p1 p2 0
set_option maxHeartbeats 4000000 in
set_option maxRecDepth 100000 in
theorem k_Mod_order_L2 {K : jK} {cI cL cB : ClassId} {ad : Nat → Nat} {R_from : Int → Int} {R_length : Int → Int} {R_texts : Int → Int} {R_thrown : Int} {R_used : Int} {R_many : Int} {R_values : Int} {R_textEnd : Int} {R_dataEnd : Int} {R_rowEnd : Int} {R_rowMany : Int} {R_waiting : Int} {R_mostWaiting : Int} {R_answer : Int} {R_steps : Int} {R_memory : Int} {R_maxSteps : Int} {R_maxMemory : Int} {R_fault : Int} {R_result : Int} {R_now : Int} {R_nowRow : Int} {R_come : Int} {R_puts : Int} {out : Int} (X : jX jF0 K 4 b_Mod_order w_Mod_order R_Mod [(cI, .int), (cL, .long), (cB, .byte)]) (E : jE K b_Mod_order (some .int) ({ frames := 1, cells := 0, slots := 0, locals := 22 } : Room) true 0 0 (some (.int (zI out))) [(ad 0, .inr (10, [.int (zI R_thrown), .ref (ad 1), .ref (ad 2), .ref (ad 3), .ref (ad 4), .ref (ad 5), .ref (ad 6), .int (zI R_used), .ref (ad 7), .int (zI R_many), .ref (ad 8), .ref (ad 9), .ref (ad 10), .ref (ad 11), .ref (ad 12), .ref (ad 13), .ref (ad 14), .ref (ad 15), .ref (ad 16), .int (zI R_values), .ref (ad 17), .int (zI R_textEnd), .ref (ad 18), .ref (ad 19), .ref (ad 20), .ref (ad 21), .int (zI R_dataEnd), .ref (ad 22), .int (zI R_rowEnd), .ref (ad 23), .ref (ad 24), .int (zI R_rowMany), .ref (ad 25), .ref (ad 26), .ref (ad 27), .ref (ad 28), .int (zI R_waiting), .int (zI R_mostWaiting), .int (zI R_answer), .int (zI R_steps), .int (zI R_memory), .int (zI R_maxSteps), .int (zI R_maxMemory), .int (zI R_fault), .int (zI R_result), .int (zI R_now), .int (zI R_nowRow), .int (zI R_come), .ref (ad 29), .ref (ad 30), .int (zI R_puts), .ref (ad 31)])), (ad 10, .inl (cI, 3700, .inl (zA R_from))), (ad 11, .inl (cI, 3700, .inl (zA R_length))), (ad 17, .inl (cB, 70000, .inl (zA R_texts)))]) : ∀ (n : Nat) (x1 : Int) (x2 : Int) (x3 : Int), f_Mod_order_L2 R_from R_length R_texts n x1 x2 x3 = some out → J K 4 ({ frames := 1, cells := 0, slots := 0, locals := 22 } : Room) true 0 0 [(ad 0, .inr (10, [.int (zI R_thrown), .ref (ad 1), .ref (ad 2), .ref (ad 3), .ref (ad 4), .ref (ad 5), .ref (ad 6), .int (zI R_used), .ref (ad 7), .int (zI R_many), .ref (ad 8), .ref (ad 9), .ref (ad 10), .ref (ad 11), .ref (ad 12), .ref (ad 13), .ref (ad 14), .ref (ad 15), .ref (ad 16), .int (zI R_values), .ref (ad 17), .int (zI R_textEnd), .ref (ad 18), .ref (ad 19), .ref (ad 20), .ref (ad 21), .int (zI R_dataEnd), .ref (ad 22), .int (zI R_rowEnd), .ref (ad 23), .ref (ad 24), .int (zI R_rowMany), .ref (ad 25), .ref (ad 26), .ref (ad 27), .ref (ad 28), .int (zI R_waiting), .int (zI R_mostWaiting), .int (zI R_answer), .int (zI R_steps), .int (zI R_memory), .int (zI R_maxSteps), .int (zI R_maxMemory), .int (zI R_fault), .int (zI R_result), .int (zI R_now), .int (zI R_nowRow), .int (zI R_come), .ref (ad 29), .ref (ad 30), .int (zI R_puts), .ref (ad 31)])), (ad 10, .inl (cI, 3700, .inl (zA R_from))), (ad 11, .inl (cI, 3700, .inl (zA R_length))), (ad 17, .inl (cB, 70000, .inl (zA R_texts)))] [(0, .ref (ad 0)), (1, .int (zI x1)), (2, .int (zI x2)), (3, .int (zI x3))] [] 2 := by
  intro n
  induction n with
  | zero =>
    intro x1 x2 x3 h
    cases h
  | succ n ih =>
    intro x1 x2 x3 h
    unfold f_Mod_order_L2 at h
    refine J_iload_n X d_Mod_order_2 rfl 3 rfl ?_
    refine J_aload_n X d_Mod_order_3 rfl 0 rfl ?_
    refine J_get X (j_in in_Mod) 0 rfl rfl 13 (by decide) (j_m own_Mod_order (by decide +kernel)) rfl d_Mod_order_4 ?_
    refine J_iload_n X d_Mod_order_7 rfl 1 rfl ?_
    obtain ⟨g1, h⟩ := wk_g h
    refine J_iald X 2 0 rfl rfl g1 d_Mod_order_8 ?_
    refine J_icmp_ge (tgt := 57) X d_Mod_order_9 (by decide) h (fun c2 h => ?_) (fun c2 h => ?_)
    · refine J_aload_n X d_Mod_order_57 rfl 0 rfl ?_
      refine J_get X (j_in in_Mod) 0 rfl rfl 13 (by decide) (j_m own_Mod_order (by decide +kernel)) rfl d_Mod_order_58 ?_
      refine J_iload_n X d_Mod_order_61 rfl 1 rfl ?_
      obtain ⟨g3, h⟩ := wk_g h
      refine J_iald X 2 0 rfl rfl g3 d_Mod_order_62 ?_
      refine J_aload_n X d_Mod_order_63 rfl 0 rfl ?_
      refine J_get X (j_in in_Mod) 0 rfl rfl 13 (by decide) (j_m own_Mod_order (by decide +kernel)) rfl d_Mod_order_64 ?_
      refine J_iload_n X d_Mod_order_67 rfl 2 rfl ?_
      obtain ⟨g4, h⟩ := wk_g h
      refine J_iald X 2 0 rfl rfl g4 d_Mod_order_68 ?_
      refine J_isub X d_Mod_order_69 ?_
      cases h
      exact J_ret E ⟨_, rfl, rfl⟩ d_Mod_order_70 (Nat.le_refl _) (Nat.le_refl _) rfl
    · refine J_iload_n X d_Mod_order_12 rfl 3 rfl ?_
      refine J_aload_n X d_Mod_order_13 rfl 0 rfl ?_
      refine J_get X (j_in in_Mod) 0 rfl rfl 13 (by decide) (j_m own_Mod_order (by decide +kernel)) rfl d_Mod_order_14 ?_
      refine J_iload_n X d_Mod_order_17 rfl 2 rfl ?_
      obtain ⟨g5, h⟩ := wk_g h
      refine J_iald X 2 0 rfl rfl g5 d_Mod_order_18 ?_
      refine J_icmp_ge (tgt := 57) X d_Mod_order_19 (by decide) h (fun c6 h => ?_) (fun c6 h => ?_)
      · refine J_aload_n X d_Mod_order_57 rfl 0 rfl ?_
        refine J_get X (j_in in_Mod) 0 rfl rfl 13 (by decide) (j_m own_Mod_order (by decide +kernel)) rfl d_Mod_order_58 ?_
        refine J_iload_n X d_Mod_order_61 rfl 1 rfl ?_
        obtain ⟨g7, h⟩ := wk_g h
        refine J_iald X 2 0 rfl rfl g7 d_Mod_order_62 ?_
        refine J_aload_n X d_Mod_order_63 rfl 0 rfl ?_
        refine J_get X (j_in in_Mod) 0 rfl rfl 13 (by decide) (j_m own_Mod_order (by decide +kernel)) rfl d_Mod_order_64 ?_
        refine J_iload_n X d_Mod_order_67 rfl 2 rfl ?_
        obtain ⟨g8, h⟩ := wk_g h
        refine J_iald X 2 0 rfl rfl g8 d_Mod_order_68 ?_
        refine J_isub X d_Mod_order_69 ?_
        cases h
        exact J_ret E ⟨_, rfl, rfl⟩ d_Mod_order_70 (Nat.le_refl _) (Nat.le_refl _) rfl
      · refine J_aload_n X d_Mod_order_22 rfl 0 rfl ?_
        refine J_iload_n X d_Mod_order_23 rfl 1 rfl ?_
        refine J_iload_n X d_Mod_order_24 rfl 3 rfl ?_
        obtain ⟨r9, q10, h⟩ := wk_b h
        refine J_afterP (jrunV X (c_Mod_byteOf (ad := ad) q10) jF0_k (fun _ _ _ _ => trivial) (jgV own_Mod_order (by decide +kernel)) rfl rfl rfl pd_Mod_byteOf (by decide) [0, 1, 3] rfl (by decide) 0 10 rfl rfl rfl rfl (Nat.le_of_ble_eq_true rfl) d_Mod_order_25 (by decide)) ?_
        refine J_aload_n X d_Mod_order_28 rfl 0 rfl ?_
        refine J_iload_n X d_Mod_order_29 rfl 2 rfl ?_
        refine J_iload_n X d_Mod_order_30 rfl 3 rfl ?_
        obtain ⟨r11, q12, h⟩ := wk_b h
        refine J_afterP (jrunV X (c_Mod_byteOf (ad := ad) q12) jF0_k (fun _ _ _ _ => trivial) (jgV own_Mod_order (by decide +kernel)) rfl rfl rfl pd_Mod_byteOf (by decide) [0, 1, 3] rfl (by decide) 0 10 rfl rfl rfl rfl (Nat.le_of_ble_eq_true rfl) d_Mod_order_31 (by decide)) ?_
        refine J_icmp_eq (tgt := 51) X d_Mod_order_34 (by decide) h (fun c13 h => ?_) (fun c13 h => ?_)
        · refine J_iinc (lv' := [(3, .int (zI (x3 + 1))), (0, .ref (ad 0)), (1, .int (zI x1)), (2, .int (zI x2))]) X d_Mod_order_51 3 rfl (by decide) rfl ?_
          refine J_goto (tgt := 2) X d_Mod_order_54 (by decide) ?_
          refine J_lv (lv' := [(0, .ref (ad 0)), (1, .int (zI x1)), (2, .int (zI x2)), (3, .int (zI (x3 + 1)))]) [1, 2, 3, 0] rfl ?_
          exact ih _ _ _ h
        · refine J_aload_n X d_Mod_order_37 rfl 0 rfl ?_
          refine J_iload_n X d_Mod_order_38 rfl 1 rfl ?_
          refine J_iload_n X d_Mod_order_39 rfl 3 rfl ?_
          obtain ⟨r14, q15, h⟩ := wk_b h
          refine J_afterP (jrunV X (c_Mod_byteOf (ad := ad) q15) jF0_k (fun _ _ _ _ => trivial) (jgV own_Mod_order (by decide +kernel)) rfl rfl rfl pd_Mod_byteOf (by decide) [0, 1, 3] rfl (by decide) 0 10 rfl rfl rfl rfl (Nat.le_of_ble_eq_true rfl) d_Mod_order_40 (by decide)) ?_
          refine J_aload_n X d_Mod_order_43 rfl 0 rfl ?_
          refine J_iload_n X d_Mod_order_44 rfl 2 rfl ?_
          refine J_iload_n X d_Mod_order_45 rfl 3 rfl ?_
          obtain ⟨r16, q17, h⟩ := wk_b h
          refine J_afterP (jrunV X (c_Mod_byteOf (ad := ad) q17) jF0_k (fun _ _ _ _ => trivial) (jgV own_Mod_order (by decide +kernel)) rfl rfl rfl pd_Mod_byteOf (by decide) [0, 1, 3] rfl (by decide) 0 10 rfl rfl rfl rfl (Nat.le_of_ble_eq_true rfl) d_Mod_order_46 (by decide)) ?_
          refine J_isub X d_Mod_order_49 ?_
          cases h
          exact J_ret E ⟨_, rfl, rfl⟩ d_Mod_order_50 (Nat.le_refl _) (Nat.le_refl _) rfl
set_option maxHeartbeats 4000000 in
set_option maxRecDepth 100000 in
theorem c_Mod_order {l : Launch} {D : va_G} {cI cL cB : ClassId} {ad : Nat → Nat} {N : Nat} {R_thrown : Int} {R_used : Int} {R_many : Int} {R_values : Int} {R_textEnd : Int} {R_dataEnd : Int} {R_rowEnd : Int} {R_rowMany : Int} {R_waiting : Int} {R_mostWaiting : Int} {R_answer : Int} {R_steps : Int} {R_memory : Int} {R_maxSteps : Int} {R_maxMemory : Int} {R_fault : Int} {R_result : Int} {R_now : Int} {R_nowRow : Int} {R_come : Int} {R_puts : Int} {R_from : Int → Int} {R_length : Int → Int} {R_texts : Int → Int} {p1 : Int} {p2 : Int} {out : Int} (h : f_Mod_order N R_from R_length R_texts p1 p2 = some out) : CT jF0 true l D [(cI, .int), (cL, .long), (cB, .byte)] y_Mod_order w_Mod_order ({ frames := 1, cells := 0, slots := 0, locals := 22 } : Room) [.ref (ad 0), .int (zI p1), .int (zI p2)] [(ad 0, .inr (10, [.int (zI R_thrown), .ref (ad 1), .ref (ad 2), .ref (ad 3), .ref (ad 4), .ref (ad 5), .ref (ad 6), .int (zI R_used), .ref (ad 7), .int (zI R_many), .ref (ad 8), .ref (ad 9), .ref (ad 10), .ref (ad 11), .ref (ad 12), .ref (ad 13), .ref (ad 14), .ref (ad 15), .ref (ad 16), .int (zI R_values), .ref (ad 17), .int (zI R_textEnd), .ref (ad 18), .ref (ad 19), .ref (ad 20), .ref (ad 21), .int (zI R_dataEnd), .ref (ad 22), .int (zI R_rowEnd), .ref (ad 23), .ref (ad 24), .int (zI R_rowMany), .ref (ad 25), .ref (ad 26), .ref (ad 27), .ref (ad 28), .int (zI R_waiting), .int (zI R_mostWaiting), .int (zI R_answer), .int (zI R_steps), .int (zI R_memory), .int (zI R_maxSteps), .int (zI R_maxMemory), .int (zI R_fault), .int (zI R_result), .int (zI R_now), .int (zI R_nowRow), .int (zI R_come), .ref (ad 29), .ref (ad 30), .int (zI R_puts), .ref (ad 31)])), (ad 10, .inl (cI, 3700, .inl (zA R_from))), (ad 11, .inl (cI, 3700, .inl (zA R_length))), (ad 17, .inl (cB, 70000, .inl (zA R_texts)))] (some (.int (zI out))) [(ad 0, .inr (10, [.int (zI R_thrown), .ref (ad 1), .ref (ad 2), .ref (ad 3), .ref (ad 4), .ref (ad 5), .ref (ad 6), .int (zI R_used), .ref (ad 7), .int (zI R_many), .ref (ad 8), .ref (ad 9), .ref (ad 10), .ref (ad 11), .ref (ad 12), .ref (ad 13), .ref (ad 14), .ref (ad 15), .ref (ad 16), .int (zI R_values), .ref (ad 17), .int (zI R_textEnd), .ref (ad 18), .ref (ad 19), .ref (ad 20), .ref (ad 21), .int (zI R_dataEnd), .ref (ad 22), .int (zI R_rowEnd), .ref (ad 23), .ref (ad 24), .int (zI R_rowMany), .ref (ad 25), .ref (ad 26), .ref (ad 27), .ref (ad 28), .int (zI R_waiting), .int (zI R_mostWaiting), .int (zI R_answer), .int (zI R_steps), .int (zI R_memory), .int (zI R_maxSteps), .int (zI R_maxMemory), .int (zI R_fault), .int (zI R_result), .int (zI R_now), .int (zI R_nowRow), .int (zI R_come), .ref (ad 29), .ref (ad 30), .int (zI R_puts), .ref (ad 31)])), (ad 10, .inl (cI, 3700, .inl (zA R_from))), (ad 11, .inl (cI, 3700, .inl (zA R_length))), (ad 17, .inl (cB, 70000, .inl (zA R_texts)))] 0 0 := by
  refine CT_of_J (cc := b_Mod_order) (maxL := 4) (ret := (some .int)) jF0_k (plainFor_of_name (by decide)) rfl (Nat.le_of_ble_eq_true rfl) ?_
  intro K hKl hKD X E
  subst hKl; subst hKD
  unfold f_Mod_order at h
  refine J_iconst X d_Mod_order_0 ?_
  refine J_istore_n (lv' := [(3, .int (zI 0)), (0, .ref (ad 0)), (1, .int (zI p1)), (2, .int (zI p2))]) X d_Mod_order_1 rfl (by decide) rfl ?_
  refine J_lv (lv' := [(0, .ref (ad 0)), (1, .int (zI p1)), (2, .int (zI p2)), (3, .int (zI 0))]) [1, 2, 3, 0] rfl ?_
  exact k_Mod_order_L2 X E _ _ _ _ h

theorem d_Mod_ofBytes_0 : decode b_Mod_ofBytes 0 = .ok (.aload_n 0, 1) := by decide +kernel
theorem d_Mod_ofBytes_1 : decode b_Mod_ofBytes 1 = .ok (.iconst 0, 1) := by decide +kernel
theorem d_Mod_ofBytes_2 : decode b_Mod_ofBytes 2 = .ok (.putfield 148, 3) := by decide +kernel
theorem d_Mod_ofBytes_5 : decode b_Mod_ofBytes 5 = .ok (.aload_n 0, 1) := by decide +kernel
theorem d_Mod_ofBytes_6 : decode b_Mod_ofBytes 6 = .ok (.getfield 102, 3) := by decide +kernel
theorem d_Mod_ofBytes_9 : decode b_Mod_ofBytes 9 = .ok (.iconst 0, 1) := by decide +kernel
theorem d_Mod_ofBytes_10 : decode b_Mod_ofBytes 10 = .ok (.iaload, 1) := by decide +kernel
theorem d_Mod_ofBytes_11 : decode b_Mod_ofBytes 11 = .ok (.istore_n 2, 1) := by decide +kernel
theorem d_Mod_ofBytes_12 : decode b_Mod_ofBytes 12 = .ok (.iload_n 1, 1) := by decide +kernel
theorem d_Mod_ofBytes_13 : decode b_Mod_ofBytes 13 = .ok (.tableswitch 331 10 14 #[35, 144, 157, 209, 307], 35) := by decide +kernel
theorem d_Mod_ofBytes_48 : decode b_Mod_ofBytes 48 = .ok (.aload_n 0, 1) := by decide +kernel
theorem d_Mod_ofBytes_49 : decode b_Mod_ofBytes 49 = .ok (.getfield 42, 3) := by decide +kernel
theorem d_Mod_ofBytes_52 : decode b_Mod_ofBytes 52 = .ok (.iload_n 2, 1) := by decide +kernel
theorem d_Mod_ofBytes_53 : decode b_Mod_ofBytes 53 = .ok (.iaload, 1) := by decide +kernel
theorem d_Mod_ofBytes_54 : decode b_Mod_ofBytes 54 = .ok (.aload_n 0, 1) := by decide +kernel
theorem d_Mod_ofBytes_55 : decode b_Mod_ofBytes 55 = .ok (.getfield 42, 3) := by decide +kernel
theorem d_Mod_ofBytes_58 : decode b_Mod_ofBytes 58 = .ok (.aload_n 0, 1) := by decide +kernel
theorem d_Mod_ofBytes_59 : decode b_Mod_ofBytes 59 = .ok (.getfield 102, 3) := by decide +kernel
theorem d_Mod_ofBytes_62 : decode b_Mod_ofBytes 62 = .ok (.iconst 1, 1) := by decide +kernel
theorem d_Mod_ofBytes_63 : decode b_Mod_ofBytes 63 = .ok (.iaload, 1) := by decide +kernel
theorem d_Mod_ofBytes_64 : decode b_Mod_ofBytes 64 = .ok (.iaload, 1) := by decide +kernel
theorem d_Mod_ofBytes_65 : decode b_Mod_ofBytes 65 = .ok (.iadd, 1) := by decide +kernel
theorem d_Mod_ofBytes_66 : decode b_Mod_ofBytes 66 = .ok (.bipush 64, 2) := by decide +kernel
theorem d_Mod_ofBytes_68 : decode b_Mod_ofBytes 68 = .ok (.if_icmp .le 9, 3) := by decide +kernel
theorem d_Mod_ofBytes_71 : decode b_Mod_ofBytes 71 = .ok (.aload_n 0, 1) := by decide +kernel
theorem d_Mod_ofBytes_72 : decode b_Mod_ofBytes 72 = .ok (.iconst 3, 1) := by decide +kernel
theorem d_Mod_ofBytes_73 : decode b_Mod_ofBytes 73 = .ok (.invokevirtual 183, 3) := by decide +kernel
theorem d_Mod_ofBytes_76 : decode b_Mod_ofBytes 76 = .ok (.ireturn, 1) := by decide +kernel
theorem d_Mod_ofBytes_77 : decode b_Mod_ofBytes 77 = .ok (.iconst 0, 1) := by decide +kernel
theorem d_Mod_ofBytes_78 : decode b_Mod_ofBytes 78 = .ok (.istore_n 3, 1) := by decide +kernel
theorem d_Mod_ofBytes_79 : decode b_Mod_ofBytes 79 = .ok (.iload_n 3, 1) := by decide +kernel
theorem d_Mod_ofBytes_80 : decode b_Mod_ofBytes 80 = .ok (.aload_n 0, 1) := by decide +kernel
theorem d_Mod_ofBytes_81 : decode b_Mod_ofBytes 81 = .ok (.getfield 42, 3) := by decide +kernel
theorem d_Mod_ofBytes_84 : decode b_Mod_ofBytes 84 = .ok (.iload_n 2, 1) := by decide +kernel
theorem d_Mod_ofBytes_85 : decode b_Mod_ofBytes 85 = .ok (.iaload, 1) := by decide +kernel
theorem d_Mod_ofBytes_86 : decode b_Mod_ofBytes 86 = .ok (.aload_n 0, 1) := by decide +kernel
theorem d_Mod_ofBytes_87 : decode b_Mod_ofBytes 87 = .ok (.getfield 42, 3) := by decide +kernel
theorem d_Mod_ofBytes_90 : decode b_Mod_ofBytes 90 = .ok (.aload_n 0, 1) := by decide +kernel
theorem d_Mod_ofBytes_91 : decode b_Mod_ofBytes 91 = .ok (.getfield 102, 3) := by decide +kernel
theorem d_Mod_ofBytes_94 : decode b_Mod_ofBytes 94 = .ok (.iconst 1, 1) := by decide +kernel
theorem d_Mod_ofBytes_95 : decode b_Mod_ofBytes 95 = .ok (.iaload, 1) := by decide +kernel
theorem d_Mod_ofBytes_96 : decode b_Mod_ofBytes 96 = .ok (.iaload, 1) := by decide +kernel
theorem d_Mod_ofBytes_97 : decode b_Mod_ofBytes 97 = .ok (.iadd, 1) := by decide +kernel
theorem d_Mod_ofBytes_98 : decode b_Mod_ofBytes 98 = .ok (.if_icmp .ge 50, 3) := by decide +kernel
theorem d_Mod_ofBytes_101 : decode b_Mod_ofBytes 101 = .ok (.aload_n 0, 1) := by decide +kernel
theorem d_Mod_ofBytes_102 : decode b_Mod_ofBytes 102 = .ok (.iload_n 3, 1) := by decide +kernel
theorem d_Mod_ofBytes_103 : decode b_Mod_ofBytes 103 = .ok (.aload_n 0, 1) := by decide +kernel
theorem d_Mod_ofBytes_104 : decode b_Mod_ofBytes 104 = .ok (.getfield 42, 3) := by decide +kernel
theorem d_Mod_ofBytes_107 : decode b_Mod_ofBytes 107 = .ok (.iload_n 2, 1) := by decide +kernel
theorem d_Mod_ofBytes_108 : decode b_Mod_ofBytes 108 = .ok (.iaload, 1) := by decide +kernel
theorem d_Mod_ofBytes_109 : decode b_Mod_ofBytes 109 = .ok (.if_icmp .ge 12, 3) := by decide +kernel
theorem d_Mod_ofBytes_112 : decode b_Mod_ofBytes 112 = .ok (.aload_n 0, 1) := by decide +kernel
theorem d_Mod_ofBytes_113 : decode b_Mod_ofBytes 113 = .ok (.iload_n 2, 1) := by decide +kernel
theorem d_Mod_ofBytes_114 : decode b_Mod_ofBytes 114 = .ok (.iload_n 3, 1) := by decide +kernel
theorem d_Mod_ofBytes_115 : decode b_Mod_ofBytes 115 = .ok (.invokevirtual 194, 3) := by decide +kernel
theorem d_Mod_ofBytes_118 : decode b_Mod_ofBytes 118 = .ok (.goto 21, 3) := by decide +kernel
theorem d_Mod_ofBytes_121 : decode b_Mod_ofBytes 121 = .ok (.aload_n 0, 1) := by decide +kernel
theorem d_Mod_ofBytes_122 : decode b_Mod_ofBytes 122 = .ok (.aload_n 0, 1) := by decide +kernel
theorem d_Mod_ofBytes_123 : decode b_Mod_ofBytes 123 = .ok (.getfield 102, 3) := by decide +kernel
theorem d_Mod_ofBytes_126 : decode b_Mod_ofBytes 126 = .ok (.iconst 1, 1) := by decide +kernel
theorem d_Mod_ofBytes_127 : decode b_Mod_ofBytes 127 = .ok (.iaload, 1) := by decide +kernel
theorem d_Mod_ofBytes_128 : decode b_Mod_ofBytes 128 = .ok (.iload_n 3, 1) := by decide +kernel
theorem d_Mod_ofBytes_129 : decode b_Mod_ofBytes 129 = .ok (.aload_n 0, 1) := by decide +kernel
theorem d_Mod_ofBytes_130 : decode b_Mod_ofBytes 130 = .ok (.getfield 42, 3) := by decide +kernel
theorem d_Mod_ofBytes_133 : decode b_Mod_ofBytes 133 = .ok (.iload_n 2, 1) := by decide +kernel
theorem d_Mod_ofBytes_134 : decode b_Mod_ofBytes 134 = .ok (.iaload, 1) := by decide +kernel
theorem d_Mod_ofBytes_135 : decode b_Mod_ofBytes 135 = .ok (.isub, 1) := by decide +kernel
theorem d_Mod_ofBytes_136 : decode b_Mod_ofBytes 136 = .ok (.invokevirtual 194, 3) := by decide +kernel
theorem d_Mod_ofBytes_139 : decode b_Mod_ofBytes 139 = .ok (.invokevirtual 197, 3) := by decide +kernel
theorem d_Mod_ofBytes_142 : decode b_Mod_ofBytes 142 = .ok (.iinc 3 1, 3) := by decide +kernel
theorem d_Mod_ofBytes_145 : decode b_Mod_ofBytes 145 = .ok (.goto (-66), 3) := by decide +kernel
theorem d_Mod_ofBytes_148 : decode b_Mod_ofBytes 148 = .ok (.aload_n 0, 1) := by decide +kernel
theorem d_Mod_ofBytes_149 : decode b_Mod_ofBytes 149 = .ok (.aload_n 0, 1) := by decide +kernel
theorem d_Mod_ofBytes_150 : decode b_Mod_ofBytes 150 = .ok (.getfield 148, 3) := by decide +kernel
theorem d_Mod_ofBytes_153 : decode b_Mod_ofBytes 153 = .ok (.invokevirtual 201, 3) := by decide +kernel
theorem d_Mod_ofBytes_156 : decode b_Mod_ofBytes 156 = .ok (.ireturn, 1) := by decide +kernel
theorem d_Mod_ofBytes_157 : decode b_Mod_ofBytes 157 = .ok (.aload_n 0, 1) := by decide +kernel
theorem d_Mod_ofBytes_158 : decode b_Mod_ofBytes 158 = .ok (.iconst 0, 1) := by decide +kernel
theorem d_Mod_ofBytes_159 : decode b_Mod_ofBytes 159 = .ok (.aload_n 0, 1) := by decide +kernel
theorem d_Mod_ofBytes_160 : decode b_Mod_ofBytes 160 = .ok (.getfield 42, 3) := by decide +kernel
theorem d_Mod_ofBytes_163 : decode b_Mod_ofBytes 163 = .ok (.iload_n 2, 1) := by decide +kernel
theorem d_Mod_ofBytes_164 : decode b_Mod_ofBytes 164 = .ok (.iaload, 1) := by decide +kernel
theorem d_Mod_ofBytes_165 : decode b_Mod_ofBytes 165 = .ok (.i2l, 1) := by decide +kernel
theorem d_Mod_ofBytes_166 : decode b_Mod_ofBytes 166 = .ok (.invokevirtual 141, 3) := by decide +kernel
theorem d_Mod_ofBytes_169 : decode b_Mod_ofBytes 169 = .ok (.ireturn, 1) := by decide +kernel
theorem d_Mod_ofBytes_170 : decode b_Mod_ofBytes 170 = .ok (.aload_n 0, 1) := by decide +kernel
theorem d_Mod_ofBytes_171 : decode b_Mod_ofBytes 171 = .ok (.getfield 36, 3) := by decide +kernel
theorem d_Mod_ofBytes_174 : decode b_Mod_ofBytes 174 = .ok (.aload_n 0, 1) := by decide +kernel
theorem d_Mod_ofBytes_175 : decode b_Mod_ofBytes 175 = .ok (.getfield 102, 3) := by decide +kernel
theorem d_Mod_ofBytes_178 : decode b_Mod_ofBytes 178 = .ok (.iconst 1, 1) := by decide +kernel
theorem d_Mod_ofBytes_179 : decode b_Mod_ofBytes 179 = .ok (.iaload, 1) := by decide +kernel
theorem d_Mod_ofBytes_180 : decode b_Mod_ofBytes 180 = .ok (.laload, 1) := by decide +kernel
theorem d_Mod_ofBytes_181 : decode b_Mod_ofBytes 181 = .ok (.lstore_n 3, 1) := by decide +kernel
theorem d_Mod_ofBytes_182 : decode b_Mod_ofBytes 182 = .ok (.lload_n 3, 1) := by decide +kernel
theorem d_Mod_ofBytes_183 : decode b_Mod_ofBytes 183 = .ok (.lconst 0, 1) := by decide +kernel
theorem d_Mod_ofBytes_184 : decode b_Mod_ofBytes 184 = .ok (.lcmp, 1) := by decide +kernel
theorem d_Mod_ofBytes_185 : decode b_Mod_ofBytes 185 = .ok (.ifCond .lt 15, 3) := by decide +kernel
theorem d_Mod_ofBytes_188 : decode b_Mod_ofBytes 188 = .ok (.lload_n 3, 1) := by decide +kernel
theorem d_Mod_ofBytes_189 : decode b_Mod_ofBytes 189 = .ok (.aload_n 0, 1) := by decide +kernel
theorem d_Mod_ofBytes_190 : decode b_Mod_ofBytes 190 = .ok (.getfield 42, 3) := by decide +kernel
theorem d_Mod_ofBytes_193 : decode b_Mod_ofBytes 193 = .ok (.iload_n 2, 1) := by decide +kernel
theorem d_Mod_ofBytes_194 : decode b_Mod_ofBytes 194 = .ok (.iaload, 1) := by decide +kernel
theorem d_Mod_ofBytes_195 : decode b_Mod_ofBytes 195 = .ok (.i2l, 1) := by decide +kernel
theorem d_Mod_ofBytes_196 : decode b_Mod_ofBytes 196 = .ok (.lcmp, 1) := by decide +kernel
theorem d_Mod_ofBytes_197 : decode b_Mod_ofBytes 197 = .ok (.ifCond .lt 11, 3) := by decide +kernel
theorem d_Mod_ofBytes_200 : decode b_Mod_ofBytes 200 = .ok (.aload_n 0, 1) := by decide +kernel
theorem d_Mod_ofBytes_201 : decode b_Mod_ofBytes 201 = .ok (.iconst 3, 1) := by decide +kernel
theorem d_Mod_ofBytes_202 : decode b_Mod_ofBytes 202 = .ok (.invokevirtual 183, 3) := by decide +kernel
theorem d_Mod_ofBytes_205 : decode b_Mod_ofBytes 205 = .ok (.goto 16, 3) := by decide +kernel
theorem d_Mod_ofBytes_208 : decode b_Mod_ofBytes 208 = .ok (.aload_n 0, 1) := by decide +kernel
theorem d_Mod_ofBytes_209 : decode b_Mod_ofBytes 209 = .ok (.iconst 0, 1) := by decide +kernel
theorem d_Mod_ofBytes_210 : decode b_Mod_ofBytes 210 = .ok (.aload_n 0, 1) := by decide +kernel
theorem d_Mod_ofBytes_211 : decode b_Mod_ofBytes 211 = .ok (.iload_n 2, 1) := by decide +kernel
theorem d_Mod_ofBytes_212 : decode b_Mod_ofBytes 212 = .ok (.lload_n 3, 1) := by decide +kernel
theorem d_Mod_ofBytes_213 : decode b_Mod_ofBytes 213 = .ok (.l2i, 1) := by decide +kernel
theorem d_Mod_ofBytes_214 : decode b_Mod_ofBytes 214 = .ok (.invokevirtual 194, 3) := by decide +kernel
theorem d_Mod_ofBytes_217 : decode b_Mod_ofBytes 217 = .ok (.i2l, 1) := by decide +kernel
theorem d_Mod_ofBytes_218 : decode b_Mod_ofBytes 218 = .ok (.invokevirtual 141, 3) := by decide +kernel
theorem d_Mod_ofBytes_221 : decode b_Mod_ofBytes 221 = .ok (.ireturn, 1) := by decide +kernel
theorem d_Mod_ofBytes_222 : decode b_Mod_ofBytes 222 = .ok (.iconst 0, 1) := by decide +kernel
theorem d_Mod_ofBytes_223 : decode b_Mod_ofBytes 223 = .ok (.istore_n 3, 1) := by decide +kernel
theorem d_Mod_ofBytes_224 : decode b_Mod_ofBytes 224 = .ok (.iload_n 3, 1) := by decide +kernel
theorem d_Mod_ofBytes_225 : decode b_Mod_ofBytes 225 = .ok (.aload_n 0, 1) := by decide +kernel
theorem d_Mod_ofBytes_226 : decode b_Mod_ofBytes 226 = .ok (.getfield 42, 3) := by decide +kernel
theorem d_Mod_ofBytes_229 : decode b_Mod_ofBytes 229 = .ok (.aload_n 0, 1) := by decide +kernel
theorem d_Mod_ofBytes_230 : decode b_Mod_ofBytes 230 = .ok (.getfield 102, 3) := by decide +kernel
theorem d_Mod_ofBytes_233 : decode b_Mod_ofBytes 233 = .ok (.iconst 2, 1) := by decide +kernel
theorem d_Mod_ofBytes_234 : decode b_Mod_ofBytes 234 = .ok (.iaload, 1) := by decide +kernel
theorem d_Mod_ofBytes_235 : decode b_Mod_ofBytes 235 = .ok (.iaload, 1) := by decide +kernel
theorem d_Mod_ofBytes_236 : decode b_Mod_ofBytes 236 = .ok (.if_icmp .ge 75, 3) := by decide +kernel
theorem d_Mod_ofBytes_239 : decode b_Mod_ofBytes 239 = .ok (.aload_n 0, 1) := by decide +kernel
theorem d_Mod_ofBytes_240 : decode b_Mod_ofBytes 240 = .ok (.getfield 36, 3) := by decide +kernel
theorem d_Mod_ofBytes_243 : decode b_Mod_ofBytes 243 = .ok (.iload_n 2, 1) := by decide +kernel
theorem d_Mod_ofBytes_244 : decode b_Mod_ofBytes 244 = .ok (.laload, 1) := by decide +kernel
theorem d_Mod_ofBytes_245 : decode b_Mod_ofBytes 245 = .ok (.lconst 0, 1) := by decide +kernel
theorem d_Mod_ofBytes_246 : decode b_Mod_ofBytes 246 = .ok (.lcmp, 1) := by decide +kernel
theorem d_Mod_ofBytes_247 : decode b_Mod_ofBytes 247 = .ok (.ifCond .ge 7, 3) := by decide +kernel
theorem d_Mod_ofBytes_250 : decode b_Mod_ofBytes 250 = .ok (.lconst 0, 1) := by decide +kernel
theorem d_Mod_ofBytes_251 : decode b_Mod_ofBytes 251 = .ok (.goto 9, 3) := by decide +kernel
theorem d_Mod_ofBytes_254 : decode b_Mod_ofBytes 254 = .ok (.aload_n 0, 1) := by decide +kernel
theorem d_Mod_ofBytes_255 : decode b_Mod_ofBytes 255 = .ok (.getfield 36, 3) := by decide +kernel
theorem d_Mod_ofBytes_258 : decode b_Mod_ofBytes 258 = .ok (.iload_n 2, 1) := by decide +kernel
theorem d_Mod_ofBytes_259 : decode b_Mod_ofBytes 259 = .ok (.laload, 1) := by decide +kernel
theorem d_Mod_ofBytes_260 : decode b_Mod_ofBytes 260 = .ok (.lstore 4, 2) := by decide +kernel
theorem d_Mod_ofBytes_262 : decode b_Mod_ofBytes 262 = .ok (.iload_n 3, 1) := by decide +kernel
theorem d_Mod_ofBytes_263 : decode b_Mod_ofBytes 263 = .ok (.i2l, 1) := by decide +kernel
theorem d_Mod_ofBytes_264 : decode b_Mod_ofBytes 264 = .ok (.lload 4, 2) := by decide +kernel
theorem d_Mod_ofBytes_266 : decode b_Mod_ofBytes 266 = .ok (.lcmp, 1) := by decide +kernel
theorem d_Mod_ofBytes_267 : decode b_Mod_ofBytes 267 = .ok (.ifCond .lt 38, 3) := by decide +kernel
theorem d_Mod_ofBytes_270 : decode b_Mod_ofBytes 270 = .ok (.iload_n 3, 1) := by decide +kernel
theorem d_Mod_ofBytes_271 : decode b_Mod_ofBytes 271 = .ok (.i2l, 1) := by decide +kernel
theorem d_Mod_ofBytes_272 : decode b_Mod_ofBytes 272 = .ok (.lload 4, 2) := by decide +kernel
theorem d_Mod_ofBytes_274 : decode b_Mod_ofBytes 274 = .ok (.lsub, 1) := by decide +kernel
theorem d_Mod_ofBytes_275 : decode b_Mod_ofBytes 275 = .ok (.aload_n 0, 1) := by decide +kernel
theorem d_Mod_ofBytes_276 : decode b_Mod_ofBytes 276 = .ok (.getfield 36, 3) := by decide +kernel
theorem d_Mod_ofBytes_279 : decode b_Mod_ofBytes 279 = .ok (.aload_n 0, 1) := by decide +kernel
theorem d_Mod_ofBytes_280 : decode b_Mod_ofBytes 280 = .ok (.getfield 102, 3) := by decide +kernel
theorem d_Mod_ofBytes_283 : decode b_Mod_ofBytes 283 = .ok (.iconst 1, 1) := by decide +kernel
theorem d_Mod_ofBytes_284 : decode b_Mod_ofBytes 284 = .ok (.iaload, 1) := by decide +kernel
theorem d_Mod_ofBytes_285 : decode b_Mod_ofBytes 285 = .ok (.laload, 1) := by decide +kernel
theorem d_Mod_ofBytes_286 : decode b_Mod_ofBytes 286 = .ok (.lcmp, 1) := by decide +kernel
theorem d_Mod_ofBytes_287 : decode b_Mod_ofBytes 287 = .ok (.ifCond .ge 18, 3) := by decide +kernel
theorem d_Mod_ofBytes_290 : decode b_Mod_ofBytes 290 = .ok (.aload_n 0, 1) := by decide +kernel
theorem d_Mod_ofBytes_291 : decode b_Mod_ofBytes 291 = .ok (.aload_n 0, 1) := by decide +kernel
theorem d_Mod_ofBytes_292 : decode b_Mod_ofBytes 292 = .ok (.aload_n 0, 1) := by decide +kernel
theorem d_Mod_ofBytes_293 : decode b_Mod_ofBytes 293 = .ok (.getfield 102, 3) := by decide +kernel
theorem d_Mod_ofBytes_296 : decode b_Mod_ofBytes 296 = .ok (.iconst 2, 1) := by decide +kernel
theorem d_Mod_ofBytes_297 : decode b_Mod_ofBytes 297 = .ok (.iaload, 1) := by decide +kernel
theorem d_Mod_ofBytes_298 : decode b_Mod_ofBytes 298 = .ok (.iload_n 3, 1) := by decide +kernel
theorem d_Mod_ofBytes_299 : decode b_Mod_ofBytes 299 = .ok (.invokevirtual 194, 3) := by decide +kernel
theorem d_Mod_ofBytes_302 : decode b_Mod_ofBytes 302 = .ok (.invokevirtual 197, 3) := by decide +kernel
theorem d_Mod_ofBytes_305 : decode b_Mod_ofBytes 305 = .ok (.iinc 3 1, 3) := by decide +kernel
theorem d_Mod_ofBytes_308 : decode b_Mod_ofBytes 308 = .ok (.goto (-84), 3) := by decide +kernel
theorem d_Mod_ofBytes_311 : decode b_Mod_ofBytes 311 = .ok (.aload_n 0, 1) := by decide +kernel
theorem d_Mod_ofBytes_312 : decode b_Mod_ofBytes 312 = .ok (.aload_n 0, 1) := by decide +kernel
theorem d_Mod_ofBytes_313 : decode b_Mod_ofBytes 313 = .ok (.getfield 148, 3) := by decide +kernel
theorem d_Mod_ofBytes_316 : decode b_Mod_ofBytes 316 = .ok (.invokevirtual 201, 3) := by decide +kernel
theorem d_Mod_ofBytes_319 : decode b_Mod_ofBytes 319 = .ok (.ireturn, 1) := by decide +kernel
theorem d_Mod_ofBytes_320 : decode b_Mod_ofBytes 320 = .ok (.aload_n 0, 1) := by decide +kernel
theorem d_Mod_ofBytes_321 : decode b_Mod_ofBytes 321 = .ok (.aload_n 0, 1) := by decide +kernel
theorem d_Mod_ofBytes_322 : decode b_Mod_ofBytes 322 = .ok (.iload_n 2, 1) := by decide +kernel
theorem d_Mod_ofBytes_323 : decode b_Mod_ofBytes 323 = .ok (.aload_n 0, 1) := by decide +kernel
theorem d_Mod_ofBytes_324 : decode b_Mod_ofBytes 324 = .ok (.getfield 102, 3) := by decide +kernel
theorem d_Mod_ofBytes_327 : decode b_Mod_ofBytes 327 = .ok (.iconst 1, 1) := by decide +kernel
theorem d_Mod_ofBytes_328 : decode b_Mod_ofBytes 328 = .ok (.iaload, 1) := by decide +kernel
theorem d_Mod_ofBytes_329 : decode b_Mod_ofBytes 329 = .ok (.invokevirtual 204, 3) := by decide +kernel
theorem d_Mod_ofBytes_332 : decode b_Mod_ofBytes 332 = .ok (.ifCond .ne 7, 3) := by decide +kernel
theorem d_Mod_ofBytes_335 : decode b_Mod_ofBytes 335 = .ok (.iconst 1, 1) := by decide +kernel
theorem d_Mod_ofBytes_336 : decode b_Mod_ofBytes 336 = .ok (.goto 4, 3) := by decide +kernel
theorem d_Mod_ofBytes_339 : decode b_Mod_ofBytes 339 = .ok (.iconst 0, 1) := by decide +kernel
theorem d_Mod_ofBytes_340 : decode b_Mod_ofBytes 340 = .ok (.invokevirtual 190, 3) := by decide +kernel
theorem d_Mod_ofBytes_343 : decode b_Mod_ofBytes 343 = .ok (.ireturn, 1) := by decide +kernel
theorem d_Mod_ofBytes_344 : decode b_Mod_ofBytes 344 = .ok (.aload_n 0, 1) := by decide +kernel
theorem d_Mod_ofBytes_345 : decode b_Mod_ofBytes 345 = .ok (.aload_n 0, 1) := by decide +kernel
theorem d_Mod_ofBytes_346 : decode b_Mod_ofBytes 346 = .ok (.iload_n 2, 1) := by decide +kernel
theorem d_Mod_ofBytes_347 : decode b_Mod_ofBytes 347 = .ok (.aload_n 0, 1) := by decide +kernel
theorem d_Mod_ofBytes_348 : decode b_Mod_ofBytes 348 = .ok (.getfield 102, 3) := by decide +kernel
theorem d_Mod_ofBytes_351 : decode b_Mod_ofBytes 351 = .ok (.iconst 1, 1) := by decide +kernel
theorem d_Mod_ofBytes_352 : decode b_Mod_ofBytes 352 = .ok (.iaload, 1) := by decide +kernel
theorem d_Mod_ofBytes_353 : decode b_Mod_ofBytes 353 = .ok (.invokevirtual 204, 3) := by decide +kernel
theorem d_Mod_ofBytes_356 : decode b_Mod_ofBytes 356 = .ok (.ifCond .ge 7, 3) := by decide +kernel
theorem d_Mod_ofBytes_359 : decode b_Mod_ofBytes 359 = .ok (.iconst 1, 1) := by decide +kernel
theorem d_Mod_ofBytes_360 : decode b_Mod_ofBytes 360 = .ok (.goto 4, 3) := by decide +kernel
theorem d_Mod_ofBytes_363 : decode b_Mod_ofBytes 363 = .ok (.iconst 0, 1) := by decide +kernel
theorem d_Mod_ofBytes_364 : decode b_Mod_ofBytes 364 = .ok (.invokevirtual 190, 3) := by decide +kernel
theorem d_Mod_ofBytes_367 : decode b_Mod_ofBytes 367 = .ok (.ireturn, 1) := by decide +kernel
def f_Mod_ofBytes_L79 (R_textEnd : Int) (R_from : Int → Int) (R_length : Int → Int) (R_of : Int → Int) (x1 : Int) (x2 : Int) : Nat → Int → Int → (Int → Int) → Option (Int × Int × (Int → Int))
  | 0, _, _, _ => none
  | n + 1, x3, R_puts, R_texts =>
    if jix x2 3700 = true then (
     if jix 1 3 = true then (
      if jix (R_of 1) 3700 = true then (
       if jr2 x3 ((R_length x2) + (R_length (R_of 1))) = true then (if ((R_length x2) + (R_length (R_of 1))) ≤ x3 then (
        some (x3, R_puts, R_texts)) else (
        if jix x2 3700 = true then (
         if jr2 x3 (R_length x2) = true then (if (R_length x2) ≤ x3 then (
          if jix 1 3 = true then (
           if jix x2 3700 = true then (
            Option.bind (f_Mod_byteOf R_from R_texts (R_of 1) (x3 - (R_length x2))) (fun r110 =>
             ob2 (f_Mod_putText R_textEnd R_puts R_texts r110) (fun R_puts_112 R_texts_113 =>
              f_Mod_ofBytes_L79 R_textEnd R_from R_length R_of x1 x2 n (x3 + 1) R_puts_112 R_texts_113))) else none) else none) else (
          Option.bind (f_Mod_byteOf R_from R_texts x2 x3) (fun r115 =>
           ob2 (f_Mod_putText R_textEnd R_puts R_texts r115) (fun R_puts_117 R_texts_118 =>
            f_Mod_ofBytes_L79 R_textEnd R_from R_length R_of x1 x2 n (x3 + 1) R_puts_117 R_texts_118)))) else none) else none)) else none) else none) else none) else none
def f_Mod_ofBytes_L224 (R_textEnd : Int) (R_valueNumbers : Int → Int) (R_from : Int → Int) (R_length : Int → Int) (R_of : Int → Int) (x1 : Int) (x2 : Int) : Nat → Int → Int → (Int → Int) → Option (Int × Int × (Int → Int))
  | 0, _, _, _ => none
  | n + 1, x3, R_puts, R_texts =>
    if jix 2 3 = true then (
     if jix (R_of 2) 3700 = true then (
      if jr2 x3 (R_length (R_of 2)) = true then (if (R_length (R_of 2)) ≤ x3 then (
       some (x3, R_puts, R_texts)) else (
       if jix x2 3700 = true then (
        if jl2 (R_valueNumbers x2) 0 = true then (if 0 ≤ (R_valueNumbers x2) then (
         if jix x2 3700 = true then (
          if rI x3 = true then (
           if jl2 x3 (R_valueNumbers x2) = true then (if x3 < (R_valueNumbers x2) then (
            f_Mod_ofBytes_L224 R_textEnd R_valueNumbers R_from R_length R_of x1 x2 n (x3 + 1) R_puts R_texts) else (
            if rI x3 = true then (
             if jix 1 3 = true then (
              if jix (R_of 1) 3700 = true then (
               if jl2 (x3 - (R_valueNumbers x2)) (R_valueNumbers (R_of 1)) = true then (if (R_valueNumbers (R_of 1)) ≤ (x3 - (R_valueNumbers x2)) then (
                f_Mod_ofBytes_L224 R_textEnd R_valueNumbers R_from R_length R_of x1 x2 n (x3 + 1) R_puts R_texts) else (
                if jix 2 3 = true then (
                 Option.bind (f_Mod_byteOf R_from R_texts (R_of 2) x3) (fun r133 =>
                  ob2 (f_Mod_putText R_textEnd R_puts R_texts r133) (fun R_puts_135 R_texts_136 =>
                   f_Mod_ofBytes_L224 R_textEnd R_valueNumbers R_from R_length R_of x1 x2 n (x3 + 1) R_puts_135 R_texts_136))) else none)) else none) else none) else none) else none)) else none) else none) else none) else (
         if rI x3 = true then (
          if jl2 x3 0 = true then (if x3 < 0 then (
           f_Mod_ofBytes_L224 R_textEnd R_valueNumbers R_from R_length R_of x1 x2 n (x3 + 1) R_puts R_texts) else (
           if rI x3 = true then (
            if jix 1 3 = true then (
             if jix (R_of 1) 3700 = true then (
              if jl2 (x3 - 0) (R_valueNumbers (R_of 1)) = true then (if (R_valueNumbers (R_of 1)) ≤ (x3 - 0) then (
               f_Mod_ofBytes_L224 R_textEnd R_valueNumbers R_from R_length R_of x1 x2 n (x3 + 1) R_puts R_texts) else (
               if jix 2 3 = true then (
                Option.bind (f_Mod_byteOf R_from R_texts (R_of 2) x3) (fun r145 =>
                 ob2 (f_Mod_putText R_textEnd R_puts R_texts r145) (fun R_puts_147 R_texts_148 =>
                  f_Mod_ofBytes_L224 R_textEnd R_valueNumbers R_from R_length R_of x1 x2 n (x3 + 1) R_puts_147 R_texts_148))) else none)) else none) else none) else none) else none)) else none) else none)) else none) else none)) else none) else none) else none
def f_Mod_ofBytes (N : Nat) (R_values : Int) (R_textEnd : Int) (R_fault : Int) (R_puts : Int) (R_valueKinds : Int → Int) (R_valueNumbers : Int → Int) (R_from : Int → Int) (R_length : Int → Int) (R_given : Int → Int) (R_texts : Int → Int) (R_of : Int → Int) (p1 : Int) : Option (Int × Int × Int × Int × Int × (Int → Int) × (Int → Int) × (Int → Int) × (Int → Int) × (Int → Int) × (Int → Int)) :=
  if jix 0 3 = true then (
   if rI p1 = true then (
    if p1 = 10 then (
     if jix (R_of 0) 3700 = true then (
      if jix 1 3 = true then (
       if jix (R_of 1) 3700 = true then (
        if jr2 ((R_length (R_of 0)) + (R_length (R_of 1))) 64 = true then (if ((R_length (R_of 0)) + (R_length (R_of 1))) ≤ 64 then (
         ob3 (f_Mod_ofBytes_L79 R_textEnd R_from R_length R_of p1 (R_of 0) N 0 0 R_texts) (fun x3_8 R_puts_9 R_texts_10 =>
          ob8 (f_Mod_makeBytes R_values R_textEnd R_valueKinds R_valueNumbers R_from R_length R_given R_puts_9) (fun r12 R_values_13 R_textEnd_14 R_valueKinds_15 R_valueNumbers_16 R_from_17 R_length_18 R_given_19 =>
           some (r12, R_values_13, R_textEnd_14, R_fault, R_puts_9, R_valueKinds_15, R_valueNumbers_16, R_from_17, R_length_18, R_given_19, R_texts_10)))) else (
         ob2 (f_Mod_fail R_fault 3) (fun r21 R_fault_22 =>
          some (r21, R_values, R_textEnd, R_fault_22, 0, R_valueKinds, R_valueNumbers, R_from, R_length, R_given, R_texts)))) else none) else none) else none) else none) else (
     if p1 = 11 then (
      if jix (R_of 0) 3700 = true then (
       if rI (R_length (R_of 0)) = true then (
        ob5 (f_Mod_make R_values R_valueKinds R_valueNumbers R_given 0 (R_length (R_of 0))) (fun r27 R_values_28 R_valueKinds_29 R_valueNumbers_30 R_given_31 =>
         some (r27, R_values_28, R_textEnd, R_fault, 0, R_valueKinds_29, R_valueNumbers_30, R_from, R_length, R_given_31, R_texts))) else none) else none) else (
      if p1 = 12 then (
       if jix 1 3 = true then (
        if jix (R_of 1) 3700 = true then (
         if jl2 (R_valueNumbers (R_of 1)) 0 = true then (if (R_valueNumbers (R_of 1)) < 0 then (
          ob2 (f_Mod_fail R_fault 3) (fun r37 R_fault_38 =>
           some (r37, R_values, R_textEnd, R_fault_38, 0, R_valueKinds, R_valueNumbers, R_from, R_length, R_given, R_texts))) else (
          if jix (R_of 0) 3700 = true then (
           if rI (R_length (R_of 0)) = true then (
            if jl2 (R_valueNumbers (R_of 1)) (R_length (R_of 0)) = true then (if (R_valueNumbers (R_of 1)) < (R_length (R_of 0)) then (
             Option.bind (f_Mod_byteOf R_from R_texts (R_of 0) (R_valueNumbers (R_of 1))) (fun r43 =>
              if rI r43 = true then (
               ob5 (f_Mod_make R_values R_valueKinds R_valueNumbers R_given 0 r43) (fun r46 R_values_47 R_valueKinds_48 R_valueNumbers_49 R_given_50 =>
                some (r46, R_values_47, R_textEnd, R_fault, 0, R_valueKinds_48, R_valueNumbers_49, R_from, R_length, R_given_50, R_texts))) else none)) else (
             ob2 (f_Mod_fail R_fault 3) (fun r52 R_fault_53 =>
              some (r52, R_values, R_textEnd, R_fault_53, 0, R_valueKinds, R_valueNumbers, R_from, R_length, R_given, R_texts)))) else none) else none) else none)) else none) else none) else none) else (
       if p1 = 13 then (
        ob3 (f_Mod_ofBytes_L224 R_textEnd R_valueNumbers R_from R_length R_of p1 (R_of 0) N 0 0 R_texts) (fun x3_56 R_puts_57 R_texts_58 =>
         ob8 (f_Mod_makeBytes R_values R_textEnd R_valueKinds R_valueNumbers R_from R_length R_given R_puts_57) (fun r60 R_values_61 R_textEnd_62 R_valueKinds_63 R_valueNumbers_64 R_from_65 R_length_66 R_given_67 =>
          some (r60, R_values_61, R_textEnd_62, R_fault, R_puts_57, R_valueKinds_63, R_valueNumbers_64, R_from_65, R_length_66, R_given_67, R_texts_58)))) else (
        if p1 = 14 then (
         if jix 1 3 = true then (
          Option.bind (f_Mod_order N R_from R_length R_texts (R_of 0) (R_of 1)) (fun r71 =>
           if rI r71 = true then (if r71 = 0 then (
            ob5 (f_Mod_truth R_values R_valueKinds R_valueNumbers R_given 1) (fun r80 R_values_81 R_valueKinds_82 R_valueNumbers_83 R_given_84 =>
             some (r80, R_values_81, R_textEnd, R_fault, 0, R_valueKinds_82, R_valueNumbers_83, R_from, R_length, R_given_84, R_texts))) else (
            ob5 (f_Mod_truth R_values R_valueKinds R_valueNumbers R_given 0) (fun r74 R_values_75 R_valueKinds_76 R_valueNumbers_77 R_given_78 =>
             some (r74, R_values_75, R_textEnd, R_fault, 0, R_valueKinds_76, R_valueNumbers_77, R_from, R_length, R_given_78, R_texts)))) else none)) else none) else (
         if jix 1 3 = true then (
          Option.bind (f_Mod_order N R_from R_length R_texts (R_of 0) (R_of 1)) (fun r87 =>
           if rI r87 = true then (if 0 ≤ r87 then (
            ob5 (f_Mod_truth R_values R_valueKinds R_valueNumbers R_given 0) (fun r90 R_values_91 R_valueKinds_92 R_valueNumbers_93 R_given_94 =>
             some (r90, R_values_91, R_textEnd, R_fault, 0, R_valueKinds_92, R_valueNumbers_93, R_from, R_length, R_given_94, R_texts))) else (
            ob5 (f_Mod_truth R_values R_valueKinds R_valueNumbers R_given 1) (fun r96 R_values_97 R_valueKinds_98 R_valueNumbers_99 R_given_100 =>
             some (r96, R_values_97, R_textEnd, R_fault, 0, R_valueKinds_98, R_valueNumbers_99, R_from, R_length, R_given_100, R_texts)))) else none)) else none)))))) else none) else none
set_option maxHeartbeats 4000000 in
set_option maxRecDepth 100000 in
theorem k_Mod_ofBytes_L79 {K : jK} {cI cL cB : ClassId} {ad : Nat → Nat} {R_textEnd : Int} {R_from : Int → Int} {R_length : Int → Int} {R_of : Int → Int} {x1 : Int} {x2 : Int} {R_thrown : Int} {R_used : Int} {R_many : Int} {R_values : Int} {R_dataEnd : Int} {R_rowEnd : Int} {R_rowMany : Int} {R_waiting : Int} {R_mostWaiting : Int} {R_answer : Int} {R_steps : Int} {R_memory : Int} {R_maxSteps : Int} {R_maxMemory : Int} {R_fault : Int} {R_result : Int} {R_now : Int} {R_nowRow : Int} {R_come : Int} {R_valueKinds : Int → Int} {R_valueNumbers : Int → Int} {R_given : Int → Int} {out : Int × Int × (Int → Int)} (X : jX jF0 K 6 b_Mod_ofBytes w_Mod_ofBytes R_Mod [(cI, .int), (cL, .long), (cB, .byte)]) : ∀ (n : Nat) (x3 : Int) (R_puts : Int) (R_texts : (Int → Int)), f_Mod_ofBytes_L79 R_textEnd R_from R_length R_of x1 x2 n x3 R_puts R_texts = some out → J K 6 ({ frames := 2, cells := 0, slots := 0, locals := 45 } : Room) false 0 0 [(ad 0, .inr (10, [.int (zI R_thrown), .ref (ad 1), .ref (ad 2), .ref (ad 3), .ref (ad 4), .ref (ad 5), .ref (ad 6), .int (zI R_used), .ref (ad 7), .int (zI R_many), .ref (ad 8), .ref (ad 9), .ref (ad 10), .ref (ad 11), .ref (ad 12), .ref (ad 13), .ref (ad 14), .ref (ad 15), .ref (ad 16), .int (zI R_values), .ref (ad 17), .int (zI R_textEnd), .ref (ad 18), .ref (ad 19), .ref (ad 20), .ref (ad 21), .int (zI R_dataEnd), .ref (ad 22), .int (zI R_rowEnd), .ref (ad 23), .ref (ad 24), .int (zI R_rowMany), .ref (ad 25), .ref (ad 26), .ref (ad 27), .ref (ad 28), .int (zI R_waiting), .int (zI R_mostWaiting), .int (zI R_answer), .int (zI R_steps), .int (zI R_memory), .int (zI R_maxSteps), .int (zI R_maxMemory), .int (zI R_fault), .int (zI R_result), .int (zI R_now), .int (zI R_nowRow), .int (zI R_come), .ref (ad 29), .ref (ad 30), .int (zI (out.2.1)), .ref (ad 31)])), (ad 8, .inl (cI, 3700, .inl (zA R_valueKinds))), (ad 9, .inl (cL, 3700, .inr (.inl (zB R_valueNumbers)))), (ad 10, .inl (cI, 3700, .inl (zA R_from))), (ad 11, .inl (cI, 3700, .inl (zA R_length))), (ad 14, .inl (cI, 3700, .inl (zA R_given))), (ad 17, .inl (cB, 70000, .inl (zA (out.2.2)))), (ad 29, .inl (cI, 3, .inl (zA R_of)))] [(0, .ref (ad 0)), (1, .int (zI x1)), (2, .int (zI x2)), (3, .int (zI (out.1)))] [] 148 → J K 6 ({ frames := 2, cells := 0, slots := 0, locals := 45 } : Room) false 0 0 [(ad 0, .inr (10, [.int (zI R_thrown), .ref (ad 1), .ref (ad 2), .ref (ad 3), .ref (ad 4), .ref (ad 5), .ref (ad 6), .int (zI R_used), .ref (ad 7), .int (zI R_many), .ref (ad 8), .ref (ad 9), .ref (ad 10), .ref (ad 11), .ref (ad 12), .ref (ad 13), .ref (ad 14), .ref (ad 15), .ref (ad 16), .int (zI R_values), .ref (ad 17), .int (zI R_textEnd), .ref (ad 18), .ref (ad 19), .ref (ad 20), .ref (ad 21), .int (zI R_dataEnd), .ref (ad 22), .int (zI R_rowEnd), .ref (ad 23), .ref (ad 24), .int (zI R_rowMany), .ref (ad 25), .ref (ad 26), .ref (ad 27), .ref (ad 28), .int (zI R_waiting), .int (zI R_mostWaiting), .int (zI R_answer), .int (zI R_steps), .int (zI R_memory), .int (zI R_maxSteps), .int (zI R_maxMemory), .int (zI R_fault), .int (zI R_result), .int (zI R_now), .int (zI R_nowRow), .int (zI R_come), .ref (ad 29), .ref (ad 30), .int (zI R_puts), .ref (ad 31)])), (ad 8, .inl (cI, 3700, .inl (zA R_valueKinds))), (ad 9, .inl (cL, 3700, .inr (.inl (zB R_valueNumbers)))), (ad 10, .inl (cI, 3700, .inl (zA R_from))), (ad 11, .inl (cI, 3700, .inl (zA R_length))), (ad 14, .inl (cI, 3700, .inl (zA R_given))), (ad 17, .inl (cB, 70000, .inl (zA R_texts))), (ad 29, .inl (cI, 3, .inl (zA R_of)))] [(0, .ref (ad 0)), (1, .int (zI x1)), (2, .int (zI x2)), (3, .int (zI x3))] [] 79 := by
  intro n
  induction n with
  | zero =>
    intro x3 R_puts R_texts h hk
    cases h
  | succ n ih =>
    intro x3 R_puts R_texts h hk
    unfold f_Mod_ofBytes_L79 at h
    refine J_iload_n X d_Mod_ofBytes_79 rfl 3 rfl ?_
    refine J_aload_n X d_Mod_ofBytes_80 rfl 0 rfl ?_
    refine J_get X (j_in in_Mod) 0 rfl rfl 13 (by decide) (j_m own_Mod_ofBytes (by decide +kernel)) rfl d_Mod_ofBytes_81 ?_
    refine J_iload_n X d_Mod_ofBytes_84 rfl 2 rfl ?_
    obtain ⟨g102, h⟩ := wk_g h
    refine J_iald X 4 0 rfl rfl g102 d_Mod_ofBytes_85 ?_
    refine J_aload_n X d_Mod_ofBytes_86 rfl 0 rfl ?_
    refine J_get X (j_in in_Mod) 0 rfl rfl 13 (by decide) (j_m own_Mod_ofBytes (by decide +kernel)) rfl d_Mod_ofBytes_87 ?_
    refine J_aload_n X d_Mod_ofBytes_90 rfl 0 rfl ?_
    refine J_get X (j_in in_Mod) 0 rfl rfl 48 (by decide) (j_m own_Mod_ofBytes (by decide +kernel)) rfl d_Mod_ofBytes_91 ?_
    refine J_iconst X d_Mod_ofBytes_94 ?_
    obtain ⟨g103, h⟩ := wk_g h
    refine J_iald X 7 0 rfl rfl g103 d_Mod_ofBytes_95 ?_
    obtain ⟨g104, h⟩ := wk_g h
    refine J_iald X 4 0 rfl rfl g104 d_Mod_ofBytes_96 ?_
    refine J_iadd X d_Mod_ofBytes_97 ?_
    refine J_icmp_ge (tgt := 148) X d_Mod_ofBytes_98 (by decide) h (fun c105 h => ?_) (fun c105 h => ?_)
    · cases h
      refine J_lv (lv' := [(0, .ref (ad 0)), (1, .int (zI x1)), (2, .int (zI x2)), (3, .int (zI x3))]) [0, 1, 2, 3] rfl ?_
      exact hk
    · refine J_aload_n X d_Mod_ofBytes_101 rfl 0 rfl ?_
      refine J_iload_n X d_Mod_ofBytes_102 rfl 3 rfl ?_
      refine J_aload_n X d_Mod_ofBytes_103 rfl 0 rfl ?_
      refine J_get X (j_in in_Mod) 0 rfl rfl 13 (by decide) (j_m own_Mod_ofBytes (by decide +kernel)) rfl d_Mod_ofBytes_104 ?_
      refine J_iload_n X d_Mod_ofBytes_107 rfl 2 rfl ?_
      obtain ⟨g106, h⟩ := wk_g h
      refine J_iald X 4 0 rfl rfl g106 d_Mod_ofBytes_108 ?_
      refine J_icmp_ge (tgt := 121) X d_Mod_ofBytes_109 (by decide) h (fun c107 h => ?_) (fun c107 h => ?_)
      · refine J_aload_n X d_Mod_ofBytes_121 rfl 0 rfl ?_
        refine J_aload_n X d_Mod_ofBytes_122 rfl 0 rfl ?_
        refine J_get X (j_in in_Mod) 0 rfl rfl 48 (by decide) (j_m own_Mod_ofBytes (by decide +kernel)) rfl d_Mod_ofBytes_123 ?_
        refine J_iconst X d_Mod_ofBytes_126 ?_
        obtain ⟨g108, h⟩ := wk_g h
        refine J_iald X 7 0 rfl rfl g108 d_Mod_ofBytes_127 ?_
        refine J_iload_n X d_Mod_ofBytes_128 rfl 3 rfl ?_
        refine J_aload_n X d_Mod_ofBytes_129 rfl 0 rfl ?_
        refine J_get X (j_in in_Mod) 0 rfl rfl 13 (by decide) (j_m own_Mod_ofBytes (by decide +kernel)) rfl d_Mod_ofBytes_130 ?_
        refine J_iload_n X d_Mod_ofBytes_133 rfl 2 rfl ?_
        obtain ⟨g109, h⟩ := wk_g h
        refine J_iald X 4 0 rfl rfl g109 d_Mod_ofBytes_134 ?_
        refine J_isub X d_Mod_ofBytes_135 ?_
        obtain ⟨r110, q111, h⟩ := wk_b h
        refine J_afterP (jrunV X (c_Mod_byteOf (ad := ad) q111) jF0_k (fun _ _ _ _ => trivial) (jgV own_Mod_ofBytes (by decide +kernel)) rfl rfl rfl pd_Mod_byteOf (by decide) [0, 3, 6] rfl (by decide) 0 10 rfl rfl rfl rfl (Nat.le_of_ble_eq_true rfl) d_Mod_ofBytes_136 (by decide)) ?_
        obtain ⟨R_puts_112, R_texts_113, q114, h⟩ := wk_b2 h
        refine J_afterI0 (ws' := [(ad 0, .inr (10, [.int (zI R_thrown), .ref (ad 1), .ref (ad 2), .ref (ad 3), .ref (ad 4), .ref (ad 5), .ref (ad 6), .int (zI R_used), .ref (ad 7), .int (zI R_many), .ref (ad 8), .ref (ad 9), .ref (ad 10), .ref (ad 11), .ref (ad 12), .ref (ad 13), .ref (ad 14), .ref (ad 15), .ref (ad 16), .int (zI R_values), .ref (ad 17), .int (zI R_textEnd), .ref (ad 18), .ref (ad 19), .ref (ad 20), .ref (ad 21), .int (zI R_dataEnd), .ref (ad 22), .int (zI R_rowEnd), .ref (ad 23), .ref (ad 24), .int (zI R_rowMany), .ref (ad 25), .ref (ad 26), .ref (ad 27), .ref (ad 28), .int (zI R_waiting), .int (zI R_mostWaiting), .int (zI R_answer), .int (zI R_steps), .int (zI R_memory), .int (zI R_maxSteps), .int (zI R_maxMemory), .int (zI R_fault), .int (zI R_result), .int (zI R_now), .int (zI R_nowRow), .int (zI R_come), .ref (ad 29), .ref (ad 30), .int (zI R_puts_112), .ref (ad 31)])), (ad 8, .inl (cI, 3700, .inl (zA R_valueKinds))), (ad 9, .inl (cL, 3700, .inr (.inl (zB R_valueNumbers)))), (ad 10, .inl (cI, 3700, .inl (zA R_from))), (ad 11, .inl (cI, 3700, .inl (zA R_length))), (ad 14, .inl (cI, 3700, .inl (zA R_given))), (ad 17, .inl (cB, 70000, .inl (zA R_texts_113))), (ad 29, .inl (cI, 3, .inl (zA R_of)))]) X (jrunV X (c_Mod_putText (ad := ad) q114) jF0_k (fun _ _ _ _ => trivial) (jgV own_Mod_ofBytes (by decide +kernel)) rfl rfl rfl pd_Mod_putText (by decide) [0, 6] rfl (by decide) 0 10 rfl rfl rfl rfl (Nat.le_of_ble_eq_true rfl) d_Mod_ofBytes_139 (by decide)) [0, 6] [1, 2, 3, 4, 5, 7] [6, 0, 1, 2, 3, 4, 7, 5] rfl rfl (by decide) (by decide) rfl (by decide) ?_
        refine J_iinc (lv' := [(3, .int (zI (x3 + 1))), (0, .ref (ad 0)), (1, .int (zI x1)), (2, .int (zI x2))]) X d_Mod_ofBytes_142 3 rfl (by decide) rfl ?_
        refine J_goto (tgt := 79) X d_Mod_ofBytes_145 (by decide) ?_
        refine J_lv (lv' := [(0, .ref (ad 0)), (1, .int (zI x1)), (2, .int (zI x2)), (3, .int (zI (x3 + 1)))]) [1, 2, 3, 0] rfl ?_
        exact ih _ _ _ h hk
      · refine J_aload_n X d_Mod_ofBytes_112 rfl 0 rfl ?_
        refine J_iload_n X d_Mod_ofBytes_113 rfl 2 rfl ?_
        refine J_iload_n X d_Mod_ofBytes_114 rfl 3 rfl ?_
        obtain ⟨r115, q116, h⟩ := wk_b h
        refine J_afterP (jrunV X (c_Mod_byteOf (ad := ad) q116) jF0_k (fun _ _ _ _ => trivial) (jgV own_Mod_ofBytes (by decide +kernel)) rfl rfl rfl pd_Mod_byteOf (by decide) [0, 3, 6] rfl (by decide) 0 10 rfl rfl rfl rfl (Nat.le_of_ble_eq_true rfl) d_Mod_ofBytes_115 (by decide)) ?_
        refine J_goto (tgt := 139) X d_Mod_ofBytes_118 (by decide) ?_
        obtain ⟨R_puts_117, R_texts_118, q119, h⟩ := wk_b2 h
        refine J_afterI0 (ws' := [(ad 0, .inr (10, [.int (zI R_thrown), .ref (ad 1), .ref (ad 2), .ref (ad 3), .ref (ad 4), .ref (ad 5), .ref (ad 6), .int (zI R_used), .ref (ad 7), .int (zI R_many), .ref (ad 8), .ref (ad 9), .ref (ad 10), .ref (ad 11), .ref (ad 12), .ref (ad 13), .ref (ad 14), .ref (ad 15), .ref (ad 16), .int (zI R_values), .ref (ad 17), .int (zI R_textEnd), .ref (ad 18), .ref (ad 19), .ref (ad 20), .ref (ad 21), .int (zI R_dataEnd), .ref (ad 22), .int (zI R_rowEnd), .ref (ad 23), .ref (ad 24), .int (zI R_rowMany), .ref (ad 25), .ref (ad 26), .ref (ad 27), .ref (ad 28), .int (zI R_waiting), .int (zI R_mostWaiting), .int (zI R_answer), .int (zI R_steps), .int (zI R_memory), .int (zI R_maxSteps), .int (zI R_maxMemory), .int (zI R_fault), .int (zI R_result), .int (zI R_now), .int (zI R_nowRow), .int (zI R_come), .ref (ad 29), .ref (ad 30), .int (zI R_puts_117), .ref (ad 31)])), (ad 8, .inl (cI, 3700, .inl (zA R_valueKinds))), (ad 9, .inl (cL, 3700, .inr (.inl (zB R_valueNumbers)))), (ad 10, .inl (cI, 3700, .inl (zA R_from))), (ad 11, .inl (cI, 3700, .inl (zA R_length))), (ad 14, .inl (cI, 3700, .inl (zA R_given))), (ad 17, .inl (cB, 70000, .inl (zA R_texts_118))), (ad 29, .inl (cI, 3, .inl (zA R_of)))]) X (jrunV X (c_Mod_putText (ad := ad) q119) jF0_k (fun _ _ _ _ => trivial) (jgV own_Mod_ofBytes (by decide +kernel)) rfl rfl rfl pd_Mod_putText (by decide) [0, 6] rfl (by decide) 0 10 rfl rfl rfl rfl (Nat.le_of_ble_eq_true rfl) d_Mod_ofBytes_139 (by decide)) [0, 6] [1, 2, 3, 4, 5, 7] [6, 0, 1, 2, 3, 4, 7, 5] rfl rfl (by decide) (by decide) rfl (by decide) ?_
        refine J_iinc (lv' := [(3, .int (zI (x3 + 1))), (0, .ref (ad 0)), (1, .int (zI x1)), (2, .int (zI x2))]) X d_Mod_ofBytes_142 3 rfl (by decide) rfl ?_
        refine J_goto (tgt := 79) X d_Mod_ofBytes_145 (by decide) ?_
        refine J_lv (lv' := [(0, .ref (ad 0)), (1, .int (zI x1)), (2, .int (zI x2)), (3, .int (zI (x3 + 1)))]) [1, 2, 3, 0] rfl ?_
        exact ih _ _ _ h hk
set_option maxHeartbeats 4000000 in
set_option maxRecDepth 100000 in
theorem k_Mod_ofBytes_L224 {K : jK} {cI cL cB : ClassId} {ad : Nat → Nat} {R_textEnd : Int} {R_valueNumbers : Int → Int} {R_from : Int → Int} {R_length : Int → Int} {R_of : Int → Int} {x1 : Int} {x2 : Int} {R_thrown : Int} {R_used : Int} {R_many : Int} {R_values : Int} {R_dataEnd : Int} {R_rowEnd : Int} {R_rowMany : Int} {R_waiting : Int} {R_mostWaiting : Int} {R_answer : Int} {R_steps : Int} {R_memory : Int} {R_maxSteps : Int} {R_maxMemory : Int} {R_fault : Int} {R_result : Int} {R_now : Int} {R_nowRow : Int} {R_come : Int} {R_valueKinds : Int → Int} {R_given : Int → Int} {out : Int × Int × (Int → Int)} (X : jX jF0 K 6 b_Mod_ofBytes w_Mod_ofBytes R_Mod [(cI, .int), (cL, .long), (cB, .byte)]) : ∀ (n : Nat) (x3 : Int) (R_puts : Int) (R_texts : (Int → Int)), f_Mod_ofBytes_L224 R_textEnd R_valueNumbers R_from R_length R_of x1 x2 n x3 R_puts R_texts = some out → J K 6 ({ frames := 2, cells := 0, slots := 0, locals := 45 } : Room) false 0 0 [(ad 0, .inr (10, [.int (zI R_thrown), .ref (ad 1), .ref (ad 2), .ref (ad 3), .ref (ad 4), .ref (ad 5), .ref (ad 6), .int (zI R_used), .ref (ad 7), .int (zI R_many), .ref (ad 8), .ref (ad 9), .ref (ad 10), .ref (ad 11), .ref (ad 12), .ref (ad 13), .ref (ad 14), .ref (ad 15), .ref (ad 16), .int (zI R_values), .ref (ad 17), .int (zI R_textEnd), .ref (ad 18), .ref (ad 19), .ref (ad 20), .ref (ad 21), .int (zI R_dataEnd), .ref (ad 22), .int (zI R_rowEnd), .ref (ad 23), .ref (ad 24), .int (zI R_rowMany), .ref (ad 25), .ref (ad 26), .ref (ad 27), .ref (ad 28), .int (zI R_waiting), .int (zI R_mostWaiting), .int (zI R_answer), .int (zI R_steps), .int (zI R_memory), .int (zI R_maxSteps), .int (zI R_maxMemory), .int (zI R_fault), .int (zI R_result), .int (zI R_now), .int (zI R_nowRow), .int (zI R_come), .ref (ad 29), .ref (ad 30), .int (zI (out.2.1)), .ref (ad 31)])), (ad 8, .inl (cI, 3700, .inl (zA R_valueKinds))), (ad 9, .inl (cL, 3700, .inr (.inl (zB R_valueNumbers)))), (ad 10, .inl (cI, 3700, .inl (zA R_from))), (ad 11, .inl (cI, 3700, .inl (zA R_length))), (ad 14, .inl (cI, 3700, .inl (zA R_given))), (ad 17, .inl (cB, 70000, .inl (zA (out.2.2)))), (ad 29, .inl (cI, 3, .inl (zA R_of)))] [(0, .ref (ad 0)), (1, .int (zI x1)), (2, .int (zI x2)), (3, .int (zI (out.1)))] [] 311 → J K 6 ({ frames := 2, cells := 0, slots := 0, locals := 45 } : Room) false 0 0 [(ad 0, .inr (10, [.int (zI R_thrown), .ref (ad 1), .ref (ad 2), .ref (ad 3), .ref (ad 4), .ref (ad 5), .ref (ad 6), .int (zI R_used), .ref (ad 7), .int (zI R_many), .ref (ad 8), .ref (ad 9), .ref (ad 10), .ref (ad 11), .ref (ad 12), .ref (ad 13), .ref (ad 14), .ref (ad 15), .ref (ad 16), .int (zI R_values), .ref (ad 17), .int (zI R_textEnd), .ref (ad 18), .ref (ad 19), .ref (ad 20), .ref (ad 21), .int (zI R_dataEnd), .ref (ad 22), .int (zI R_rowEnd), .ref (ad 23), .ref (ad 24), .int (zI R_rowMany), .ref (ad 25), .ref (ad 26), .ref (ad 27), .ref (ad 28), .int (zI R_waiting), .int (zI R_mostWaiting), .int (zI R_answer), .int (zI R_steps), .int (zI R_memory), .int (zI R_maxSteps), .int (zI R_maxMemory), .int (zI R_fault), .int (zI R_result), .int (zI R_now), .int (zI R_nowRow), .int (zI R_come), .ref (ad 29), .ref (ad 30), .int (zI R_puts), .ref (ad 31)])), (ad 8, .inl (cI, 3700, .inl (zA R_valueKinds))), (ad 9, .inl (cL, 3700, .inr (.inl (zB R_valueNumbers)))), (ad 10, .inl (cI, 3700, .inl (zA R_from))), (ad 11, .inl (cI, 3700, .inl (zA R_length))), (ad 14, .inl (cI, 3700, .inl (zA R_given))), (ad 17, .inl (cB, 70000, .inl (zA R_texts))), (ad 29, .inl (cI, 3, .inl (zA R_of)))] [(0, .ref (ad 0)), (1, .int (zI x1)), (2, .int (zI x2)), (3, .int (zI x3))] [] 224 := by
  intro n
  induction n with
  | zero =>
    intro x3 R_puts R_texts h hk
    cases h
  | succ n ih =>
    intro x3 R_puts R_texts h hk
    unfold f_Mod_ofBytes_L224 at h
    refine J_iload_n X d_Mod_ofBytes_224 rfl 3 rfl ?_
    refine J_aload_n X d_Mod_ofBytes_225 rfl 0 rfl ?_
    refine J_get X (j_in in_Mod) 0 rfl rfl 13 (by decide) (j_m own_Mod_ofBytes (by decide +kernel)) rfl d_Mod_ofBytes_226 ?_
    refine J_aload_n X d_Mod_ofBytes_229 rfl 0 rfl ?_
    refine J_get X (j_in in_Mod) 0 rfl rfl 48 (by decide) (j_m own_Mod_ofBytes (by decide +kernel)) rfl d_Mod_ofBytes_230 ?_
    refine J_iconst X d_Mod_ofBytes_233 ?_
    obtain ⟨g120, h⟩ := wk_g h
    refine J_iald X 7 0 rfl rfl g120 d_Mod_ofBytes_234 ?_
    obtain ⟨g121, h⟩ := wk_g h
    refine J_iald X 4 0 rfl rfl g121 d_Mod_ofBytes_235 ?_
    refine J_icmp_ge (tgt := 311) X d_Mod_ofBytes_236 (by decide) h (fun c122 h => ?_) (fun c122 h => ?_)
    · cases h
      refine J_lv (lv' := [(0, .ref (ad 0)), (1, .int (zI x1)), (2, .int (zI x2)), (3, .int (zI x3))]) [0, 1, 2, 3] rfl ?_
      exact hk
    · refine J_aload_n X d_Mod_ofBytes_239 rfl 0 rfl ?_
      refine J_get X (j_in in_Mod) 0 rfl rfl 11 (by decide) (j_m own_Mod_ofBytes (by decide +kernel)) rfl d_Mod_ofBytes_240 ?_
      refine J_iload_n X d_Mod_ofBytes_243 rfl 2 rfl ?_
      obtain ⟨g123, h⟩ := wk_g h
      refine J_lald X 2 1 rfl rfl g123 d_Mod_ofBytes_244 ?_
      refine J_lconst (v := 0) X d_Mod_ofBytes_245 (by decide) ?_
      refine J_lc_ge (tgt := 254) X d_Mod_ofBytes_246 d_Mod_ofBytes_247 (by decide) h (fun c124 h => ?_) (fun c124 h => ?_)
      · refine J_aload_n X d_Mod_ofBytes_254 rfl 0 rfl ?_
        refine J_get X (j_in in_Mod) 0 rfl rfl 11 (by decide) (j_m own_Mod_ofBytes (by decide +kernel)) rfl d_Mod_ofBytes_255 ?_
        refine J_iload_n X d_Mod_ofBytes_258 rfl 2 rfl ?_
        obtain ⟨g125, h⟩ := wk_g h
        refine J_lald X 2 1 rfl rfl g125 d_Mod_ofBytes_259 ?_
        refine J_lstore (lv' := [(4, .long (zL (R_valueNumbers x2))), (0, .ref (ad 0)), (1, .int (zI x1)), (2, .int (zI x2)), (3, .int (zI x3))]) X d_Mod_ofBytes_260 (by decide) rfl ?_
        refine J_iload_n X d_Mod_ofBytes_262 rfl 4 rfl ?_
        obtain ⟨g126, h⟩ := wk_g h
        refine J_i2l X g126 d_Mod_ofBytes_263 ?_
        refine J_lload X d_Mod_ofBytes_264 0 rfl ?_
        refine J_lc_lt (tgt := 305) X d_Mod_ofBytes_266 d_Mod_ofBytes_267 (by decide) h (fun c127 h => ?_) (fun c127 h => ?_)
        · refine J_iinc (lv' := [(3, .int (zI (x3 + 1))), (4, .long (zL (R_valueNumbers x2))), (0, .ref (ad 0)), (1, .int (zI x1)), (2, .int (zI x2))]) X d_Mod_ofBytes_305 4 rfl (by decide) rfl ?_
          refine J_goto (tgt := 224) X d_Mod_ofBytes_308 (by decide) ?_
          refine J_lv (lv' := [(0, .ref (ad 0)), (1, .int (zI x1)), (2, .int (zI x2)), (3, .int (zI (x3 + 1)))]) [2, 3, 4, 0] rfl ?_
          exact ih _ _ _ h hk
        · refine J_iload_n X d_Mod_ofBytes_270 rfl 4 rfl ?_
          obtain ⟨g128, h⟩ := wk_g h
          refine J_i2l X g128 d_Mod_ofBytes_271 ?_
          refine J_lload X d_Mod_ofBytes_272 0 rfl ?_
          refine J_lsub X d_Mod_ofBytes_274 ?_
          refine J_aload_n X d_Mod_ofBytes_275 rfl 1 rfl ?_
          refine J_get X (j_in in_Mod) 0 rfl rfl 11 (by decide) (j_m own_Mod_ofBytes (by decide +kernel)) rfl d_Mod_ofBytes_276 ?_
          refine J_aload_n X d_Mod_ofBytes_279 rfl 1 rfl ?_
          refine J_get X (j_in in_Mod) 0 rfl rfl 48 (by decide) (j_m own_Mod_ofBytes (by decide +kernel)) rfl d_Mod_ofBytes_280 ?_
          refine J_iconst X d_Mod_ofBytes_283 ?_
          obtain ⟨g129, h⟩ := wk_g h
          refine J_iald X 7 0 rfl rfl g129 d_Mod_ofBytes_284 ?_
          obtain ⟨g130, h⟩ := wk_g h
          refine J_lald X 2 1 rfl rfl g130 d_Mod_ofBytes_285 ?_
          refine J_lc_ge (tgt := 305) X d_Mod_ofBytes_286 d_Mod_ofBytes_287 (by decide) h (fun c131 h => ?_) (fun c131 h => ?_)
          · refine J_iinc (lv' := [(3, .int (zI (x3 + 1))), (4, .long (zL (R_valueNumbers x2))), (0, .ref (ad 0)), (1, .int (zI x1)), (2, .int (zI x2))]) X d_Mod_ofBytes_305 4 rfl (by decide) rfl ?_
            refine J_goto (tgt := 224) X d_Mod_ofBytes_308 (by decide) ?_
            refine J_lv (lv' := [(0, .ref (ad 0)), (1, .int (zI x1)), (2, .int (zI x2)), (3, .int (zI (x3 + 1)))]) [2, 3, 4, 0] rfl ?_
            exact ih _ _ _ h hk
          · refine J_aload_n X d_Mod_ofBytes_290 rfl 1 rfl ?_
            refine J_aload_n X d_Mod_ofBytes_291 rfl 1 rfl ?_
            refine J_aload_n X d_Mod_ofBytes_292 rfl 1 rfl ?_
            refine J_get X (j_in in_Mod) 0 rfl rfl 48 (by decide) (j_m own_Mod_ofBytes (by decide +kernel)) rfl d_Mod_ofBytes_293 ?_
            refine J_iconst X d_Mod_ofBytes_296 ?_
            obtain ⟨g132, h⟩ := wk_g h
            refine J_iald X 7 0 rfl rfl g132 d_Mod_ofBytes_297 ?_
            refine J_iload_n X d_Mod_ofBytes_298 rfl 4 rfl ?_
            obtain ⟨r133, q134, h⟩ := wk_b h
            refine J_afterP (jrunV X (c_Mod_byteOf (ad := ad) q134) jF0_k (fun _ _ _ _ => trivial) (jgV own_Mod_ofBytes (by decide +kernel)) rfl rfl rfl pd_Mod_byteOf (by decide) [0, 3, 6] rfl (by decide) 0 10 rfl rfl rfl rfl (Nat.le_of_ble_eq_true rfl) d_Mod_ofBytes_299 (by decide)) ?_
            obtain ⟨R_puts_135, R_texts_136, q137, h⟩ := wk_b2 h
            refine J_afterI0 (ws' := [(ad 0, .inr (10, [.int (zI R_thrown), .ref (ad 1), .ref (ad 2), .ref (ad 3), .ref (ad 4), .ref (ad 5), .ref (ad 6), .int (zI R_used), .ref (ad 7), .int (zI R_many), .ref (ad 8), .ref (ad 9), .ref (ad 10), .ref (ad 11), .ref (ad 12), .ref (ad 13), .ref (ad 14), .ref (ad 15), .ref (ad 16), .int (zI R_values), .ref (ad 17), .int (zI R_textEnd), .ref (ad 18), .ref (ad 19), .ref (ad 20), .ref (ad 21), .int (zI R_dataEnd), .ref (ad 22), .int (zI R_rowEnd), .ref (ad 23), .ref (ad 24), .int (zI R_rowMany), .ref (ad 25), .ref (ad 26), .ref (ad 27), .ref (ad 28), .int (zI R_waiting), .int (zI R_mostWaiting), .int (zI R_answer), .int (zI R_steps), .int (zI R_memory), .int (zI R_maxSteps), .int (zI R_maxMemory), .int (zI R_fault), .int (zI R_result), .int (zI R_now), .int (zI R_nowRow), .int (zI R_come), .ref (ad 29), .ref (ad 30), .int (zI R_puts_135), .ref (ad 31)])), (ad 8, .inl (cI, 3700, .inl (zA R_valueKinds))), (ad 9, .inl (cL, 3700, .inr (.inl (zB R_valueNumbers)))), (ad 10, .inl (cI, 3700, .inl (zA R_from))), (ad 11, .inl (cI, 3700, .inl (zA R_length))), (ad 14, .inl (cI, 3700, .inl (zA R_given))), (ad 17, .inl (cB, 70000, .inl (zA R_texts_136))), (ad 29, .inl (cI, 3, .inl (zA R_of)))]) X (jrunV X (c_Mod_putText (ad := ad) q137) jF0_k (fun _ _ _ _ => trivial) (jgV own_Mod_ofBytes (by decide +kernel)) rfl rfl rfl pd_Mod_putText (by decide) [0, 6] rfl (by decide) 0 10 rfl rfl rfl rfl (Nat.le_of_ble_eq_true rfl) d_Mod_ofBytes_302 (by decide)) [0, 6] [1, 2, 3, 4, 5, 7] [6, 0, 1, 2, 3, 4, 7, 5] rfl rfl (by decide) (by decide) rfl (by decide) ?_
            refine J_iinc (lv' := [(3, .int (zI (x3 + 1))), (4, .long (zL (R_valueNumbers x2))), (0, .ref (ad 0)), (1, .int (zI x1)), (2, .int (zI x2))]) X d_Mod_ofBytes_305 4 rfl (by decide) rfl ?_
            refine J_goto (tgt := 224) X d_Mod_ofBytes_308 (by decide) ?_
            refine J_lv (lv' := [(0, .ref (ad 0)), (1, .int (zI x1)), (2, .int (zI x2)), (3, .int (zI (x3 + 1)))]) [2, 3, 4, 0] rfl ?_
            exact ih _ _ _ h hk
      · refine J_lconst (v := 0) X d_Mod_ofBytes_250 (by decide) ?_
        refine J_goto (tgt := 260) X d_Mod_ofBytes_251 (by decide) ?_
        refine J_lstore (lv' := [(4, .long (zL 0)), (0, .ref (ad 0)), (1, .int (zI x1)), (2, .int (zI x2)), (3, .int (zI x3))]) X d_Mod_ofBytes_260 (by decide) rfl ?_
        refine J_iload_n X d_Mod_ofBytes_262 rfl 4 rfl ?_
        obtain ⟨g138, h⟩ := wk_g h
        refine J_i2l X g138 d_Mod_ofBytes_263 ?_
        refine J_lload X d_Mod_ofBytes_264 0 rfl ?_
        refine J_lc_lt (tgt := 305) X d_Mod_ofBytes_266 d_Mod_ofBytes_267 (by decide) h (fun c139 h => ?_) (fun c139 h => ?_)
        · refine J_iinc (lv' := [(3, .int (zI (x3 + 1))), (4, .long (zL 0)), (0, .ref (ad 0)), (1, .int (zI x1)), (2, .int (zI x2))]) X d_Mod_ofBytes_305 4 rfl (by decide) rfl ?_
          refine J_goto (tgt := 224) X d_Mod_ofBytes_308 (by decide) ?_
          refine J_lv (lv' := [(0, .ref (ad 0)), (1, .int (zI x1)), (2, .int (zI x2)), (3, .int (zI (x3 + 1)))]) [2, 3, 4, 0] rfl ?_
          exact ih _ _ _ h hk
        · refine J_iload_n X d_Mod_ofBytes_270 rfl 4 rfl ?_
          obtain ⟨g140, h⟩ := wk_g h
          refine J_i2l X g140 d_Mod_ofBytes_271 ?_
          refine J_lload X d_Mod_ofBytes_272 0 rfl ?_
          refine J_lsub X d_Mod_ofBytes_274 ?_
          refine J_aload_n X d_Mod_ofBytes_275 rfl 1 rfl ?_
          refine J_get X (j_in in_Mod) 0 rfl rfl 11 (by decide) (j_m own_Mod_ofBytes (by decide +kernel)) rfl d_Mod_ofBytes_276 ?_
          refine J_aload_n X d_Mod_ofBytes_279 rfl 1 rfl ?_
          refine J_get X (j_in in_Mod) 0 rfl rfl 48 (by decide) (j_m own_Mod_ofBytes (by decide +kernel)) rfl d_Mod_ofBytes_280 ?_
          refine J_iconst X d_Mod_ofBytes_283 ?_
          obtain ⟨g141, h⟩ := wk_g h
          refine J_iald X 7 0 rfl rfl g141 d_Mod_ofBytes_284 ?_
          obtain ⟨g142, h⟩ := wk_g h
          refine J_lald X 2 1 rfl rfl g142 d_Mod_ofBytes_285 ?_
          refine J_lc_ge (tgt := 305) X d_Mod_ofBytes_286 d_Mod_ofBytes_287 (by decide) h (fun c143 h => ?_) (fun c143 h => ?_)
          · refine J_iinc (lv' := [(3, .int (zI (x3 + 1))), (4, .long (zL 0)), (0, .ref (ad 0)), (1, .int (zI x1)), (2, .int (zI x2))]) X d_Mod_ofBytes_305 4 rfl (by decide) rfl ?_
            refine J_goto (tgt := 224) X d_Mod_ofBytes_308 (by decide) ?_
            refine J_lv (lv' := [(0, .ref (ad 0)), (1, .int (zI x1)), (2, .int (zI x2)), (3, .int (zI (x3 + 1)))]) [2, 3, 4, 0] rfl ?_
            exact ih _ _ _ h hk
          · refine J_aload_n X d_Mod_ofBytes_290 rfl 1 rfl ?_
            refine J_aload_n X d_Mod_ofBytes_291 rfl 1 rfl ?_
            refine J_aload_n X d_Mod_ofBytes_292 rfl 1 rfl ?_
            refine J_get X (j_in in_Mod) 0 rfl rfl 48 (by decide) (j_m own_Mod_ofBytes (by decide +kernel)) rfl d_Mod_ofBytes_293 ?_
            refine J_iconst X d_Mod_ofBytes_296 ?_
            obtain ⟨g144, h⟩ := wk_g h
            refine J_iald X 7 0 rfl rfl g144 d_Mod_ofBytes_297 ?_
            refine J_iload_n X d_Mod_ofBytes_298 rfl 4 rfl ?_
            obtain ⟨r145, q146, h⟩ := wk_b h
            refine J_afterP (jrunV X (c_Mod_byteOf (ad := ad) q146) jF0_k (fun _ _ _ _ => trivial) (jgV own_Mod_ofBytes (by decide +kernel)) rfl rfl rfl pd_Mod_byteOf (by decide) [0, 3, 6] rfl (by decide) 0 10 rfl rfl rfl rfl (Nat.le_of_ble_eq_true rfl) d_Mod_ofBytes_299 (by decide)) ?_
            obtain ⟨R_puts_147, R_texts_148, q149, h⟩ := wk_b2 h
            refine J_afterI0 (ws' := [(ad 0, .inr (10, [.int (zI R_thrown), .ref (ad 1), .ref (ad 2), .ref (ad 3), .ref (ad 4), .ref (ad 5), .ref (ad 6), .int (zI R_used), .ref (ad 7), .int (zI R_many), .ref (ad 8), .ref (ad 9), .ref (ad 10), .ref (ad 11), .ref (ad 12), .ref (ad 13), .ref (ad 14), .ref (ad 15), .ref (ad 16), .int (zI R_values), .ref (ad 17), .int (zI R_textEnd), .ref (ad 18), .ref (ad 19), .ref (ad 20), .ref (ad 21), .int (zI R_dataEnd), .ref (ad 22), .int (zI R_rowEnd), .ref (ad 23), .ref (ad 24), .int (zI R_rowMany), .ref (ad 25), .ref (ad 26), .ref (ad 27), .ref (ad 28), .int (zI R_waiting), .int (zI R_mostWaiting), .int (zI R_answer), .int (zI R_steps), .int (zI R_memory), .int (zI R_maxSteps), .int (zI R_maxMemory), .int (zI R_fault), .int (zI R_result), .int (zI R_now), .int (zI R_nowRow), .int (zI R_come), .ref (ad 29), .ref (ad 30), .int (zI R_puts_147), .ref (ad 31)])), (ad 8, .inl (cI, 3700, .inl (zA R_valueKinds))), (ad 9, .inl (cL, 3700, .inr (.inl (zB R_valueNumbers)))), (ad 10, .inl (cI, 3700, .inl (zA R_from))), (ad 11, .inl (cI, 3700, .inl (zA R_length))), (ad 14, .inl (cI, 3700, .inl (zA R_given))), (ad 17, .inl (cB, 70000, .inl (zA R_texts_148))), (ad 29, .inl (cI, 3, .inl (zA R_of)))]) X (jrunV X (c_Mod_putText (ad := ad) q149) jF0_k (fun _ _ _ _ => trivial) (jgV own_Mod_ofBytes (by decide +kernel)) rfl rfl rfl pd_Mod_putText (by decide) [0, 6] rfl (by decide) 0 10 rfl rfl rfl rfl (Nat.le_of_ble_eq_true rfl) d_Mod_ofBytes_302 (by decide)) [0, 6] [1, 2, 3, 4, 5, 7] [6, 0, 1, 2, 3, 4, 7, 5] rfl rfl (by decide) (by decide) rfl (by decide) ?_
            refine J_iinc (lv' := [(3, .int (zI (x3 + 1))), (4, .long (zL 0)), (0, .ref (ad 0)), (1, .int (zI x1)), (2, .int (zI x2))]) X d_Mod_ofBytes_305 4 rfl (by decide) rfl ?_
            refine J_goto (tgt := 224) X d_Mod_ofBytes_308 (by decide) ?_
            refine J_lv (lv' := [(0, .ref (ad 0)), (1, .int (zI x1)), (2, .int (zI x2)), (3, .int (zI (x3 + 1)))]) [2, 3, 4, 0] rfl ?_
            exact ih _ _ _ h hk
set_option maxHeartbeats 4000000 in
set_option maxRecDepth 100000 in
theorem c_Mod_ofBytes {l : Launch} {D : va_G} {cI cL cB : ClassId} {ad : Nat → Nat} {N : Nat} {R_thrown : Int} {R_used : Int} {R_many : Int} {R_values : Int} {R_textEnd : Int} {R_dataEnd : Int} {R_rowEnd : Int} {R_rowMany : Int} {R_waiting : Int} {R_mostWaiting : Int} {R_answer : Int} {R_steps : Int} {R_memory : Int} {R_maxSteps : Int} {R_maxMemory : Int} {R_fault : Int} {R_result : Int} {R_now : Int} {R_nowRow : Int} {R_come : Int} {R_puts : Int} {R_valueKinds : Int → Int} {R_valueNumbers : Int → Int} {R_from : Int → Int} {R_length : Int → Int} {R_given : Int → Int} {R_texts : Int → Int} {R_of : Int → Int} {p1 : Int} {out : Int × Int × Int × Int × Int × (Int → Int) × (Int → Int) × (Int → Int) × (Int → Int) × (Int → Int) × (Int → Int)} (h : f_Mod_ofBytes N R_values R_textEnd R_fault R_puts R_valueKinds R_valueNumbers R_from R_length R_given R_texts R_of p1 = some out) : CT jF0 false l D [(cI, .int), (cL, .long), (cB, .byte)] y_Mod_ofBytes w_Mod_ofBytes ({ frames := 2, cells := 0, slots := 0, locals := 45 } : Room) [.ref (ad 0), .int (zI p1)] [(ad 0, .inr (10, [.int (zI R_thrown), .ref (ad 1), .ref (ad 2), .ref (ad 3), .ref (ad 4), .ref (ad 5), .ref (ad 6), .int (zI R_used), .ref (ad 7), .int (zI R_many), .ref (ad 8), .ref (ad 9), .ref (ad 10), .ref (ad 11), .ref (ad 12), .ref (ad 13), .ref (ad 14), .ref (ad 15), .ref (ad 16), .int (zI R_values), .ref (ad 17), .int (zI R_textEnd), .ref (ad 18), .ref (ad 19), .ref (ad 20), .ref (ad 21), .int (zI R_dataEnd), .ref (ad 22), .int (zI R_rowEnd), .ref (ad 23), .ref (ad 24), .int (zI R_rowMany), .ref (ad 25), .ref (ad 26), .ref (ad 27), .ref (ad 28), .int (zI R_waiting), .int (zI R_mostWaiting), .int (zI R_answer), .int (zI R_steps), .int (zI R_memory), .int (zI R_maxSteps), .int (zI R_maxMemory), .int (zI R_fault), .int (zI R_result), .int (zI R_now), .int (zI R_nowRow), .int (zI R_come), .ref (ad 29), .ref (ad 30), .int (zI R_puts), .ref (ad 31)])), (ad 8, .inl (cI, 3700, .inl (zA R_valueKinds))), (ad 9, .inl (cL, 3700, .inr (.inl (zB R_valueNumbers)))), (ad 10, .inl (cI, 3700, .inl (zA R_from))), (ad 11, .inl (cI, 3700, .inl (zA R_length))), (ad 14, .inl (cI, 3700, .inl (zA R_given))), (ad 17, .inl (cB, 70000, .inl (zA R_texts))), (ad 29, .inl (cI, 3, .inl (zA R_of)))] (some (.int (zI out.1))) [(ad 0, .inr (10, [.int (zI R_thrown), .ref (ad 1), .ref (ad 2), .ref (ad 3), .ref (ad 4), .ref (ad 5), .ref (ad 6), .int (zI R_used), .ref (ad 7), .int (zI R_many), .ref (ad 8), .ref (ad 9), .ref (ad 10), .ref (ad 11), .ref (ad 12), .ref (ad 13), .ref (ad 14), .ref (ad 15), .ref (ad 16), .int (zI (out.2.1)), .ref (ad 17), .int (zI (out.2.2.1)), .ref (ad 18), .ref (ad 19), .ref (ad 20), .ref (ad 21), .int (zI R_dataEnd), .ref (ad 22), .int (zI R_rowEnd), .ref (ad 23), .ref (ad 24), .int (zI R_rowMany), .ref (ad 25), .ref (ad 26), .ref (ad 27), .ref (ad 28), .int (zI R_waiting), .int (zI R_mostWaiting), .int (zI R_answer), .int (zI R_steps), .int (zI R_memory), .int (zI R_maxSteps), .int (zI R_maxMemory), .int (zI (out.2.2.2.1)), .int (zI R_result), .int (zI R_now), .int (zI R_nowRow), .int (zI R_come), .ref (ad 29), .ref (ad 30), .int (zI (out.2.2.2.2.1)), .ref (ad 31)])), (ad 8, .inl (cI, 3700, .inl (zA (out.2.2.2.2.2.1)))), (ad 9, .inl (cL, 3700, .inr (.inl (zB (out.2.2.2.2.2.2.1))))), (ad 10, .inl (cI, 3700, .inl (zA (out.2.2.2.2.2.2.2.1)))), (ad 11, .inl (cI, 3700, .inl (zA (out.2.2.2.2.2.2.2.2.1)))), (ad 14, .inl (cI, 3700, .inl (zA (out.2.2.2.2.2.2.2.2.2.1)))), (ad 17, .inl (cB, 70000, .inl (zA (out.2.2.2.2.2.2.2.2.2.2)))), (ad 29, .inl (cI, 3, .inl (zA R_of)))] 0 0 := by
  refine CT_of_J (cc := b_Mod_ofBytes) (maxL := 6) (ret := (some .int)) jF0_k (plainFor_of_name (by decide)) rfl (Nat.le_of_ble_eq_true rfl) ?_
  intro K hKl hKD X E
  subst hKl; subst hKD
  unfold f_Mod_ofBytes at h
  refine J_aload_n X d_Mod_ofBytes_0 rfl 0 rfl ?_
  refine J_iconst X d_Mod_ofBytes_1 ?_
  refine J_put (ws' := [(ad 0, .inr (10, [.int (zI R_thrown), .ref (ad 1), .ref (ad 2), .ref (ad 3), .ref (ad 4), .ref (ad 5), .ref (ad 6), .int (zI R_used), .ref (ad 7), .int (zI R_many), .ref (ad 8), .ref (ad 9), .ref (ad 10), .ref (ad 11), .ref (ad 12), .ref (ad 13), .ref (ad 14), .ref (ad 15), .ref (ad 16), .int (zI R_values), .ref (ad 17), .int (zI R_textEnd), .ref (ad 18), .ref (ad 19), .ref (ad 20), .ref (ad 21), .int (zI R_dataEnd), .ref (ad 22), .int (zI R_rowEnd), .ref (ad 23), .ref (ad 24), .int (zI R_rowMany), .ref (ad 25), .ref (ad 26), .ref (ad 27), .ref (ad 28), .int (zI R_waiting), .int (zI R_mostWaiting), .int (zI R_answer), .int (zI R_steps), .int (zI R_memory), .int (zI R_maxSteps), .int (zI R_maxMemory), .int (zI R_fault), .int (zI R_result), .int (zI R_now), .int (zI R_nowRow), .int (zI R_come), .ref (ad 29), .ref (ad 30), .int (zI 0), .ref (ad 31)])), (ad 8, .inl (cI, 3700, .inl (zA R_valueKinds))), (ad 9, .inl (cL, 3700, .inr (.inl (zB R_valueNumbers)))), (ad 10, .inl (cI, 3700, .inl (zA R_from))), (ad 11, .inl (cI, 3700, .inl (zA R_length))), (ad 14, .inl (cI, 3700, .inl (zA R_given))), (ad 17, .inl (cB, 70000, .inl (zA R_texts))), (ad 29, .inl (cI, 3, .inl (zA R_of)))]) X (j_in in_Mod) ty_Mod tok_Mod nm_Mod 0 rfl rfl 50 (by decide) (j_m own_Mod_ofBytes (by decide +kernel)) rfl rfl rfl (Nat.le_of_ble_eq_true rfl) d_Mod_ofBytes_2 rfl ?_
  refine J_aload_n X d_Mod_ofBytes_5 rfl 0 rfl ?_
  refine J_get X (j_in in_Mod) 0 rfl rfl 48 (by decide) (j_m own_Mod_ofBytes (by decide +kernel)) rfl d_Mod_ofBytes_6 ?_
  refine J_iconst X d_Mod_ofBytes_9 ?_
  obtain ⟨g1, h⟩ := wk_g h
  refine J_iald X 7 0 rfl rfl g1 d_Mod_ofBytes_10 ?_
  refine J_istore_n (lv' := [(2, .int (zI (R_of 0))), (0, .ref (ad 0)), (1, .int (zI p1))]) X d_Mod_ofBytes_11 rfl (by decide) rfl ?_
  refine J_iload_n X d_Mod_ofBytes_12 rfl 2 rfl ?_
  obtain ⟨g2, h⟩ := wk_g h
  rcases wk_c h with ⟨c3, h⟩ | ⟨c3, h⟩
  · refine J_tsIn (tgt := 48) X 10 c3 g2 d_Mod_ofBytes_13 (by decide) (by decide) rfl (by decide) ?_
    refine J_aload_n X d_Mod_ofBytes_48 rfl 1 rfl ?_
    refine J_get X (j_in in_Mod) 0 rfl rfl 13 (by decide) (j_m own_Mod_ofBytes (by decide +kernel)) rfl d_Mod_ofBytes_49 ?_
    refine J_iload_n X d_Mod_ofBytes_52 rfl 0 rfl ?_
    obtain ⟨g4, h⟩ := wk_g h
    refine J_iald X 4 0 rfl rfl g4 d_Mod_ofBytes_53 ?_
    refine J_aload_n X d_Mod_ofBytes_54 rfl 1 rfl ?_
    refine J_get X (j_in in_Mod) 0 rfl rfl 13 (by decide) (j_m own_Mod_ofBytes (by decide +kernel)) rfl d_Mod_ofBytes_55 ?_
    refine J_aload_n X d_Mod_ofBytes_58 rfl 1 rfl ?_
    refine J_get X (j_in in_Mod) 0 rfl rfl 48 (by decide) (j_m own_Mod_ofBytes (by decide +kernel)) rfl d_Mod_ofBytes_59 ?_
    refine J_iconst X d_Mod_ofBytes_62 ?_
    obtain ⟨g5, h⟩ := wk_g h
    refine J_iald X 7 0 rfl rfl g5 d_Mod_ofBytes_63 ?_
    obtain ⟨g6, h⟩ := wk_g h
    refine J_iald X 4 0 rfl rfl g6 d_Mod_ofBytes_64 ?_
    refine J_iadd X d_Mod_ofBytes_65 ?_
    refine J_bipush X d_Mod_ofBytes_66 (by decide) ?_
    refine J_icmp_le (tgt := 77) X d_Mod_ofBytes_68 (by decide) h (fun c7 h => ?_) (fun c7 h => ?_)
    · refine J_iconst X d_Mod_ofBytes_77 ?_
      refine J_istore_n (lv' := [(3, .int (zI 0)), (2, .int (zI (R_of 0))), (0, .ref (ad 0)), (1, .int (zI p1))]) X d_Mod_ofBytes_78 rfl (by decide) rfl ?_
      refine J_lv (lv' := [(0, .ref (ad 0)), (1, .int (zI p1)), (2, .int (zI (R_of 0))), (3, .int (zI 0))]) [2, 3, 1, 0] rfl ?_
      obtain ⟨x3_8, R_puts_9, R_texts_10, q11, h⟩ := wk_b3 h
      refine k_Mod_ofBytes_L79 X _ _ _ _ q11 ?_
      refine J_aload_n X d_Mod_ofBytes_148 rfl 0 rfl ?_
      refine J_aload_n X d_Mod_ofBytes_149 rfl 0 rfl ?_
      refine J_get X (j_in in_Mod) 0 rfl rfl 50 (by decide) (j_m own_Mod_ofBytes (by decide +kernel)) rfl d_Mod_ofBytes_150 ?_
      obtain ⟨r12, R_values_13, R_textEnd_14, R_valueKinds_15, R_valueNumbers_16, R_from_17, R_length_18, R_given_19, q20, h⟩ := wk_b8 h
      refine J_afterI0 (ws' := [(ad 0, .inr (10, [.int (zI R_thrown), .ref (ad 1), .ref (ad 2), .ref (ad 3), .ref (ad 4), .ref (ad 5), .ref (ad 6), .int (zI R_used), .ref (ad 7), .int (zI R_many), .ref (ad 8), .ref (ad 9), .ref (ad 10), .ref (ad 11), .ref (ad 12), .ref (ad 13), .ref (ad 14), .ref (ad 15), .ref (ad 16), .int (zI R_values_13), .ref (ad 17), .int (zI R_textEnd_14), .ref (ad 18), .ref (ad 19), .ref (ad 20), .ref (ad 21), .int (zI R_dataEnd), .ref (ad 22), .int (zI R_rowEnd), .ref (ad 23), .ref (ad 24), .int (zI R_rowMany), .ref (ad 25), .ref (ad 26), .ref (ad 27), .ref (ad 28), .int (zI R_waiting), .int (zI R_mostWaiting), .int (zI R_answer), .int (zI R_steps), .int (zI R_memory), .int (zI R_maxSteps), .int (zI R_maxMemory), .int (zI R_fault), .int (zI R_result), .int (zI R_now), .int (zI R_nowRow), .int (zI R_come), .ref (ad 29), .ref (ad 30), .int (zI R_puts_9), .ref (ad 31)])), (ad 8, .inl (cI, 3700, .inl (zA R_valueKinds_15))), (ad 9, .inl (cL, 3700, .inr (.inl (zB R_valueNumbers_16)))), (ad 10, .inl (cI, 3700, .inl (zA R_from_17))), (ad 11, .inl (cI, 3700, .inl (zA R_length_18))), (ad 14, .inl (cI, 3700, .inl (zA R_given_19))), (ad 17, .inl (cB, 70000, .inl (zA R_texts_10))), (ad 29, .inl (cI, 3, .inl (zA R_of)))]) X (jrunV X (c_Mod_makeBytes (ad := ad) q20) jF0_k (fun _ _ _ _ => trivial) (jgV own_Mod_ofBytes (by decide +kernel)) rfl rfl rfl pd_Mod_makeBytes (by decide) [0, 1, 2, 3, 4, 5] rfl (by decide) 0 10 rfl rfl rfl rfl (Nat.le_of_ble_eq_true rfl) d_Mod_ofBytes_153 (by decide)) [0, 1, 2, 3, 4, 5] [6, 7] [2, 3, 4, 5, 6, 7, 0, 1] rfl rfl (by decide) (by decide) rfl (by decide) ?_
      cases h
      exact J_ret E ⟨_, rfl, rfl⟩ d_Mod_ofBytes_156 (Nat.le_refl _) (Nat.le_refl _) rfl
    · refine J_aload_n X d_Mod_ofBytes_71 rfl 1 rfl ?_
      refine J_iconst X d_Mod_ofBytes_72 ?_
      obtain ⟨r21, R_fault_22, q23, h⟩ := wk_b2 h
      refine J_afterI0 (ws' := [(ad 0, .inr (10, [.int (zI R_thrown), .ref (ad 1), .ref (ad 2), .ref (ad 3), .ref (ad 4), .ref (ad 5), .ref (ad 6), .int (zI R_used), .ref (ad 7), .int (zI R_many), .ref (ad 8), .ref (ad 9), .ref (ad 10), .ref (ad 11), .ref (ad 12), .ref (ad 13), .ref (ad 14), .ref (ad 15), .ref (ad 16), .int (zI R_values), .ref (ad 17), .int (zI R_textEnd), .ref (ad 18), .ref (ad 19), .ref (ad 20), .ref (ad 21), .int (zI R_dataEnd), .ref (ad 22), .int (zI R_rowEnd), .ref (ad 23), .ref (ad 24), .int (zI R_rowMany), .ref (ad 25), .ref (ad 26), .ref (ad 27), .ref (ad 28), .int (zI R_waiting), .int (zI R_mostWaiting), .int (zI R_answer), .int (zI R_steps), .int (zI R_memory), .int (zI R_maxSteps), .int (zI R_maxMemory), .int (zI R_fault_22), .int (zI R_result), .int (zI R_now), .int (zI R_nowRow), .int (zI R_come), .ref (ad 29), .ref (ad 30), .int (zI 0), .ref (ad 31)])), (ad 8, .inl (cI, 3700, .inl (zA R_valueKinds))), (ad 9, .inl (cL, 3700, .inr (.inl (zB R_valueNumbers)))), (ad 10, .inl (cI, 3700, .inl (zA R_from))), (ad 11, .inl (cI, 3700, .inl (zA R_length))), (ad 14, .inl (cI, 3700, .inl (zA R_given))), (ad 17, .inl (cB, 70000, .inl (zA R_texts))), (ad 29, .inl (cI, 3, .inl (zA R_of)))]) X (jrunV X (c_Mod_fail (ad := ad) q23) jF0_k (fun _ _ _ _ => trivial) (jgV own_Mod_ofBytes (by decide +kernel)) rfl rfl rfl pd_Mod_fail (by decide) [0] rfl (by decide) 0 10 rfl rfl rfl rfl (Nat.le_of_ble_eq_true rfl) d_Mod_ofBytes_73 (by decide)) [0] [1, 2, 3, 4, 5, 6, 7] [7, 0, 1, 2, 3, 4, 5, 6] rfl rfl (by decide) (by decide) rfl (by decide) ?_
      cases h
      exact J_ret E ⟨_, rfl, rfl⟩ d_Mod_ofBytes_76 (Nat.le_refl _) (Nat.le_refl _) rfl
  · rcases wk_c h with ⟨c24, h⟩ | ⟨c24, h⟩
    · refine J_tsIn (tgt := 157) X 11 c24 g2 d_Mod_ofBytes_13 (by decide) (by decide) rfl (by decide) ?_
      refine J_aload_n X d_Mod_ofBytes_157 rfl 1 rfl ?_
      refine J_iconst X d_Mod_ofBytes_158 ?_
      refine J_aload_n X d_Mod_ofBytes_159 rfl 1 rfl ?_
      refine J_get X (j_in in_Mod) 0 rfl rfl 13 (by decide) (j_m own_Mod_ofBytes (by decide +kernel)) rfl d_Mod_ofBytes_160 ?_
      refine J_iload_n X d_Mod_ofBytes_163 rfl 0 rfl ?_
      obtain ⟨g25, h⟩ := wk_g h
      refine J_iald X 4 0 rfl rfl g25 d_Mod_ofBytes_164 ?_
      obtain ⟨g26, h⟩ := wk_g h
      refine J_i2l X g26 d_Mod_ofBytes_165 ?_
      obtain ⟨r27, R_values_28, R_valueKinds_29, R_valueNumbers_30, R_given_31, q32, h⟩ := wk_b5 h
      refine J_afterI0 (ws' := [(ad 0, .inr (10, [.int (zI R_thrown), .ref (ad 1), .ref (ad 2), .ref (ad 3), .ref (ad 4), .ref (ad 5), .ref (ad 6), .int (zI R_used), .ref (ad 7), .int (zI R_many), .ref (ad 8), .ref (ad 9), .ref (ad 10), .ref (ad 11), .ref (ad 12), .ref (ad 13), .ref (ad 14), .ref (ad 15), .ref (ad 16), .int (zI R_values_28), .ref (ad 17), .int (zI R_textEnd), .ref (ad 18), .ref (ad 19), .ref (ad 20), .ref (ad 21), .int (zI R_dataEnd), .ref (ad 22), .int (zI R_rowEnd), .ref (ad 23), .ref (ad 24), .int (zI R_rowMany), .ref (ad 25), .ref (ad 26), .ref (ad 27), .ref (ad 28), .int (zI R_waiting), .int (zI R_mostWaiting), .int (zI R_answer), .int (zI R_steps), .int (zI R_memory), .int (zI R_maxSteps), .int (zI R_maxMemory), .int (zI R_fault), .int (zI R_result), .int (zI R_now), .int (zI R_nowRow), .int (zI R_come), .ref (ad 29), .ref (ad 30), .int (zI 0), .ref (ad 31)])), (ad 8, .inl (cI, 3700, .inl (zA R_valueKinds_29))), (ad 9, .inl (cL, 3700, .inr (.inl (zB R_valueNumbers_30)))), (ad 10, .inl (cI, 3700, .inl (zA R_from))), (ad 11, .inl (cI, 3700, .inl (zA R_length))), (ad 14, .inl (cI, 3700, .inl (zA R_given_31))), (ad 17, .inl (cB, 70000, .inl (zA R_texts))), (ad 29, .inl (cI, 3, .inl (zA R_of)))]) X (jrunV X (c_Mod_make (ad := ad) q32) jF0_k (fun _ _ _ _ => trivial) (jgV own_Mod_ofBytes (by decide +kernel)) rfl rfl rfl pd_Mod_make (by decide) [0, 1, 2, 5] rfl (by decide) 0 10 rfl rfl rfl rfl (Nat.le_of_ble_eq_true rfl) d_Mod_ofBytes_166 (by decide)) [0, 1, 2, 5] [3, 4, 6, 7] [4, 5, 6, 0, 1, 7, 2, 3] rfl rfl (by decide) (by decide) rfl (by decide) ?_
      cases h
      exact J_ret E ⟨_, rfl, rfl⟩ d_Mod_ofBytes_169 (Nat.le_refl _) (Nat.le_refl _) rfl
    · rcases wk_c h with ⟨c33, h⟩ | ⟨c33, h⟩
      · refine J_tsIn (tgt := 170) X 12 c33 g2 d_Mod_ofBytes_13 (by decide) (by decide) rfl (by decide) ?_
        refine J_aload_n X d_Mod_ofBytes_170 rfl 1 rfl ?_
        refine J_get X (j_in in_Mod) 0 rfl rfl 11 (by decide) (j_m own_Mod_ofBytes (by decide +kernel)) rfl d_Mod_ofBytes_171 ?_
        refine J_aload_n X d_Mod_ofBytes_174 rfl 1 rfl ?_
        refine J_get X (j_in in_Mod) 0 rfl rfl 48 (by decide) (j_m own_Mod_ofBytes (by decide +kernel)) rfl d_Mod_ofBytes_175 ?_
        refine J_iconst X d_Mod_ofBytes_178 ?_
        obtain ⟨g34, h⟩ := wk_g h
        refine J_iald X 7 0 rfl rfl g34 d_Mod_ofBytes_179 ?_
        obtain ⟨g35, h⟩ := wk_g h
        refine J_lald X 2 1 rfl rfl g35 d_Mod_ofBytes_180 ?_
        refine J_lstore_n (lv' := [(3, .long (zL (R_valueNumbers (R_of 1)))), (2, .int (zI (R_of 0))), (0, .ref (ad 0)), (1, .int (zI p1))]) X d_Mod_ofBytes_181 rfl (by decide) rfl ?_
        refine J_lload_n X d_Mod_ofBytes_182 rfl 0 rfl ?_
        refine J_lconst (v := 0) X d_Mod_ofBytes_183 (by decide) ?_
        refine J_lc_lt (tgt := 200) X d_Mod_ofBytes_184 d_Mod_ofBytes_185 (by decide) h (fun c36 h => ?_) (fun c36 h => ?_)
        · refine J_aload_n X d_Mod_ofBytes_200 rfl 2 rfl ?_
          refine J_iconst X d_Mod_ofBytes_201 ?_
          obtain ⟨r37, R_fault_38, q39, h⟩ := wk_b2 h
          refine J_afterI0 (ws' := [(ad 0, .inr (10, [.int (zI R_thrown), .ref (ad 1), .ref (ad 2), .ref (ad 3), .ref (ad 4), .ref (ad 5), .ref (ad 6), .int (zI R_used), .ref (ad 7), .int (zI R_many), .ref (ad 8), .ref (ad 9), .ref (ad 10), .ref (ad 11), .ref (ad 12), .ref (ad 13), .ref (ad 14), .ref (ad 15), .ref (ad 16), .int (zI R_values), .ref (ad 17), .int (zI R_textEnd), .ref (ad 18), .ref (ad 19), .ref (ad 20), .ref (ad 21), .int (zI R_dataEnd), .ref (ad 22), .int (zI R_rowEnd), .ref (ad 23), .ref (ad 24), .int (zI R_rowMany), .ref (ad 25), .ref (ad 26), .ref (ad 27), .ref (ad 28), .int (zI R_waiting), .int (zI R_mostWaiting), .int (zI R_answer), .int (zI R_steps), .int (zI R_memory), .int (zI R_maxSteps), .int (zI R_maxMemory), .int (zI R_fault_38), .int (zI R_result), .int (zI R_now), .int (zI R_nowRow), .int (zI R_come), .ref (ad 29), .ref (ad 30), .int (zI 0), .ref (ad 31)])), (ad 8, .inl (cI, 3700, .inl (zA R_valueKinds))), (ad 9, .inl (cL, 3700, .inr (.inl (zB R_valueNumbers)))), (ad 10, .inl (cI, 3700, .inl (zA R_from))), (ad 11, .inl (cI, 3700, .inl (zA R_length))), (ad 14, .inl (cI, 3700, .inl (zA R_given))), (ad 17, .inl (cB, 70000, .inl (zA R_texts))), (ad 29, .inl (cI, 3, .inl (zA R_of)))]) X (jrunV X (c_Mod_fail (ad := ad) q39) jF0_k (fun _ _ _ _ => trivial) (jgV own_Mod_ofBytes (by decide +kernel)) rfl rfl rfl pd_Mod_fail (by decide) [0] rfl (by decide) 0 10 rfl rfl rfl rfl (Nat.le_of_ble_eq_true rfl) d_Mod_ofBytes_202 (by decide)) [0] [1, 2, 3, 4, 5, 6, 7] [7, 0, 1, 2, 3, 4, 5, 6] rfl rfl (by decide) (by decide) rfl (by decide) ?_
          refine J_goto (tgt := 221) X d_Mod_ofBytes_205 (by decide) ?_
          cases h
          exact J_ret E ⟨_, rfl, rfl⟩ d_Mod_ofBytes_221 (Nat.le_refl _) (Nat.le_refl _) rfl
        · refine J_lload_n X d_Mod_ofBytes_188 rfl 0 rfl ?_
          refine J_aload_n X d_Mod_ofBytes_189 rfl 2 rfl ?_
          refine J_get X (j_in in_Mod) 0 rfl rfl 13 (by decide) (j_m own_Mod_ofBytes (by decide +kernel)) rfl d_Mod_ofBytes_190 ?_
          refine J_iload_n X d_Mod_ofBytes_193 rfl 1 rfl ?_
          obtain ⟨g40, h⟩ := wk_g h
          refine J_iald X 4 0 rfl rfl g40 d_Mod_ofBytes_194 ?_
          obtain ⟨g41, h⟩ := wk_g h
          refine J_i2l X g41 d_Mod_ofBytes_195 ?_
          refine J_lc_lt (tgt := 208) X d_Mod_ofBytes_196 d_Mod_ofBytes_197 (by decide) h (fun c42 h => ?_) (fun c42 h => ?_)
          · refine J_aload_n X d_Mod_ofBytes_208 rfl 2 rfl ?_
            refine J_iconst X d_Mod_ofBytes_209 ?_
            refine J_aload_n X d_Mod_ofBytes_210 rfl 2 rfl ?_
            refine J_iload_n X d_Mod_ofBytes_211 rfl 1 rfl ?_
            refine J_lload_n X d_Mod_ofBytes_212 rfl 0 rfl ?_
            refine J_l2i X d_Mod_ofBytes_213 ?_
            obtain ⟨r43, q44, h⟩ := wk_b h
            refine J_afterP (jrunV X (c_Mod_byteOf (ad := ad) q44) jF0_k (fun _ _ _ _ => trivial) (jgV own_Mod_ofBytes (by decide +kernel)) rfl rfl rfl pd_Mod_byteOf (by decide) [0, 3, 6] rfl (by decide) 0 10 rfl rfl rfl rfl (Nat.le_of_ble_eq_true rfl) d_Mod_ofBytes_214 (by decide)) ?_
            obtain ⟨g45, h⟩ := wk_g h
            refine J_i2l X g45 d_Mod_ofBytes_217 ?_
            obtain ⟨r46, R_values_47, R_valueKinds_48, R_valueNumbers_49, R_given_50, q51, h⟩ := wk_b5 h
            refine J_afterI0 (ws' := [(ad 0, .inr (10, [.int (zI R_thrown), .ref (ad 1), .ref (ad 2), .ref (ad 3), .ref (ad 4), .ref (ad 5), .ref (ad 6), .int (zI R_used), .ref (ad 7), .int (zI R_many), .ref (ad 8), .ref (ad 9), .ref (ad 10), .ref (ad 11), .ref (ad 12), .ref (ad 13), .ref (ad 14), .ref (ad 15), .ref (ad 16), .int (zI R_values_47), .ref (ad 17), .int (zI R_textEnd), .ref (ad 18), .ref (ad 19), .ref (ad 20), .ref (ad 21), .int (zI R_dataEnd), .ref (ad 22), .int (zI R_rowEnd), .ref (ad 23), .ref (ad 24), .int (zI R_rowMany), .ref (ad 25), .ref (ad 26), .ref (ad 27), .ref (ad 28), .int (zI R_waiting), .int (zI R_mostWaiting), .int (zI R_answer), .int (zI R_steps), .int (zI R_memory), .int (zI R_maxSteps), .int (zI R_maxMemory), .int (zI R_fault), .int (zI R_result), .int (zI R_now), .int (zI R_nowRow), .int (zI R_come), .ref (ad 29), .ref (ad 30), .int (zI 0), .ref (ad 31)])), (ad 8, .inl (cI, 3700, .inl (zA R_valueKinds_48))), (ad 9, .inl (cL, 3700, .inr (.inl (zB R_valueNumbers_49)))), (ad 10, .inl (cI, 3700, .inl (zA R_from))), (ad 11, .inl (cI, 3700, .inl (zA R_length))), (ad 14, .inl (cI, 3700, .inl (zA R_given_50))), (ad 17, .inl (cB, 70000, .inl (zA R_texts))), (ad 29, .inl (cI, 3, .inl (zA R_of)))]) X (jrunV X (c_Mod_make (ad := ad) q51) jF0_k (fun _ _ _ _ => trivial) (jgV own_Mod_ofBytes (by decide +kernel)) rfl rfl rfl pd_Mod_make (by decide) [0, 1, 2, 5] rfl (by decide) 0 10 rfl rfl rfl rfl (Nat.le_of_ble_eq_true rfl) d_Mod_ofBytes_218 (by decide)) [0, 1, 2, 5] [3, 4, 6, 7] [4, 5, 6, 0, 1, 7, 2, 3] rfl rfl (by decide) (by decide) rfl (by decide) ?_
            cases h
            exact J_ret E ⟨_, rfl, rfl⟩ d_Mod_ofBytes_221 (Nat.le_refl _) (Nat.le_refl _) rfl
          · refine J_aload_n X d_Mod_ofBytes_200 rfl 2 rfl ?_
            refine J_iconst X d_Mod_ofBytes_201 ?_
            obtain ⟨r52, R_fault_53, q54, h⟩ := wk_b2 h
            refine J_afterI0 (ws' := [(ad 0, .inr (10, [.int (zI R_thrown), .ref (ad 1), .ref (ad 2), .ref (ad 3), .ref (ad 4), .ref (ad 5), .ref (ad 6), .int (zI R_used), .ref (ad 7), .int (zI R_many), .ref (ad 8), .ref (ad 9), .ref (ad 10), .ref (ad 11), .ref (ad 12), .ref (ad 13), .ref (ad 14), .ref (ad 15), .ref (ad 16), .int (zI R_values), .ref (ad 17), .int (zI R_textEnd), .ref (ad 18), .ref (ad 19), .ref (ad 20), .ref (ad 21), .int (zI R_dataEnd), .ref (ad 22), .int (zI R_rowEnd), .ref (ad 23), .ref (ad 24), .int (zI R_rowMany), .ref (ad 25), .ref (ad 26), .ref (ad 27), .ref (ad 28), .int (zI R_waiting), .int (zI R_mostWaiting), .int (zI R_answer), .int (zI R_steps), .int (zI R_memory), .int (zI R_maxSteps), .int (zI R_maxMemory), .int (zI R_fault_53), .int (zI R_result), .int (zI R_now), .int (zI R_nowRow), .int (zI R_come), .ref (ad 29), .ref (ad 30), .int (zI 0), .ref (ad 31)])), (ad 8, .inl (cI, 3700, .inl (zA R_valueKinds))), (ad 9, .inl (cL, 3700, .inr (.inl (zB R_valueNumbers)))), (ad 10, .inl (cI, 3700, .inl (zA R_from))), (ad 11, .inl (cI, 3700, .inl (zA R_length))), (ad 14, .inl (cI, 3700, .inl (zA R_given))), (ad 17, .inl (cB, 70000, .inl (zA R_texts))), (ad 29, .inl (cI, 3, .inl (zA R_of)))]) X (jrunV X (c_Mod_fail (ad := ad) q54) jF0_k (fun _ _ _ _ => trivial) (jgV own_Mod_ofBytes (by decide +kernel)) rfl rfl rfl pd_Mod_fail (by decide) [0] rfl (by decide) 0 10 rfl rfl rfl rfl (Nat.le_of_ble_eq_true rfl) d_Mod_ofBytes_202 (by decide)) [0] [1, 2, 3, 4, 5, 6, 7] [7, 0, 1, 2, 3, 4, 5, 6] rfl rfl (by decide) (by decide) rfl (by decide) ?_
            refine J_goto (tgt := 221) X d_Mod_ofBytes_205 (by decide) ?_
            cases h
            exact J_ret E ⟨_, rfl, rfl⟩ d_Mod_ofBytes_221 (Nat.le_refl _) (Nat.le_refl _) rfl
      · rcases wk_c h with ⟨c55, h⟩ | ⟨c55, h⟩
        · refine J_tsIn (tgt := 222) X 13 c55 g2 d_Mod_ofBytes_13 (by decide) (by decide) rfl (by decide) ?_
          refine J_iconst X d_Mod_ofBytes_222 ?_
          refine J_istore_n (lv' := [(3, .int (zI 0)), (2, .int (zI (R_of 0))), (0, .ref (ad 0)), (1, .int (zI p1))]) X d_Mod_ofBytes_223 rfl (by decide) rfl ?_
          refine J_lv (lv' := [(0, .ref (ad 0)), (1, .int (zI p1)), (2, .int (zI (R_of 0))), (3, .int (zI 0))]) [2, 3, 1, 0] rfl ?_
          obtain ⟨x3_56, R_puts_57, R_texts_58, q59, h⟩ := wk_b3 h
          refine k_Mod_ofBytes_L224 X _ _ _ _ q59 ?_
          refine J_aload_n X d_Mod_ofBytes_311 rfl 0 rfl ?_
          refine J_aload_n X d_Mod_ofBytes_312 rfl 0 rfl ?_
          refine J_get X (j_in in_Mod) 0 rfl rfl 50 (by decide) (j_m own_Mod_ofBytes (by decide +kernel)) rfl d_Mod_ofBytes_313 ?_
          obtain ⟨r60, R_values_61, R_textEnd_62, R_valueKinds_63, R_valueNumbers_64, R_from_65, R_length_66, R_given_67, q68, h⟩ := wk_b8 h
          refine J_afterI0 (ws' := [(ad 0, .inr (10, [.int (zI R_thrown), .ref (ad 1), .ref (ad 2), .ref (ad 3), .ref (ad 4), .ref (ad 5), .ref (ad 6), .int (zI R_used), .ref (ad 7), .int (zI R_many), .ref (ad 8), .ref (ad 9), .ref (ad 10), .ref (ad 11), .ref (ad 12), .ref (ad 13), .ref (ad 14), .ref (ad 15), .ref (ad 16), .int (zI R_values_61), .ref (ad 17), .int (zI R_textEnd_62), .ref (ad 18), .ref (ad 19), .ref (ad 20), .ref (ad 21), .int (zI R_dataEnd), .ref (ad 22), .int (zI R_rowEnd), .ref (ad 23), .ref (ad 24), .int (zI R_rowMany), .ref (ad 25), .ref (ad 26), .ref (ad 27), .ref (ad 28), .int (zI R_waiting), .int (zI R_mostWaiting), .int (zI R_answer), .int (zI R_steps), .int (zI R_memory), .int (zI R_maxSteps), .int (zI R_maxMemory), .int (zI R_fault), .int (zI R_result), .int (zI R_now), .int (zI R_nowRow), .int (zI R_come), .ref (ad 29), .ref (ad 30), .int (zI R_puts_57), .ref (ad 31)])), (ad 8, .inl (cI, 3700, .inl (zA R_valueKinds_63))), (ad 9, .inl (cL, 3700, .inr (.inl (zB R_valueNumbers_64)))), (ad 10, .inl (cI, 3700, .inl (zA R_from_65))), (ad 11, .inl (cI, 3700, .inl (zA R_length_66))), (ad 14, .inl (cI, 3700, .inl (zA R_given_67))), (ad 17, .inl (cB, 70000, .inl (zA R_texts_58))), (ad 29, .inl (cI, 3, .inl (zA R_of)))]) X (jrunV X (c_Mod_makeBytes (ad := ad) q68) jF0_k (fun _ _ _ _ => trivial) (jgV own_Mod_ofBytes (by decide +kernel)) rfl rfl rfl pd_Mod_makeBytes (by decide) [0, 1, 2, 3, 4, 5] rfl (by decide) 0 10 rfl rfl rfl rfl (Nat.le_of_ble_eq_true rfl) d_Mod_ofBytes_316 (by decide)) [0, 1, 2, 3, 4, 5] [6, 7] [2, 3, 4, 5, 6, 7, 0, 1] rfl rfl (by decide) (by decide) rfl (by decide) ?_
          cases h
          exact J_ret E ⟨_, rfl, rfl⟩ d_Mod_ofBytes_319 (Nat.le_refl _) (Nat.le_refl _) rfl
        · rcases wk_c h with ⟨c69, h⟩ | ⟨c69, h⟩
          · refine J_tsIn (tgt := 320) X 14 c69 g2 d_Mod_ofBytes_13 (by decide) (by decide) rfl (by decide) ?_
            refine J_aload_n X d_Mod_ofBytes_320 rfl 1 rfl ?_
            refine J_aload_n X d_Mod_ofBytes_321 rfl 1 rfl ?_
            refine J_iload_n X d_Mod_ofBytes_322 rfl 0 rfl ?_
            refine J_aload_n X d_Mod_ofBytes_323 rfl 1 rfl ?_
            refine J_get X (j_in in_Mod) 0 rfl rfl 48 (by decide) (j_m own_Mod_ofBytes (by decide +kernel)) rfl d_Mod_ofBytes_324 ?_
            refine J_iconst X d_Mod_ofBytes_327 ?_
            obtain ⟨g70, h⟩ := wk_g h
            refine J_iald X 7 0 rfl rfl g70 d_Mod_ofBytes_328 ?_
            obtain ⟨r71, q72, h⟩ := wk_b h
            refine J_afterP (jrunV X (c_Mod_order (ad := ad) q72) jF0_k (fun _ _ _ _ => trivial) (jgV own_Mod_ofBytes (by decide +kernel)) rfl rfl rfl pd_Mod_order (by decide) [0, 3, 4, 6] rfl (by decide) 0 10 rfl rfl rfl rfl (Nat.le_of_ble_eq_true rfl) d_Mod_ofBytes_329 (by decide)) ?_
            refine J_if_ne (tgt := 339) X d_Mod_ofBytes_332 (by decide) h (fun c73 h => ?_) (fun c73 h => ?_)
            · refine J_iconst X d_Mod_ofBytes_339 ?_
              obtain ⟨r74, R_values_75, R_valueKinds_76, R_valueNumbers_77, R_given_78, q79, h⟩ := wk_b5 h
              refine J_afterI0 (ws' := [(ad 0, .inr (10, [.int (zI R_thrown), .ref (ad 1), .ref (ad 2), .ref (ad 3), .ref (ad 4), .ref (ad 5), .ref (ad 6), .int (zI R_used), .ref (ad 7), .int (zI R_many), .ref (ad 8), .ref (ad 9), .ref (ad 10), .ref (ad 11), .ref (ad 12), .ref (ad 13), .ref (ad 14), .ref (ad 15), .ref (ad 16), .int (zI R_values_75), .ref (ad 17), .int (zI R_textEnd), .ref (ad 18), .ref (ad 19), .ref (ad 20), .ref (ad 21), .int (zI R_dataEnd), .ref (ad 22), .int (zI R_rowEnd), .ref (ad 23), .ref (ad 24), .int (zI R_rowMany), .ref (ad 25), .ref (ad 26), .ref (ad 27), .ref (ad 28), .int (zI R_waiting), .int (zI R_mostWaiting), .int (zI R_answer), .int (zI R_steps), .int (zI R_memory), .int (zI R_maxSteps), .int (zI R_maxMemory), .int (zI R_fault), .int (zI R_result), .int (zI R_now), .int (zI R_nowRow), .int (zI R_come), .ref (ad 29), .ref (ad 30), .int (zI 0), .ref (ad 31)])), (ad 8, .inl (cI, 3700, .inl (zA R_valueKinds_76))), (ad 9, .inl (cL, 3700, .inr (.inl (zB R_valueNumbers_77)))), (ad 10, .inl (cI, 3700, .inl (zA R_from))), (ad 11, .inl (cI, 3700, .inl (zA R_length))), (ad 14, .inl (cI, 3700, .inl (zA R_given_78))), (ad 17, .inl (cB, 70000, .inl (zA R_texts))), (ad 29, .inl (cI, 3, .inl (zA R_of)))]) X (jrunV X (c_Mod_truth (ad := ad) q79) jF0_k (fun _ _ _ _ => trivial) (jgV own_Mod_ofBytes (by decide +kernel)) rfl rfl rfl pd_Mod_truth (by decide) [0, 1, 2, 5] rfl (by decide) 0 10 rfl rfl rfl rfl (Nat.le_of_ble_eq_true rfl) d_Mod_ofBytes_340 (by decide)) [0, 1, 2, 5] [3, 4, 6, 7] [4, 5, 6, 0, 1, 7, 2, 3] rfl rfl (by decide) (by decide) rfl (by decide) ?_
              cases h
              exact J_ret E ⟨_, rfl, rfl⟩ d_Mod_ofBytes_343 (Nat.le_refl _) (Nat.le_refl _) rfl
            · refine J_iconst X d_Mod_ofBytes_335 ?_
              refine J_goto (tgt := 340) X d_Mod_ofBytes_336 (by decide) ?_
              obtain ⟨r80, R_values_81, R_valueKinds_82, R_valueNumbers_83, R_given_84, q85, h⟩ := wk_b5 h
              refine J_afterI0 (ws' := [(ad 0, .inr (10, [.int (zI R_thrown), .ref (ad 1), .ref (ad 2), .ref (ad 3), .ref (ad 4), .ref (ad 5), .ref (ad 6), .int (zI R_used), .ref (ad 7), .int (zI R_many), .ref (ad 8), .ref (ad 9), .ref (ad 10), .ref (ad 11), .ref (ad 12), .ref (ad 13), .ref (ad 14), .ref (ad 15), .ref (ad 16), .int (zI R_values_81), .ref (ad 17), .int (zI R_textEnd), .ref (ad 18), .ref (ad 19), .ref (ad 20), .ref (ad 21), .int (zI R_dataEnd), .ref (ad 22), .int (zI R_rowEnd), .ref (ad 23), .ref (ad 24), .int (zI R_rowMany), .ref (ad 25), .ref (ad 26), .ref (ad 27), .ref (ad 28), .int (zI R_waiting), .int (zI R_mostWaiting), .int (zI R_answer), .int (zI R_steps), .int (zI R_memory), .int (zI R_maxSteps), .int (zI R_maxMemory), .int (zI R_fault), .int (zI R_result), .int (zI R_now), .int (zI R_nowRow), .int (zI R_come), .ref (ad 29), .ref (ad 30), .int (zI 0), .ref (ad 31)])), (ad 8, .inl (cI, 3700, .inl (zA R_valueKinds_82))), (ad 9, .inl (cL, 3700, .inr (.inl (zB R_valueNumbers_83)))), (ad 10, .inl (cI, 3700, .inl (zA R_from))), (ad 11, .inl (cI, 3700, .inl (zA R_length))), (ad 14, .inl (cI, 3700, .inl (zA R_given_84))), (ad 17, .inl (cB, 70000, .inl (zA R_texts))), (ad 29, .inl (cI, 3, .inl (zA R_of)))]) X (jrunV X (c_Mod_truth (ad := ad) q85) jF0_k (fun _ _ _ _ => trivial) (jgV own_Mod_ofBytes (by decide +kernel)) rfl rfl rfl pd_Mod_truth (by decide) [0, 1, 2, 5] rfl (by decide) 0 10 rfl rfl rfl rfl (Nat.le_of_ble_eq_true rfl) d_Mod_ofBytes_340 (by decide)) [0, 1, 2, 5] [3, 4, 6, 7] [4, 5, 6, 0, 1, 7, 2, 3] rfl rfl (by decide) (by decide) rfl (by decide) ?_
              cases h
              exact J_ret E ⟨_, rfl, rfl⟩ d_Mod_ofBytes_343 (Nat.le_refl _) (Nat.le_refl _) rfl
          · refine J_tsOut (tgt := 344) X g2 d_Mod_ofBytes_13 (by omega) (by decide) ?_
            refine J_aload_n X d_Mod_ofBytes_344 rfl 1 rfl ?_
            refine J_aload_n X d_Mod_ofBytes_345 rfl 1 rfl ?_
            refine J_iload_n X d_Mod_ofBytes_346 rfl 0 rfl ?_
            refine J_aload_n X d_Mod_ofBytes_347 rfl 1 rfl ?_
            refine J_get X (j_in in_Mod) 0 rfl rfl 48 (by decide) (j_m own_Mod_ofBytes (by decide +kernel)) rfl d_Mod_ofBytes_348 ?_
            refine J_iconst X d_Mod_ofBytes_351 ?_
            obtain ⟨g86, h⟩ := wk_g h
            refine J_iald X 7 0 rfl rfl g86 d_Mod_ofBytes_352 ?_
            obtain ⟨r87, q88, h⟩ := wk_b h
            refine J_afterP (jrunV X (c_Mod_order (ad := ad) q88) jF0_k (fun _ _ _ _ => trivial) (jgV own_Mod_ofBytes (by decide +kernel)) rfl rfl rfl pd_Mod_order (by decide) [0, 3, 4, 6] rfl (by decide) 0 10 rfl rfl rfl rfl (Nat.le_of_ble_eq_true rfl) d_Mod_ofBytes_353 (by decide)) ?_
            refine J_if_ge (tgt := 363) X d_Mod_ofBytes_356 (by decide) h (fun c89 h => ?_) (fun c89 h => ?_)
            · refine J_iconst X d_Mod_ofBytes_363 ?_
              obtain ⟨r90, R_values_91, R_valueKinds_92, R_valueNumbers_93, R_given_94, q95, h⟩ := wk_b5 h
              refine J_afterI0 (ws' := [(ad 0, .inr (10, [.int (zI R_thrown), .ref (ad 1), .ref (ad 2), .ref (ad 3), .ref (ad 4), .ref (ad 5), .ref (ad 6), .int (zI R_used), .ref (ad 7), .int (zI R_many), .ref (ad 8), .ref (ad 9), .ref (ad 10), .ref (ad 11), .ref (ad 12), .ref (ad 13), .ref (ad 14), .ref (ad 15), .ref (ad 16), .int (zI R_values_91), .ref (ad 17), .int (zI R_textEnd), .ref (ad 18), .ref (ad 19), .ref (ad 20), .ref (ad 21), .int (zI R_dataEnd), .ref (ad 22), .int (zI R_rowEnd), .ref (ad 23), .ref (ad 24), .int (zI R_rowMany), .ref (ad 25), .ref (ad 26), .ref (ad 27), .ref (ad 28), .int (zI R_waiting), .int (zI R_mostWaiting), .int (zI R_answer), .int (zI R_steps), .int (zI R_memory), .int (zI R_maxSteps), .int (zI R_maxMemory), .int (zI R_fault), .int (zI R_result), .int (zI R_now), .int (zI R_nowRow), .int (zI R_come), .ref (ad 29), .ref (ad 30), .int (zI 0), .ref (ad 31)])), (ad 8, .inl (cI, 3700, .inl (zA R_valueKinds_92))), (ad 9, .inl (cL, 3700, .inr (.inl (zB R_valueNumbers_93)))), (ad 10, .inl (cI, 3700, .inl (zA R_from))), (ad 11, .inl (cI, 3700, .inl (zA R_length))), (ad 14, .inl (cI, 3700, .inl (zA R_given_94))), (ad 17, .inl (cB, 70000, .inl (zA R_texts))), (ad 29, .inl (cI, 3, .inl (zA R_of)))]) X (jrunV X (c_Mod_truth (ad := ad) q95) jF0_k (fun _ _ _ _ => trivial) (jgV own_Mod_ofBytes (by decide +kernel)) rfl rfl rfl pd_Mod_truth (by decide) [0, 1, 2, 5] rfl (by decide) 0 10 rfl rfl rfl rfl (Nat.le_of_ble_eq_true rfl) d_Mod_ofBytes_364 (by decide)) [0, 1, 2, 5] [3, 4, 6, 7] [4, 5, 6, 0, 1, 7, 2, 3] rfl rfl (by decide) (by decide) rfl (by decide) ?_
              cases h
              exact J_ret E ⟨_, rfl, rfl⟩ d_Mod_ofBytes_367 (Nat.le_refl _) (Nat.le_refl _) rfl
            · refine J_iconst X d_Mod_ofBytes_359 ?_
              refine J_goto (tgt := 364) X d_Mod_ofBytes_360 (by decide) ?_
              obtain ⟨r96, R_values_97, R_valueKinds_98, R_valueNumbers_99, R_given_100, q101, h⟩ := wk_b5 h
              refine J_afterI0 (ws' := [(ad 0, .inr (10, [.int (zI R_thrown), .ref (ad 1), .ref (ad 2), .ref (ad 3), .ref (ad 4), .ref (ad 5), .ref (ad 6), .int (zI R_used), .ref (ad 7), .int (zI R_many), .ref (ad 8), .ref (ad 9), .ref (ad 10), .ref (ad 11), .ref (ad 12), .ref (ad 13), .ref (ad 14), .ref (ad 15), .ref (ad 16), .int (zI R_values_97), .ref (ad 17), .int (zI R_textEnd), .ref (ad 18), .ref (ad 19), .ref (ad 20), .ref (ad 21), .int (zI R_dataEnd), .ref (ad 22), .int (zI R_rowEnd), .ref (ad 23), .ref (ad 24), .int (zI R_rowMany), .ref (ad 25), .ref (ad 26), .ref (ad 27), .ref (ad 28), .int (zI R_waiting), .int (zI R_mostWaiting), .int (zI R_answer), .int (zI R_steps), .int (zI R_memory), .int (zI R_maxSteps), .int (zI R_maxMemory), .int (zI R_fault), .int (zI R_result), .int (zI R_now), .int (zI R_nowRow), .int (zI R_come), .ref (ad 29), .ref (ad 30), .int (zI 0), .ref (ad 31)])), (ad 8, .inl (cI, 3700, .inl (zA R_valueKinds_98))), (ad 9, .inl (cL, 3700, .inr (.inl (zB R_valueNumbers_99)))), (ad 10, .inl (cI, 3700, .inl (zA R_from))), (ad 11, .inl (cI, 3700, .inl (zA R_length))), (ad 14, .inl (cI, 3700, .inl (zA R_given_100))), (ad 17, .inl (cB, 70000, .inl (zA R_texts))), (ad 29, .inl (cI, 3, .inl (zA R_of)))]) X (jrunV X (c_Mod_truth (ad := ad) q101) jF0_k (fun _ _ _ _ => trivial) (jgV own_Mod_ofBytes (by decide +kernel)) rfl rfl rfl pd_Mod_truth (by decide) [0, 1, 2, 5] rfl (by decide) 0 10 rfl rfl rfl rfl (Nat.le_of_ble_eq_true rfl) d_Mod_ofBytes_364 (by decide)) [0, 1, 2, 5] [3, 4, 6, 7] [4, 5, 6, 0, 1, 7, 2, 3] rfl rfl (by decide) (by decide) rfl (by decide) ?_
              cases h
              exact J_ret E ⟨_, rfl, rfl⟩ d_Mod_ofBytes_367 (Nat.le_refl _) (Nat.le_refl _) rfl

theorem d_Mod_sameData_0 : decode b_Mod_sameData 0 = .ok (.aload_n 0, 1) := by decide +kernel
theorem d_Mod_sameData_1 : decode b_Mod_sameData 1 = .ok (.getfield 42, 3) := by decide +kernel
theorem d_Mod_sameData_4 : decode b_Mod_sameData 4 = .ok (.iload_n 1, 1) := by decide +kernel
theorem d_Mod_sameData_5 : decode b_Mod_sameData 5 = .ok (.iaload, 1) := by decide +kernel
theorem d_Mod_sameData_6 : decode b_Mod_sameData 6 = .ok (.aload_n 0, 1) := by decide +kernel
theorem d_Mod_sameData_7 : decode b_Mod_sameData 7 = .ok (.getfield 42, 3) := by decide +kernel
theorem d_Mod_sameData_10 : decode b_Mod_sameData 10 = .ok (.iload_n 2, 1) := by decide +kernel
theorem d_Mod_sameData_11 : decode b_Mod_sameData 11 = .ok (.iaload, 1) := by decide +kernel
theorem d_Mod_sameData_12 : decode b_Mod_sameData 12 = .ok (.if_icmp .ne 7, 3) := by decide +kernel
theorem d_Mod_sameData_15 : decode b_Mod_sameData 15 = .ok (.iconst 1, 1) := by decide +kernel
theorem d_Mod_sameData_16 : decode b_Mod_sameData 16 = .ok (.goto 4, 3) := by decide +kernel
theorem d_Mod_sameData_19 : decode b_Mod_sameData 19 = .ok (.iconst 0, 1) := by decide +kernel
theorem d_Mod_sameData_20 : decode b_Mod_sameData 20 = .ok (.istore_n 3, 1) := by decide +kernel
theorem d_Mod_sameData_21 : decode b_Mod_sameData 21 = .ok (.iconst 0, 1) := by decide +kernel
theorem d_Mod_sameData_22 : decode b_Mod_sameData 22 = .ok (.istore 4, 2) := by decide +kernel
theorem d_Mod_sameData_24 : decode b_Mod_sameData 24 = .ok (.iload_n 3, 1) := by decide +kernel
theorem d_Mod_sameData_25 : decode b_Mod_sameData 25 = .ok (.ifCond .eq 175, 3) := by decide +kernel
theorem d_Mod_sameData_28 : decode b_Mod_sameData 28 = .ok (.iload 4, 2) := by decide +kernel
theorem d_Mod_sameData_30 : decode b_Mod_sameData 30 = .ok (.aload_n 0, 1) := by decide +kernel
theorem d_Mod_sameData_31 : decode b_Mod_sameData 31 = .ok (.getfield 42, 3) := by decide +kernel
theorem d_Mod_sameData_34 : decode b_Mod_sameData 34 = .ok (.iload_n 1, 1) := by decide +kernel
theorem d_Mod_sameData_35 : decode b_Mod_sameData 35 = .ok (.iaload, 1) := by decide +kernel
theorem d_Mod_sameData_36 : decode b_Mod_sameData 36 = .ok (.if_icmp .ge 164, 3) := by decide +kernel
theorem d_Mod_sameData_39 : decode b_Mod_sameData 39 = .ok (.aload_n 0, 1) := by decide +kernel
theorem d_Mod_sameData_40 : decode b_Mod_sameData 40 = .ok (.getfield 39, 3) := by decide +kernel
theorem d_Mod_sameData_43 : decode b_Mod_sameData 43 = .ok (.iload_n 1, 1) := by decide +kernel
theorem d_Mod_sameData_44 : decode b_Mod_sameData 44 = .ok (.iaload, 1) := by decide +kernel
theorem d_Mod_sameData_45 : decode b_Mod_sameData 45 = .ok (.iload 4, 2) := by decide +kernel
theorem d_Mod_sameData_47 : decode b_Mod_sameData 47 = .ok (.iadd, 1) := by decide +kernel
theorem d_Mod_sameData_48 : decode b_Mod_sameData 48 = .ok (.istore 5, 2) := by decide +kernel
theorem d_Mod_sameData_50 : decode b_Mod_sameData 50 = .ok (.aload_n 0, 1) := by decide +kernel
theorem d_Mod_sameData_51 : decode b_Mod_sameData 51 = .ok (.getfield 39, 3) := by decide +kernel
theorem d_Mod_sameData_54 : decode b_Mod_sameData 54 = .ok (.iload_n 2, 1) := by decide +kernel
theorem d_Mod_sameData_55 : decode b_Mod_sameData 55 = .ok (.iaload, 1) := by decide +kernel
theorem d_Mod_sameData_56 : decode b_Mod_sameData 56 = .ok (.iload 4, 2) := by decide +kernel
theorem d_Mod_sameData_58 : decode b_Mod_sameData 58 = .ok (.iadd, 1) := by decide +kernel
theorem d_Mod_sameData_59 : decode b_Mod_sameData 59 = .ok (.istore 6, 2) := by decide +kernel
theorem d_Mod_sameData_61 : decode b_Mod_sameData 61 = .ok (.aload_n 0, 1) := by decide +kernel
theorem d_Mod_sameData_62 : decode b_Mod_sameData 62 = .ok (.getfield 64, 3) := by decide +kernel
theorem d_Mod_sameData_65 : decode b_Mod_sameData 65 = .ok (.iload 5, 2) := by decide +kernel
theorem d_Mod_sameData_67 : decode b_Mod_sameData 67 = .ok (.iaload, 1) := by decide +kernel
theorem d_Mod_sameData_68 : decode b_Mod_sameData 68 = .ok (.aload_n 0, 1) := by decide +kernel
theorem d_Mod_sameData_69 : decode b_Mod_sameData 69 = .ok (.getfield 64, 3) := by decide +kernel
theorem d_Mod_sameData_72 : decode b_Mod_sameData 72 = .ok (.iload 6, 2) := by decide +kernel
theorem d_Mod_sameData_74 : decode b_Mod_sameData 74 = .ok (.iaload, 1) := by decide +kernel
theorem d_Mod_sameData_75 : decode b_Mod_sameData 75 = .ok (.if_icmp .ne 42, 3) := by decide +kernel
theorem d_Mod_sameData_78 : decode b_Mod_sameData 78 = .ok (.aload_n 0, 1) := by decide +kernel
theorem d_Mod_sameData_79 : decode b_Mod_sameData 79 = .ok (.getfield 67, 3) := by decide +kernel
theorem d_Mod_sameData_82 : decode b_Mod_sameData 82 = .ok (.iload 5, 2) := by decide +kernel
theorem d_Mod_sameData_84 : decode b_Mod_sameData 84 = .ok (.laload, 1) := by decide +kernel
theorem d_Mod_sameData_85 : decode b_Mod_sameData 85 = .ok (.aload_n 0, 1) := by decide +kernel
theorem d_Mod_sameData_86 : decode b_Mod_sameData 86 = .ok (.getfield 67, 3) := by decide +kernel
theorem d_Mod_sameData_89 : decode b_Mod_sameData 89 = .ok (.iload 6, 2) := by decide +kernel
theorem d_Mod_sameData_91 : decode b_Mod_sameData 91 = .ok (.laload, 1) := by decide +kernel
theorem d_Mod_sameData_92 : decode b_Mod_sameData 92 = .ok (.lcmp, 1) := by decide +kernel
theorem d_Mod_sameData_93 : decode b_Mod_sameData 93 = .ok (.ifCond .ne 24, 3) := by decide +kernel
theorem d_Mod_sameData_96 : decode b_Mod_sameData 96 = .ok (.aload_n 0, 1) := by decide +kernel
theorem d_Mod_sameData_97 : decode b_Mod_sameData 97 = .ok (.getfield 70, 3) := by decide +kernel
theorem d_Mod_sameData_100 : decode b_Mod_sameData 100 = .ok (.iload 5, 2) := by decide +kernel
theorem d_Mod_sameData_102 : decode b_Mod_sameData 102 = .ok (.iaload, 1) := by decide +kernel
theorem d_Mod_sameData_103 : decode b_Mod_sameData 103 = .ok (.aload_n 0, 1) := by decide +kernel
theorem d_Mod_sameData_104 : decode b_Mod_sameData 104 = .ok (.getfield 70, 3) := by decide +kernel
theorem d_Mod_sameData_107 : decode b_Mod_sameData 107 = .ok (.iload 6, 2) := by decide +kernel
theorem d_Mod_sameData_109 : decode b_Mod_sameData 109 = .ok (.iaload, 1) := by decide +kernel
theorem d_Mod_sameData_110 : decode b_Mod_sameData 110 = .ok (.if_icmp .ne 7, 3) := by decide +kernel
theorem d_Mod_sameData_113 : decode b_Mod_sameData 113 = .ok (.iconst 1, 1) := by decide +kernel
theorem d_Mod_sameData_114 : decode b_Mod_sameData 114 = .ok (.goto 4, 3) := by decide +kernel
theorem d_Mod_sameData_117 : decode b_Mod_sameData 117 = .ok (.iconst 0, 1) := by decide +kernel
theorem d_Mod_sameData_118 : decode b_Mod_sameData 118 = .ok (.istore_n 3, 1) := by decide +kernel
theorem d_Mod_sameData_119 : decode b_Mod_sameData 119 = .ok (.iconst 0, 1) := by decide +kernel
theorem d_Mod_sameData_120 : decode b_Mod_sameData 120 = .ok (.istore 7, 2) := by decide +kernel
theorem d_Mod_sameData_122 : decode b_Mod_sameData 122 = .ok (.iload_n 3, 1) := by decide +kernel
theorem d_Mod_sameData_123 : decode b_Mod_sameData 123 = .ok (.ifCond .eq 71, 3) := by decide +kernel
theorem d_Mod_sameData_126 : decode b_Mod_sameData 126 = .ok (.aload_n 0, 1) := by decide +kernel
theorem d_Mod_sameData_127 : decode b_Mod_sameData 127 = .ok (.getfield 64, 3) := by decide +kernel
theorem d_Mod_sameData_130 : decode b_Mod_sameData 130 = .ok (.iload 5, 2) := by decide +kernel
theorem d_Mod_sameData_132 : decode b_Mod_sameData 132 = .ok (.iaload, 1) := by decide +kernel
theorem d_Mod_sameData_133 : decode b_Mod_sameData 133 = .ok (.iconst 4, 1) := by decide +kernel
theorem d_Mod_sameData_134 : decode b_Mod_sameData 134 = .ok (.if_icmp .ne 60, 3) := by decide +kernel
theorem d_Mod_sameData_137 : decode b_Mod_sameData 137 = .ok (.iload 7, 2) := by decide +kernel
theorem d_Mod_sameData_139 : decode b_Mod_sameData 139 = .ok (.aload_n 0, 1) := by decide +kernel
theorem d_Mod_sameData_140 : decode b_Mod_sameData 140 = .ok (.getfield 70, 3) := by decide +kernel
theorem d_Mod_sameData_143 : decode b_Mod_sameData 143 = .ok (.iload 5, 2) := by decide +kernel
theorem d_Mod_sameData_145 : decode b_Mod_sameData 145 = .ok (.iaload, 1) := by decide +kernel
theorem d_Mod_sameData_146 : decode b_Mod_sameData 146 = .ok (.if_icmp .ge 48, 3) := by decide +kernel
theorem d_Mod_sameData_149 : decode b_Mod_sameData 149 = .ok (.aload_n 0, 1) := by decide +kernel
theorem d_Mod_sameData_150 : decode b_Mod_sameData 150 = .ok (.getfield 61, 3) := by decide +kernel
theorem d_Mod_sameData_153 : decode b_Mod_sameData 153 = .ok (.aload_n 0, 1) := by decide +kernel
theorem d_Mod_sameData_154 : decode b_Mod_sameData 154 = .ok (.getfield 73, 3) := by decide +kernel
theorem d_Mod_sameData_157 : decode b_Mod_sameData 157 = .ok (.iload 5, 2) := by decide +kernel
theorem d_Mod_sameData_159 : decode b_Mod_sameData 159 = .ok (.iaload, 1) := by decide +kernel
theorem d_Mod_sameData_160 : decode b_Mod_sameData 160 = .ok (.iload 7, 2) := by decide +kernel
theorem d_Mod_sameData_162 : decode b_Mod_sameData 162 = .ok (.iadd, 1) := by decide +kernel
theorem d_Mod_sameData_163 : decode b_Mod_sameData 163 = .ok (.baload, 1) := by decide +kernel
theorem d_Mod_sameData_164 : decode b_Mod_sameData 164 = .ok (.aload_n 0, 1) := by decide +kernel
theorem d_Mod_sameData_165 : decode b_Mod_sameData 165 = .ok (.getfield 61, 3) := by decide +kernel
theorem d_Mod_sameData_168 : decode b_Mod_sameData 168 = .ok (.aload_n 0, 1) := by decide +kernel
theorem d_Mod_sameData_169 : decode b_Mod_sameData 169 = .ok (.getfield 73, 3) := by decide +kernel
theorem d_Mod_sameData_172 : decode b_Mod_sameData 172 = .ok (.iload 6, 2) := by decide +kernel
theorem d_Mod_sameData_174 : decode b_Mod_sameData 174 = .ok (.iaload, 1) := by decide +kernel
theorem d_Mod_sameData_175 : decode b_Mod_sameData 175 = .ok (.iload 7, 2) := by decide +kernel
theorem d_Mod_sameData_177 : decode b_Mod_sameData 177 = .ok (.iadd, 1) := by decide +kernel
theorem d_Mod_sameData_178 : decode b_Mod_sameData 178 = .ok (.baload, 1) := by decide +kernel
theorem d_Mod_sameData_179 : decode b_Mod_sameData 179 = .ok (.if_icmp .ne 7, 3) := by decide +kernel
theorem d_Mod_sameData_182 : decode b_Mod_sameData 182 = .ok (.iconst 1, 1) := by decide +kernel
theorem d_Mod_sameData_183 : decode b_Mod_sameData 183 = .ok (.goto 4, 3) := by decide +kernel
theorem d_Mod_sameData_186 : decode b_Mod_sameData 186 = .ok (.iconst 0, 1) := by decide +kernel
theorem d_Mod_sameData_187 : decode b_Mod_sameData 187 = .ok (.istore_n 3, 1) := by decide +kernel
theorem d_Mod_sameData_188 : decode b_Mod_sameData 188 = .ok (.iinc 7 1, 3) := by decide +kernel
theorem d_Mod_sameData_191 : decode b_Mod_sameData 191 = .ok (.goto (-69), 3) := by decide +kernel
theorem d_Mod_sameData_194 : decode b_Mod_sameData 194 = .ok (.iinc 4 1, 3) := by decide +kernel
theorem d_Mod_sameData_197 : decode b_Mod_sameData 197 = .ok (.goto (-173), 3) := by decide +kernel
theorem d_Mod_sameData_200 : decode b_Mod_sameData 200 = .ok (.iload_n 3, 1) := by decide +kernel
theorem d_Mod_sameData_201 : decode b_Mod_sameData 201 = .ok (.ireturn, 1) := by decide +kernel
def f_Mod_sameData_L122 (R_texts : Int → Int) (R_forms : Int → Int) (R_counts : Int → Int) (R_textsAt : Int → Int) (x1 : Int) (x2 : Int) (x4 : Int) (x5 : Int) (x6 : Int) : Nat → Int → Int → Option (Int × Int)
  | 0, _, _ => none
  | n + 1, x3, x7 =>
    if rI x3 = true then (if x3 = 0 then (
     some (x3, x7)) else (
     if jix x5 5000 = true then (
      if jr2 (R_forms x5) 4 = true then (if (R_forms x5) = 4 then (
       if jix x5 5000 = true then (
        if jr2 x7 (R_counts x5) = true then (if (R_counts x5) ≤ x7 then (
         some (x3, x7)) else (
         if jix x5 5000 = true then (
          if jix ((R_textsAt x5) + x7) 70000 = true then (
           if jix x6 5000 = true then (
            if jix ((R_textsAt x6) + x7) 70000 = true then (
             if jr2 (R_texts ((R_textsAt x5) + x7)) (R_texts ((R_textsAt x6) + x7)) = true then (if (R_texts ((R_textsAt x5) + x7)) = (R_texts ((R_textsAt x6) + x7)) then (
              f_Mod_sameData_L122 R_texts R_forms R_counts R_textsAt x1 x2 x4 x5 x6 n 1 (x7 + 1)) else (
              f_Mod_sameData_L122 R_texts R_forms R_counts R_textsAt x1 x2 x4 x5 x6 n 0 (x7 + 1))) else none) else none) else none) else none) else none)) else none) else none) else (
       some (x3, x7))) else none) else none)) else none
def f_Mod_sameData_L24 (N : Nat) (R_from : Int → Int) (R_length : Int → Int) (R_texts : Int → Int) (R_forms : Int → Int) (R_tags : Int → Int) (R_counts : Int → Int) (R_textsAt : Int → Int) (x1 : Int) (x2 : Int) : Nat → Int → Int → Option (Int × Int)
  | 0, _, _ => none
  | n + 1, x3, x4 =>
    if rI x3 = true then (if x3 = 0 then (
     some (x3, x4)) else (
     if jix x1 3700 = true then (
      if jr2 x4 (R_length x1) = true then (if (R_length x1) ≤ x4 then (
       some (x3, x4)) else (
       if jix x1 3700 = true then (
        if jix x2 3700 = true then (
         if jix ((R_from x1) + x4) 5000 = true then (
          if jix ((R_from x2) + x4) 5000 = true then (
           if jr2 (R_forms ((R_from x1) + x4)) (R_forms ((R_from x2) + x4)) = true then (if (R_forms ((R_from x1) + x4)) = (R_forms ((R_from x2) + x4)) then (
            if jix ((R_from x1) + x4) 5000 = true then (
             if jix ((R_from x2) + x4) 5000 = true then (
              if jl2 (R_tags ((R_from x1) + x4)) (R_tags ((R_from x2) + x4)) = true then (if (R_tags ((R_from x1) + x4)) = (R_tags ((R_from x2) + x4)) then (
               if jix ((R_from x1) + x4) 5000 = true then (
                if jix ((R_from x2) + x4) 5000 = true then (
                 if jr2 (R_counts ((R_from x1) + x4)) (R_counts ((R_from x2) + x4)) = true then (if (R_counts ((R_from x1) + x4)) = (R_counts ((R_from x2) + x4)) then (
                  ob2 (f_Mod_sameData_L122 R_texts R_forms R_counts R_textsAt x1 x2 x4 ((R_from x1) + x4) ((R_from x2) + x4) N 1 0) (fun x3_35 x7_36 =>
                   f_Mod_sameData_L24 N R_from R_length R_texts R_forms R_tags R_counts R_textsAt x1 x2 n x3_35 (x4 + 1))) else (
                  ob2 (f_Mod_sameData_L122 R_texts R_forms R_counts R_textsAt x1 x2 x4 ((R_from x1) + x4) ((R_from x2) + x4) N 0 0) (fun x3_32 x7_33 =>
                   f_Mod_sameData_L24 N R_from R_length R_texts R_forms R_tags R_counts R_textsAt x1 x2 n x3_32 (x4 + 1)))) else none) else none) else none) else (
               ob2 (f_Mod_sameData_L122 R_texts R_forms R_counts R_textsAt x1 x2 x4 ((R_from x1) + x4) ((R_from x2) + x4) N 0 0) (fun x3_26 x7_27 =>
                f_Mod_sameData_L24 N R_from R_length R_texts R_forms R_tags R_counts R_textsAt x1 x2 n x3_26 (x4 + 1)))) else none) else none) else none) else (
            ob2 (f_Mod_sameData_L122 R_texts R_forms R_counts R_textsAt x1 x2 x4 ((R_from x1) + x4) ((R_from x2) + x4) N 0 0) (fun x3_20 x7_21 =>
             f_Mod_sameData_L24 N R_from R_length R_texts R_forms R_tags R_counts R_textsAt x1 x2 n x3_20 (x4 + 1)))) else none) else none) else none) else none) else none)) else none) else none)) else none
def f_Mod_sameData (N : Nat) (R_from : Int → Int) (R_length : Int → Int) (R_texts : Int → Int) (R_forms : Int → Int) (R_tags : Int → Int) (R_counts : Int → Int) (R_textsAt : Int → Int) (p1 : Int) (p2 : Int) : Option (Int) :=
  if jix p1 3700 = true then (
   if jix p2 3700 = true then (
    if jr2 (R_length p1) (R_length p2) = true then (if (R_length p1) = (R_length p2) then (
     ob2 (f_Mod_sameData_L24 N R_from R_length R_texts R_forms R_tags R_counts R_textsAt p1 p2 N 1 0) (fun x3_8 x4_9 =>
      if x3_8 = 0 ∨ x3_8 = 1 then some x3_8 else none)) else (
     ob2 (f_Mod_sameData_L24 N R_from R_length R_texts R_forms R_tags R_counts R_textsAt p1 p2 N 0 0) (fun x3_4 x4_5 =>
      if x3_4 = 0 ∨ x3_4 = 1 then some x3_4 else none))) else none) else none) else none
set_option maxHeartbeats 4000000 in
set_option maxRecDepth 100000 in
theorem k_Mod_sameData_L122 {K : jK} {cI cL cB : ClassId} {ad : Nat → Nat} {R_texts : Int → Int} {R_forms : Int → Int} {R_counts : Int → Int} {R_textsAt : Int → Int} {x1 : Int} {x2 : Int} {x4 : Int} {x5 : Int} {x6 : Int} {R_thrown : Int} {R_used : Int} {R_many : Int} {R_values : Int} {R_textEnd : Int} {R_dataEnd : Int} {R_rowEnd : Int} {R_rowMany : Int} {R_waiting : Int} {R_mostWaiting : Int} {R_answer : Int} {R_steps : Int} {R_memory : Int} {R_maxSteps : Int} {R_maxMemory : Int} {R_fault : Int} {R_result : Int} {R_now : Int} {R_nowRow : Int} {R_come : Int} {R_puts : Int} {R_from : Int → Int} {R_length : Int → Int} {R_tags : Int → Int} {out : Int × Int} (X : jX jF0 K 8 b_Mod_sameData w_Mod_sameData R_Mod [(cI, .int), (cL, .long), (cB, .byte)]) : ∀ (n : Nat) (x3 : Int) (x7 : Int), f_Mod_sameData_L122 R_texts R_forms R_counts R_textsAt x1 x2 x4 x5 x6 n x3 x7 = some out → J K 8 ({ frames := 0, cells := 0, slots := 0, locals := 0 } : Room) true 0 0 [(ad 0, .inr (10, [.int (zI R_thrown), .ref (ad 1), .ref (ad 2), .ref (ad 3), .ref (ad 4), .ref (ad 5), .ref (ad 6), .int (zI R_used), .ref (ad 7), .int (zI R_many), .ref (ad 8), .ref (ad 9), .ref (ad 10), .ref (ad 11), .ref (ad 12), .ref (ad 13), .ref (ad 14), .ref (ad 15), .ref (ad 16), .int (zI R_values), .ref (ad 17), .int (zI R_textEnd), .ref (ad 18), .ref (ad 19), .ref (ad 20), .ref (ad 21), .int (zI R_dataEnd), .ref (ad 22), .int (zI R_rowEnd), .ref (ad 23), .ref (ad 24), .int (zI R_rowMany), .ref (ad 25), .ref (ad 26), .ref (ad 27), .ref (ad 28), .int (zI R_waiting), .int (zI R_mostWaiting), .int (zI R_answer), .int (zI R_steps), .int (zI R_memory), .int (zI R_maxSteps), .int (zI R_maxMemory), .int (zI R_fault), .int (zI R_result), .int (zI R_now), .int (zI R_nowRow), .int (zI R_come), .ref (ad 29), .ref (ad 30), .int (zI R_puts), .ref (ad 31)])), (ad 10, .inl (cI, 3700, .inl (zA R_from))), (ad 11, .inl (cI, 3700, .inl (zA R_length))), (ad 17, .inl (cB, 70000, .inl (zA R_texts))), (ad 18, .inl (cI, 5000, .inl (zA R_forms))), (ad 19, .inl (cL, 5000, .inr (.inl (zB R_tags)))), (ad 20, .inl (cI, 5000, .inl (zA R_counts))), (ad 21, .inl (cI, 5000, .inl (zA R_textsAt)))] [(0, .ref (ad 0)), (1, .int (zI x1)), (2, .int (zI x2)), (3, .int (zI (out.1))), (4, .int (zI x4)), (5, .int (zI x5)), (6, .int (zI x6)), (7, .int (zI (out.2)))] [] 194 → J K 8 ({ frames := 0, cells := 0, slots := 0, locals := 0 } : Room) true 0 0 [(ad 0, .inr (10, [.int (zI R_thrown), .ref (ad 1), .ref (ad 2), .ref (ad 3), .ref (ad 4), .ref (ad 5), .ref (ad 6), .int (zI R_used), .ref (ad 7), .int (zI R_many), .ref (ad 8), .ref (ad 9), .ref (ad 10), .ref (ad 11), .ref (ad 12), .ref (ad 13), .ref (ad 14), .ref (ad 15), .ref (ad 16), .int (zI R_values), .ref (ad 17), .int (zI R_textEnd), .ref (ad 18), .ref (ad 19), .ref (ad 20), .ref (ad 21), .int (zI R_dataEnd), .ref (ad 22), .int (zI R_rowEnd), .ref (ad 23), .ref (ad 24), .int (zI R_rowMany), .ref (ad 25), .ref (ad 26), .ref (ad 27), .ref (ad 28), .int (zI R_waiting), .int (zI R_mostWaiting), .int (zI R_answer), .int (zI R_steps), .int (zI R_memory), .int (zI R_maxSteps), .int (zI R_maxMemory), .int (zI R_fault), .int (zI R_result), .int (zI R_now), .int (zI R_nowRow), .int (zI R_come), .ref (ad 29), .ref (ad 30), .int (zI R_puts), .ref (ad 31)])), (ad 10, .inl (cI, 3700, .inl (zA R_from))), (ad 11, .inl (cI, 3700, .inl (zA R_length))), (ad 17, .inl (cB, 70000, .inl (zA R_texts))), (ad 18, .inl (cI, 5000, .inl (zA R_forms))), (ad 19, .inl (cL, 5000, .inr (.inl (zB R_tags)))), (ad 20, .inl (cI, 5000, .inl (zA R_counts))), (ad 21, .inl (cI, 5000, .inl (zA R_textsAt)))] [(0, .ref (ad 0)), (1, .int (zI x1)), (2, .int (zI x2)), (3, .int (zI x3)), (4, .int (zI x4)), (5, .int (zI x5)), (6, .int (zI x6)), (7, .int (zI x7))] [] 122 := by
  intro n
  induction n with
  | zero =>
    intro x3 x7 h hk
    cases h
  | succ n ih =>
    intro x3 x7 h hk
    unfold f_Mod_sameData_L122 at h
    refine J_iload_n X d_Mod_sameData_122 rfl 3 rfl ?_
    refine J_if_eq (tgt := 194) X d_Mod_sameData_123 (by decide) h (fun c38 h => ?_) (fun c38 h => ?_)
    · cases h
      refine J_lv (lv' := [(0, .ref (ad 0)), (1, .int (zI x1)), (2, .int (zI x2)), (3, .int (zI x3)), (4, .int (zI x4)), (5, .int (zI x5)), (6, .int (zI x6)), (7, .int (zI x7))]) [0, 1, 2, 3, 4, 5, 6, 7] rfl ?_
      exact hk
    · refine J_aload_n X d_Mod_sameData_126 rfl 0 rfl ?_
      refine J_get X (j_in in_Mod) 0 rfl rfl 22 (by decide) (j_m own_Mod_sameData (by decide +kernel)) rfl d_Mod_sameData_127 ?_
      refine J_iload X d_Mod_sameData_130 5 rfl ?_
      obtain ⟨g39, h⟩ := wk_g h
      refine J_iald X 4 0 rfl rfl g39 d_Mod_sameData_132 ?_
      refine J_iconst X d_Mod_sameData_133 ?_
      refine J_icmp_ne (tgt := 194) X d_Mod_sameData_134 (by decide) h (fun c40 h => ?_) (fun c40 h => ?_)
      · cases h
        refine J_lv (lv' := [(0, .ref (ad 0)), (1, .int (zI x1)), (2, .int (zI x2)), (3, .int (zI x3)), (4, .int (zI x4)), (5, .int (zI x5)), (6, .int (zI x6)), (7, .int (zI x7))]) [0, 1, 2, 3, 4, 5, 6, 7] rfl ?_
        exact hk
      · refine J_iload X d_Mod_sameData_137 7 rfl ?_
        refine J_aload_n X d_Mod_sameData_139 rfl 0 rfl ?_
        refine J_get X (j_in in_Mod) 0 rfl rfl 24 (by decide) (j_m own_Mod_sameData (by decide +kernel)) rfl d_Mod_sameData_140 ?_
        refine J_iload X d_Mod_sameData_143 5 rfl ?_
        obtain ⟨g41, h⟩ := wk_g h
        refine J_iald X 6 0 rfl rfl g41 d_Mod_sameData_145 ?_
        refine J_icmp_ge (tgt := 194) X d_Mod_sameData_146 (by decide) h (fun c42 h => ?_) (fun c42 h => ?_)
        · cases h
          refine J_lv (lv' := [(0, .ref (ad 0)), (1, .int (zI x1)), (2, .int (zI x2)), (3, .int (zI x3)), (4, .int (zI x4)), (5, .int (zI x5)), (6, .int (zI x6)), (7, .int (zI x7))]) [0, 1, 2, 3, 4, 5, 6, 7] rfl ?_
          exact hk
        · refine J_aload_n X d_Mod_sameData_149 rfl 0 rfl ?_
          refine J_get X (j_in in_Mod) 0 rfl rfl 20 (by decide) (j_m own_Mod_sameData (by decide +kernel)) rfl d_Mod_sameData_150 ?_
          refine J_aload_n X d_Mod_sameData_153 rfl 0 rfl ?_
          refine J_get X (j_in in_Mod) 0 rfl rfl 25 (by decide) (j_m own_Mod_sameData (by decide +kernel)) rfl d_Mod_sameData_154 ?_
          refine J_iload X d_Mod_sameData_157 5 rfl ?_
          obtain ⟨g43, h⟩ := wk_g h
          refine J_iald X 7 0 rfl rfl g43 d_Mod_sameData_159 ?_
          refine J_iload X d_Mod_sameData_160 7 rfl ?_
          refine J_iadd X d_Mod_sameData_162 ?_
          obtain ⟨g44, h⟩ := wk_g h
          refine J_bald X 3 2 rfl rfl g44 d_Mod_sameData_163 ?_
          refine J_aload_n X d_Mod_sameData_164 rfl 0 rfl ?_
          refine J_get X (j_in in_Mod) 0 rfl rfl 20 (by decide) (j_m own_Mod_sameData (by decide +kernel)) rfl d_Mod_sameData_165 ?_
          refine J_aload_n X d_Mod_sameData_168 rfl 0 rfl ?_
          refine J_get X (j_in in_Mod) 0 rfl rfl 25 (by decide) (j_m own_Mod_sameData (by decide +kernel)) rfl d_Mod_sameData_169 ?_
          refine J_iload X d_Mod_sameData_172 6 rfl ?_
          obtain ⟨g45, h⟩ := wk_g h
          refine J_iald X 7 0 rfl rfl g45 d_Mod_sameData_174 ?_
          refine J_iload X d_Mod_sameData_175 7 rfl ?_
          refine J_iadd X d_Mod_sameData_177 ?_
          obtain ⟨g46, h⟩ := wk_g h
          refine J_bald X 3 2 rfl rfl g46 d_Mod_sameData_178 ?_
          refine J_icmp_ne (tgt := 186) X d_Mod_sameData_179 (by decide) h (fun c47 h => ?_) (fun c47 h => ?_)
          · refine J_iconst X d_Mod_sameData_186 ?_
            refine J_istore_n (lv' := [(3, .int (zI 0)), (0, .ref (ad 0)), (1, .int (zI x1)), (2, .int (zI x2)), (4, .int (zI x4)), (5, .int (zI x5)), (6, .int (zI x6)), (7, .int (zI x7))]) X d_Mod_sameData_187 rfl (by decide) rfl ?_
            refine J_iinc (lv' := [(7, .int (zI (x7 + 1))), (3, .int (zI 0)), (0, .ref (ad 0)), (1, .int (zI x1)), (2, .int (zI x2)), (4, .int (zI x4)), (5, .int (zI x5)), (6, .int (zI x6))]) X d_Mod_sameData_188 7 rfl (by decide) rfl ?_
            refine J_goto (tgt := 122) X d_Mod_sameData_191 (by decide) ?_
            refine J_lv (lv' := [(0, .ref (ad 0)), (1, .int (zI x1)), (2, .int (zI x2)), (3, .int (zI 0)), (4, .int (zI x4)), (5, .int (zI x5)), (6, .int (zI x6)), (7, .int (zI (x7 + 1)))]) [2, 3, 4, 1, 5, 6, 7, 0] rfl ?_
            exact ih _ _ h hk
          · refine J_iconst X d_Mod_sameData_182 ?_
            refine J_goto (tgt := 187) X d_Mod_sameData_183 (by decide) ?_
            refine J_istore_n (lv' := [(3, .int (zI 1)), (0, .ref (ad 0)), (1, .int (zI x1)), (2, .int (zI x2)), (4, .int (zI x4)), (5, .int (zI x5)), (6, .int (zI x6)), (7, .int (zI x7))]) X d_Mod_sameData_187 rfl (by decide) rfl ?_
            refine J_iinc (lv' := [(7, .int (zI (x7 + 1))), (3, .int (zI 1)), (0, .ref (ad 0)), (1, .int (zI x1)), (2, .int (zI x2)), (4, .int (zI x4)), (5, .int (zI x5)), (6, .int (zI x6))]) X d_Mod_sameData_188 7 rfl (by decide) rfl ?_
            refine J_goto (tgt := 122) X d_Mod_sameData_191 (by decide) ?_
            refine J_lv (lv' := [(0, .ref (ad 0)), (1, .int (zI x1)), (2, .int (zI x2)), (3, .int (zI 1)), (4, .int (zI x4)), (5, .int (zI x5)), (6, .int (zI x6)), (7, .int (zI (x7 + 1)))]) [2, 3, 4, 1, 5, 6, 7, 0] rfl ?_
            exact ih _ _ h hk
set_option maxHeartbeats 4000000 in
set_option maxRecDepth 100000 in
theorem k_Mod_sameData_L24 {K : jK} {cI cL cB : ClassId} {ad : Nat → Nat} {N : Nat} {R_from : Int → Int} {R_length : Int → Int} {R_texts : Int → Int} {R_forms : Int → Int} {R_tags : Int → Int} {R_counts : Int → Int} {R_textsAt : Int → Int} {x1 : Int} {x2 : Int} {R_thrown : Int} {R_used : Int} {R_many : Int} {R_values : Int} {R_textEnd : Int} {R_dataEnd : Int} {R_rowEnd : Int} {R_rowMany : Int} {R_waiting : Int} {R_mostWaiting : Int} {R_answer : Int} {R_steps : Int} {R_memory : Int} {R_maxSteps : Int} {R_maxMemory : Int} {R_fault : Int} {R_result : Int} {R_now : Int} {R_nowRow : Int} {R_come : Int} {R_puts : Int} {out : Int × Int} (X : jX jF0 K 8 b_Mod_sameData w_Mod_sameData R_Mod [(cI, .int), (cL, .long), (cB, .byte)]) : ∀ (n : Nat) (x3 : Int) (x4 : Int), f_Mod_sameData_L24 N R_from R_length R_texts R_forms R_tags R_counts R_textsAt x1 x2 n x3 x4 = some out → J K 8 ({ frames := 0, cells := 0, slots := 0, locals := 0 } : Room) true 0 0 [(ad 0, .inr (10, [.int (zI R_thrown), .ref (ad 1), .ref (ad 2), .ref (ad 3), .ref (ad 4), .ref (ad 5), .ref (ad 6), .int (zI R_used), .ref (ad 7), .int (zI R_many), .ref (ad 8), .ref (ad 9), .ref (ad 10), .ref (ad 11), .ref (ad 12), .ref (ad 13), .ref (ad 14), .ref (ad 15), .ref (ad 16), .int (zI R_values), .ref (ad 17), .int (zI R_textEnd), .ref (ad 18), .ref (ad 19), .ref (ad 20), .ref (ad 21), .int (zI R_dataEnd), .ref (ad 22), .int (zI R_rowEnd), .ref (ad 23), .ref (ad 24), .int (zI R_rowMany), .ref (ad 25), .ref (ad 26), .ref (ad 27), .ref (ad 28), .int (zI R_waiting), .int (zI R_mostWaiting), .int (zI R_answer), .int (zI R_steps), .int (zI R_memory), .int (zI R_maxSteps), .int (zI R_maxMemory), .int (zI R_fault), .int (zI R_result), .int (zI R_now), .int (zI R_nowRow), .int (zI R_come), .ref (ad 29), .ref (ad 30), .int (zI R_puts), .ref (ad 31)])), (ad 10, .inl (cI, 3700, .inl (zA R_from))), (ad 11, .inl (cI, 3700, .inl (zA R_length))), (ad 17, .inl (cB, 70000, .inl (zA R_texts))), (ad 18, .inl (cI, 5000, .inl (zA R_forms))), (ad 19, .inl (cL, 5000, .inr (.inl (zB R_tags)))), (ad 20, .inl (cI, 5000, .inl (zA R_counts))), (ad 21, .inl (cI, 5000, .inl (zA R_textsAt)))] [(0, .ref (ad 0)), (1, .int (zI x1)), (2, .int (zI x2)), (3, .int (zI (out.1))), (4, .int (zI (out.2)))] [] 200 → J K 8 ({ frames := 0, cells := 0, slots := 0, locals := 0 } : Room) true 0 0 [(ad 0, .inr (10, [.int (zI R_thrown), .ref (ad 1), .ref (ad 2), .ref (ad 3), .ref (ad 4), .ref (ad 5), .ref (ad 6), .int (zI R_used), .ref (ad 7), .int (zI R_many), .ref (ad 8), .ref (ad 9), .ref (ad 10), .ref (ad 11), .ref (ad 12), .ref (ad 13), .ref (ad 14), .ref (ad 15), .ref (ad 16), .int (zI R_values), .ref (ad 17), .int (zI R_textEnd), .ref (ad 18), .ref (ad 19), .ref (ad 20), .ref (ad 21), .int (zI R_dataEnd), .ref (ad 22), .int (zI R_rowEnd), .ref (ad 23), .ref (ad 24), .int (zI R_rowMany), .ref (ad 25), .ref (ad 26), .ref (ad 27), .ref (ad 28), .int (zI R_waiting), .int (zI R_mostWaiting), .int (zI R_answer), .int (zI R_steps), .int (zI R_memory), .int (zI R_maxSteps), .int (zI R_maxMemory), .int (zI R_fault), .int (zI R_result), .int (zI R_now), .int (zI R_nowRow), .int (zI R_come), .ref (ad 29), .ref (ad 30), .int (zI R_puts), .ref (ad 31)])), (ad 10, .inl (cI, 3700, .inl (zA R_from))), (ad 11, .inl (cI, 3700, .inl (zA R_length))), (ad 17, .inl (cB, 70000, .inl (zA R_texts))), (ad 18, .inl (cI, 5000, .inl (zA R_forms))), (ad 19, .inl (cL, 5000, .inr (.inl (zB R_tags)))), (ad 20, .inl (cI, 5000, .inl (zA R_counts))), (ad 21, .inl (cI, 5000, .inl (zA R_textsAt)))] [(0, .ref (ad 0)), (1, .int (zI x1)), (2, .int (zI x2)), (3, .int (zI x3)), (4, .int (zI x4))] [] 24 := by
  intro n
  induction n with
  | zero =>
    intro x3 x4 h hk
    cases h
  | succ n ih =>
    intro x3 x4 h hk
    unfold f_Mod_sameData_L24 at h
    refine J_iload_n X d_Mod_sameData_24 rfl 3 rfl ?_
    refine J_if_eq (tgt := 200) X d_Mod_sameData_25 (by decide) h (fun c12 h => ?_) (fun c12 h => ?_)
    · cases h
      refine J_lv (lv' := [(0, .ref (ad 0)), (1, .int (zI x1)), (2, .int (zI x2)), (3, .int (zI x3)), (4, .int (zI x4))]) [0, 1, 2, 3, 4] rfl ?_
      exact hk
    · refine J_iload X d_Mod_sameData_28 4 rfl ?_
      refine J_aload_n X d_Mod_sameData_30 rfl 0 rfl ?_
      refine J_get X (j_in in_Mod) 0 rfl rfl 13 (by decide) (j_m own_Mod_sameData (by decide +kernel)) rfl d_Mod_sameData_31 ?_
      refine J_iload_n X d_Mod_sameData_34 rfl 1 rfl ?_
      obtain ⟨g13, h⟩ := wk_g h
      refine J_iald X 2 0 rfl rfl g13 d_Mod_sameData_35 ?_
      refine J_icmp_ge (tgt := 200) X d_Mod_sameData_36 (by decide) h (fun c14 h => ?_) (fun c14 h => ?_)
      · cases h
        refine J_lv (lv' := [(0, .ref (ad 0)), (1, .int (zI x1)), (2, .int (zI x2)), (3, .int (zI x3)), (4, .int (zI x4))]) [0, 1, 2, 3, 4] rfl ?_
        exact hk
      · refine J_aload_n X d_Mod_sameData_39 rfl 0 rfl ?_
        refine J_get X (j_in in_Mod) 0 rfl rfl 12 (by decide) (j_m own_Mod_sameData (by decide +kernel)) rfl d_Mod_sameData_40 ?_
        refine J_iload_n X d_Mod_sameData_43 rfl 1 rfl ?_
        obtain ⟨g15, h⟩ := wk_g h
        refine J_iald X 1 0 rfl rfl g15 d_Mod_sameData_44 ?_
        refine J_iload X d_Mod_sameData_45 4 rfl ?_
        refine J_iadd X d_Mod_sameData_47 ?_
        refine J_istore (lv' := [(5, .int (zI ((R_from x1) + x4))), (0, .ref (ad 0)), (1, .int (zI x1)), (2, .int (zI x2)), (3, .int (zI x3)), (4, .int (zI x4))]) X d_Mod_sameData_48 (by decide) rfl ?_
        refine J_aload_n X d_Mod_sameData_50 rfl 1 rfl ?_
        refine J_get X (j_in in_Mod) 0 rfl rfl 12 (by decide) (j_m own_Mod_sameData (by decide +kernel)) rfl d_Mod_sameData_51 ?_
        refine J_iload_n X d_Mod_sameData_54 rfl 3 rfl ?_
        obtain ⟨g16, h⟩ := wk_g h
        refine J_iald X 1 0 rfl rfl g16 d_Mod_sameData_55 ?_
        refine J_iload X d_Mod_sameData_56 5 rfl ?_
        refine J_iadd X d_Mod_sameData_58 ?_
        refine J_istore (lv' := [(6, .int (zI ((R_from x2) + x4))), (5, .int (zI ((R_from x1) + x4))), (0, .ref (ad 0)), (1, .int (zI x1)), (2, .int (zI x2)), (3, .int (zI x3)), (4, .int (zI x4))]) X d_Mod_sameData_59 (by decide) rfl ?_
        refine J_aload_n X d_Mod_sameData_61 rfl 2 rfl ?_
        refine J_get X (j_in in_Mod) 0 rfl rfl 22 (by decide) (j_m own_Mod_sameData (by decide +kernel)) rfl d_Mod_sameData_62 ?_
        refine J_iload X d_Mod_sameData_65 1 rfl ?_
        obtain ⟨g17, h⟩ := wk_g h
        refine J_iald X 4 0 rfl rfl g17 d_Mod_sameData_67 ?_
        refine J_aload_n X d_Mod_sameData_68 rfl 2 rfl ?_
        refine J_get X (j_in in_Mod) 0 rfl rfl 22 (by decide) (j_m own_Mod_sameData (by decide +kernel)) rfl d_Mod_sameData_69 ?_
        refine J_iload X d_Mod_sameData_72 0 rfl ?_
        obtain ⟨g18, h⟩ := wk_g h
        refine J_iald X 4 0 rfl rfl g18 d_Mod_sameData_74 ?_
        refine J_icmp_ne (tgt := 117) X d_Mod_sameData_75 (by decide) h (fun c19 h => ?_) (fun c19 h => ?_)
        · refine J_iconst X d_Mod_sameData_117 ?_
          refine J_istore_n (lv' := [(3, .int (zI 0)), (6, .int (zI ((R_from x2) + x4))), (5, .int (zI ((R_from x1) + x4))), (0, .ref (ad 0)), (1, .int (zI x1)), (2, .int (zI x2)), (4, .int (zI x4))]) X d_Mod_sameData_118 rfl (by decide) rfl ?_
          refine J_iconst X d_Mod_sameData_119 ?_
          refine J_istore (lv' := [(7, .int (zI 0)), (3, .int (zI 0)), (6, .int (zI ((R_from x2) + x4))), (5, .int (zI ((R_from x1) + x4))), (0, .ref (ad 0)), (1, .int (zI x1)), (2, .int (zI x2)), (4, .int (zI x4))]) X d_Mod_sameData_120 (by decide) rfl ?_
          refine J_lv (lv' := [(0, .ref (ad 0)), (1, .int (zI x1)), (2, .int (zI x2)), (3, .int (zI 0)), (4, .int (zI x4)), (5, .int (zI ((R_from x1) + x4))), (6, .int (zI ((R_from x2) + x4))), (7, .int (zI 0))]) [4, 5, 6, 1, 7, 3, 2, 0] rfl ?_
          obtain ⟨x3_20, x7_21, q22, h⟩ := wk_b2 h
          refine k_Mod_sameData_L122 X _ _ _ q22 ?_
          refine J_iinc (lv' := [(4, .int (zI (x4 + 1))), (0, .ref (ad 0)), (1, .int (zI x1)), (2, .int (zI x2)), (3, .int (zI x3_20)), (5, .int (zI ((R_from x1) + x4))), (6, .int (zI ((R_from x2) + x4))), (7, .int (zI x7_21))]) X d_Mod_sameData_194 4 rfl (by decide) rfl ?_
          refine J_goto (tgt := 24) X d_Mod_sameData_197 (by decide) ?_
          refine J_lv (lv' := [(0, .ref (ad 0)), (1, .int (zI x1)), (2, .int (zI x2)), (3, .int (zI x3_20)), (4, .int (zI (x4 + 1)))]) [1, 2, 3, 4, 0] rfl ?_
          exact ih _ _ h hk
        · refine J_aload_n X d_Mod_sameData_78 rfl 2 rfl ?_
          refine J_get X (j_in in_Mod) 0 rfl rfl 23 (by decide) (j_m own_Mod_sameData (by decide +kernel)) rfl d_Mod_sameData_79 ?_
          refine J_iload X d_Mod_sameData_82 1 rfl ?_
          obtain ⟨g23, h⟩ := wk_g h
          refine J_lald X 5 1 rfl rfl g23 d_Mod_sameData_84 ?_
          refine J_aload_n X d_Mod_sameData_85 rfl 2 rfl ?_
          refine J_get X (j_in in_Mod) 0 rfl rfl 23 (by decide) (j_m own_Mod_sameData (by decide +kernel)) rfl d_Mod_sameData_86 ?_
          refine J_iload X d_Mod_sameData_89 0 rfl ?_
          obtain ⟨g24, h⟩ := wk_g h
          refine J_lald X 5 1 rfl rfl g24 d_Mod_sameData_91 ?_
          refine J_lc_ne (tgt := 117) X d_Mod_sameData_92 d_Mod_sameData_93 (by decide) h (fun c25 h => ?_) (fun c25 h => ?_)
          · refine J_iconst X d_Mod_sameData_117 ?_
            refine J_istore_n (lv' := [(3, .int (zI 0)), (6, .int (zI ((R_from x2) + x4))), (5, .int (zI ((R_from x1) + x4))), (0, .ref (ad 0)), (1, .int (zI x1)), (2, .int (zI x2)), (4, .int (zI x4))]) X d_Mod_sameData_118 rfl (by decide) rfl ?_
            refine J_iconst X d_Mod_sameData_119 ?_
            refine J_istore (lv' := [(7, .int (zI 0)), (3, .int (zI 0)), (6, .int (zI ((R_from x2) + x4))), (5, .int (zI ((R_from x1) + x4))), (0, .ref (ad 0)), (1, .int (zI x1)), (2, .int (zI x2)), (4, .int (zI x4))]) X d_Mod_sameData_120 (by decide) rfl ?_
            refine J_lv (lv' := [(0, .ref (ad 0)), (1, .int (zI x1)), (2, .int (zI x2)), (3, .int (zI 0)), (4, .int (zI x4)), (5, .int (zI ((R_from x1) + x4))), (6, .int (zI ((R_from x2) + x4))), (7, .int (zI 0))]) [4, 5, 6, 1, 7, 3, 2, 0] rfl ?_
            obtain ⟨x3_26, x7_27, q28, h⟩ := wk_b2 h
            refine k_Mod_sameData_L122 X _ _ _ q28 ?_
            refine J_iinc (lv' := [(4, .int (zI (x4 + 1))), (0, .ref (ad 0)), (1, .int (zI x1)), (2, .int (zI x2)), (3, .int (zI x3_26)), (5, .int (zI ((R_from x1) + x4))), (6, .int (zI ((R_from x2) + x4))), (7, .int (zI x7_27))]) X d_Mod_sameData_194 4 rfl (by decide) rfl ?_
            refine J_goto (tgt := 24) X d_Mod_sameData_197 (by decide) ?_
            refine J_lv (lv' := [(0, .ref (ad 0)), (1, .int (zI x1)), (2, .int (zI x2)), (3, .int (zI x3_26)), (4, .int (zI (x4 + 1)))]) [1, 2, 3, 4, 0] rfl ?_
            exact ih _ _ h hk
          · refine J_aload_n X d_Mod_sameData_96 rfl 2 rfl ?_
            refine J_get X (j_in in_Mod) 0 rfl rfl 24 (by decide) (j_m own_Mod_sameData (by decide +kernel)) rfl d_Mod_sameData_97 ?_
            refine J_iload X d_Mod_sameData_100 1 rfl ?_
            obtain ⟨g29, h⟩ := wk_g h
            refine J_iald X 6 0 rfl rfl g29 d_Mod_sameData_102 ?_
            refine J_aload_n X d_Mod_sameData_103 rfl 2 rfl ?_
            refine J_get X (j_in in_Mod) 0 rfl rfl 24 (by decide) (j_m own_Mod_sameData (by decide +kernel)) rfl d_Mod_sameData_104 ?_
            refine J_iload X d_Mod_sameData_107 0 rfl ?_
            obtain ⟨g30, h⟩ := wk_g h
            refine J_iald X 6 0 rfl rfl g30 d_Mod_sameData_109 ?_
            refine J_icmp_ne (tgt := 117) X d_Mod_sameData_110 (by decide) h (fun c31 h => ?_) (fun c31 h => ?_)
            · refine J_iconst X d_Mod_sameData_117 ?_
              refine J_istore_n (lv' := [(3, .int (zI 0)), (6, .int (zI ((R_from x2) + x4))), (5, .int (zI ((R_from x1) + x4))), (0, .ref (ad 0)), (1, .int (zI x1)), (2, .int (zI x2)), (4, .int (zI x4))]) X d_Mod_sameData_118 rfl (by decide) rfl ?_
              refine J_iconst X d_Mod_sameData_119 ?_
              refine J_istore (lv' := [(7, .int (zI 0)), (3, .int (zI 0)), (6, .int (zI ((R_from x2) + x4))), (5, .int (zI ((R_from x1) + x4))), (0, .ref (ad 0)), (1, .int (zI x1)), (2, .int (zI x2)), (4, .int (zI x4))]) X d_Mod_sameData_120 (by decide) rfl ?_
              refine J_lv (lv' := [(0, .ref (ad 0)), (1, .int (zI x1)), (2, .int (zI x2)), (3, .int (zI 0)), (4, .int (zI x4)), (5, .int (zI ((R_from x1) + x4))), (6, .int (zI ((R_from x2) + x4))), (7, .int (zI 0))]) [4, 5, 6, 1, 7, 3, 2, 0] rfl ?_
              obtain ⟨x3_32, x7_33, q34, h⟩ := wk_b2 h
              refine k_Mod_sameData_L122 X _ _ _ q34 ?_
              refine J_iinc (lv' := [(4, .int (zI (x4 + 1))), (0, .ref (ad 0)), (1, .int (zI x1)), (2, .int (zI x2)), (3, .int (zI x3_32)), (5, .int (zI ((R_from x1) + x4))), (6, .int (zI ((R_from x2) + x4))), (7, .int (zI x7_33))]) X d_Mod_sameData_194 4 rfl (by decide) rfl ?_
              refine J_goto (tgt := 24) X d_Mod_sameData_197 (by decide) ?_
              refine J_lv (lv' := [(0, .ref (ad 0)), (1, .int (zI x1)), (2, .int (zI x2)), (3, .int (zI x3_32)), (4, .int (zI (x4 + 1)))]) [1, 2, 3, 4, 0] rfl ?_
              exact ih _ _ h hk
            · refine J_iconst X d_Mod_sameData_113 ?_
              refine J_goto (tgt := 118) X d_Mod_sameData_114 (by decide) ?_
              refine J_istore_n (lv' := [(3, .int (zI 1)), (6, .int (zI ((R_from x2) + x4))), (5, .int (zI ((R_from x1) + x4))), (0, .ref (ad 0)), (1, .int (zI x1)), (2, .int (zI x2)), (4, .int (zI x4))]) X d_Mod_sameData_118 rfl (by decide) rfl ?_
              refine J_iconst X d_Mod_sameData_119 ?_
              refine J_istore (lv' := [(7, .int (zI 0)), (3, .int (zI 1)), (6, .int (zI ((R_from x2) + x4))), (5, .int (zI ((R_from x1) + x4))), (0, .ref (ad 0)), (1, .int (zI x1)), (2, .int (zI x2)), (4, .int (zI x4))]) X d_Mod_sameData_120 (by decide) rfl ?_
              refine J_lv (lv' := [(0, .ref (ad 0)), (1, .int (zI x1)), (2, .int (zI x2)), (3, .int (zI 1)), (4, .int (zI x4)), (5, .int (zI ((R_from x1) + x4))), (6, .int (zI ((R_from x2) + x4))), (7, .int (zI 0))]) [4, 5, 6, 1, 7, 3, 2, 0] rfl ?_
              obtain ⟨x3_35, x7_36, q37, h⟩ := wk_b2 h
              refine k_Mod_sameData_L122 X _ _ _ q37 ?_
              refine J_iinc (lv' := [(4, .int (zI (x4 + 1))), (0, .ref (ad 0)), (1, .int (zI x1)), (2, .int (zI x2)), (3, .int (zI x3_35)), (5, .int (zI ((R_from x1) + x4))), (6, .int (zI ((R_from x2) + x4))), (7, .int (zI x7_36))]) X d_Mod_sameData_194 4 rfl (by decide) rfl ?_
              refine J_goto (tgt := 24) X d_Mod_sameData_197 (by decide) ?_
              refine J_lv (lv' := [(0, .ref (ad 0)), (1, .int (zI x1)), (2, .int (zI x2)), (3, .int (zI x3_35)), (4, .int (zI (x4 + 1)))]) [1, 2, 3, 4, 0] rfl ?_
              exact ih _ _ h hk
set_option maxHeartbeats 4000000 in
set_option maxRecDepth 100000 in
theorem c_Mod_sameData {l : Launch} {D : va_G} {cI cL cB : ClassId} {ad : Nat → Nat} {N : Nat} {R_thrown : Int} {R_used : Int} {R_many : Int} {R_values : Int} {R_textEnd : Int} {R_dataEnd : Int} {R_rowEnd : Int} {R_rowMany : Int} {R_waiting : Int} {R_mostWaiting : Int} {R_answer : Int} {R_steps : Int} {R_memory : Int} {R_maxSteps : Int} {R_maxMemory : Int} {R_fault : Int} {R_result : Int} {R_now : Int} {R_nowRow : Int} {R_come : Int} {R_puts : Int} {R_from : Int → Int} {R_length : Int → Int} {R_texts : Int → Int} {R_forms : Int → Int} {R_tags : Int → Int} {R_counts : Int → Int} {R_textsAt : Int → Int} {p1 : Int} {p2 : Int} {out : Int} (h : f_Mod_sameData N R_from R_length R_texts R_forms R_tags R_counts R_textsAt p1 p2 = some out) : CT jF0 true l D [(cI, .int), (cL, .long), (cB, .byte)] y_Mod_sameData w_Mod_sameData ({ frames := 0, cells := 0, slots := 0, locals := 0 } : Room) [.ref (ad 0), .int (zI p1), .int (zI p2)] [(ad 0, .inr (10, [.int (zI R_thrown), .ref (ad 1), .ref (ad 2), .ref (ad 3), .ref (ad 4), .ref (ad 5), .ref (ad 6), .int (zI R_used), .ref (ad 7), .int (zI R_many), .ref (ad 8), .ref (ad 9), .ref (ad 10), .ref (ad 11), .ref (ad 12), .ref (ad 13), .ref (ad 14), .ref (ad 15), .ref (ad 16), .int (zI R_values), .ref (ad 17), .int (zI R_textEnd), .ref (ad 18), .ref (ad 19), .ref (ad 20), .ref (ad 21), .int (zI R_dataEnd), .ref (ad 22), .int (zI R_rowEnd), .ref (ad 23), .ref (ad 24), .int (zI R_rowMany), .ref (ad 25), .ref (ad 26), .ref (ad 27), .ref (ad 28), .int (zI R_waiting), .int (zI R_mostWaiting), .int (zI R_answer), .int (zI R_steps), .int (zI R_memory), .int (zI R_maxSteps), .int (zI R_maxMemory), .int (zI R_fault), .int (zI R_result), .int (zI R_now), .int (zI R_nowRow), .int (zI R_come), .ref (ad 29), .ref (ad 30), .int (zI R_puts), .ref (ad 31)])), (ad 10, .inl (cI, 3700, .inl (zA R_from))), (ad 11, .inl (cI, 3700, .inl (zA R_length))), (ad 17, .inl (cB, 70000, .inl (zA R_texts))), (ad 18, .inl (cI, 5000, .inl (zA R_forms))), (ad 19, .inl (cL, 5000, .inr (.inl (zB R_tags)))), (ad 20, .inl (cI, 5000, .inl (zA R_counts))), (ad 21, .inl (cI, 5000, .inl (zA R_textsAt)))] (some (.int (zI out))) [(ad 0, .inr (10, [.int (zI R_thrown), .ref (ad 1), .ref (ad 2), .ref (ad 3), .ref (ad 4), .ref (ad 5), .ref (ad 6), .int (zI R_used), .ref (ad 7), .int (zI R_many), .ref (ad 8), .ref (ad 9), .ref (ad 10), .ref (ad 11), .ref (ad 12), .ref (ad 13), .ref (ad 14), .ref (ad 15), .ref (ad 16), .int (zI R_values), .ref (ad 17), .int (zI R_textEnd), .ref (ad 18), .ref (ad 19), .ref (ad 20), .ref (ad 21), .int (zI R_dataEnd), .ref (ad 22), .int (zI R_rowEnd), .ref (ad 23), .ref (ad 24), .int (zI R_rowMany), .ref (ad 25), .ref (ad 26), .ref (ad 27), .ref (ad 28), .int (zI R_waiting), .int (zI R_mostWaiting), .int (zI R_answer), .int (zI R_steps), .int (zI R_memory), .int (zI R_maxSteps), .int (zI R_maxMemory), .int (zI R_fault), .int (zI R_result), .int (zI R_now), .int (zI R_nowRow), .int (zI R_come), .ref (ad 29), .ref (ad 30), .int (zI R_puts), .ref (ad 31)])), (ad 10, .inl (cI, 3700, .inl (zA R_from))), (ad 11, .inl (cI, 3700, .inl (zA R_length))), (ad 17, .inl (cB, 70000, .inl (zA R_texts))), (ad 18, .inl (cI, 5000, .inl (zA R_forms))), (ad 19, .inl (cL, 5000, .inr (.inl (zB R_tags)))), (ad 20, .inl (cI, 5000, .inl (zA R_counts))), (ad 21, .inl (cI, 5000, .inl (zA R_textsAt)))] 0 0 := by
  refine CT_of_J (cc := b_Mod_sameData) (maxL := 8) (ret := (some .boolean)) jF0_k (plainFor_of_name (by decide)) rfl (Nat.le_of_ble_eq_true rfl) ?_
  intro K hKl hKD X E
  subst hKl; subst hKD
  unfold f_Mod_sameData at h
  refine J_aload_n X d_Mod_sameData_0 rfl 0 rfl ?_
  refine J_get X (j_in in_Mod) 0 rfl rfl 13 (by decide) (j_m own_Mod_sameData (by decide +kernel)) rfl d_Mod_sameData_1 ?_
  refine J_iload_n X d_Mod_sameData_4 rfl 1 rfl ?_
  obtain ⟨g1, h⟩ := wk_g h
  refine J_iald X 2 0 rfl rfl g1 d_Mod_sameData_5 ?_
  refine J_aload_n X d_Mod_sameData_6 rfl 0 rfl ?_
  refine J_get X (j_in in_Mod) 0 rfl rfl 13 (by decide) (j_m own_Mod_sameData (by decide +kernel)) rfl d_Mod_sameData_7 ?_
  refine J_iload_n X d_Mod_sameData_10 rfl 2 rfl ?_
  obtain ⟨g2, h⟩ := wk_g h
  refine J_iald X 2 0 rfl rfl g2 d_Mod_sameData_11 ?_
  refine J_icmp_ne (tgt := 19) X d_Mod_sameData_12 (by decide) h (fun c3 h => ?_) (fun c3 h => ?_)
  · refine J_iconst X d_Mod_sameData_19 ?_
    refine J_istore_n (lv' := [(3, .int (zI 0)), (0, .ref (ad 0)), (1, .int (zI p1)), (2, .int (zI p2))]) X d_Mod_sameData_20 rfl (by decide) rfl ?_
    refine J_iconst X d_Mod_sameData_21 ?_
    refine J_istore (lv' := [(4, .int (zI 0)), (3, .int (zI 0)), (0, .ref (ad 0)), (1, .int (zI p1)), (2, .int (zI p2))]) X d_Mod_sameData_22 (by decide) rfl ?_
    refine J_lv (lv' := [(0, .ref (ad 0)), (1, .int (zI p1)), (2, .int (zI p2)), (3, .int (zI 0)), (4, .int (zI 0))]) [2, 3, 4, 1, 0] rfl ?_
    obtain ⟨x3_4, x4_5, q6, h⟩ := wk_b2 h
    refine k_Mod_sameData_L24 X _ _ _ q6 ?_
    refine J_iload_n X d_Mod_sameData_200 rfl 3 rfl ?_
    obtain ⟨g7, h⟩ := wk_g h
    cases h
    exact J_ret E ⟨_, rfl, j_bool g7⟩ d_Mod_sameData_201 (Nat.le_refl _) (Nat.le_refl _) rfl
  · refine J_iconst X d_Mod_sameData_15 ?_
    refine J_goto (tgt := 20) X d_Mod_sameData_16 (by decide) ?_
    refine J_istore_n (lv' := [(3, .int (zI 1)), (0, .ref (ad 0)), (1, .int (zI p1)), (2, .int (zI p2))]) X d_Mod_sameData_20 rfl (by decide) rfl ?_
    refine J_iconst X d_Mod_sameData_21 ?_
    refine J_istore (lv' := [(4, .int (zI 0)), (3, .int (zI 1)), (0, .ref (ad 0)), (1, .int (zI p1)), (2, .int (zI p2))]) X d_Mod_sameData_22 (by decide) rfl ?_
    refine J_lv (lv' := [(0, .ref (ad 0)), (1, .int (zI p1)), (2, .int (zI p2)), (3, .int (zI 1)), (4, .int (zI 0))]) [2, 3, 4, 1, 0] rfl ?_
    obtain ⟨x3_8, x4_9, q10, h⟩ := wk_b2 h
    refine k_Mod_sameData_L24 X _ _ _ q10 ?_
    refine J_iload_n X d_Mod_sameData_200 rfl 3 rfl ?_
    obtain ⟨g11, h⟩ := wk_g h
    cases h
    exact J_ret E ⟨_, rfl, j_bool g11⟩ d_Mod_sameData_201 (Nat.le_refl _) (Nat.le_refl _) rfl

theorem d_Mod_outer_0 : decode b_Mod_outer 0 = .ok (.aload_n 0, 1) := by decide +kernel
theorem d_Mod_outer_1 : decode b_Mod_outer 1 = .ok (.getfield 151, 3) := by decide +kernel
theorem d_Mod_outer_4 : decode b_Mod_outer 4 = .ok (.istore 6, 2) := by decide +kernel
theorem d_Mod_outer_6 : decode b_Mod_outer 6 = .ok (.aload_n 0, 1) := by decide +kernel
theorem d_Mod_outer_7 : decode b_Mod_outer 7 = .ok (.iload_n 1, 1) := by decide +kernel
theorem d_Mod_outer_8 : decode b_Mod_outer 8 = .ok (.lload_n 2, 1) := by decide +kernel
theorem d_Mod_outer_9 : decode b_Mod_outer 9 = .ok (.iload 4, 2) := by decide +kernel
theorem d_Mod_outer_11 : decode b_Mod_outer 11 = .ok (.iconst 0, 1) := by decide +kernel
theorem d_Mod_outer_12 : decode b_Mod_outer 12 = .ok (.invokevirtual 154, 3) := by decide +kernel
theorem d_Mod_outer_15 : decode b_Mod_outer 15 = .ok (.aload_n 0, 1) := by decide +kernel
theorem d_Mod_outer_16 : decode b_Mod_outer 16 = .ok (.aload_n 0, 1) := by decide +kernel
theorem d_Mod_outer_17 : decode b_Mod_outer 17 = .ok (.getfield 39, 3) := by decide +kernel
theorem d_Mod_outer_20 : decode b_Mod_outer 20 = .ok (.iload 5, 2) := by decide +kernel
theorem d_Mod_outer_22 : decode b_Mod_outer 22 = .ok (.iaload, 1) := by decide +kernel
theorem d_Mod_outer_23 : decode b_Mod_outer 23 = .ok (.iconst 1, 1) := by decide +kernel
theorem d_Mod_outer_24 : decode b_Mod_outer 24 = .ok (.iadd, 1) := by decide +kernel
theorem d_Mod_outer_25 : decode b_Mod_outer 25 = .ok (.aload_n 0, 1) := by decide +kernel
theorem d_Mod_outer_26 : decode b_Mod_outer 26 = .ok (.getfield 42, 3) := by decide +kernel
theorem d_Mod_outer_29 : decode b_Mod_outer 29 = .ok (.iload 5, 2) := by decide +kernel
theorem d_Mod_outer_31 : decode b_Mod_outer 31 = .ok (.iaload, 1) := by decide +kernel
theorem d_Mod_outer_32 : decode b_Mod_outer 32 = .ok (.iconst 1, 1) := by decide +kernel
theorem d_Mod_outer_33 : decode b_Mod_outer 33 = .ok (.isub, 1) := by decide +kernel
theorem d_Mod_outer_34 : decode b_Mod_outer 34 = .ok (.invokevirtual 207, 3) := by decide +kernel
theorem d_Mod_outer_37 : decode b_Mod_outer 37 = .ok (.aload_n 0, 1) := by decide +kernel
theorem d_Mod_outer_38 : decode b_Mod_outer 38 = .ok (.iload 6, 2) := by decide +kernel
theorem d_Mod_outer_40 : decode b_Mod_outer 40 = .ok (.invokevirtual 211, 3) := by decide +kernel
theorem d_Mod_outer_43 : decode b_Mod_outer 43 = .ok (.ireturn, 1) := by decide +kernel
def f_Mod_outer (N : Nat) (R_values : Int) (R_dataEnd : Int) (R_valueKinds : Int → Int) (R_valueNumbers : Int → Int) (R_from : Int → Int) (R_length : Int → Int) (R_given : Int → Int) (R_forms : Int → Int) (R_tags : Int → Int) (R_counts : Int → Int) (R_textsAt : Int → Int) (p1 : Int) (p2 : Int) (p4 : Int) (p5 : Int) : Option (Int × Int × Int × (Int → Int) × (Int → Int) × (Int → Int) × (Int → Int) × (Int → Int) × (Int → Int) × (Int → Int) × (Int → Int) × (Int → Int)) :=
  ob5 (f_Mod_putData R_dataEnd R_forms R_tags R_counts R_textsAt p1 p2 p4 0) (fun R_dataEnd_1 R_forms_2 R_tags_3 R_counts_4 R_textsAt_5 =>
   if jix p5 3700 = true then (
    if jix p5 3700 = true then (
     ob5 (f_Mod_copyData N R_dataEnd_1 R_forms_2 R_tags_3 R_counts_4 R_textsAt_5 ((R_from p5) + 1) ((R_length p5) - 1)) (fun R_dataEnd_9 R_forms_10 R_tags_11 R_counts_12 R_textsAt_13 =>
      ob7 (f_Mod_makeData R_values R_dataEnd_9 R_valueKinds R_valueNumbers R_from R_length R_given R_dataEnd) (fun r15 R_values_16 R_valueKinds_17 R_valueNumbers_18 R_from_19 R_length_20 R_given_21 =>
       some (r15, R_values_16, R_dataEnd_9, R_valueKinds_17, R_valueNumbers_18, R_from_19, R_length_20, R_given_21, R_forms_10, R_tags_11, R_counts_12, R_textsAt_13)))) else none) else none)
set_option maxHeartbeats 4000000 in
set_option maxRecDepth 100000 in
theorem c_Mod_outer {l : Launch} {D : va_G} {cI cL cB : ClassId} {ad : Nat → Nat} {N : Nat} {R_thrown : Int} {R_used : Int} {R_many : Int} {R_values : Int} {R_textEnd : Int} {R_dataEnd : Int} {R_rowEnd : Int} {R_rowMany : Int} {R_waiting : Int} {R_mostWaiting : Int} {R_answer : Int} {R_steps : Int} {R_memory : Int} {R_maxSteps : Int} {R_maxMemory : Int} {R_fault : Int} {R_result : Int} {R_now : Int} {R_nowRow : Int} {R_come : Int} {R_puts : Int} {R_valueKinds : Int → Int} {R_valueNumbers : Int → Int} {R_from : Int → Int} {R_length : Int → Int} {R_given : Int → Int} {R_forms : Int → Int} {R_tags : Int → Int} {R_counts : Int → Int} {R_textsAt : Int → Int} {p1 : Int} {p2 : Int} {p4 : Int} {p5 : Int} {out : Int × Int × Int × (Int → Int) × (Int → Int) × (Int → Int) × (Int → Int) × (Int → Int) × (Int → Int) × (Int → Int) × (Int → Int) × (Int → Int)} (h : f_Mod_outer N R_values R_dataEnd R_valueKinds R_valueNumbers R_from R_length R_given R_forms R_tags R_counts R_textsAt p1 p2 p4 p5 = some out) : CT jF0 false l D [(cI, .int), (cL, .long), (cB, .byte)] y_Mod_outer w_Mod_outer ({ frames := 2, cells := 0, slots := 0, locals := 48 } : Room) [.ref (ad 0), .int (zI p1), .long (zL p2), .int (zI p4), .int (zI p5)] [(ad 0, .inr (10, [.int (zI R_thrown), .ref (ad 1), .ref (ad 2), .ref (ad 3), .ref (ad 4), .ref (ad 5), .ref (ad 6), .int (zI R_used), .ref (ad 7), .int (zI R_many), .ref (ad 8), .ref (ad 9), .ref (ad 10), .ref (ad 11), .ref (ad 12), .ref (ad 13), .ref (ad 14), .ref (ad 15), .ref (ad 16), .int (zI R_values), .ref (ad 17), .int (zI R_textEnd), .ref (ad 18), .ref (ad 19), .ref (ad 20), .ref (ad 21), .int (zI R_dataEnd), .ref (ad 22), .int (zI R_rowEnd), .ref (ad 23), .ref (ad 24), .int (zI R_rowMany), .ref (ad 25), .ref (ad 26), .ref (ad 27), .ref (ad 28), .int (zI R_waiting), .int (zI R_mostWaiting), .int (zI R_answer), .int (zI R_steps), .int (zI R_memory), .int (zI R_maxSteps), .int (zI R_maxMemory), .int (zI R_fault), .int (zI R_result), .int (zI R_now), .int (zI R_nowRow), .int (zI R_come), .ref (ad 29), .ref (ad 30), .int (zI R_puts), .ref (ad 31)])), (ad 8, .inl (cI, 3700, .inl (zA R_valueKinds))), (ad 9, .inl (cL, 3700, .inr (.inl (zB R_valueNumbers)))), (ad 10, .inl (cI, 3700, .inl (zA R_from))), (ad 11, .inl (cI, 3700, .inl (zA R_length))), (ad 14, .inl (cI, 3700, .inl (zA R_given))), (ad 18, .inl (cI, 5000, .inl (zA R_forms))), (ad 19, .inl (cL, 5000, .inr (.inl (zB R_tags)))), (ad 20, .inl (cI, 5000, .inl (zA R_counts))), (ad 21, .inl (cI, 5000, .inl (zA R_textsAt)))] (some (.int (zI out.1))) [(ad 0, .inr (10, [.int (zI R_thrown), .ref (ad 1), .ref (ad 2), .ref (ad 3), .ref (ad 4), .ref (ad 5), .ref (ad 6), .int (zI R_used), .ref (ad 7), .int (zI R_many), .ref (ad 8), .ref (ad 9), .ref (ad 10), .ref (ad 11), .ref (ad 12), .ref (ad 13), .ref (ad 14), .ref (ad 15), .ref (ad 16), .int (zI (out.2.1)), .ref (ad 17), .int (zI R_textEnd), .ref (ad 18), .ref (ad 19), .ref (ad 20), .ref (ad 21), .int (zI (out.2.2.1)), .ref (ad 22), .int (zI R_rowEnd), .ref (ad 23), .ref (ad 24), .int (zI R_rowMany), .ref (ad 25), .ref (ad 26), .ref (ad 27), .ref (ad 28), .int (zI R_waiting), .int (zI R_mostWaiting), .int (zI R_answer), .int (zI R_steps), .int (zI R_memory), .int (zI R_maxSteps), .int (zI R_maxMemory), .int (zI R_fault), .int (zI R_result), .int (zI R_now), .int (zI R_nowRow), .int (zI R_come), .ref (ad 29), .ref (ad 30), .int (zI R_puts), .ref (ad 31)])), (ad 8, .inl (cI, 3700, .inl (zA (out.2.2.2.1)))), (ad 9, .inl (cL, 3700, .inr (.inl (zB (out.2.2.2.2.1))))), (ad 10, .inl (cI, 3700, .inl (zA (out.2.2.2.2.2.1)))), (ad 11, .inl (cI, 3700, .inl (zA (out.2.2.2.2.2.2.1)))), (ad 14, .inl (cI, 3700, .inl (zA (out.2.2.2.2.2.2.2.1)))), (ad 18, .inl (cI, 5000, .inl (zA (out.2.2.2.2.2.2.2.2.1)))), (ad 19, .inl (cL, 5000, .inr (.inl (zB (out.2.2.2.2.2.2.2.2.2.1))))), (ad 20, .inl (cI, 5000, .inl (zA (out.2.2.2.2.2.2.2.2.2.2.1)))), (ad 21, .inl (cI, 5000, .inl (zA (out.2.2.2.2.2.2.2.2.2.2.2))))] 0 0 := by
  refine CT_of_J (cc := b_Mod_outer) (maxL := 7) (ret := (some .int)) jF0_k (plainFor_of_name (by decide)) rfl (Nat.le_of_ble_eq_true rfl) ?_
  intro K hKl hKD X E
  subst hKl; subst hKD
  unfold f_Mod_outer at h
  refine J_aload_n X d_Mod_outer_0 rfl 0 rfl ?_
  refine J_get X (j_in in_Mod) 0 rfl rfl 26 (by decide) (j_m own_Mod_outer (by decide +kernel)) rfl d_Mod_outer_1 ?_
  refine J_istore (lv' := [(6, .int (zI R_dataEnd)), (0, .ref (ad 0)), (1, .int (zI p1)), (2, .long (zL p2)), (4, .int (zI p4)), (5, .int (zI p5))]) X d_Mod_outer_4 (by decide) rfl ?_
  refine J_aload_n X d_Mod_outer_6 rfl 1 rfl ?_
  refine J_iload_n X d_Mod_outer_7 rfl 2 rfl ?_
  refine J_lload_n X d_Mod_outer_8 rfl 3 rfl ?_
  refine J_iload X d_Mod_outer_9 4 rfl ?_
  refine J_iconst X d_Mod_outer_11 ?_
  obtain ⟨R_dataEnd_1, R_forms_2, R_tags_3, R_counts_4, R_textsAt_5, q6, h⟩ := wk_b5 h
  refine J_afterI0 (ws' := [(ad 0, .inr (10, [.int (zI R_thrown), .ref (ad 1), .ref (ad 2), .ref (ad 3), .ref (ad 4), .ref (ad 5), .ref (ad 6), .int (zI R_used), .ref (ad 7), .int (zI R_many), .ref (ad 8), .ref (ad 9), .ref (ad 10), .ref (ad 11), .ref (ad 12), .ref (ad 13), .ref (ad 14), .ref (ad 15), .ref (ad 16), .int (zI R_values), .ref (ad 17), .int (zI R_textEnd), .ref (ad 18), .ref (ad 19), .ref (ad 20), .ref (ad 21), .int (zI R_dataEnd_1), .ref (ad 22), .int (zI R_rowEnd), .ref (ad 23), .ref (ad 24), .int (zI R_rowMany), .ref (ad 25), .ref (ad 26), .ref (ad 27), .ref (ad 28), .int (zI R_waiting), .int (zI R_mostWaiting), .int (zI R_answer), .int (zI R_steps), .int (zI R_memory), .int (zI R_maxSteps), .int (zI R_maxMemory), .int (zI R_fault), .int (zI R_result), .int (zI R_now), .int (zI R_nowRow), .int (zI R_come), .ref (ad 29), .ref (ad 30), .int (zI R_puts), .ref (ad 31)])), (ad 8, .inl (cI, 3700, .inl (zA R_valueKinds))), (ad 9, .inl (cL, 3700, .inr (.inl (zB R_valueNumbers)))), (ad 10, .inl (cI, 3700, .inl (zA R_from))), (ad 11, .inl (cI, 3700, .inl (zA R_length))), (ad 14, .inl (cI, 3700, .inl (zA R_given))), (ad 18, .inl (cI, 5000, .inl (zA R_forms_2))), (ad 19, .inl (cL, 5000, .inr (.inl (zB R_tags_3)))), (ad 20, .inl (cI, 5000, .inl (zA R_counts_4))), (ad 21, .inl (cI, 5000, .inl (zA R_textsAt_5)))]) X (jrunV X (c_Mod_putData (ad := ad) q6) jF0_k (fun _ _ _ _ => trivial) (jgV own_Mod_outer (by decide +kernel)) rfl rfl rfl pd_Mod_putData (by decide) [0, 6, 7, 8, 9] rfl (by decide) 0 10 rfl rfl rfl rfl (Nat.le_of_ble_eq_true rfl) d_Mod_outer_12 (by decide)) [0, 6, 7, 8, 9] [1, 2, 3, 4, 5] [5, 0, 1, 2, 3, 4, 6, 7, 8, 9] rfl rfl (by decide) (by decide) rfl (by decide) ?_
  refine J_aload_n X d_Mod_outer_15 rfl 1 rfl ?_
  refine J_aload_n X d_Mod_outer_16 rfl 1 rfl ?_
  refine J_get X (j_in in_Mod) 0 rfl rfl 12 (by decide) (j_m own_Mod_outer (by decide +kernel)) rfl d_Mod_outer_17 ?_
  refine J_iload X d_Mod_outer_20 5 rfl ?_
  obtain ⟨g7, h⟩ := wk_g h
  refine J_iald X 3 0 rfl rfl g7 d_Mod_outer_22 ?_
  refine J_iconst X d_Mod_outer_23 ?_
  refine J_iadd X d_Mod_outer_24 ?_
  refine J_aload_n X d_Mod_outer_25 rfl 1 rfl ?_
  refine J_get X (j_in in_Mod) 0 rfl rfl 13 (by decide) (j_m own_Mod_outer (by decide +kernel)) rfl d_Mod_outer_26 ?_
  refine J_iload X d_Mod_outer_29 5 rfl ?_
  obtain ⟨g8, h⟩ := wk_g h
  refine J_iald X 4 0 rfl rfl g8 d_Mod_outer_31 ?_
  refine J_iconst X d_Mod_outer_32 ?_
  refine J_isub X d_Mod_outer_33 ?_
  obtain ⟨R_dataEnd_9, R_forms_10, R_tags_11, R_counts_12, R_textsAt_13, q14, h⟩ := wk_b5 h
  refine J_afterI0 (ws' := [(ad 0, .inr (10, [.int (zI R_thrown), .ref (ad 1), .ref (ad 2), .ref (ad 3), .ref (ad 4), .ref (ad 5), .ref (ad 6), .int (zI R_used), .ref (ad 7), .int (zI R_many), .ref (ad 8), .ref (ad 9), .ref (ad 10), .ref (ad 11), .ref (ad 12), .ref (ad 13), .ref (ad 14), .ref (ad 15), .ref (ad 16), .int (zI R_values), .ref (ad 17), .int (zI R_textEnd), .ref (ad 18), .ref (ad 19), .ref (ad 20), .ref (ad 21), .int (zI R_dataEnd_9), .ref (ad 22), .int (zI R_rowEnd), .ref (ad 23), .ref (ad 24), .int (zI R_rowMany), .ref (ad 25), .ref (ad 26), .ref (ad 27), .ref (ad 28), .int (zI R_waiting), .int (zI R_mostWaiting), .int (zI R_answer), .int (zI R_steps), .int (zI R_memory), .int (zI R_maxSteps), .int (zI R_maxMemory), .int (zI R_fault), .int (zI R_result), .int (zI R_now), .int (zI R_nowRow), .int (zI R_come), .ref (ad 29), .ref (ad 30), .int (zI R_puts), .ref (ad 31)])), (ad 8, .inl (cI, 3700, .inl (zA R_valueKinds))), (ad 9, .inl (cL, 3700, .inr (.inl (zB R_valueNumbers)))), (ad 10, .inl (cI, 3700, .inl (zA R_from))), (ad 11, .inl (cI, 3700, .inl (zA R_length))), (ad 14, .inl (cI, 3700, .inl (zA R_given))), (ad 18, .inl (cI, 5000, .inl (zA R_forms_10))), (ad 19, .inl (cL, 5000, .inr (.inl (zB R_tags_11)))), (ad 20, .inl (cI, 5000, .inl (zA R_counts_12))), (ad 21, .inl (cI, 5000, .inl (zA R_textsAt_13)))]) X (jrunV X (c_Mod_copyData (ad := ad) q14) jF0_k (fun _ _ _ _ => trivial) (jgV own_Mod_outer (by decide +kernel)) rfl rfl rfl pd_Mod_copyData (by decide) [0, 6, 7, 8, 9] rfl (by decide) 0 10 rfl rfl rfl rfl (Nat.le_of_ble_eq_true rfl) d_Mod_outer_34 (by decide)) [0, 6, 7, 8, 9] [1, 2, 3, 4, 5] [5, 0, 1, 2, 3, 4, 6, 7, 8, 9] rfl rfl (by decide) (by decide) rfl (by decide) ?_
  refine J_aload_n X d_Mod_outer_37 rfl 1 rfl ?_
  refine J_iload X d_Mod_outer_38 0 rfl ?_
  obtain ⟨r15, R_values_16, R_valueKinds_17, R_valueNumbers_18, R_from_19, R_length_20, R_given_21, q22, h⟩ := wk_b7 h
  refine J_afterI0 (ws' := [(ad 0, .inr (10, [.int (zI R_thrown), .ref (ad 1), .ref (ad 2), .ref (ad 3), .ref (ad 4), .ref (ad 5), .ref (ad 6), .int (zI R_used), .ref (ad 7), .int (zI R_many), .ref (ad 8), .ref (ad 9), .ref (ad 10), .ref (ad 11), .ref (ad 12), .ref (ad 13), .ref (ad 14), .ref (ad 15), .ref (ad 16), .int (zI R_values_16), .ref (ad 17), .int (zI R_textEnd), .ref (ad 18), .ref (ad 19), .ref (ad 20), .ref (ad 21), .int (zI R_dataEnd_9), .ref (ad 22), .int (zI R_rowEnd), .ref (ad 23), .ref (ad 24), .int (zI R_rowMany), .ref (ad 25), .ref (ad 26), .ref (ad 27), .ref (ad 28), .int (zI R_waiting), .int (zI R_mostWaiting), .int (zI R_answer), .int (zI R_steps), .int (zI R_memory), .int (zI R_maxSteps), .int (zI R_maxMemory), .int (zI R_fault), .int (zI R_result), .int (zI R_now), .int (zI R_nowRow), .int (zI R_come), .ref (ad 29), .ref (ad 30), .int (zI R_puts), .ref (ad 31)])), (ad 8, .inl (cI, 3700, .inl (zA R_valueKinds_17))), (ad 9, .inl (cL, 3700, .inr (.inl (zB R_valueNumbers_18)))), (ad 10, .inl (cI, 3700, .inl (zA R_from_19))), (ad 11, .inl (cI, 3700, .inl (zA R_length_20))), (ad 14, .inl (cI, 3700, .inl (zA R_given_21))), (ad 18, .inl (cI, 5000, .inl (zA R_forms_10))), (ad 19, .inl (cL, 5000, .inr (.inl (zB R_tags_11)))), (ad 20, .inl (cI, 5000, .inl (zA R_counts_12))), (ad 21, .inl (cI, 5000, .inl (zA R_textsAt_13)))]) X (jrunV X (c_Mod_makeData (ad := ad) q22) jF0_k (fun _ _ _ _ => trivial) (jgV own_Mod_outer (by decide +kernel)) rfl rfl rfl pd_Mod_makeData (by decide) [0, 1, 2, 3, 4, 5] rfl (by decide) 0 10 rfl rfl rfl rfl (Nat.le_of_ble_eq_true rfl) d_Mod_outer_40 (by decide)) [0, 1, 2, 3, 4, 5] [6, 7, 8, 9] [4, 5, 6, 7, 8, 9, 0, 1, 2, 3] rfl rfl (by decide) (by decide) rfl (by decide) ?_
  cases h
  exact J_ret E ⟨_, rfl, rfl⟩ d_Mod_outer_43 (Nat.le_refl _) (Nat.le_refl _) rfl

