theorem d_Math_floorDiv_0 : decode b_Math_floorDiv 0 = .ok (.lload_n 0, 1) := by decide +kernel
theorem d_Math_floorDiv_1 : decode b_Math_floorDiv 1 = .ok (.lload_n 2, 1) := by decide +kernel
theorem d_Math_floorDiv_2 : decode b_Math_floorDiv 2 = .ok (.ldiv, 1) := by decide +kernel
theorem d_Math_floorDiv_3 : decode b_Math_floorDiv 3 = .ok (.lstore 4, 2) := by decide +kernel
theorem d_Math_floorDiv_5 : decode b_Math_floorDiv 5 = .ok (.lload_n 0, 1) := by decide +kernel
theorem d_Math_floorDiv_6 : decode b_Math_floorDiv 6 = .ok (.lload_n 2, 1) := by decide +kernel
theorem d_Math_floorDiv_7 : decode b_Math_floorDiv 7 = .ok (.lxor, 1) := by decide +kernel
theorem d_Math_floorDiv_8 : decode b_Math_floorDiv 8 = .ok (.lconst 0, 1) := by decide +kernel
theorem d_Math_floorDiv_9 : decode b_Math_floorDiv 9 = .ok (.lcmp, 1) := by decide +kernel
theorem d_Math_floorDiv_10 : decode b_Math_floorDiv 10 = .ok (.ifCond .ge 17, 3) := by decide +kernel
theorem d_Math_floorDiv_13 : decode b_Math_floorDiv 13 = .ok (.lload 4, 2) := by decide +kernel
theorem d_Math_floorDiv_15 : decode b_Math_floorDiv 15 = .ok (.lload_n 2, 1) := by decide +kernel
theorem d_Math_floorDiv_16 : decode b_Math_floorDiv 16 = .ok (.lmul, 1) := by decide +kernel
theorem d_Math_floorDiv_17 : decode b_Math_floorDiv 17 = .ok (.lload_n 0, 1) := by decide +kernel
theorem d_Math_floorDiv_18 : decode b_Math_floorDiv 18 = .ok (.lcmp, 1) := by decide +kernel
theorem d_Math_floorDiv_19 : decode b_Math_floorDiv 19 = .ok (.ifCond .eq 8, 3) := by decide +kernel
theorem d_Math_floorDiv_22 : decode b_Math_floorDiv 22 = .ok (.lload 4, 2) := by decide +kernel
theorem d_Math_floorDiv_24 : decode b_Math_floorDiv 24 = .ok (.lconst 1, 1) := by decide +kernel
theorem d_Math_floorDiv_25 : decode b_Math_floorDiv 25 = .ok (.lsub, 1) := by decide +kernel
theorem d_Math_floorDiv_26 : decode b_Math_floorDiv 26 = .ok (.lreturn, 1) := by decide +kernel
theorem d_Math_floorDiv_27 : decode b_Math_floorDiv 27 = .ok (.lload 4, 2) := by decide +kernel
theorem d_Math_floorDiv_29 : decode b_Math_floorDiv 29 = .ok (.lreturn, 1) := by decide +kernel
def f_Math_floorDiv (p0 : Int) (p2 : Int) : Option (Int) :=
  if jdl p0 p2 = true then (
   if jl2 (j_lxor p0 p2) 0 = true then (if 0 ≤ (j_lxor p0 p2) then (
    some (Int.tdiv p0 p2)) else (
    if jl2 ((Int.tdiv p0 p2) * p2) p0 = true then (if ((Int.tdiv p0 p2) * p2) = p0 then (
     some (Int.tdiv p0 p2)) else (
     some ((Int.tdiv p0 p2) - 1))) else none)) else none) else none
set_option maxHeartbeats 4000000 in
set_option maxRecDepth 100000 in
theorem c_Math_floorDiv {l : Launch} {D : va_G} {cI cL cB : ClassId} {p0 : Int} {p2 : Int} {out : Int} (h : f_Math_floorDiv p0 p2 = some out) : CT jF0 true l D [(cI, .int), (cL, .long), (cB, .byte)] y_Math_floorDiv w_Math_floorDiv ({ frames := 0, cells := 0, slots := 0, locals := 0 } : Room) [.long (zL p0), .long (zL p2)] [] (some (.long (zL out))) [] 0 0 := by
  refine CT_of_J (cc := b_Math_floorDiv) (maxL := 6) (ret := (some .long)) jF0_k (by decide +kernel) rfl (Nat.le_of_ble_eq_true rfl) ?_
  intro K hKl hKD X E
  subst hKl; subst hKD
  unfold f_Math_floorDiv at h
  refine J_lload_n X d_Math_floorDiv_0 rfl 0 rfl ?_
  refine J_lload_n X d_Math_floorDiv_1 rfl 1 rfl ?_
  obtain ⟨g1, h⟩ := wk_g h
  refine J_ldiv X g1 d_Math_floorDiv_2 ?_
  refine J_lstore (lv' := [(4, .long (zL (Int.tdiv p0 p2))), (0, .long (zL p0)), (2, .long (zL p2))]) X d_Math_floorDiv_3 (by decide) rfl ?_
  refine J_lload_n X d_Math_floorDiv_5 rfl 1 rfl ?_
  refine J_lload_n X d_Math_floorDiv_6 rfl 2 rfl ?_
  refine J_lxor X d_Math_floorDiv_7 ?_
  refine J_lconst (v := 0) X d_Math_floorDiv_8 (by decide) ?_
  refine J_lc_ge (tgt := 27) X d_Math_floorDiv_9 d_Math_floorDiv_10 (by decide) h (fun c2 h => ?_) (fun c2 h => ?_)
  · refine J_lload X d_Math_floorDiv_27 0 rfl ?_
    cases h
    exact J_ret E rfl d_Math_floorDiv_29 (Nat.le_refl _) (Nat.le_refl _) rfl
  · refine J_lload X d_Math_floorDiv_13 0 rfl ?_
    refine J_lload_n X d_Math_floorDiv_15 rfl 2 rfl ?_
    refine J_lmul X d_Math_floorDiv_16 ?_
    refine J_lload_n X d_Math_floorDiv_17 rfl 1 rfl ?_
    refine J_lc_eq (tgt := 27) X d_Math_floorDiv_18 d_Math_floorDiv_19 (by decide) h (fun c3 h => ?_) (fun c3 h => ?_)
    · refine J_lload X d_Math_floorDiv_27 0 rfl ?_
      cases h
      exact J_ret E rfl d_Math_floorDiv_29 (Nat.le_refl _) (Nat.le_refl _) rfl
    · refine J_lload X d_Math_floorDiv_22 0 rfl ?_
      refine J_lconst (v := 1) X d_Math_floorDiv_24 (by decide) ?_
      refine J_lsub X d_Math_floorDiv_25 ?_
      cases h
      exact J_ret E rfl d_Math_floorDiv_26 (Nat.le_refl _) (Nat.le_refl _) rfl

theorem d_Math_floorMod_0 : decode b_Math_floorMod 0 = .ok (.lload_n 0, 1) := by decide +kernel
theorem d_Math_floorMod_1 : decode b_Math_floorMod 1 = .ok (.lload_n 2, 1) := by decide +kernel
theorem d_Math_floorMod_2 : decode b_Math_floorMod 2 = .ok (.lrem, 1) := by decide +kernel
theorem d_Math_floorMod_3 : decode b_Math_floorMod 3 = .ok (.lstore 4, 2) := by decide +kernel
theorem d_Math_floorMod_5 : decode b_Math_floorMod 5 = .ok (.lload_n 0, 1) := by decide +kernel
theorem d_Math_floorMod_6 : decode b_Math_floorMod 6 = .ok (.lload_n 2, 1) := by decide +kernel
theorem d_Math_floorMod_7 : decode b_Math_floorMod 7 = .ok (.lxor, 1) := by decide +kernel
theorem d_Math_floorMod_8 : decode b_Math_floorMod 8 = .ok (.lconst 0, 1) := by decide +kernel
theorem d_Math_floorMod_9 : decode b_Math_floorMod 9 = .ok (.lcmp, 1) := by decide +kernel
theorem d_Math_floorMod_10 : decode b_Math_floorMod 10 = .ok (.ifCond .ge 15, 3) := by decide +kernel
theorem d_Math_floorMod_13 : decode b_Math_floorMod 13 = .ok (.lload 4, 2) := by decide +kernel
theorem d_Math_floorMod_15 : decode b_Math_floorMod 15 = .ok (.lconst 0, 1) := by decide +kernel
theorem d_Math_floorMod_16 : decode b_Math_floorMod 16 = .ok (.lcmp, 1) := by decide +kernel
theorem d_Math_floorMod_17 : decode b_Math_floorMod 17 = .ok (.ifCond .eq 8, 3) := by decide +kernel
theorem d_Math_floorMod_20 : decode b_Math_floorMod 20 = .ok (.lload 4, 2) := by decide +kernel
theorem d_Math_floorMod_22 : decode b_Math_floorMod 22 = .ok (.lload_n 2, 1) := by decide +kernel
theorem d_Math_floorMod_23 : decode b_Math_floorMod 23 = .ok (.ladd, 1) := by decide +kernel
theorem d_Math_floorMod_24 : decode b_Math_floorMod 24 = .ok (.lreturn, 1) := by decide +kernel
theorem d_Math_floorMod_25 : decode b_Math_floorMod 25 = .ok (.lload 4, 2) := by decide +kernel
theorem d_Math_floorMod_27 : decode b_Math_floorMod 27 = .ok (.lreturn, 1) := by decide +kernel
def f_Math_floorMod (p0 : Int) (p2 : Int) : Option (Int) :=
  if jdl p0 p2 = true then (
   if jl2 (j_lxor p0 p2) 0 = true then (if 0 ≤ (j_lxor p0 p2) then (
    some (p0 - (Int.tdiv p0 p2) * p2)) else (
    if jl2 (p0 - (Int.tdiv p0 p2) * p2) 0 = true then (if (p0 - (Int.tdiv p0 p2) * p2) = 0 then (
     some (p0 - (Int.tdiv p0 p2) * p2)) else (
     some ((p0 - (Int.tdiv p0 p2) * p2) + p2))) else none)) else none) else none
set_option maxHeartbeats 4000000 in
set_option maxRecDepth 100000 in
theorem c_Math_floorMod {l : Launch} {D : va_G} {cI cL cB : ClassId} {p0 : Int} {p2 : Int} {out : Int} (h : f_Math_floorMod p0 p2 = some out) : CT jF0 true l D [(cI, .int), (cL, .long), (cB, .byte)] y_Math_floorMod w_Math_floorMod ({ frames := 0, cells := 0, slots := 0, locals := 0 } : Room) [.long (zL p0), .long (zL p2)] [] (some (.long (zL out))) [] 0 0 := by
  refine CT_of_J (cc := b_Math_floorMod) (maxL := 6) (ret := (some .long)) jF0_k (by decide +kernel) rfl (Nat.le_of_ble_eq_true rfl) ?_
  intro K hKl hKD X E
  subst hKl; subst hKD
  unfold f_Math_floorMod at h
  refine J_lload_n X d_Math_floorMod_0 rfl 0 rfl ?_
  refine J_lload_n X d_Math_floorMod_1 rfl 1 rfl ?_
  obtain ⟨g1, h⟩ := wk_g h
  refine J_lrem X g1 d_Math_floorMod_2 ?_
  refine J_lstore (lv' := [(4, .long (zL (p0 - (Int.tdiv p0 p2) * p2))), (0, .long (zL p0)), (2, .long (zL p2))]) X d_Math_floorMod_3 (by decide) rfl ?_
  refine J_lload_n X d_Math_floorMod_5 rfl 1 rfl ?_
  refine J_lload_n X d_Math_floorMod_6 rfl 2 rfl ?_
  refine J_lxor X d_Math_floorMod_7 ?_
  refine J_lconst (v := 0) X d_Math_floorMod_8 (by decide) ?_
  refine J_lc_ge (tgt := 25) X d_Math_floorMod_9 d_Math_floorMod_10 (by decide) h (fun c2 h => ?_) (fun c2 h => ?_)
  · refine J_lload X d_Math_floorMod_25 0 rfl ?_
    cases h
    exact J_ret E rfl d_Math_floorMod_27 (Nat.le_refl _) (Nat.le_refl _) rfl
  · refine J_lload X d_Math_floorMod_13 0 rfl ?_
    refine J_lconst (v := 0) X d_Math_floorMod_15 (by decide) ?_
    refine J_lc_eq (tgt := 25) X d_Math_floorMod_16 d_Math_floorMod_17 (by decide) h (fun c3 h => ?_) (fun c3 h => ?_)
    · refine J_lload X d_Math_floorMod_25 0 rfl ?_
      cases h
      exact J_ret E rfl d_Math_floorMod_27 (Nat.le_refl _) (Nat.le_refl _) rfl
    · refine J_lload X d_Math_floorMod_20 0 rfl ?_
      refine J_lload_n X d_Math_floorMod_22 rfl 2 rfl ?_
      refine J_ladd X d_Math_floorMod_23 ?_
      cases h
      exact J_ret E rfl d_Math_floorMod_24 (Nat.le_refl _) (Nat.le_refl _) rfl
