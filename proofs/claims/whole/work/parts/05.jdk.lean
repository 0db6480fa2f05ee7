theorem d_Math_floorDiv_0 : decode b_Math_floorDiv 0 = .ok (.lload_n 0, 1) := by decide +kernel
theorem d_Math_floorDiv_1 : decode b_Math_floorDiv 1 = .ok (.lload_n 2, 1) := by decide +kernel
theorem d_Math_floorDiv_2 : decode b_Math_floorDiv 2 = .ok (.ldiv, 1) := by decide +kernel
theorem d_Math_floorDiv_3 : decode b_Math_floorDiv 3 = .ok (.lstore 4, 2) := by decide +kernel
theorem d_Math_floorDiv_5 : decode b_Math_floorDiv 5 = .ok (.lload_n 0, 1) := by decide +kernel
theorem d_Math_floorDiv_6 : decode b_Math_floorDiv 6 = .ok (.lload_n 2, 1) := by decide +kernel
theorem d_Math_floorDiv_7 : decode b_Math_floorDiv 7 = .ok (.lxor, 1) := by decide +kernel
theorem d_Math_floorDiv_8 : decode b_Math_floorDiv 8 = .ok (.lconst 0, 1) := by decide +kernel
theorem d_Math_floorDiv_9 : decode b_Math_floorDiv 9 = .ok (.lcmp, 1) := by decide +kernel
theorem d_Math_floorDiv_10 : decode b_Math_floorDiv 10 = .ok (.ifCond .ge 17, 3) := by decide +kernel
theorem d_Math_floorDiv_13 : decode b_Math_floorDiv 13 = .ok (.lload 4, 2) := by decide +kernel
theorem d_Math_floorDiv_15 : decode b_Math_floorDiv 15 = .ok (.lload_n 2, 1) := by decide +kernel
theorem d_Math_floorDiv_16 : decode b_Math_floorDiv 16 = .ok (.lmul, 1) := by decide +kernel
theorem d_Math_floorDiv_17 : decode b_Math_floorDiv 17 = .ok (.lload_n 0, 1) := by decide +kernel
theorem d_Math_floorDiv_18 : decode b_Math_floorDiv 18 = .ok (.lcmp, 1) := by decide +kernel
theorem d_Math_floorDiv_19 : decode b_Math_floorDiv 19 = .ok (.ifCond .eq 8, 3) := by decide +kernel
theorem d_Math_floorDiv_22 : decode b_Math_floorDiv 22 = .ok (.lload 4, 2) := by decide +kernel
theorem d_Math_floorDiv_24 : decode b_Math_floorDiv 24 = .ok (.lconst 1, 1) := by decide +kernel
theorem d_Math_floorDiv_25 : decode b_Math_floorDiv 25 = .ok (.lsub, 1) := by decide +kernel
theorem d_Math_floorDiv_26 : decode b_Math_floorDiv 26 = .ok (.lreturn, 1) := by decide +kernel
theorem d_Math_floorDiv_27 : decode b_Math_floorDiv 27 = .ok (.lload 4, 2) := by decide +kernel
theorem d_Math_floorDiv_29 : decode b_Math_floorDiv 29 = .ok (.lreturn, 1) := by decide +kernel
def f_Math_floorDiv (p0 : Int) (p2 : Int) : Option (Int) :=
  if jdl p0 p2 = true then (
   if jl2 (j_lxor p0 p2) 0 = true then (if 0 ≤ (j_lxor p0 p2) then (
    some (Int.tdiv p0 p2)) else (
    if jl2 ((Int.tdiv p0 p2) * p2) p0 = true then (if ((Int.tdiv p0 p2) * p2) = p0 then (
     some (Int.tdiv p0 p2)) else (
     some ((Int.tdiv p0 p2) - 1))) else none)) else none) else none
set_option maxHeartbeats 4000000 in
set_option maxRecDepth 100000 in
theorem c_Math_floorDiv {l : Launch} {D : va_G} {cI cL cB : ClassId} {p0 : Int} {p2 : Int} {out : Int} (h : f_Math_floorDiv p0 p2 = some out) : CT jF0 true l D [(cI, .int), (cL, .long), (cB, .byte)] y_Math_floorDiv w_Math_floorDiv ({ frames := 0, cells := 0, slots := 0, locals := 0 } : Room) [.long (zL p0), .long (zL p2)] [] (some (.long (zL out))) [] 0 0 := by
  refine CT_of_J (cc := b_Math_floorDiv) (maxL := 6) (ret := (some .long)) jF0_k (by decide +kernel) rfl (Nat.le_of_ble_eq_true rfl) ?_
  intro K hKl hKD X E
  subst hKl; subst hKD
  unfold f_Math_floorDiv at h
  refine J_lload_n X d_Math_floorDiv_0 rfl 0 rfl ?_
  refine J_lload_n X d_Math_floorDiv_1 rfl 1 rfl ?_
  obtain ⟨g1, h⟩ := wk_g h
  refine J_ldiv X g1 d_Math_floorDiv_2 ?_
  refine J_lstore (lv' := [(4, .long (zL (Int.tdiv p0 p2))), (0, .long (zL p0)), (2, .long (zL p2))]) X d_Math_floorDiv_3 (by decide) rfl ?_
  refine J_lload_n X d_Math_floorDiv_5 rfl 1 rfl ?_
  refine J_lload_n X d_Math_floorDiv_6 rfl 2 rfl ?_
  refine J_lxor X d_Math_floorDiv_7 ?_
  refine J_lconst (v := 0) X d_Math_floorDiv_8 (by decide) ?_
  refine J_lc_ge (tgt := 27) X d_Math_floorDiv_9 d_Math_floorDiv_10 (by decide) h (fun c2 h => ?_) (fun c2 h => ?_)
  · refine J_lload X d_Math_floorDiv_27 0 rfl ?_
    cases h
    exact J_ret E rfl d_Math_floorDiv_29 (Nat.le_refl _) (Nat.le_refl _) rfl
  · refine J_lload X d_Math_floorDiv_13 0 rfl ?_
    refine J_lload_n X d_Math_floorDiv_15 rfl 2 rfl ?_
    refine J_lmul X d_Math_floorDiv_16 ?_
    refine J_lload_n X d_Math_floorDiv_17 rfl 1 rfl ?_
    refine J_lc_eq (tgt := 27) X d_Math_floorDiv_18 d_Math_floorDiv_19 (by decide) h (fun c3 h => ?_) (fun c3 h => ?_)
    · refine J_lload X d_Math_floorDiv_27 0 rfl ?_
      cases h
      exact J_ret E rfl d_Math_floorDiv_29 (Nat.le_refl _) (Nat.le_refl _) rfl
    · refine J_lload X d_Math_floorDiv_22 0 rfl ?_
      refine J_lconst (v := 1) X d_Math_floorDiv_24 (by decide) ?_
      refine J_lsub X d_Math_floorDiv_25 ?_
      cases h
      exact J_ret E rfl d_Math_floorDiv_26 (Nat.le_refl _) (Nat.le_refl _) rfl

theorem d_Math_floorMod_0 : decode b_Math_floorMod 0 = .ok (.lload_n 0, 1) := by decide +kernel
theorem d_Math_floorMod_1 : decode b_Math_floorMod 1 = .ok (.lload_n 2, 1) := by decide +kernel
theorem d_Math_floorMod_2 : decode b_Math_floorMod 2 = .ok (.lrem, 1) := by decide +kernel
theorem d_Math_floorMod_3 : decode b_Math_floorMod 3 = .ok (.lstore 4, 2) := by decide +kernel
theorem d_Math_floorMod_5 : decode b_Math_floorMod 5 = .ok (.lload_n 0, 1) := by decide +kernel
theorem d_Math_floorMod_6 : decode b_Math_floorMod 6 = .ok (.lload_n 2, 1) := by decide +kernel
theorem d_Math_floorMod_7 : decode b_Math_floorMod 7 = .ok (.lxor, 1) := by decide +kernel
theorem d_Math_floorMod_8 : decode b_Math_floorMod 8 = .ok (.lconst 0, 1) := by decide +kernel
theorem d_Math_floorMod_9 : decode b_Math_floorMod 9 = .ok (.lcmp, 1) := by decide +kernel
theorem d_Math_floorMod_10 : decode b_Math_floorMod 10 = .ok (.ifCond .ge 15, 3) := by decide +kernel
theorem d_Math_floorMod_13 : decode b_Math_floorMod 13 = .ok (.lload 4, 2) := by decide +kernel
theorem d_Math_floorMod_15 : decode b_Math_floorMod 15 = .ok (.lconst 0, 1) := by decide +kernel
theorem d_Math_floorMod_16 : decode b_Math_floorMod 16 = .ok (.lcmp, 1) := by decide +kernel
theorem d_Math_floorMod_17 : decode b_Math_floorMod 17 = .ok (.ifCond .eq 8, 3) := by decide +kernel
theorem d_Math_floorMod_20 : decode b_Math_floorMod 20 = .ok (.lload 4, 2) := by decide +kernel
theorem d_Math_floorMod_22 : decode b_Math_floorMod 22 = .ok (.lload_n 2, 1) := by decide +kernel
theorem d_Math_floorMod_23 : decode b_Math_floorMod 23 = .ok (.ladd, 1) := by decide +kernel
theorem d_Math_floorMod_24 : decode b_Math_floorMod 24 = .ok (.lreturn, 1) := by decide +kernel
theorem d_Math_floorMod_25 : decode b_Math_floorMod 25 = .ok (.lload 4, 2) := by decide +kernel
theorem d_Math_floorMod_27 : decode b_Math_floorMod 27 = .ok (.lreturn, 1) := by decide +kernel
def f_Math_floorMod (p0 : Int) (p2 : Int) : Option (Int) :=
  if jdl p0 p2 = true then (
   if jl2 (j_lxor p0 p2) 0 = true then (if 0 ≤ (j_lxor p0 p2) then (
    some (p0 - (Int.tdiv p0 p2) * p2)) else (
    if jl2 (p0 - (Int.tdiv p0 p2) * p2) 0 = true then (if (p0 - (Int.tdiv p0 p2) * p2) = 0 then (
     some (p0 - (Int.tdiv p0 p2) * p2)) else (
     some ((p0 - (Int.tdiv p0 p2) * p2) + p2))) else none)) else none) else none
set_option maxHeartbeats 4000000 in
set_option maxRecDepth 100000 in
theorem c_Math_floorMod {l : Launch} {D : va_G} {cI cL cB : ClassId} {p0 : Int} {p2 : Int} {out : Int} (h : f_Math_floorMod p0 p2 = some out) : CT jF0 true l D [(cI, .int), (cL, .long), (cB, .byte)] y_Math_floorMod w_Math_floorMod ({ frames := 0, cells := 0, slots := 0, locals := 0 } : Room) [.long (zL p0), .long (zL p2)] [] (some (.long (zL out))) [] 0 0 := by
  refine CT_of_J (cc := b_Math_floorMod) (maxL := 6) (ret := (some .long)) jF0_k (by decide +kernel) rfl (Nat.le_of_ble_eq_true rfl) ?_
  intro K hKl hKD X E
  subst hKl; subst hKD
  unfold f_Math_floorMod at h
  refine J_lload_n X d_Math_floorMod_0 rfl 0 rfl ?_
  refine J_lload_n X d_Math_floorMod_1 rfl 1 rfl ?_
  obtain ⟨g1, h⟩ := wk_g h
  refine J_lrem X g1 d_Math_floorMod_2 ?_
  refine J_lstore (lv' := [(4, .long (zL (p0 - (Int.tdiv p0 p2) * p2))), (0, .long (zL p0)), (2, .long (zL p2))]) X d_Math_floorMod_3 (by decide) rfl ?_
  refine J_lload_n X d_Math_floorMod_5 rfl 1 rfl ?_
  refine J_lload_n X d_Math_floorMod_6 rfl 2 rfl ?_
  refine J_lxor X d_Math_floorMod_7 ?_
  refine J_lconst (v := 0) X d_Math_floorMod_8 (by decide) ?_
  refine J_lc_ge (tgt := 25) X d_Math_floorMod_9 d_Math_floorMod_10 (by decide) h (fun c2 h => ?_) (fun c2 h => ?_)
  · refine J_lload X d_Math_floorMod_25 0 rfl ?_
    cases h
    exact J_ret E rfl d_Math_floorMod_27 (Nat.le_refl _) (Nat.le_refl _) rfl
  · refine J_lload X d_Math_floorMod_13 0 rfl ?_
    refine J_lconst (v := 0) X d_Math_floorMod_15 (by decide) ?_
    refine J_lc_eq (tgt := 25) X d_Math_floorMod_16 d_Math_floorMod_17 (by decide) h (fun c3 h => ?_) (fun c3 h => ?_)
    · refine J_lload X d_Math_floorMod_25 0 rfl ?_
      cases h
      exact J_ret E rfl d_Math_floorMod_27 (Nat.le_refl _) (Nat.le_refl _) rfl
    · refine J_lload X d_Math_floorMod_20 0 rfl ?_
      refine J_lload_n X d_Math_floorMod_22 rfl 2 rfl ?_
      refine J_ladd X d_Math_floorMod_23 ?_
      cases h
      exact J_ret E rfl d_Math_floorMod_24 (Nat.le_refl _) (Nat.le_refl _) rfl

theorem d_String_coder_0 : decode b_String_coder 0 = .ok (.getstatic 38, 3) := by decide +kernel
theorem d_String_coder_3 : decode b_String_coder 3 = .ok (.ifCond .eq 10, 3) := by decide +kernel
theorem d_String_coder_6 : decode b_String_coder 6 = .ok (.aload_n 0, 1) := by decide +kernel
theorem d_String_coder_7 : decode b_String_coder 7 = .ok (.getfield 15, 3) := by decide +kernel
theorem d_String_coder_10 : decode b_String_coder 10 = .ok (.goto 4, 3) := by decide +kernel
theorem d_String_coder_13 : decode b_String_coder 13 = .ok (.iconst 1, 1) := by decide +kernel
theorem d_String_coder_14 : decode b_String_coder 14 = .ok (.ireturn, 1) := by decide +kernel
def f_String_coder (s0 : Nat) : Option (Int) :=
  if s0 < 25 then (
   some 0) else none
set_option maxHeartbeats 4000000 in
set_option maxRecDepth 100000 in
theorem c_String_coder {l : Launch} {D : va_G} {cI cL cB : ClassId} {adK adV : Nat → Nat} {ro : Option Nat} {s0 : Nat} {out : Int} (h : f_String_coder s0 = some out) : CT (jFs adK adV ro) true l D [(cI, .int), (cL, .long), (cB, .byte)] y_String_coder w_String_coder ({ frames := 0, cells := 0, slots := 0, locals := 0 } : Room) [.ref (adK s0)] [] (some (.int (zI out))) [] 0 0 := by
  refine CT_of_J (cc := b_String_coder) (maxL := 1) (ret := (some .byte)) jFs_k (plainFor_of_name (by decide)) rfl (Nat.le_of_ble_eq_true rfl) ?_
  intro K hKl hKD X E
  subst hKl; subst hKD
  unfold f_String_coder at h
  refine J_gets1 X (j_m own_String_coder (by decide +kernel)) d_String_coder_0 ?_
  refine J_if_eq (pa := none) (pb := some ()) (o := ()) (tgt := 13) X d_String_coder_3 (by decide) (by decide) (fun _ h => by cases h) (fun _ _ => ?_)
  refine J_aload_n X d_String_coder_6 rfl 0 rfl ?_
  obtain ⟨g1, h⟩ := wk_g h
  refine J_scoder X s0 g1 (j_m own_String_coder (by decide +kernel)) d_String_coder_7 ?_
  refine J_goto (tgt := 14) X d_String_coder_10 (by decide) ?_
  cases h
  exact J_ret E ⟨_, rfl, rfl⟩ d_String_coder_14 (Nat.le_refl _) (Nat.le_refl _) rfl

theorem d_String_length_0 : decode b_String_length 0 = .ok (.aload_n 0, 1) := by decide +kernel
theorem d_String_length_1 : decode b_String_length 1 = .ok (.getfield 9, 3) := by decide +kernel
theorem d_String_length_4 : decode b_String_length 4 = .ok (.arraylength, 1) := by decide +kernel
theorem d_String_length_5 : decode b_String_length 5 = .ok (.aload_n 0, 1) := by decide +kernel
theorem d_String_length_6 : decode b_String_length 6 = .ok (.invokevirtual 335, 3) := by decide +kernel
theorem d_String_length_9 : decode b_String_length 9 = .ok (.ishr, 1) := by decide +kernel
theorem d_String_length_10 : decode b_String_length 10 = .ok (.ireturn, 1) := by decide +kernel
def f_String_length (s0 : Nat) : Option (Int) :=
  if s0 < 25 then (
   if s0 < 25 then (
    if s0 < 25 then (
     Option.bind (f_String_coder s0) (fun r3 =>
      some (j_ishr (lenZ s0) r3))) else none) else none) else none
set_option maxHeartbeats 4000000 in
set_option maxRecDepth 100000 in
theorem c_String_length {l : Launch} {D : va_G} {cI cL cB : ClassId} {adK adV : Nat → Nat} {ro : Option Nat} {s0 : Nat} {out : Int} (h : f_String_length s0 = some out) : CT (jFs adK adV ro) true l D [(cI, .int), (cL, .long), (cB, .byte)] y_String_length w_String_length ({ frames := 1, cells := 0, slots := 0, locals := 20 } : Room) [.ref (adK s0)] [] (some (.int (zI out))) [] 0 0 := by
  refine CT_of_J (cc := b_String_length) (maxL := 1) (ret := (some .int)) jFs_k (plainFor_of_name (by decide)) rfl (Nat.le_of_ble_eq_true rfl) ?_
  intro K hKl hKD X E
  subst hKl; subst hKD
  unfold f_String_length at h
  refine J_aload_n X d_String_length_0 rfl 0 rfl ?_
  obtain ⟨g1, h⟩ := wk_g h
  refine J_svalue X s0 g1 (j_m own_String_length (by decide +kernel)) d_String_length_1 ?_
  obtain ⟨g2, h⟩ := wk_g h
  refine J_slen X s0 g2 d_String_length_4 ?_
  refine J_aload_n X d_String_length_5 rfl 0 rfl ?_
  obtain ⟨g5, h⟩ := wk_g h
  obtain ⟨r3, q4, h⟩ := wk_b h
  refine J_afterP (jrunVs X (c_String_coder q4) jFs_k (fun _ _ _ h => h) (jgV own_String_length (by decide +kernel)) rfl rfl rfl pd_String_coder (by decide) s0 g5 [] rfl (by decide) rfl rfl (Nat.le_of_ble_eq_true rfl) d_String_length_6 (by decide)) ?_
  refine J_ishr X d_String_length_9 ?_
  cases h
  exact J_ret E ⟨_, rfl, rfl⟩ d_String_length_10 (Nat.le_refl _) (Nat.le_refl _) rfl

theorem d_String_isLatin1_0 : decode b_String_isLatin1 0 = .ok (.getstatic 38, 3) := by decide +kernel
theorem d_String_isLatin1_3 : decode b_String_isLatin1 3 = .ok (.ifCond .eq 14, 3) := by decide +kernel
theorem d_String_isLatin1_6 : decode b_String_isLatin1 6 = .ok (.aload_n 0, 1) := by decide +kernel
theorem d_String_isLatin1_7 : decode b_String_isLatin1 7 = .ok (.getfield 15, 3) := by decide +kernel
theorem d_String_isLatin1_10 : decode b_String_isLatin1 10 = .ok (.ifCond .ne 7, 3) := by decide +kernel
theorem d_String_isLatin1_13 : decode b_String_isLatin1 13 = .ok (.iconst 1, 1) := by decide +kernel
theorem d_String_isLatin1_14 : decode b_String_isLatin1 14 = .ok (.goto 4, 3) := by decide +kernel
theorem d_String_isLatin1_17 : decode b_String_isLatin1 17 = .ok (.iconst 0, 1) := by decide +kernel
theorem d_String_isLatin1_18 : decode b_String_isLatin1 18 = .ok (.ireturn, 1) := by decide +kernel
def f_String_isLatin1 (s0 : Nat) : Option (Int) :=
  if s0 < 25 then (
   some 1) else none
set_option maxHeartbeats 4000000 in
set_option maxRecDepth 100000 in
theorem c_String_isLatin1 {l : Launch} {D : va_G} {cI cL cB : ClassId} {adK adV : Nat → Nat} {ro : Option Nat} {s0 : Nat} {out : Int} (h : f_String_isLatin1 s0 = some out) : CT (jFs adK adV ro) true l D [(cI, .int), (cL, .long), (cB, .byte)] y_String_isLatin1 w_String_isLatin1 ({ frames := 0, cells := 0, slots := 0, locals := 0 } : Room) [.ref (adK s0)] [] (some (.int (zI out))) [] 0 0 := by
  refine CT_of_J (cc := b_String_isLatin1) (maxL := 1) (ret := (some .boolean)) jFs_k (plainFor_of_name (by decide)) rfl (Nat.le_of_ble_eq_true rfl) ?_
  intro K hKl hKD X E
  subst hKl; subst hKD
  unfold f_String_isLatin1 at h
  refine J_gets1 X (j_m own_String_isLatin1 (by decide +kernel)) d_String_isLatin1_0 ?_
  refine J_if_eq (pa := none) (pb := some ()) (o := ()) (tgt := 17) X d_String_isLatin1_3 (by decide) (by decide) (fun _ h => by cases h) (fun _ _ => ?_)
  refine J_aload_n X d_String_isLatin1_6 rfl 0 rfl ?_
  obtain ⟨g1, h⟩ := wk_g h
  refine J_scoder X s0 g1 (j_m own_String_isLatin1 (by decide +kernel)) d_String_isLatin1_7 ?_
  refine J_if_ne (pa := some ()) (pb := none) (o := ()) (tgt := 17) X d_String_isLatin1_10 (by decide) (by decide) (fun _ h => by cases h) (fun _ _ => ?_)
  refine J_iconst X d_String_isLatin1_13 ?_
  refine J_goto (tgt := 18) X d_String_isLatin1_14 (by decide) ?_
  cases h
  exact J_ret E ⟨_, rfl, j_bool (Or.inr rfl)⟩ d_String_isLatin1_18 (Nat.le_refl _) (Nat.le_refl _) rfl

theorem d_Preconditions_checkIndex_0 : decode b_Preconditions_checkIndex 0 = .ok (.iload_n 0, 1) := by decide +kernel
theorem d_Preconditions_checkIndex_1 : decode b_Preconditions_checkIndex 1 = .ok (.ifCond .lt 8, 3) := by decide +kernel
theorem d_Preconditions_checkIndex_4 : decode b_Preconditions_checkIndex 4 = .ok (.iload_n 0, 1) := by decide +kernel
theorem d_Preconditions_checkIndex_5 : decode b_Preconditions_checkIndex 5 = .ok (.iload_n 1, 1) := by decide +kernel
theorem d_Preconditions_checkIndex_6 : decode b_Preconditions_checkIndex 6 = .ok (.if_icmp .lt 10, 3) := by decide +kernel
theorem d_Preconditions_checkIndex_9 : decode b_Preconditions_checkIndex 9 = .ok (.aload_n 2, 1) := by decide +kernel
theorem d_Preconditions_checkIndex_10 : decode b_Preconditions_checkIndex 10 = .ok (.iload_n 0, 1) := by decide +kernel
theorem d_Preconditions_checkIndex_11 : decode b_Preconditions_checkIndex 11 = .ok (.iload_n 1, 1) := by decide +kernel
theorem d_Preconditions_checkIndex_12 : decode b_Preconditions_checkIndex 12 = .ok (.invokestatic 95, 3) := by decide +kernel
theorem d_Preconditions_checkIndex_15 : decode b_Preconditions_checkIndex 15 = .ok (.athrow, 1) := by decide +kernel
theorem d_Preconditions_checkIndex_16 : decode b_Preconditions_checkIndex 16 = .ok (.iload_n 0, 1) := by decide +kernel
theorem d_Preconditions_checkIndex_17 : decode b_Preconditions_checkIndex 17 = .ok (.ireturn, 1) := by decide +kernel
def f_Preconditions_checkIndex (p0 : Int) (p1 : Int) : Option (Int) :=
  if rI p0 = true then (if p0 < 0 then (
   none) else (
   if jr2 p0 p1 = true then (if p0 < p1 then (
    some p0) else (
    none)) else none)) else none
set_option maxHeartbeats 4000000 in
set_option maxRecDepth 100000 in
theorem c_Preconditions_checkIndex {l : Launch} {D : va_G} {cI cL cB : ClassId} {adK adV : Nat → Nat} {ro : Option Nat} {p0 : Int} {p1 : Int} {out : Int} (h : f_Preconditions_checkIndex p0 p1 = some out) : CT (jFs adK adV ro) true l D [(cI, .int), (cL, .long), (cB, .byte)] y_Preconditions_checkIndex w_Preconditions_checkIndex ({ frames := 0, cells := 0, slots := 0, locals := 0 } : Room) [.int (zI p0), .int (zI p1), va_rf ro] [] (some (.int (zI out))) [] 0 0 := by
  refine CT_of_J (cc := b_Preconditions_checkIndex) (maxL := 3) (ret := (some .int)) jFs_k (plainFor_of_name (by decide)) rfl (by cases ro <;> exact Nat.le_of_ble_eq_true rfl) ?_
  intro K hKl hKD X E
  subst hKl; subst hKD
  unfold f_Preconditions_checkIndex at h
  refine J_iload_n X d_Preconditions_checkIndex_0 rfl 0 rfl ?_
  refine J_if_lt (tgt := 9) X d_Preconditions_checkIndex_1 (by decide) h (fun c1 h => ?_) (fun c1 h => ?_)
  · cases h
  · refine J_iload_n X d_Preconditions_checkIndex_4 rfl 0 rfl ?_
    refine J_iload_n X d_Preconditions_checkIndex_5 rfl 1 rfl ?_
    refine J_icmp_lt (tgt := 16) X d_Preconditions_checkIndex_6 (by decide) h (fun c2 h => ?_) (fun c2 h => ?_)
    · refine J_iload_n X d_Preconditions_checkIndex_16 rfl 0 rfl ?_
      cases h
      exact J_ret E ⟨_, rfl, rfl⟩ d_Preconditions_checkIndex_17 (Nat.le_refl _) (Nat.le_refl _) rfl
    · cases h

theorem d_String_checkIndex_0 : decode b_String_checkIndex 0 = .ok (.iload_n 0, 1) := by decide +kernel
theorem d_String_checkIndex_1 : decode b_String_checkIndex 1 = .ok (.iload_n 1, 1) := by decide +kernel
theorem d_String_checkIndex_2 : decode b_String_checkIndex 2 = .ok (.getstatic 1053, 3) := by decide +kernel
theorem d_String_checkIndex_5 : decode b_String_checkIndex 5 = .ok (.invokestatic 1059, 3) := by decide +kernel
theorem d_String_checkIndex_8 : decode b_String_checkIndex 8 = .ok (.pop, 1) := by decide +kernel
theorem d_String_checkIndex_9 : decode b_String_checkIndex 9 = .ok (.return_, 1) := by decide +kernel
def f_String_checkIndex (p0 : Int) (p1 : Int) : Option (Unit) :=
  Option.bind (f_Preconditions_checkIndex p0 p1) (fun r1 =>
   some ())
set_option maxHeartbeats 4000000 in
set_option maxRecDepth 100000 in
theorem c_String_checkIndex {l : Launch} {D : va_G} {cI cL cB : ClassId} {adK adV : Nat → Nat} {ro : Option Nat} {p0 : Int} {p1 : Int} {out : Unit} (h : f_String_checkIndex p0 p1 = some out) : CT (jFs adK adV ro) true l D [(cI, .int), (cL, .long), (cB, .byte)] y_String_checkIndex w_String_checkIndex ({ frames := 1, cells := 0, slots := 0, locals := 22 } : Room) [.int (zI p0), .int (zI p1)] [] none [] 0 0 := by
  refine CT_of_J (cc := b_String_checkIndex) (maxL := 2) (ret := none) jFs_k (plainFor_of_name (by decide)) rfl (Nat.le_of_ble_eq_true rfl) ?_
  intro K hKl hKD X E
  subst hKl; subst hKD
  unfold f_String_checkIndex at h
  refine J_iload_n X d_String_checkIndex_0 rfl 0 rfl ?_
  refine J_iload_n X d_String_checkIndex_1 rfl 1 rfl ?_
  refine J_gets2 X (j_m own_String_checkIndex (by decide +kernel)) d_String_checkIndex_2 ?_
  obtain ⟨r1, q2, h⟩ := wk_b h
  refine J_afterP (jrunS X (c_Preconditions_checkIndex q2) jFs_k (fun _ _ _ h => h) (jgS own_String_checkIndex (by decide +kernel)) rfl rfl rfl pd_Preconditions_checkIndex (by decide) [] rfl (by decide) rfl rfl (Nat.le_of_ble_eq_true rfl) d_String_checkIndex_5 (by decide)) ?_
  refine J_pop X d_String_checkIndex_8 rfl ?_
  cases h
  exact J_ret E rfl d_String_checkIndex_9 (Nat.le_refl _) (Nat.le_refl _) rfl

theorem d_StringLatin1_charAt_0 : decode b_StringLatin1_charAt 0 = .ok (.iload_n 1, 1) := by decide +kernel
theorem d_StringLatin1_charAt_1 : decode b_StringLatin1_charAt 1 = .ok (.aload_n 0, 1) := by decide +kernel
theorem d_StringLatin1_charAt_2 : decode b_StringLatin1_charAt 2 = .ok (.arraylength, 1) := by decide +kernel
theorem d_StringLatin1_charAt_3 : decode b_StringLatin1_charAt 3 = .ok (.invokestatic 9, 3) := by decide +kernel
theorem d_StringLatin1_charAt_6 : decode b_StringLatin1_charAt 6 = .ok (.aload_n 0, 1) := by decide +kernel
theorem d_StringLatin1_charAt_7 : decode b_StringLatin1_charAt 7 = .ok (.iload_n 1, 1) := by decide +kernel
theorem d_StringLatin1_charAt_8 : decode b_StringLatin1_charAt 8 = .ok (.baload, 1) := by decide +kernel
theorem d_StringLatin1_charAt_9 : decode b_StringLatin1_charAt 9 = .ok (.sipush 255, 3) := by decide +kernel
theorem d_StringLatin1_charAt_12 : decode b_StringLatin1_charAt 12 = .ok (.iand, 1) := by decide +kernel
theorem d_StringLatin1_charAt_13 : decode b_StringLatin1_charAt 13 = .ok (.i2c, 1) := by decide +kernel
theorem d_StringLatin1_charAt_14 : decode b_StringLatin1_charAt 14 = .ok (.ireturn, 1) := by decide +kernel
def f_StringLatin1_charAt (p0 : Nat) (p1 : Int) : Option (Int) :=
  if p0 < 25 then (
   Option.bind (f_String_checkIndex p1 (lenZ p0)) (fun _u =>
    if p0 < 25 then (
     if jix p1 (lenS.getD p0 0) = true then (
      if jch (j_i2c (j_and (bytZ p0 p1) 255)) = true then some (j_i2c (j_and (bytZ p0 p1) 255)) else none) else none) else none)) else none
set_option maxHeartbeats 4000000 in
set_option maxRecDepth 100000 in
theorem c_StringLatin1_charAt {l : Launch} {D : va_G} {cI cL cB : ClassId} {adK adV : Nat → Nat} {ro : Option Nat} {p0 : Nat} {p1 : Int} {out : Int} (h : f_StringLatin1_charAt p0 p1 = some out) : CT (jFs adK adV ro) true l D [(cI, .int), (cL, .long), (cB, .byte)] y_StringLatin1_charAt w_StringLatin1_charAt ({ frames := 2, cells := 0, slots := 0, locals := 43 } : Room) [.ref (adV p0), .int (zI p1)] [] (some (.int (zI out))) [] 0 0 := by
  refine CT_of_J (cc := b_StringLatin1_charAt) (maxL := 2) (ret := (some .char)) jFs_k (plainFor_of_name (by decide)) rfl (Nat.le_of_ble_eq_true rfl) ?_
  intro K hKl hKD X E
  subst hKl; subst hKD
  unfold f_StringLatin1_charAt at h
  refine J_iload_n X d_StringLatin1_charAt_0 rfl 1 rfl ?_
  refine J_aload_n X d_StringLatin1_charAt_1 rfl 0 rfl ?_
  obtain ⟨g1, h⟩ := wk_g h
  refine J_slen X p0 g1 d_StringLatin1_charAt_2 ?_
  obtain ⟨_u, q2, h⟩ := wk_b h
  refine J_afterP (jrunS X (c_String_checkIndex q2) jFs_k (fun _ _ _ h => h) (jgS own_StringLatin1_charAt (by decide +kernel)) rfl rfl rfl pd_String_checkIndex (by decide) [] rfl (by decide) rfl rfl (Nat.le_of_ble_eq_true rfl) d_StringLatin1_charAt_3 (by decide)) ?_
  refine J_aload_n X d_StringLatin1_charAt_6 rfl 0 rfl ?_
  refine J_iload_n X d_StringLatin1_charAt_7 rfl 1 rfl ?_
  obtain ⟨g3, h⟩ := wk_g h
  obtain ⟨g4, h⟩ := wk_g h
  refine J_sbyte X p0 g3 g4 d_StringLatin1_charAt_8 ?_
  refine J_sipush X d_StringLatin1_charAt_9 (by decide) ?_
  refine J_iand X d_StringLatin1_charAt_12 ?_
  refine J_i2c X d_StringLatin1_charAt_13 ?_
  obtain ⟨g5, h⟩ := wk_g h
  cases h
  exact J_ret E ⟨_, rfl, j_char g5⟩ d_StringLatin1_charAt_14 (Nat.le_refl _) (Nat.le_refl _) rfl

theorem d_String_charAt_0 : decode b_String_charAt 0 = .ok (.aload_n 0, 1) := by decide +kernel
theorem d_String_charAt_1 : decode b_String_charAt 1 = .ok (.invokevirtual 492, 3) := by decide +kernel
theorem d_String_charAt_4 : decode b_String_charAt 4 = .ok (.ifCond .eq 12, 3) := by decide +kernel
theorem d_String_charAt_7 : decode b_String_charAt 7 = .ok (.aload_n 0, 1) := by decide +kernel
theorem d_String_charAt_8 : decode b_String_charAt 8 = .ok (.getfield 9, 3) := by decide +kernel
theorem d_String_charAt_11 : decode b_String_charAt 11 = .ok (.iload_n 1, 1) := by decide +kernel
theorem d_String_charAt_12 : decode b_String_charAt 12 = .ok (.invokestatic 495, 3) := by decide +kernel
theorem d_String_charAt_15 : decode b_String_charAt 15 = .ok (.ireturn, 1) := by decide +kernel
theorem d_String_charAt_16 : decode b_String_charAt 16 = .ok (.aload_n 0, 1) := by decide +kernel
theorem d_String_charAt_17 : decode b_String_charAt 17 = .ok (.getfield 9, 3) := by decide +kernel
theorem d_String_charAt_20 : decode b_String_charAt 20 = .ok (.iload_n 1, 1) := by decide +kernel
theorem d_String_charAt_21 : decode b_String_charAt 21 = .ok (.invokestatic 498, 3) := by decide +kernel
theorem d_String_charAt_24 : decode b_String_charAt 24 = .ok (.ireturn, 1) := by decide +kernel
def f_String_charAt (s0 : Nat) (p1 : Int) : Option (Int) :=
  if s0 < 25 then (
   Option.bind (f_String_isLatin1 s0) (fun r1 =>
    if rI r1 = true then (if r1 = 0 then (
     if s0 < 25 then (
      none) else none) else (
     if s0 < 25 then (
      Option.bind (f_StringLatin1_charAt s0 p1) (fun r7 =>
       if jch r7 = true then some r7 else none)) else none)) else none)) else none
set_option maxHeartbeats 4000000 in
set_option maxRecDepth 100000 in
theorem c_String_charAt {l : Launch} {D : va_G} {cI cL cB : ClassId} {adK adV : Nat → Nat} {ro : Option Nat} {s0 : Nat} {p1 : Int} {out : Int} (h : f_String_charAt s0 p1 = some out) : CT (jFs adK adV ro) true l D [(cI, .int), (cL, .long), (cB, .byte)] y_String_charAt w_String_charAt ({ frames := 3, cells := 0, slots := 0, locals := 64 } : Room) [.ref (adK s0), .int (zI p1)] [] (some (.int (zI out))) [] 0 0 := by
  refine CT_of_J (cc := b_String_charAt) (maxL := 2) (ret := (some .char)) jFs_k (plainFor_of_name (by decide)) rfl (Nat.le_of_ble_eq_true rfl) ?_
  intro K hKl hKD X E
  subst hKl; subst hKD
  unfold f_String_charAt at h
  refine J_aload_n X d_String_charAt_0 rfl 0 rfl ?_
  obtain ⟨g3, h⟩ := wk_g h
  obtain ⟨r1, q2, h⟩ := wk_b h
  refine J_afterP (jrunVs X (c_String_isLatin1 q2) jFs_k (fun _ _ _ h => h) (jgV own_String_charAt (by decide +kernel)) rfl rfl rfl pd_String_isLatin1 (by decide) s0 g3 [] rfl (by decide) rfl rfl (Nat.le_of_ble_eq_true rfl) d_String_charAt_1 (by decide)) ?_
  refine J_if_eq (tgt := 16) X d_String_charAt_4 (by decide) h (fun c4 h => ?_) (fun c4 h => ?_)
  · refine J_aload_n X d_String_charAt_16 rfl 0 rfl ?_
    obtain ⟨g5, h⟩ := wk_g h
    refine J_svalue X s0 g5 (j_m own_String_charAt (by decide +kernel)) d_String_charAt_17 ?_
    refine J_iload_n X d_String_charAt_20 rfl 1 rfl ?_
    cases h
  · refine J_aload_n X d_String_charAt_7 rfl 0 rfl ?_
    obtain ⟨g6, h⟩ := wk_g h
    refine J_svalue X s0 g6 (j_m own_String_charAt (by decide +kernel)) d_String_charAt_8 ?_
    refine J_iload_n X d_String_charAt_11 rfl 1 rfl ?_
    obtain ⟨r7, q8, h⟩ := wk_b h
    refine J_afterP (jrunS X (c_StringLatin1_charAt q8) jFs_k (fun _ _ _ h => h) (jgS own_String_charAt (by decide +kernel)) rfl rfl rfl pd_StringLatin1_charAt (by decide) [] rfl (by decide) rfl rfl (Nat.le_of_ble_eq_true rfl) d_String_charAt_12 (by decide)) ?_
    obtain ⟨g9, h⟩ := wk_g h
    cases h
    exact J_ret E ⟨_, rfl, j_char g9⟩ d_String_charAt_15 (Nat.le_refl _) (Nat.le_refl _) rfl

theorem d_StringLatin1_canEncode_0 : decode b_StringLatin1_canEncode 0 = .ok (.iload_n 0, 1) := by decide +kernel
theorem d_StringLatin1_canEncode_1 : decode b_StringLatin1_canEncode 1 = .ok (.ifCond .lt 14, 3) := by decide +kernel
theorem d_StringLatin1_canEncode_4 : decode b_StringLatin1_canEncode 4 = .ok (.iload_n 0, 1) := by decide +kernel
theorem d_StringLatin1_canEncode_5 : decode b_StringLatin1_canEncode 5 = .ok (.sipush 255, 3) := by decide +kernel
theorem d_StringLatin1_canEncode_8 : decode b_StringLatin1_canEncode 8 = .ok (.if_icmp .gt 7, 3) := by decide +kernel
theorem d_StringLatin1_canEncode_11 : decode b_StringLatin1_canEncode 11 = .ok (.iconst 1, 1) := by decide +kernel
theorem d_StringLatin1_canEncode_12 : decode b_StringLatin1_canEncode 12 = .ok (.goto 4, 3) := by decide +kernel
theorem d_StringLatin1_canEncode_15 : decode b_StringLatin1_canEncode 15 = .ok (.iconst 0, 1) := by decide +kernel
theorem d_StringLatin1_canEncode_16 : decode b_StringLatin1_canEncode 16 = .ok (.ireturn, 1) := by decide +kernel
def f_StringLatin1_canEncode (p0 : Int) : Option (Int) :=
  if rI p0 = true then (if p0 < 0 then (
   some 0) else (
   if jr2 p0 255 = true then (if 255 < p0 then (
    some 0) else (
    some 1)) else none)) else none
set_option maxHeartbeats 4000000 in
set_option maxRecDepth 100000 in
theorem c_StringLatin1_canEncode {l : Launch} {D : va_G} {cI cL cB : ClassId} {p0 : Int} {out : Int} (h : f_StringLatin1_canEncode p0 = some out) : CT jF0 true l D [(cI, .int), (cL, .long), (cB, .byte)] y_StringLatin1_canEncode w_StringLatin1_canEncode ({ frames := 0, cells := 0, slots := 0, locals := 0 } : Room) [.int (zI p0)] [] (some (.int (zI out))) [] 0 0 := by
  refine CT_of_J (cc := b_StringLatin1_canEncode) (maxL := 1) (ret := (some .boolean)) jF0_k (plainFor_of_name (by decide)) rfl (Nat.le_of_ble_eq_true rfl) ?_
  intro K hKl hKD X E
  subst hKl; subst hKD
  unfold f_StringLatin1_canEncode at h
  refine J_iload_n X d_StringLatin1_canEncode_0 rfl 0 rfl ?_
  refine J_if_lt (tgt := 15) X d_StringLatin1_canEncode_1 (by decide) h (fun c1 h => ?_) (fun c1 h => ?_)
  · refine J_iconst X d_StringLatin1_canEncode_15 ?_
    cases h
    exact J_ret E ⟨_, rfl, j_bool (Or.inl rfl)⟩ d_StringLatin1_canEncode_16 (Nat.le_refl _) (Nat.le_refl _) rfl
  · refine J_iload_n X d_StringLatin1_canEncode_4 rfl 0 rfl ?_
    refine J_sipush X d_StringLatin1_canEncode_5 (by decide) ?_
    refine J_icmp_gt (tgt := 15) X d_StringLatin1_canEncode_8 (by decide) h (fun c2 h => ?_) (fun c2 h => ?_)
    · refine J_iconst X d_StringLatin1_canEncode_15 ?_
      cases h
      exact J_ret E ⟨_, rfl, j_bool (Or.inl rfl)⟩ d_StringLatin1_canEncode_16 (Nat.le_refl _) (Nat.le_refl _) rfl
    · refine J_iconst X d_StringLatin1_canEncode_11 ?_
      refine J_goto (tgt := 16) X d_StringLatin1_canEncode_12 (by decide) ?_
      cases h
      exact J_ret E ⟨_, rfl, j_bool (Or.inr rfl)⟩ d_StringLatin1_canEncode_16 (Nat.le_refl _) (Nat.le_refl _) rfl

theorem d_StringLatin1_indexOfChar_0 : decode b_StringLatin1_indexOfChar 0 = .ok (.iload_n 1, 1) := by decide +kernel
theorem d_StringLatin1_indexOfChar_1 : decode b_StringLatin1_indexOfChar 1 = .ok (.i2b, 1) := by decide +kernel
theorem d_StringLatin1_indexOfChar_2 : decode b_StringLatin1_indexOfChar 2 = .ok (.istore 4, 2) := by decide +kernel
theorem d_StringLatin1_indexOfChar_4 : decode b_StringLatin1_indexOfChar 4 = .ok (.iload_n 2, 1) := by decide +kernel
theorem d_StringLatin1_indexOfChar_5 : decode b_StringLatin1_indexOfChar 5 = .ok (.istore 5, 2) := by decide +kernel
theorem d_StringLatin1_indexOfChar_7 : decode b_StringLatin1_indexOfChar 7 = .ok (.iload 5, 2) := by decide +kernel
theorem d_StringLatin1_indexOfChar_9 : decode b_StringLatin1_indexOfChar 9 = .ok (.iload_n 3, 1) := by decide +kernel
theorem d_StringLatin1_indexOfChar_10 : decode b_StringLatin1_indexOfChar 10 = .ok (.if_icmp .ge 21, 3) := by decide +kernel
theorem d_StringLatin1_indexOfChar_13 : decode b_StringLatin1_indexOfChar 13 = .ok (.aload_n 0, 1) := by decide +kernel
theorem d_StringLatin1_indexOfChar_14 : decode b_StringLatin1_indexOfChar 14 = .ok (.iload 5, 2) := by decide +kernel
theorem d_StringLatin1_indexOfChar_16 : decode b_StringLatin1_indexOfChar 16 = .ok (.baload, 1) := by decide +kernel
theorem d_StringLatin1_indexOfChar_17 : decode b_StringLatin1_indexOfChar 17 = .ok (.iload 4, 2) := by decide +kernel
theorem d_StringLatin1_indexOfChar_19 : decode b_StringLatin1_indexOfChar 19 = .ok (.if_icmp .ne 6, 3) := by decide +kernel
theorem d_StringLatin1_indexOfChar_22 : decode b_StringLatin1_indexOfChar 22 = .ok (.iload 5, 2) := by decide +kernel
theorem d_StringLatin1_indexOfChar_24 : decode b_StringLatin1_indexOfChar 24 = .ok (.ireturn, 1) := by decide +kernel
theorem d_StringLatin1_indexOfChar_25 : decode b_StringLatin1_indexOfChar 25 = .ok (.iinc 5 1, 3) := by decide +kernel
theorem d_StringLatin1_indexOfChar_28 : decode b_StringLatin1_indexOfChar 28 = .ok (.goto (-21), 3) := by decide +kernel
theorem d_StringLatin1_indexOfChar_31 : decode b_StringLatin1_indexOfChar 31 = .ok (.iconst (-1), 1) := by decide +kernel
theorem d_StringLatin1_indexOfChar_32 : decode b_StringLatin1_indexOfChar 32 = .ok (.ireturn, 1) := by decide +kernel
def f_StringLatin1_indexOfChar_L7 (p0 : Nat) : Nat → Int → Int → Int → Int → Int → Option (Int)
  | 0, _, _, _, _, _ => none
  | n + 1, x1, x2, x3, x4, x5 =>
    if jr2 x5 x3 = true then (if x3 ≤ x5 then (
     some (-1)) else (
     if p0 < 25 then (
      if jix x5 (lenS.getD p0 0) = true then (
       if jr2 (bytZ p0 x5) x4 = true then (if (bytZ p0 x5) = x4 then (
        some x5) else (
        f_StringLatin1_indexOfChar_L7 p0 n x1 x2 x3 x4 (x5 + 1))) else none) else none) else none)) else none
def f_StringLatin1_indexOfChar (N : Nat) (p0 : Nat) (p1 : Int) (p2 : Int) (p3 : Int) : Option (Int) :=
  f_StringLatin1_indexOfChar_L7 p0 N p1 p2 p3 (j_b8 p1) p2
set_option maxHeartbeats 4000000 in
set_option maxRecDepth 100000 in
theorem k_StringLatin1_indexOfChar_L7 {K : jK} {cI cL cB : ClassId} {adK adV : Nat → Nat} {ro : Option Nat} {p0 : Nat} {out : Int} (X : jX (jFs adK adV ro) K 6 b_StringLatin1_indexOfChar w_StringLatin1_indexOfChar R_StringLatin1 [(cI, .int), (cL, .long), (cB, .byte)]) (E : jE K b_StringLatin1_indexOfChar (some .int) ({ frames := 0, cells := 0, slots := 0, locals := 0 } : Room) true 0 0 (some (.int (zI out))) []) : ∀ (n : Nat) (x1 : Int) (x2 : Int) (x3 : Int) (x4 : Int) (x5 : Int), f_StringLatin1_indexOfChar_L7 p0 n x1 x2 x3 x4 x5 = some out → J K 6 ({ frames := 0, cells := 0, slots := 0, locals := 0 } : Room) true 0 0 [] [(0, .ref (adV p0)), (1, .int (zI x1)), (2, .int (zI x2)), (3, .int (zI x3)), (4, .int (zI x4)), (5, .int (zI x5))] [] 7 := by
  intro n
  induction n with
  | zero =>
    intro x1 x2 x3 x4 x5 h
    cases h
  | succ n ih =>
    intro x1 x2 x3 x4 x5 h
    unfold f_StringLatin1_indexOfChar_L7 at h
    refine J_iload X d_StringLatin1_indexOfChar_7 5 rfl ?_
    refine J_iload_n X d_StringLatin1_indexOfChar_9 rfl 3 rfl ?_
    refine J_icmp_ge (tgt := 31) X d_StringLatin1_indexOfChar_10 (by decide) h (fun c1 h => ?_) (fun c1 h => ?_)
    · refine J_iconst X d_StringLatin1_indexOfChar_31 ?_
      cases h
      exact J_ret E ⟨_, rfl, rfl⟩ d_StringLatin1_indexOfChar_32 (Nat.le_refl _) (Nat.le_refl _) rfl
    · refine J_aload_n X d_StringLatin1_indexOfChar_13 rfl 0 rfl ?_
      refine J_iload X d_StringLatin1_indexOfChar_14 5 rfl ?_
      obtain ⟨g2, h⟩ := wk_g h
      obtain ⟨g3, h⟩ := wk_g h
      refine J_sbyte X p0 g2 g3 d_StringLatin1_indexOfChar_16 ?_
      refine J_iload X d_StringLatin1_indexOfChar_17 4 rfl ?_
      refine J_icmp_ne (tgt := 25) X d_StringLatin1_indexOfChar_19 (by decide) h (fun c4 h => ?_) (fun c4 h => ?_)
      · refine J_iinc (lv' := [(5, .int (zI (x5 + 1))), (0, .ref (adV p0)), (1, .int (zI x1)), (2, .int (zI x2)), (3, .int (zI x3)), (4, .int (zI x4))]) X d_StringLatin1_indexOfChar_25 5 rfl (by decide) rfl ?_
        refine J_goto (tgt := 7) X d_StringLatin1_indexOfChar_28 (by decide) ?_
        refine J_lv (lv' := [(0, .ref (adV p0)), (1, .int (zI x1)), (2, .int (zI x2)), (3, .int (zI x3)), (4, .int (zI x4)), (5, .int (zI (x5 + 1)))]) [1, 2, 3, 4, 5, 0] rfl ?_
        exact ih _ _ _ _ _ h
      · refine J_iload X d_StringLatin1_indexOfChar_22 5 rfl ?_
        cases h
        exact J_ret E ⟨_, rfl, rfl⟩ d_StringLatin1_indexOfChar_24 (Nat.le_refl _) (Nat.le_refl _) rfl
set_option maxHeartbeats 4000000 in
set_option maxRecDepth 100000 in
theorem c_StringLatin1_indexOfChar {l : Launch} {D : va_G} {cI cL cB : ClassId} {adK adV : Nat → Nat} {ro : Option Nat} {N : Nat} {p0 : Nat} {p1 : Int} {p2 : Int} {p3 : Int} {out : Int} (h : f_StringLatin1_indexOfChar N p0 p1 p2 p3 = some out) : CT (jFs adK adV ro) true l D [(cI, .int), (cL, .long), (cB, .byte)] y_StringLatin1_indexOfChar w_StringLatin1_indexOfChar ({ frames := 0, cells := 0, slots := 0, locals := 0 } : Room) [.ref (adV p0), .int (zI p1), .int (zI p2), .int (zI p3)] [] (some (.int (zI out))) [] 0 0 := by
  refine CT_of_J (cc := b_StringLatin1_indexOfChar) (maxL := 6) (ret := (some .int)) jFs_k (plainFor_of_name (by decide)) rfl (Nat.le_of_ble_eq_true rfl) ?_
  intro K hKl hKD X E
  subst hKl; subst hKD
  unfold f_StringLatin1_indexOfChar at h
  refine J_iload_n X d_StringLatin1_indexOfChar_0 rfl 1 rfl ?_
  refine J_i2b X d_StringLatin1_indexOfChar_1 ?_
  refine J_istore (lv' := [(4, .int (zI (j_b8 p1))), (0, .ref (adV p0)), (1, .int (zI p1)), (2, .int (zI p2)), (3, .int (zI p3))]) X d_StringLatin1_indexOfChar_2 (by decide) rfl ?_
  refine J_iload_n X d_StringLatin1_indexOfChar_4 rfl 3 rfl ?_
  refine J_istore (lv' := [(5, .int (zI p2)), (4, .int (zI (j_b8 p1))), (0, .ref (adV p0)), (1, .int (zI p1)), (2, .int (zI p2)), (3, .int (zI p3))]) X d_StringLatin1_indexOfChar_5 (by decide) rfl ?_
  refine J_lv (lv' := [(0, .ref (adV p0)), (1, .int (zI p1)), (2, .int (zI p2)), (3, .int (zI p3)), (4, .int (zI (j_b8 p1))), (5, .int (zI p2))]) [2, 3, 4, 5, 1, 0] rfl ?_
  exact k_StringLatin1_indexOfChar_L7 X E _ _ _ _ _ _ h

theorem d_StringLatin1_indexOf_0 : decode b_StringLatin1_indexOf 0 = .ok (.iload_n 1, 1) := by decide +kernel
theorem d_StringLatin1_indexOf_1 : decode b_StringLatin1_indexOf 1 = .ok (.invokestatic 88, 3) := by decide +kernel
theorem d_StringLatin1_indexOf_4 : decode b_StringLatin1_indexOf 4 = .ok (.ifCond .ne 5, 3) := by decide +kernel
theorem d_StringLatin1_indexOf_7 : decode b_StringLatin1_indexOf 7 = .ok (.iconst (-1), 1) := by decide +kernel
theorem d_StringLatin1_indexOf_8 : decode b_StringLatin1_indexOf 8 = .ok (.ireturn, 1) := by decide +kernel
theorem d_StringLatin1_indexOf_9 : decode b_StringLatin1_indexOf 9 = .ok (.iload_n 2, 1) := by decide +kernel
theorem d_StringLatin1_indexOf_10 : decode b_StringLatin1_indexOf 10 = .ok (.iconst 0, 1) := by decide +kernel
theorem d_StringLatin1_indexOf_11 : decode b_StringLatin1_indexOf 11 = .ok (.invokestatic 92, 3) := by decide +kernel
theorem d_StringLatin1_indexOf_14 : decode b_StringLatin1_indexOf 14 = .ok (.istore_n 2, 1) := by decide +kernel
theorem d_StringLatin1_indexOf_15 : decode b_StringLatin1_indexOf 15 = .ok (.iload_n 3, 1) := by decide +kernel
theorem d_StringLatin1_indexOf_16 : decode b_StringLatin1_indexOf 16 = .ok (.aload_n 0, 1) := by decide +kernel
theorem d_StringLatin1_indexOf_17 : decode b_StringLatin1_indexOf 17 = .ok (.arraylength, 1) := by decide +kernel
theorem d_StringLatin1_indexOf_18 : decode b_StringLatin1_indexOf 18 = .ok (.invokestatic 38, 3) := by decide +kernel
theorem d_StringLatin1_indexOf_21 : decode b_StringLatin1_indexOf 21 = .ok (.istore_n 3, 1) := by decide +kernel
theorem d_StringLatin1_indexOf_22 : decode b_StringLatin1_indexOf 22 = .ok (.iload_n 2, 1) := by decide +kernel
theorem d_StringLatin1_indexOf_23 : decode b_StringLatin1_indexOf 23 = .ok (.iload_n 3, 1) := by decide +kernel
theorem d_StringLatin1_indexOf_24 : decode b_StringLatin1_indexOf 24 = .ok (.if_icmp .lt 5, 3) := by decide +kernel
theorem d_StringLatin1_indexOf_27 : decode b_StringLatin1_indexOf 27 = .ok (.iconst (-1), 1) := by decide +kernel
theorem d_StringLatin1_indexOf_28 : decode b_StringLatin1_indexOf 28 = .ok (.ireturn, 1) := by decide +kernel
theorem d_StringLatin1_indexOf_29 : decode b_StringLatin1_indexOf 29 = .ok (.aload_n 0, 1) := by decide +kernel
theorem d_StringLatin1_indexOf_30 : decode b_StringLatin1_indexOf 30 = .ok (.iload_n 1, 1) := by decide +kernel
theorem d_StringLatin1_indexOf_31 : decode b_StringLatin1_indexOf 31 = .ok (.iload_n 2, 1) := by decide +kernel
theorem d_StringLatin1_indexOf_32 : decode b_StringLatin1_indexOf 32 = .ok (.iload_n 3, 1) := by decide +kernel
theorem d_StringLatin1_indexOf_33 : decode b_StringLatin1_indexOf 33 = .ok (.invokestatic 95, 3) := by decide +kernel
theorem d_StringLatin1_indexOf_36 : decode b_StringLatin1_indexOf 36 = .ok (.ireturn, 1) := by decide +kernel
def f_StringLatin1_indexOf (N : Nat) (p0 : Nat) (p1 : Int) (p2 : Int) (p3 : Int) : Option (Int) :=
  Option.bind (f_StringLatin1_canEncode p1) (fun r1 =>
   if rI r1 = true then (if r1 = 0 then (
    some (-1)) else (
    if jr2 p2 0 = true then (
     if p0 < 25 then (
      if jr2 p3 (lenZ p0) = true then (
       if jr2 (max p2 0) (min p3 (lenZ p0)) = true then (if (max p2 0) < (min p3 (lenZ p0)) then (
        Option.bind (f_StringLatin1_indexOfChar N p0 p1 (max p2 0) (min p3 (lenZ p0))) (fun r8 =>
         some r8)) else (
        some (-1))) else none) else none) else none) else none)) else none)
set_option maxHeartbeats 4000000 in
set_option maxRecDepth 100000 in
theorem c_StringLatin1_indexOf {l : Launch} {D : va_G} {cI cL cB : ClassId} {adK adV : Nat → Nat} {ro : Option Nat} {N : Nat} {p0 : Nat} {p1 : Int} {p2 : Int} {p3 : Int} {out : Int} (h : f_StringLatin1_indexOf N p0 p1 p2 p3 = some out) : CT (jFs adK adV ro) true l D [(cI, .int), (cL, .long), (cB, .byte)] y_StringLatin1_indexOf w_StringLatin1_indexOf ({ frames := 1, cells := 0, slots := 0, locals := 25 } : Room) [.ref (adV p0), .int (zI p1), .int (zI p2), .int (zI p3)] [] (some (.int (zI out))) [] 0 0 := by
  refine CT_of_J (cc := b_StringLatin1_indexOf) (maxL := 4) (ret := (some .int)) jFs_k (plainFor_of_name (by decide)) rfl (Nat.le_of_ble_eq_true rfl) ?_
  intro K hKl hKD X E
  subst hKl; subst hKD
  unfold f_StringLatin1_indexOf at h
  refine J_iload_n X d_StringLatin1_indexOf_0 rfl 1 rfl ?_
  obtain ⟨r1, q2, h⟩ := wk_b h
  refine J_afterP (jrunS X (c_StringLatin1_canEncode q2) jF0_k (fun _ _ _ _ => trivial) (jgS own_StringLatin1_indexOf (by decide +kernel)) rfl rfl rfl pd_StringLatin1_canEncode (by decide) [] rfl (by decide) rfl rfl (Nat.le_of_ble_eq_true rfl) d_StringLatin1_indexOf_1 (by decide)) ?_
  refine J_if_ne (tgt := 9) X d_StringLatin1_indexOf_4 (by decide) h (fun c3 h => ?_) (fun c3 h => ?_)
  · refine J_iload_n X d_StringLatin1_indexOf_9 rfl 2 rfl ?_
    refine J_iconst X d_StringLatin1_indexOf_10 ?_
    obtain ⟨g4, h⟩ := wk_g h
    refine J_mmax X g4 (j_m own_StringLatin1_indexOf (by decide +kernel)) (j_m own_StringLatin1_indexOf (by decide +kernel)) (j_m own_StringLatin1_indexOf (by decide +kernel)) (j_m own_StringLatin1_indexOf (by decide +kernel)) (by decide) (Nat.le_of_ble_eq_true rfl) (by decide) (by decide) d_StringLatin1_indexOf_11 ?_
    refine J_istore_n (lv' := [(2, .int (zI (max p2 0))), (0, .ref (adV p0)), (1, .int (zI p1)), (3, .int (zI p3))]) X d_StringLatin1_indexOf_14 rfl (by decide) rfl ?_
    refine J_iload_n X d_StringLatin1_indexOf_15 rfl 3 rfl ?_
    refine J_aload_n X d_StringLatin1_indexOf_16 rfl 1 rfl ?_
    obtain ⟨g5, h⟩ := wk_g h
    refine J_slen X p0 g5 d_StringLatin1_indexOf_17 ?_
    obtain ⟨g6, h⟩ := wk_g h
    refine J_mmin X g6 (j_m own_StringLatin1_indexOf (by decide +kernel)) (j_m own_StringLatin1_indexOf (by decide +kernel)) (j_m own_StringLatin1_indexOf (by decide +kernel)) (j_m own_StringLatin1_indexOf (by decide +kernel)) (by decide) (Nat.le_of_ble_eq_true rfl) (by decide) (by decide) d_StringLatin1_indexOf_18 ?_
    refine J_istore_n (lv' := [(3, .int (zI (min p3 (lenZ p0)))), (2, .int (zI (max p2 0))), (0, .ref (adV p0)), (1, .int (zI p1))]) X d_StringLatin1_indexOf_21 rfl (by decide) rfl ?_
    refine J_iload_n X d_StringLatin1_indexOf_22 rfl 1 rfl ?_
    refine J_iload_n X d_StringLatin1_indexOf_23 rfl 0 rfl ?_
    refine J_icmp_lt (tgt := 29) X d_StringLatin1_indexOf_24 (by decide) h (fun c7 h => ?_) (fun c7 h => ?_)
    · refine J_aload_n X d_StringLatin1_indexOf_29 rfl 2 rfl ?_
      refine J_iload_n X d_StringLatin1_indexOf_30 rfl 3 rfl ?_
      refine J_iload_n X d_StringLatin1_indexOf_31 rfl 1 rfl ?_
      refine J_iload_n X d_StringLatin1_indexOf_32 rfl 0 rfl ?_
      obtain ⟨r8, q9, h⟩ := wk_b h
      refine J_afterP (jrunS X (c_StringLatin1_indexOfChar q9) jFs_k (fun _ _ _ h => h) (jgS own_StringLatin1_indexOf (by decide +kernel)) rfl rfl rfl pd_StringLatin1_indexOfChar (by decide) [] rfl (by decide) rfl rfl (Nat.le_of_ble_eq_true rfl) d_StringLatin1_indexOf_33 (by decide)) ?_
      cases h
      exact J_ret E ⟨_, rfl, rfl⟩ d_StringLatin1_indexOf_36 (Nat.le_refl _) (Nat.le_refl _) rfl
    · refine J_iconst X d_StringLatin1_indexOf_27 ?_
      cases h
      exact J_ret E ⟨_, rfl, rfl⟩ d_StringLatin1_indexOf_28 (Nat.le_refl _) (Nat.le_refl _) rfl
  · refine J_iconst X d_StringLatin1_indexOf_7 ?_
    cases h
    exact J_ret E ⟨_, rfl, rfl⟩ d_StringLatin1_indexOf_8 (Nat.le_refl _) (Nat.le_refl _) rfl

theorem d_String_indexOf_0 : decode b_String_indexOf 0 = .ok (.aload_n 0, 1) := by decide +kernel
theorem d_String_indexOf_1 : decode b_String_indexOf 1 = .ok (.invokevirtual 492, 3) := by decide +kernel
theorem d_String_indexOf_4 : decode b_String_indexOf 4 = .ok (.ifCond .eq 19, 3) := by decide +kernel
theorem d_String_indexOf_7 : decode b_String_indexOf 7 = .ok (.aload_n 0, 1) := by decide +kernel
theorem d_String_indexOf_8 : decode b_String_indexOf 8 = .ok (.getfield 9, 3) := by decide +kernel
theorem d_String_indexOf_11 : decode b_String_indexOf 11 = .ok (.iload_n 1, 1) := by decide +kernel
theorem d_String_indexOf_12 : decode b_String_indexOf 12 = .ok (.iload_n 2, 1) := by decide +kernel
theorem d_String_indexOf_13 : decode b_String_indexOf 13 = .ok (.aload_n 0, 1) := by decide +kernel
theorem d_String_indexOf_14 : decode b_String_indexOf 14 = .ok (.invokevirtual 505, 3) := by decide +kernel
theorem d_String_indexOf_17 : decode b_String_indexOf 17 = .ok (.invokestatic 637, 3) := by decide +kernel
theorem d_String_indexOf_20 : decode b_String_indexOf 20 = .ok (.goto 16, 3) := by decide +kernel
theorem d_String_indexOf_23 : decode b_String_indexOf 23 = .ok (.aload_n 0, 1) := by decide +kernel
theorem d_String_indexOf_24 : decode b_String_indexOf 24 = .ok (.getfield 9, 3) := by decide +kernel
theorem d_String_indexOf_27 : decode b_String_indexOf 27 = .ok (.iload_n 1, 1) := by decide +kernel
theorem d_String_indexOf_28 : decode b_String_indexOf 28 = .ok (.iload_n 2, 1) := by decide +kernel
theorem d_String_indexOf_29 : decode b_String_indexOf 29 = .ok (.aload_n 0, 1) := by decide +kernel
theorem d_String_indexOf_30 : decode b_String_indexOf 30 = .ok (.invokevirtual 505, 3) := by decide +kernel
theorem d_String_indexOf_33 : decode b_String_indexOf 33 = .ok (.invokestatic 640, 3) := by decide +kernel
theorem d_String_indexOf_36 : decode b_String_indexOf 36 = .ok (.ireturn, 1) := by decide +kernel
def f_String_indexOf (N : Nat) (s0 : Nat) (p1 : Int) (p2 : Int) : Option (Int) :=
  if s0 < 25 then (
   Option.bind (f_String_isLatin1 s0) (fun r1 =>
    if rI r1 = true then (if r1 = 0 then (
     if s0 < 25 then (
      if s0 < 25 then (
       Option.bind (f_String_length s0) (fun r6 =>
        none)) else none) else none) else (
     if s0 < 25 then (
      if s0 < 25 then (
       Option.bind (f_String_length s0) (fun r10 =>
        Option.bind (f_StringLatin1_indexOf N s0 p1 p2 r10) (fun r13 =>
         some r13))) else none) else none)) else none)) else none
set_option maxHeartbeats 4000000 in
set_option maxRecDepth 100000 in
theorem c_String_indexOf {l : Launch} {D : va_G} {cI cL cB : ClassId} {adK adV : Nat → Nat} {ro : Option Nat} {N : Nat} {s0 : Nat} {p1 : Int} {p2 : Int} {out : Int} (h : f_String_indexOf N s0 p1 p2 = some out) : CT (jFs adK adV ro) true l D [(cI, .int), (cL, .long), (cB, .byte)] y_String_indexOf w_String_indexOf ({ frames := 2, cells := 0, slots := 0, locals := 48 } : Room) [.ref (adK s0), .int (zI p1), .int (zI p2)] [] (some (.int (zI out))) [] 0 0 := by
  refine CT_of_J (cc := b_String_indexOf) (maxL := 3) (ret := (some .int)) jFs_k (plainFor_of_name (by decide)) rfl (Nat.le_of_ble_eq_true rfl) ?_
  intro K hKl hKD X E
  subst hKl; subst hKD
  unfold f_String_indexOf at h
  refine J_aload_n X d_String_indexOf_0 rfl 0 rfl ?_
  obtain ⟨g3, h⟩ := wk_g h
  obtain ⟨r1, q2, h⟩ := wk_b h
  refine J_afterP (jrunVs X (c_String_isLatin1 q2) jFs_k (fun _ _ _ h => h) (jgV own_String_indexOf (by decide +kernel)) rfl rfl rfl pd_String_isLatin1 (by decide) s0 g3 [] rfl (by decide) rfl rfl (Nat.le_of_ble_eq_true rfl) d_String_indexOf_1 (by decide)) ?_
  refine J_if_eq (tgt := 23) X d_String_indexOf_4 (by decide) h (fun c4 h => ?_) (fun c4 h => ?_)
  · refine J_aload_n X d_String_indexOf_23 rfl 0 rfl ?_
    obtain ⟨g5, h⟩ := wk_g h
    refine J_svalue X s0 g5 (j_m own_String_indexOf (by decide +kernel)) d_String_indexOf_24 ?_
    refine J_iload_n X d_String_indexOf_27 rfl 1 rfl ?_
    refine J_iload_n X d_String_indexOf_28 rfl 2 rfl ?_
    refine J_aload_n X d_String_indexOf_29 rfl 0 rfl ?_
    obtain ⟨g8, h⟩ := wk_g h
    obtain ⟨r6, q7, h⟩ := wk_b h
    refine J_afterP (jrunVs X (c_String_length q7) jFs_k (fun _ _ _ h => h) (jgV own_String_indexOf (by decide +kernel)) rfl rfl rfl pd_String_length (by decide) s0 g8 [] rfl (by decide) rfl rfl (Nat.le_of_ble_eq_true rfl) d_String_indexOf_30 (by decide)) ?_
    cases h
  · refine J_aload_n X d_String_indexOf_7 rfl 0 rfl ?_
    obtain ⟨g9, h⟩ := wk_g h
    refine J_svalue X s0 g9 (j_m own_String_indexOf (by decide +kernel)) d_String_indexOf_8 ?_
    refine J_iload_n X d_String_indexOf_11 rfl 1 rfl ?_
    refine J_iload_n X d_String_indexOf_12 rfl 2 rfl ?_
    refine J_aload_n X d_String_indexOf_13 rfl 0 rfl ?_
    obtain ⟨g12, h⟩ := wk_g h
    obtain ⟨r10, q11, h⟩ := wk_b h
    refine J_afterP (jrunVs X (c_String_length q11) jFs_k (fun _ _ _ h => h) (jgV own_String_indexOf (by decide +kernel)) rfl rfl rfl pd_String_length (by decide) s0 g12 [] rfl (by decide) rfl rfl (Nat.le_of_ble_eq_true rfl) d_String_indexOf_14 (by decide)) ?_
    obtain ⟨r13, q14, h⟩ := wk_b h
    refine J_afterP (jrunS X (c_StringLatin1_indexOf q14) jFs_k (fun _ _ _ h => h) (jgS own_String_indexOf (by decide +kernel)) rfl rfl rfl pd_StringLatin1_indexOf (by decide) [] rfl (by decide) rfl rfl (Nat.le_of_ble_eq_true rfl) d_String_indexOf_17 (by decide)) ?_
    refine J_goto (tgt := 36) X d_String_indexOf_20 (by decide) ?_
    cases h
    exact J_ret E ⟨_, rfl, rfl⟩ d_String_indexOf_36 (Nat.le_refl _) (Nat.le_refl _) rfl

theorem d_String_indexOf2_0 : decode b_String_indexOf2 0 = .ok (.aload_n 0, 1) := by decide +kernel
theorem d_String_indexOf2_1 : decode b_String_indexOf2 1 = .ok (.iload_n 1, 1) := by decide +kernel
theorem d_String_indexOf2_2 : decode b_String_indexOf2 2 = .ok (.iconst 0, 1) := by decide +kernel
theorem d_String_indexOf2_3 : decode b_String_indexOf2 3 = .ok (.invokevirtual 633, 3) := by decide +kernel
theorem d_String_indexOf2_6 : decode b_String_indexOf2 6 = .ok (.ireturn, 1) := by decide +kernel
def f_String_indexOf2 (N : Nat) (s0 : Nat) (p1 : Int) : Option (Int) :=
  if s0 < 25 then (
   Option.bind (f_String_indexOf N s0 p1 0) (fun r1 =>
    some r1)) else none
set_option maxHeartbeats 4000000 in
set_option maxRecDepth 100000 in
theorem c_String_indexOf2 {l : Launch} {D : va_G} {cI cL cB : ClassId} {adK adV : Nat → Nat} {ro : Option Nat} {N : Nat} {s0 : Nat} {p1 : Int} {out : Int} (h : f_String_indexOf2 N s0 p1 = some out) : CT (jFs adK adV ro) true l D [(cI, .int), (cL, .long), (cB, .byte)] y_String_indexOf2 w_String_indexOf2 ({ frames := 3, cells := 0, slots := 0, locals := 70 } : Room) [.ref (adK s0), .int (zI p1)] [] (some (.int (zI out))) [] 0 0 := by
  refine CT_of_J (cc := b_String_indexOf2) (maxL := 2) (ret := (some .int)) jFs_k (plainFor_of_name (by decide)) rfl (Nat.le_of_ble_eq_true rfl) ?_
  intro K hKl hKD X E
  subst hKl; subst hKD
  unfold f_String_indexOf2 at h
  refine J_aload_n X d_String_indexOf2_0 rfl 0 rfl ?_
  refine J_iload_n X d_String_indexOf2_1 rfl 1 rfl ?_
  refine J_iconst X d_String_indexOf2_2 ?_
  obtain ⟨g3, h⟩ := wk_g h
  obtain ⟨r1, q2, h⟩ := wk_b h
  refine J_afterP (jrunVs X (c_String_indexOf q2) jFs_k (fun _ _ _ h => h) (jgV own_String_indexOf2 (by decide +kernel)) rfl rfl rfl pd_String_indexOf (by decide) s0 g3 [] rfl (by decide) rfl rfl (Nat.le_of_ble_eq_true rfl) d_String_indexOf2_3 (by decide)) ?_
  cases h
  exact J_ret E ⟨_, rfl, rfl⟩ d_String_indexOf2_6 (Nat.le_refl _) (Nat.le_refl _) rfl
