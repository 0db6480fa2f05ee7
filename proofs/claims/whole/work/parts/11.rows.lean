theorem d_ByteRow_at_0 : decode b_ByteRow_at 0 = .ok (.iload_n 1, 1) := by decide +kernel
theorem d_ByteRow_at_1 : decode b_ByteRow_at 1 = .ok (.ifCond .lt 25, 3) := by decide +kernel
theorem d_ByteRow_at_4 : decode b_ByteRow_at 4 = .ok (.iload_n 1, 1) := by decide +kernel
theorem d_ByteRow_at_5 : decode b_ByteRow_at 5 = .ok (.aload_n 0, 1) := by decide +kernel
theorem d_ByteRow_at_6 : decode b_ByteRow_at 6 = .ok (.getfield 21, 3) := by decide +kernel
theorem d_ByteRow_at_9 : decode b_ByteRow_at 9 = .ok (.arraylength, 1) := by decide +kernel
theorem d_ByteRow_at_10 : decode b_ByteRow_at 10 = .ok (.if_icmp .ge 16, 3) := by decide +kernel
theorem d_ByteRow_at_13 : decode b_ByteRow_at 13 = .ok (.aload_n 0, 1) := by decide +kernel
theorem d_ByteRow_at_14 : decode b_ByteRow_at 14 = .ok (.getfield 21, 3) := by decide +kernel
theorem d_ByteRow_at_17 : decode b_ByteRow_at 17 = .ok (.iload_n 1, 1) := by decide +kernel
theorem d_ByteRow_at_18 : decode b_ByteRow_at 18 = .ok (.baload, 1) := by decide +kernel
theorem d_ByteRow_at_19 : decode b_ByteRow_at 19 = .ok (.sipush 255, 3) := by decide +kernel
theorem d_ByteRow_at_22 : decode b_ByteRow_at 22 = .ok (.iand, 1) := by decide +kernel
theorem d_ByteRow_at_23 : decode b_ByteRow_at 23 = .ok (.goto 4, 3) := by decide +kernel
theorem d_ByteRow_at_26 : decode b_ByteRow_at 26 = .ok (.iconst (-1), 1) := by decide +kernel
theorem d_ByteRow_at_27 : decode b_ByteRow_at 27 = .ok (.ireturn, 1) := by decide +kernel
def f_ByteRow_at (xn : Nat) (X_row : Int → Int) (p1 : Int) : Option (Int) :=
  if rI p1 = true then (if p1 < 0 then (
   some (-1)) else (
   if jr2 p1 (xn : Int) = true then (if (xn : Int) ≤ p1 then (
    some (-1)) else (
    if jix p1 xn = true then (
     some (j_and (X_row p1) 255)) else none)) else none)) else none
set_option maxHeartbeats 4000000 in
set_option maxRecDepth 100000 in
theorem c_ByteRow_at {l : Launch} {D : va_G} {cI cL cB : ClassId} {xa xb : Nat} {xn : Nat} {X_top : Int} {X_row : Int → Int} {p1 : Int} {out : Int} (h : f_ByteRow_at xn X_row p1 = some out) : CT jF0 true l D [(cI, .int), (cL, .long), (cB, .byte)] y_ByteRow_at w_ByteRow_at ({ frames := 0, cells := 0, slots := 0, locals := 0 } : Room) [.ref xa, .int (zI p1)] [(xa, .inr (2, [.ref xb, .int (zI X_top)])), (xb, .inl (cB, xn, .inl (zA X_row)))] (some (.int (zI out))) [(xa, .inr (2, [.ref xb, .int (zI X_top)])), (xb, .inl (cB, xn, .inl (zA X_row)))] 0 0 := by
  refine CT_of_J (cc := b_ByteRow_at) (maxL := 2) (ret := (some .int)) jF0_k (plainFor_of_name (by decide)) rfl (Nat.le_of_ble_eq_true rfl) ?_
  intro K hKl hKD X E
  subst hKl; subst hKD
  unfold f_ByteRow_at at h
  refine J_iload_n X d_ByteRow_at_0 rfl 1 rfl ?_
  refine J_if_lt (tgt := 26) X d_ByteRow_at_1 (by decide) h (fun c1 h => ?_) (fun c1 h => ?_)
  · refine J_iconst X d_ByteRow_at_26 ?_
    cases h
    exact J_ret E ⟨_, rfl, rfl⟩ d_ByteRow_at_27 (Nat.le_refl _) (Nat.le_refl _) rfl
  · refine J_iload_n X d_ByteRow_at_4 rfl 1 rfl ?_
    refine J_aload_n X d_ByteRow_at_5 rfl 0 rfl ?_
    refine J_get X (j_in in_ByteRow) 0 rfl rfl 0 (by decide) (j_m own_ByteRow_at (by decide +kernel)) rfl d_ByteRow_at_6 ?_
    refine J_alen (n := (xn : Int)) X 1 2 rfl rfl rfl d_ByteRow_at_9 ?_
    refine J_icmp_ge (tgt := 26) X d_ByteRow_at_10 (by decide) h (fun c2 h => ?_) (fun c2 h => ?_)
    · refine J_iconst X d_ByteRow_at_26 ?_
      cases h
      exact J_ret E ⟨_, rfl, rfl⟩ d_ByteRow_at_27 (Nat.le_refl _) (Nat.le_refl _) rfl
    · refine J_aload_n X d_ByteRow_at_13 rfl 0 rfl ?_
      refine J_get X (j_in in_ByteRow) 0 rfl rfl 0 (by decide) (j_m own_ByteRow_at (by decide +kernel)) rfl d_ByteRow_at_14 ?_
      refine J_iload_n X d_ByteRow_at_17 rfl 1 rfl ?_
      obtain ⟨g3, h⟩ := wk_g h
      refine J_bald X 1 2 rfl rfl g3 d_ByteRow_at_18 ?_
      refine J_sipush X d_ByteRow_at_19 (by decide) ?_
      refine J_iand X d_ByteRow_at_22 ?_
      refine J_goto (tgt := 27) X d_ByteRow_at_23 (by decide) ?_
      cases h
      exact J_ret E ⟨_, rfl, rfl⟩ d_ByteRow_at_27 (Nat.le_refl _) (Nat.le_refl _) rfl

theorem d_ByteRow_put_0 : decode b_ByteRow_put 0 = .ok (.iload_n 1, 1) := by decide +kernel
theorem d_ByteRow_put_1 : decode b_ByteRow_put 1 = .ok (.ifCond .lt 20, 3) := by decide +kernel
theorem d_ByteRow_put_4 : decode b_ByteRow_put 4 = .ok (.iload_n 1, 1) := by decide +kernel
theorem d_ByteRow_put_5 : decode b_ByteRow_put 5 = .ok (.aload_n 0, 1) := by decide +kernel
theorem d_ByteRow_put_6 : decode b_ByteRow_put 6 = .ok (.getfield 21, 3) := by decide +kernel
theorem d_ByteRow_put_9 : decode b_ByteRow_put 9 = .ok (.arraylength, 1) := by decide +kernel
theorem d_ByteRow_put_10 : decode b_ByteRow_put 10 = .ok (.if_icmp .ge 11, 3) := by decide +kernel
theorem d_ByteRow_put_13 : decode b_ByteRow_put 13 = .ok (.aload_n 0, 1) := by decide +kernel
theorem d_ByteRow_put_14 : decode b_ByteRow_put 14 = .ok (.getfield 21, 3) := by decide +kernel
theorem d_ByteRow_put_17 : decode b_ByteRow_put 17 = .ok (.iload_n 1, 1) := by decide +kernel
theorem d_ByteRow_put_18 : decode b_ByteRow_put 18 = .ok (.iload_n 2, 1) := by decide +kernel
theorem d_ByteRow_put_19 : decode b_ByteRow_put 19 = .ok (.i2b, 1) := by decide +kernel
theorem d_ByteRow_put_20 : decode b_ByteRow_put 20 = .ok (.bastore, 1) := by decide +kernel
theorem d_ByteRow_put_21 : decode b_ByteRow_put 21 = .ok (.return_, 1) := by decide +kernel
def f_ByteRow_put (xn : Nat) (X_row : Int → Int) (p1 : Int) (p2 : Int) : Option ((Int → Int)) :=
  if rI p1 = true then (if p1 < 0 then (
   some X_row) else (
   if jr2 p1 (xn : Int) = true then (if (xn : Int) ≤ p1 then (
    some X_row) else (
    if jix p1 xn = true then (
     some (upZ X_row p1 (j_b8 (j_b8 p2)))) else none)) else none)) else none
set_option maxHeartbeats 4000000 in
set_option maxRecDepth 100000 in
theorem c_ByteRow_put {l : Launch} {D : va_G} {cI cL cB : ClassId} {xa xb : Nat} {xn : Nat} {X_top : Int} {X_row : Int → Int} {p1 : Int} {p2 : Int} {out : (Int → Int)} (h : f_ByteRow_put xn X_row p1 p2 = some out) : CT jF0 false l D [(cI, .int), (cL, .long), (cB, .byte)] y_ByteRow_put w_ByteRow_put ({ frames := 0, cells := 0, slots := 0, locals := 0 } : Room) [.ref xa, .int (zI p1), .int (zI p2)] [(xa, .inr (2, [.ref xb, .int (zI X_top)])), (xb, .inl (cB, xn, .inl (zA X_row)))] none [(xa, .inr (2, [.ref xb, .int (zI X_top)])), (xb, .inl (cB, xn, .inl (zA out)))] 0 0 := by
  refine CT_of_J (cc := b_ByteRow_put) (maxL := 3) (ret := none) jF0_k (plainFor_of_name (by decide)) rfl (Nat.le_of_ble_eq_true rfl) ?_
  intro K hKl hKD X E
  subst hKl; subst hKD
  unfold f_ByteRow_put at h
  refine J_iload_n X d_ByteRow_put_0 rfl 1 rfl ?_
  refine J_if_lt (tgt := 21) X d_ByteRow_put_1 (by decide) h (fun c1 h => ?_) (fun c1 h => ?_)
  · cases h
    exact J_ret E rfl d_ByteRow_put_21 (Nat.le_refl _) (Nat.le_refl _) rfl
  · refine J_iload_n X d_ByteRow_put_4 rfl 1 rfl ?_
    refine J_aload_n X d_ByteRow_put_5 rfl 0 rfl ?_
    refine J_get X (j_in in_ByteRow) 0 rfl rfl 0 (by decide) (j_m own_ByteRow_put (by decide +kernel)) rfl d_ByteRow_put_6 ?_
    refine J_alen (n := (xn : Int)) X 1 2 rfl rfl rfl d_ByteRow_put_9 ?_
    refine J_icmp_ge (tgt := 21) X d_ByteRow_put_10 (by decide) h (fun c2 h => ?_) (fun c2 h => ?_)
    · cases h
      exact J_ret E rfl d_ByteRow_put_21 (Nat.le_refl _) (Nat.le_refl _) rfl
    · refine J_aload_n X d_ByteRow_put_13 rfl 0 rfl ?_
      refine J_get X (j_in in_ByteRow) 0 rfl rfl 0 (by decide) (j_m own_ByteRow_put (by decide +kernel)) rfl d_ByteRow_put_14 ?_
      refine J_iload_n X d_ByteRow_put_17 rfl 1 rfl ?_
      refine J_iload_n X d_ByteRow_put_18 rfl 2 rfl ?_
      refine J_i2b X d_ByteRow_put_19 ?_
      obtain ⟨g3, h⟩ := wk_g h
      refine J_bast (ws' := [(xa, .inr (2, [.ref xb, .int (zI X_top)])), (xb, .inl (cB, xn, .inl (zA (upZ X_row p1 (j_b8 (j_b8 p2))))))]) X 1 2 rfl rfl g3 d_ByteRow_put_20 rfl ?_
      cases h
      exact J_ret E rfl d_ByteRow_put_21 (Nat.le_refl _) (Nat.le_refl _) rfl

theorem d_ByteRow_cut_0 : decode b_ByteRow_cut 0 = .ok (.aload_n 0, 1) := by decide +kernel
theorem d_ByteRow_cut_1 : decode b_ByteRow_cut 1 = .ok (.iload_n 1, 1) := by decide +kernel
theorem d_ByteRow_cut_2 : decode b_ByteRow_cut 2 = .ok (.putfield 9, 3) := by decide +kernel
theorem d_ByteRow_cut_5 : decode b_ByteRow_cut 5 = .ok (.return_, 1) := by decide +kernel
def f_ByteRow_cut (xn : Nat) (X_top : Int) (p1 : Int) : Option (Int) :=
  some p1
set_option maxHeartbeats 4000000 in
set_option maxRecDepth 100000 in
theorem c_ByteRow_cut {l : Launch} {D : va_G} {cI cL cB : ClassId} {xa xb : Nat} {xn : Nat} {X_top : Int} {p1 : Int} {out : Int} (h : f_ByteRow_cut xn X_top p1 = some out) : CT jF0 false l D [(cI, .int), (cL, .long), (cB, .byte)] y_ByteRow_cut w_ByteRow_cut ({ frames := 0, cells := 0, slots := 0, locals := 0 } : Room) [.ref xa, .int (zI p1)] [(xa, .inr (2, [.ref xb, .int (zI X_top)]))] none [(xa, .inr (2, [.ref xb, .int (zI out)]))] 0 0 := by
  refine CT_of_J (cc := b_ByteRow_cut) (maxL := 2) (ret := none) jF0_k (plainFor_of_name (by decide)) rfl (Nat.le_of_ble_eq_true rfl) ?_
  intro K hKl hKD X E
  subst hKl; subst hKD
  unfold f_ByteRow_cut at h
  refine J_aload_n X d_ByteRow_cut_0 rfl 0 rfl ?_
  refine J_iload_n X d_ByteRow_cut_1 rfl 1 rfl ?_
  refine J_put (ws' := [(xa, .inr (2, [.ref xb, .int (zI p1)]))]) X (j_in in_ByteRow) ty_ByteRow tok_ByteRow nm_ByteRow 0 rfl rfl 1 (by decide) (j_m own_ByteRow_cut (by decide +kernel)) rfl rfl rfl (Nat.le_of_ble_eq_true rfl) d_ByteRow_cut_2 rfl ?_
  cases h
  exact J_ret E rfl d_ByteRow_cut_5 (Nat.le_refl _) (Nat.le_refl _) rfl

theorem d_ByteRow_append_0 : decode b_ByteRow_append 0 = .ok (.iconst 0, 1) := by decide +kernel
theorem d_ByteRow_append_1 : decode b_ByteRow_append 1 = .ok (.istore_n 3, 1) := by decide +kernel
theorem d_ByteRow_append_2 : decode b_ByteRow_append 2 = .ok (.iload_n 3, 1) := by decide +kernel
theorem d_ByteRow_append_3 : decode b_ByteRow_append 3 = .ok (.iload_n 2, 1) := by decide +kernel
theorem d_ByteRow_append_4 : decode b_ByteRow_append 4 = .ok (.if_icmp .ge 26, 3) := by decide +kernel
theorem d_ByteRow_append_7 : decode b_ByteRow_append 7 = .ok (.aload_n 0, 1) := by decide +kernel
theorem d_ByteRow_append_8 : decode b_ByteRow_append 8 = .ok (.aload_n 0, 1) := by decide +kernel
theorem d_ByteRow_append_9 : decode b_ByteRow_append 9 = .ok (.getfield 9, 3) := by decide +kernel
theorem d_ByteRow_append_12 : decode b_ByteRow_append 12 = .ok (.iload_n 3, 1) := by decide +kernel
theorem d_ByteRow_append_13 : decode b_ByteRow_append 13 = .ok (.iadd, 1) := by decide +kernel
theorem d_ByteRow_append_14 : decode b_ByteRow_append 14 = .ok (.aload_n 0, 1) := by decide +kernel
theorem d_ByteRow_append_15 : decode b_ByteRow_append 15 = .ok (.iload_n 1, 1) := by decide +kernel
theorem d_ByteRow_append_16 : decode b_ByteRow_append 16 = .ok (.iload_n 3, 1) := by decide +kernel
theorem d_ByteRow_append_17 : decode b_ByteRow_append 17 = .ok (.iadd, 1) := by decide +kernel
theorem d_ByteRow_append_18 : decode b_ByteRow_append 18 = .ok (.invokevirtual 25, 3) := by decide +kernel
theorem d_ByteRow_append_21 : decode b_ByteRow_append 21 = .ok (.invokevirtual 29, 3) := by decide +kernel
theorem d_ByteRow_append_24 : decode b_ByteRow_append 24 = .ok (.iinc 3 1, 3) := by decide +kernel
theorem d_ByteRow_append_27 : decode b_ByteRow_append 27 = .ok (.goto (-25), 3) := by decide +kernel
theorem d_ByteRow_append_30 : decode b_ByteRow_append 30 = .ok (.aload_n 0, 1) := by decide +kernel
theorem d_ByteRow_append_31 : decode b_ByteRow_append 31 = .ok (.dup, 1) := by decide +kernel
theorem d_ByteRow_append_32 : decode b_ByteRow_append 32 = .ok (.getfield 9, 3) := by decide +kernel
theorem d_ByteRow_append_35 : decode b_ByteRow_append 35 = .ok (.iconst 0, 1) := by decide +kernel
theorem d_ByteRow_append_36 : decode b_ByteRow_append 36 = .ok (.iload_n 2, 1) := by decide +kernel
theorem d_ByteRow_append_37 : decode b_ByteRow_append 37 = .ok (.invokestatic 15, 3) := by decide +kernel
theorem d_ByteRow_append_40 : decode b_ByteRow_append 40 = .ok (.iadd, 1) := by decide +kernel
theorem d_ByteRow_append_41 : decode b_ByteRow_append 41 = .ok (.putfield 9, 3) := by decide +kernel
theorem d_ByteRow_append_44 : decode b_ByteRow_append 44 = .ok (.return_, 1) := by decide +kernel
def f_ByteRow_append_L2 (xn : Nat) (X_top : Int) (x1 : Int) (x2 : Int) : Nat → Int → (Int → Int) → Option (Int × (Int → Int))
  | 0, _, _ => none
  | n + 1, x3, X_row =>
    if jr2 x3 x2 = true then (if x2 ≤ x3 then (
     some (x3, X_row)) else (
     Option.bind (f_ByteRow_at xn X_row (x1 + x3)) (fun r6 =>
      Option.bind (f_ByteRow_put xn X_row (X_top + x3) r6) (fun X_row_8 =>
       f_ByteRow_append_L2 xn X_top x1 x2 n (x3 + 1) X_row_8)))) else none
def f_ByteRow_append (N : Nat) (xn : Nat) (X_top : Int) (X_row : Int → Int) (p1 : Int) (p2 : Int) : Option (Int × (Int → Int)) :=
  ob2 (f_ByteRow_append_L2 xn X_top p1 p2 N 0 X_row) (fun x3_1 X_row_2 =>
   if jr2 0 p2 = true then (
    some ((X_top + (max 0 p2)), X_row_2)) else none)
set_option maxHeartbeats 4000000 in
set_option maxRecDepth 100000 in
theorem k_ByteRow_append_L2 {K : jK} {cI cL cB : ClassId} {xa xb : Nat} {xn : Nat} {X_top : Int} {x1 : Int} {x2 : Int} {out : Int × (Int → Int)} (X : jX jF0 K 4 b_ByteRow_append w_ByteRow_append R_ByteRow [(cI, .int), (cL, .long), (cB, .byte)]) : ∀ (n : Nat) (x3 : Int) (X_row : (Int → Int)), f_ByteRow_append_L2 xn X_top x1 x2 n x3 X_row = some out → J K 4 ({ frames := 1, cells := 0, slots := 0, locals := 23 } : Room) false 0 0 [(xa, .inr (2, [.ref xb, .int (zI X_top)])), (xb, .inl (cB, xn, .inl (zA (out.2))))] [(0, .ref xa), (1, .int (zI x1)), (2, .int (zI x2)), (3, .int (zI (out.1)))] [] 30 → J K 4 ({ frames := 1, cells := 0, slots := 0, locals := 23 } : Room) false 0 0 [(xa, .inr (2, [.ref xb, .int (zI X_top)])), (xb, .inl (cB, xn, .inl (zA X_row)))] [(0, .ref xa), (1, .int (zI x1)), (2, .int (zI x2)), (3, .int (zI x3))] [] 2 := by
  intro n
  induction n with
  | zero =>
    intro x3 X_row h hk
    cases h
  | succ n ih =>
    intro x3 X_row h hk
    unfold f_ByteRow_append_L2 at h
    refine J_iload_n X d_ByteRow_append_2 rfl 3 rfl ?_
    refine J_iload_n X d_ByteRow_append_3 rfl 2 rfl ?_
    refine J_icmp_ge (tgt := 30) X d_ByteRow_append_4 (by decide) h (fun c5 h => ?_) (fun c5 h => ?_)
    · cases h
      refine J_lv (lv' := [(0, .ref xa), (1, .int (zI x1)), (2, .int (zI x2)), (3, .int (zI x3))]) [0, 1, 2, 3] rfl ?_
      exact hk
    · refine J_aload_n X d_ByteRow_append_7 rfl 0 rfl ?_
      refine J_aload_n X d_ByteRow_append_8 rfl 0 rfl ?_
      refine J_get X (j_in in_ByteRow) 0 rfl rfl 1 (by decide) (j_m own_ByteRow_append (by decide +kernel)) rfl d_ByteRow_append_9 ?_
      refine J_iload_n X d_ByteRow_append_12 rfl 3 rfl ?_
      refine J_iadd X d_ByteRow_append_13 ?_
      refine J_aload_n X d_ByteRow_append_14 rfl 0 rfl ?_
      refine J_iload_n X d_ByteRow_append_15 rfl 1 rfl ?_
      refine J_iload_n X d_ByteRow_append_16 rfl 3 rfl ?_
      refine J_iadd X d_ByteRow_append_17 ?_
      obtain ⟨r6, q7, h⟩ := wk_b h
      refine J_afterP (jrunV X (c_ByteRow_at q7) jF0_k (fun _ _ _ _ => trivial) (jgV own_ByteRow_append (by decide +kernel)) rfl rfl rfl pd_ByteRow_at (by decide) [0, 1] rfl (by decide) 0 2 rfl rfl rfl rfl (Nat.le_of_ble_eq_true rfl) d_ByteRow_append_18 (by decide)) ?_
      obtain ⟨X_row_8, q9, h⟩ := wk_b h
      refine J_afterI0 (ws' := [(xa, .inr (2, [.ref xb, .int (zI X_top)])), (xb, .inl (cB, xn, .inl (zA X_row_8)))]) X (jrunV X (c_ByteRow_put q9) jF0_k (fun _ _ _ _ => trivial) (jgV own_ByteRow_append (by decide +kernel)) rfl rfl rfl pd_ByteRow_put (by decide) [0, 1] rfl (by decide) 0 2 rfl rfl rfl rfl (Nat.le_of_ble_eq_true rfl) d_ByteRow_append_21 (by decide)) [0, 1] [] [0, 1] rfl rfl (by decide) (by decide) rfl (by decide) ?_
      refine J_iinc (lv' := [(3, .int (zI (x3 + 1))), (0, .ref xa), (1, .int (zI x1)), (2, .int (zI x2))]) X d_ByteRow_append_24 3 rfl (by decide) rfl ?_
      refine J_goto (tgt := 2) X d_ByteRow_append_27 (by decide) ?_
      refine J_lv (lv' := [(0, .ref xa), (1, .int (zI x1)), (2, .int (zI x2)), (3, .int (zI (x3 + 1)))]) [1, 2, 3, 0] rfl ?_
      exact ih _ _ h hk
set_option maxHeartbeats 4000000 in
set_option maxRecDepth 100000 in
theorem c_ByteRow_append {l : Launch} {D : va_G} {cI cL cB : ClassId} {xa xb : Nat} {N : Nat} {xn : Nat} {X_top : Int} {X_row : Int → Int} {p1 : Int} {p2 : Int} {out : Int × (Int → Int)} (h : f_ByteRow_append N xn X_top X_row p1 p2 = some out) : CT jF0 false l D [(cI, .int), (cL, .long), (cB, .byte)] y_ByteRow_append w_ByteRow_append ({ frames := 1, cells := 0, slots := 0, locals := 23 } : Room) [.ref xa, .int (zI p1), .int (zI p2)] [(xa, .inr (2, [.ref xb, .int (zI X_top)])), (xb, .inl (cB, xn, .inl (zA X_row)))] none [(xa, .inr (2, [.ref xb, .int (zI (out.1))])), (xb, .inl (cB, xn, .inl (zA (out.2))))] 0 0 := by
  refine CT_of_J (cc := b_ByteRow_append) (maxL := 4) (ret := none) jF0_k (plainFor_of_name (by decide)) rfl (Nat.le_of_ble_eq_true rfl) ?_
  intro K hKl hKD X E
  subst hKl; subst hKD
  unfold f_ByteRow_append at h
  refine J_iconst X d_ByteRow_append_0 ?_
  refine J_istore_n (lv' := [(3, .int (zI 0)), (0, .ref xa), (1, .int (zI p1)), (2, .int (zI p2))]) X d_ByteRow_append_1 rfl (by decide) rfl ?_
  refine J_lv (lv' := [(0, .ref xa), (1, .int (zI p1)), (2, .int (zI p2)), (3, .int (zI 0))]) [1, 2, 3, 0] rfl ?_
  obtain ⟨x3_1, X_row_2, q3, h⟩ := wk_b2 h
  refine k_ByteRow_append_L2 X _ _ _ q3 ?_
  refine J_aload_n X d_ByteRow_append_30 rfl 0 rfl ?_
  refine J_dup X d_ByteRow_append_31 rfl ?_
  refine J_get X (j_in in_ByteRow) 0 rfl rfl 1 (by decide) (j_m own_ByteRow_append (by decide +kernel)) rfl d_ByteRow_append_32 ?_
  refine J_iconst X d_ByteRow_append_35 ?_
  refine J_iload_n X d_ByteRow_append_36 rfl 2 rfl ?_
  obtain ⟨g4, h⟩ := wk_g h
  refine J_mmax X g4 (j_m own_ByteRow_append (by decide +kernel)) (j_m own_ByteRow_append (by decide +kernel)) (j_m own_ByteRow_append (by decide +kernel)) (j_m own_ByteRow_append (by decide +kernel)) (by decide) (Nat.le_of_ble_eq_true rfl) (by decide) (by decide) d_ByteRow_append_37 ?_
  refine J_iadd X d_ByteRow_append_40 ?_
  refine J_put (ws' := [(xa, .inr (2, [.ref xb, .int (zI (X_top + (max 0 p2)))])), (xb, .inl (cB, xn, .inl (zA X_row_2)))]) X (j_in in_ByteRow) ty_ByteRow tok_ByteRow nm_ByteRow 0 rfl rfl 1 (by decide) (j_m own_ByteRow_append (by decide +kernel)) rfl rfl rfl (Nat.le_of_ble_eq_true rfl) d_ByteRow_append_41 rfl ?_
  cases h
  exact J_ret E rfl d_ByteRow_append_44 (Nat.le_refl _) (Nat.le_refl _) rfl

theorem d_ByteRow_end_0 : decode b_ByteRow_end 0 = .ok (.aload_n 0, 1) := by decide +kernel
theorem d_ByteRow_end_1 : decode b_ByteRow_end 1 = .ok (.getfield 9, 3) := by decide +kernel
theorem d_ByteRow_end_4 : decode b_ByteRow_end 4 = .ok (.ireturn, 1) := by decide +kernel
def f_ByteRow_end (xn : Nat) (X_top : Int) : Option (Int) :=
  some X_top
set_option maxHeartbeats 4000000 in
set_option maxRecDepth 100000 in
theorem c_ByteRow_end {l : Launch} {D : va_G} {cI cL cB : ClassId} {xa xb : Nat} {xn : Nat} {X_top : Int} {out : Int} (h : f_ByteRow_end xn X_top = some out) : CT jF0 true l D [(cI, .int), (cL, .long), (cB, .byte)] y_ByteRow_end w_ByteRow_end ({ frames := 0, cells := 0, slots := 0, locals := 0 } : Room) [.ref xa] [(xa, .inr (2, [.ref xb, .int (zI X_top)]))] (some (.int (zI out))) [(xa, .inr (2, [.ref xb, .int (zI X_top)]))] 0 0 := by
  refine CT_of_J (cc := b_ByteRow_end) (maxL := 1) (ret := (some .int)) jF0_k (plainFor_of_name (by decide)) rfl (Nat.le_of_ble_eq_true rfl) ?_
  intro K hKl hKD X E
  subst hKl; subst hKD
  unfold f_ByteRow_end at h
  refine J_aload_n X d_ByteRow_end_0 rfl 0 rfl ?_
  refine J_get X (j_in in_ByteRow) 0 rfl rfl 1 (by decide) (j_m own_ByteRow_end (by decide +kernel)) rfl d_ByteRow_end_1 ?_
  cases h
  exact J_ret E ⟨_, rfl, rfl⟩ d_ByteRow_end_4 (Nat.le_refl _) (Nat.le_refl _) rfl

theorem d_ByteRow_compare_0 : decode b_ByteRow_compare 0 = .ok (.iload_n 2, 1) := by decide +kernel
theorem d_ByteRow_compare_1 : decode b_ByteRow_compare 1 = .ok (.iload 4, 2) := by decide +kernel
theorem d_ByteRow_compare_3 : decode b_ByteRow_compare 3 = .ok (.invokestatic 33, 3) := by decide +kernel
theorem d_ByteRow_compare_6 : decode b_ByteRow_compare 6 = .ok (.istore 5, 2) := by decide +kernel
theorem d_ByteRow_compare_8 : decode b_ByteRow_compare 8 = .ok (.iconst 0, 1) := by decide +kernel
theorem d_ByteRow_compare_9 : decode b_ByteRow_compare 9 = .ok (.istore 6, 2) := by decide +kernel
theorem d_ByteRow_compare_11 : decode b_ByteRow_compare 11 = .ok (.iload 6, 2) := by decide +kernel
theorem d_ByteRow_compare_13 : decode b_ByteRow_compare 13 = .ok (.iload 5, 2) := by decide +kernel
theorem d_ByteRow_compare_15 : decode b_ByteRow_compare 15 = .ok (.if_icmp .ge 36, 3) := by decide +kernel
theorem d_ByteRow_compare_18 : decode b_ByteRow_compare 18 = .ok (.aload_n 0, 1) := by decide +kernel
theorem d_ByteRow_compare_19 : decode b_ByteRow_compare 19 = .ok (.iload_n 1, 1) := by decide +kernel
theorem d_ByteRow_compare_20 : decode b_ByteRow_compare 20 = .ok (.iload 6, 2) := by decide +kernel
theorem d_ByteRow_compare_22 : decode b_ByteRow_compare 22 = .ok (.iadd, 1) := by decide +kernel
theorem d_ByteRow_compare_23 : decode b_ByteRow_compare 23 = .ok (.invokevirtual 25, 3) := by decide +kernel
theorem d_ByteRow_compare_26 : decode b_ByteRow_compare 26 = .ok (.aload_n 0, 1) := by decide +kernel
theorem d_ByteRow_compare_27 : decode b_ByteRow_compare 27 = .ok (.iload_n 3, 1) := by decide +kernel
theorem d_ByteRow_compare_28 : decode b_ByteRow_compare 28 = .ok (.iload 6, 2) := by decide +kernel
theorem d_ByteRow_compare_30 : decode b_ByteRow_compare 30 = .ok (.iadd, 1) := by decide +kernel
theorem d_ByteRow_compare_31 : decode b_ByteRow_compare 31 = .ok (.invokevirtual 25, 3) := by decide +kernel
theorem d_ByteRow_compare_34 : decode b_ByteRow_compare 34 = .ok (.isub, 1) := by decide +kernel
theorem d_ByteRow_compare_35 : decode b_ByteRow_compare 35 = .ok (.istore 7, 2) := by decide +kernel
theorem d_ByteRow_compare_37 : decode b_ByteRow_compare 37 = .ok (.iload 7, 2) := by decide +kernel
theorem d_ByteRow_compare_39 : decode b_ByteRow_compare 39 = .ok (.ifCond .eq 6, 3) := by decide +kernel
theorem d_ByteRow_compare_42 : decode b_ByteRow_compare 42 = .ok (.iload 7, 2) := by decide +kernel
theorem d_ByteRow_compare_44 : decode b_ByteRow_compare 44 = .ok (.ireturn, 1) := by decide +kernel
theorem d_ByteRow_compare_45 : decode b_ByteRow_compare 45 = .ok (.iinc 6 1, 3) := by decide +kernel
theorem d_ByteRow_compare_48 : decode b_ByteRow_compare 48 = .ok (.goto (-37), 3) := by decide +kernel
theorem d_ByteRow_compare_51 : decode b_ByteRow_compare 51 = .ok (.iload_n 2, 1) := by decide +kernel
theorem d_ByteRow_compare_52 : decode b_ByteRow_compare 52 = .ok (.iload 4, 2) := by decide +kernel
theorem d_ByteRow_compare_54 : decode b_ByteRow_compare 54 = .ok (.isub, 1) := by decide +kernel
theorem d_ByteRow_compare_55 : decode b_ByteRow_compare 55 = .ok (.ireturn, 1) := by decide +kernel
def f_ByteRow_compare_L11 (xn : Nat) (X_row : Int → Int) : Nat → Int → Int → Int → Int → Int → Int → Option (Int)
  | 0, _, _, _, _, _, _ => none
  | n + 1, x1, x2, x3, x4, x5, x6 =>
    if jr2 x6 x5 = true then (if x5 ≤ x6 then (
     some (x2 - x4)) else (
     Option.bind (f_ByteRow_at xn X_row (x1 + x6)) (fun r3 =>
      Option.bind (f_ByteRow_at xn X_row (x3 + x6)) (fun r5 =>
       if rI (r3 - r5) = true then (if (r3 - r5) = 0 then (
        f_ByteRow_compare_L11 xn X_row n x1 x2 x3 x4 x5 (x6 + 1)) else (
        some (r3 - r5))) else none)))) else none
def f_ByteRow_compare (N : Nat) (xn : Nat) (X_row : Int → Int) (p1 : Int) (p2 : Int) (p3 : Int) (p4 : Int) : Option (Int) :=
  if jr2 p2 p4 = true then (
   f_ByteRow_compare_L11 xn X_row N p1 p2 p3 p4 (min p2 p4) 0) else none
set_option maxHeartbeats 4000000 in
set_option maxRecDepth 100000 in
theorem k_ByteRow_compare_L11 {K : jK} {cI cL cB : ClassId} {xa xb : Nat} {xn : Nat} {X_row : Int → Int} {X_top : Int} {out : Int} (X : jX jF0 K 8 b_ByteRow_compare w_ByteRow_compare R_ByteRow [(cI, .int), (cL, .long), (cB, .byte)]) (E : jE K b_ByteRow_compare (some .int) ({ frames := 1, cells := 0, slots := 0, locals := 23 } : Room) true 0 0 (some (.int (zI out))) [(xa, .inr (2, [.ref xb, .int (zI X_top)])), (xb, .inl (cB, xn, .inl (zA X_row)))]) : ∀ (n : Nat) (x1 : Int) (x2 : Int) (x3 : Int) (x4 : Int) (x5 : Int) (x6 : Int), f_ByteRow_compare_L11 xn X_row n x1 x2 x3 x4 x5 x6 = some out → J K 8 ({ frames := 1, cells := 0, slots := 0, locals := 23 } : Room) true 0 0 [(xa, .inr (2, [.ref xb, .int (zI X_top)])), (xb, .inl (cB, xn, .inl (zA X_row)))] [(0, .ref xa), (1, .int (zI x1)), (2, .int (zI x2)), (3, .int (zI x3)), (4, .int (zI x4)), (5, .int (zI x5)), (6, .int (zI x6))] [] 11 := by
  intro n
  induction n with
  | zero =>
    intro x1 x2 x3 x4 x5 x6 h
    cases h
  | succ n ih =>
    intro x1 x2 x3 x4 x5 x6 h
    unfold f_ByteRow_compare_L11 at h
    refine J_iload X d_ByteRow_compare_11 6 rfl ?_
    refine J_iload X d_ByteRow_compare_13 5 rfl ?_
    refine J_icmp_ge (tgt := 51) X d_ByteRow_compare_15 (by decide) h (fun c2 h => ?_) (fun c2 h => ?_)
    · refine J_iload_n X d_ByteRow_compare_51 rfl 2 rfl ?_
      refine J_iload X d_ByteRow_compare_52 4 rfl ?_
      refine J_isub X d_ByteRow_compare_54 ?_
      cases h
      exact J_ret E ⟨_, rfl, rfl⟩ d_ByteRow_compare_55 (Nat.le_refl _) (Nat.le_refl _) rfl
    · refine J_aload_n X d_ByteRow_compare_18 rfl 0 rfl ?_
      refine J_iload_n X d_ByteRow_compare_19 rfl 1 rfl ?_
      refine J_iload X d_ByteRow_compare_20 6 rfl ?_
      refine J_iadd X d_ByteRow_compare_22 ?_
      obtain ⟨r3, q4, h⟩ := wk_b h
      refine J_afterP (jrunV X (c_ByteRow_at q4) jF0_k (fun _ _ _ _ => trivial) (jgV own_ByteRow_compare (by decide +kernel)) rfl rfl rfl pd_ByteRow_at (by decide) [0, 1] rfl (by decide) 0 2 rfl rfl rfl rfl (Nat.le_of_ble_eq_true rfl) d_ByteRow_compare_23 (by decide)) ?_
      refine J_aload_n X d_ByteRow_compare_26 rfl 0 rfl ?_
      refine J_iload_n X d_ByteRow_compare_27 rfl 3 rfl ?_
      refine J_iload X d_ByteRow_compare_28 6 rfl ?_
      refine J_iadd X d_ByteRow_compare_30 ?_
      obtain ⟨r5, q6, h⟩ := wk_b h
      refine J_afterP (jrunV X (c_ByteRow_at q6) jF0_k (fun _ _ _ _ => trivial) (jgV own_ByteRow_compare (by decide +kernel)) rfl rfl rfl pd_ByteRow_at (by decide) [0, 1] rfl (by decide) 0 2 rfl rfl rfl rfl (Nat.le_of_ble_eq_true rfl) d_ByteRow_compare_31 (by decide)) ?_
      refine J_isub X d_ByteRow_compare_34 ?_
      refine J_istore (lv' := [(7, .int (zI (r3 - r5))), (0, .ref xa), (1, .int (zI x1)), (2, .int (zI x2)), (3, .int (zI x3)), (4, .int (zI x4)), (5, .int (zI x5)), (6, .int (zI x6))]) X d_ByteRow_compare_35 (by decide) rfl ?_
      refine J_iload X d_ByteRow_compare_37 0 rfl ?_
      refine J_if_eq (tgt := 45) X d_ByteRow_compare_39 (by decide) h (fun c7 h => ?_) (fun c7 h => ?_)
      · refine J_iinc (lv' := [(6, .int (zI (x6 + 1))), (7, .int (zI (r3 - r5))), (0, .ref xa), (1, .int (zI x1)), (2, .int (zI x2)), (3, .int (zI x3)), (4, .int (zI x4)), (5, .int (zI x5))]) X d_ByteRow_compare_45 7 rfl (by decide) rfl ?_
        refine J_goto (tgt := 11) X d_ByteRow_compare_48 (by decide) ?_
        refine J_lv (lv' := [(0, .ref xa), (1, .int (zI x1)), (2, .int (zI x2)), (3, .int (zI x3)), (4, .int (zI x4)), (5, .int (zI x5)), (6, .int (zI (x6 + 1)))]) [2, 3, 4, 5, 6, 7, 0] rfl ?_
        exact ih _ _ _ _ _ _ h
      · refine J_iload X d_ByteRow_compare_42 0 rfl ?_
        cases h
        exact J_ret E ⟨_, rfl, rfl⟩ d_ByteRow_compare_44 (Nat.le_refl _) (Nat.le_refl _) rfl
set_option maxHeartbeats 4000000 in
set_option maxRecDepth 100000 in
theorem c_ByteRow_compare {l : Launch} {D : va_G} {cI cL cB : ClassId} {xa xb : Nat} {N : Nat} {xn : Nat} {X_top : Int} {X_row : Int → Int} {p1 : Int} {p2 : Int} {p3 : Int} {p4 : Int} {out : Int} (h : f_ByteRow_compare N xn X_row p1 p2 p3 p4 = some out) : CT jF0 true l D [(cI, .int), (cL, .long), (cB, .byte)] y_ByteRow_compare w_ByteRow_compare ({ frames := 1, cells := 0, slots := 0, locals := 23 } : Room) [.ref xa, .int (zI p1), .int (zI p2), .int (zI p3), .int (zI p4)] [(xa, .inr (2, [.ref xb, .int (zI X_top)])), (xb, .inl (cB, xn, .inl (zA X_row)))] (some (.int (zI out))) [(xa, .inr (2, [.ref xb, .int (zI X_top)])), (xb, .inl (cB, xn, .inl (zA X_row)))] 0 0 := by
  refine CT_of_J (cc := b_ByteRow_compare) (maxL := 8) (ret := (some .int)) jF0_k (plainFor_of_name (by decide)) rfl (Nat.le_of_ble_eq_true rfl) ?_
  intro K hKl hKD X E
  subst hKl; subst hKD
  unfold f_ByteRow_compare at h
  refine J_iload_n X d_ByteRow_compare_0 rfl 2 rfl ?_
  refine J_iload X d_ByteRow_compare_1 4 rfl ?_
  obtain ⟨g1, h⟩ := wk_g h
  refine J_mmin X g1 (j_m own_ByteRow_compare (by decide +kernel)) (j_m own_ByteRow_compare (by decide +kernel)) (j_m own_ByteRow_compare (by decide +kernel)) (j_m own_ByteRow_compare (by decide +kernel)) (by decide) (Nat.le_of_ble_eq_true rfl) (by decide) (by decide) d_ByteRow_compare_3 ?_
  refine J_istore (lv' := [(5, .int (zI (min p2 p4))), (0, .ref xa), (1, .int (zI p1)), (2, .int (zI p2)), (3, .int (zI p3)), (4, .int (zI p4))]) X d_ByteRow_compare_6 (by decide) rfl ?_
  refine J_iconst X d_ByteRow_compare_8 ?_
  refine J_istore (lv' := [(6, .int (zI 0)), (5, .int (zI (min p2 p4))), (0, .ref xa), (1, .int (zI p1)), (2, .int (zI p2)), (3, .int (zI p3)), (4, .int (zI p4))]) X d_ByteRow_compare_9 (by decide) rfl ?_
  refine J_lv (lv' := [(0, .ref xa), (1, .int (zI p1)), (2, .int (zI p2)), (3, .int (zI p3)), (4, .int (zI p4)), (5, .int (zI (min p2 p4))), (6, .int (zI 0))]) [2, 3, 4, 5, 6, 1, 0] rfl ?_
  exact k_ByteRow_compare_L11 X E _ _ _ _ _ _ _ h

theorem d_DataRow_leaf_0 : decode b_DataRow_leaf 0 = .ok (.aload_n 0, 1) := by decide +kernel
theorem d_DataRow_leaf_1 : decode b_DataRow_leaf 1 = .ok (.getfield 31, 3) := by decide +kernel
theorem d_DataRow_leaf_4 : decode b_DataRow_leaf 4 = .ok (.istore 5, 2) := by decide +kernel
theorem d_DataRow_leaf_6 : decode b_DataRow_leaf 6 = .ok (.iload 5, 2) := by decide +kernel
theorem d_DataRow_leaf_8 : decode b_DataRow_leaf 8 = .ok (.sipush 3201, 3) := by decide +kernel
theorem d_DataRow_leaf_11 : decode b_DataRow_leaf 11 = .ok (.if_icmp .lt 5, 3) := by decide +kernel
theorem d_DataRow_leaf_14 : decode b_DataRow_leaf 14 = .ok (.iconst (-1), 1) := by decide +kernel
theorem d_DataRow_leaf_15 : decode b_DataRow_leaf 15 = .ok (.ireturn, 1) := by decide +kernel
theorem d_DataRow_leaf_16 : decode b_DataRow_leaf 16 = .ok (.aload_n 0, 1) := by decide +kernel
theorem d_DataRow_leaf_17 : decode b_DataRow_leaf 17 = .ok (.dup, 1) := by decide +kernel
theorem d_DataRow_leaf_18 : decode b_DataRow_leaf 18 = .ok (.getfield 31, 3) := by decide +kernel
theorem d_DataRow_leaf_21 : decode b_DataRow_leaf 21 = .ok (.iconst 1, 1) := by decide +kernel
theorem d_DataRow_leaf_22 : decode b_DataRow_leaf 22 = .ok (.iadd, 1) := by decide +kernel
theorem d_DataRow_leaf_23 : decode b_DataRow_leaf 23 = .ok (.putfield 31, 3) := by decide +kernel
theorem d_DataRow_leaf_26 : decode b_DataRow_leaf 26 = .ok (.aload_n 0, 1) := by decide +kernel
theorem d_DataRow_leaf_27 : decode b_DataRow_leaf 27 = .ok (.getfield 9, 3) := by decide +kernel
theorem d_DataRow_leaf_30 : decode b_DataRow_leaf 30 = .ok (.iload 5, 2) := by decide +kernel
theorem d_DataRow_leaf_32 : decode b_DataRow_leaf 32 = .ok (.iload_n 1, 1) := by decide +kernel
theorem d_DataRow_leaf_33 : decode b_DataRow_leaf 33 = .ok (.iastore, 1) := by decide +kernel
theorem d_DataRow_leaf_34 : decode b_DataRow_leaf 34 = .ok (.aload_n 0, 1) := by decide +kernel
theorem d_DataRow_leaf_35 : decode b_DataRow_leaf 35 = .ok (.getfield 18, 3) := by decide +kernel
theorem d_DataRow_leaf_38 : decode b_DataRow_leaf 38 = .ok (.iload 5, 2) := by decide +kernel
theorem d_DataRow_leaf_40 : decode b_DataRow_leaf 40 = .ok (.lload_n 2, 1) := by decide +kernel
theorem d_DataRow_leaf_41 : decode b_DataRow_leaf 41 = .ok (.lastore, 1) := by decide +kernel
theorem d_DataRow_leaf_42 : decode b_DataRow_leaf 42 = .ok (.aload_n 0, 1) := by decide +kernel
theorem d_DataRow_leaf_43 : decode b_DataRow_leaf 43 = .ok (.getfield 15, 3) := by decide +kernel
theorem d_DataRow_leaf_46 : decode b_DataRow_leaf 46 = .ok (.iload 5, 2) := by decide +kernel
theorem d_DataRow_leaf_48 : decode b_DataRow_leaf 48 = .ok (.iload 4, 2) := by decide +kernel
theorem d_DataRow_leaf_50 : decode b_DataRow_leaf 50 = .ok (.iastore, 1) := by decide +kernel
theorem d_DataRow_leaf_51 : decode b_DataRow_leaf 51 = .ok (.aload_n 0, 1) := by decide +kernel
theorem d_DataRow_leaf_52 : decode b_DataRow_leaf 52 = .ok (.getfield 22, 3) := by decide +kernel
theorem d_DataRow_leaf_55 : decode b_DataRow_leaf 55 = .ok (.iload 5, 2) := by decide +kernel
theorem d_DataRow_leaf_57 : decode b_DataRow_leaf 57 = .ok (.iconst 1, 1) := by decide +kernel
theorem d_DataRow_leaf_58 : decode b_DataRow_leaf 58 = .ok (.iastore, 1) := by decide +kernel
theorem d_DataRow_leaf_59 : decode b_DataRow_leaf 59 = .ok (.aload_n 0, 1) := by decide +kernel
theorem d_DataRow_leaf_60 : decode b_DataRow_leaf 60 = .ok (.getfield 25, 3) := by decide +kernel
theorem d_DataRow_leaf_63 : decode b_DataRow_leaf 63 = .ok (.iload 5, 2) := by decide +kernel
theorem d_DataRow_leaf_65 : decode b_DataRow_leaf 65 = .ok (.iconst 1, 1) := by decide +kernel
theorem d_DataRow_leaf_66 : decode b_DataRow_leaf 66 = .ok (.iastore, 1) := by decide +kernel
theorem d_DataRow_leaf_67 : decode b_DataRow_leaf 67 = .ok (.aload_n 0, 1) := by decide +kernel
theorem d_DataRow_leaf_68 : decode b_DataRow_leaf 68 = .ok (.getfield 28, 3) := by decide +kernel
theorem d_DataRow_leaf_71 : decode b_DataRow_leaf 71 = .ok (.iload 5, 2) := by decide +kernel
theorem d_DataRow_leaf_73 : decode b_DataRow_leaf 73 = .ok (.iload_n 1, 1) := by decide +kernel
theorem d_DataRow_leaf_74 : decode b_DataRow_leaf 74 = .ok (.iconst 4, 1) := by decide +kernel
theorem d_DataRow_leaf_75 : decode b_DataRow_leaf 75 = .ok (.if_icmp .ne 8, 3) := by decide +kernel
theorem d_DataRow_leaf_78 : decode b_DataRow_leaf 78 = .ok (.iload 4, 2) := by decide +kernel
theorem d_DataRow_leaf_80 : decode b_DataRow_leaf 80 = .ok (.goto 4, 3) := by decide +kernel
theorem d_DataRow_leaf_83 : decode b_DataRow_leaf 83 = .ok (.iconst 0, 1) := by decide +kernel
theorem d_DataRow_leaf_84 : decode b_DataRow_leaf 84 = .ok (.iastore, 1) := by decide +kernel
theorem d_DataRow_leaf_85 : decode b_DataRow_leaf 85 = .ok (.iload 5, 2) := by decide +kernel
theorem d_DataRow_leaf_87 : decode b_DataRow_leaf 87 = .ok (.ireturn, 1) := by decide +kernel
def f_DataRow_leaf (D_top : Int) (D_forms : Int → Int) (D_counts : Int → Int) (D_numbers : Int → Int) (D_nodes : Int → Int) (D_depths : Int → Int) (D_weights : Int → Int) (p1 : Int) (p2 : Int) (p4 : Int) : Option (Int × Int × (Int → Int) × (Int → Int) × (Int → Int) × (Int → Int) × (Int → Int) × (Int → Int)) :=
  if jr2 D_top 3201 = true then (if D_top < 3201 then (
   if jix D_top 3201 = true then (
    if jix D_top 3201 = true then (
     if jix D_top 3201 = true then (
      if jix D_top 3201 = true then (
       if jix D_top 3201 = true then (
        if jr2 p1 4 = true then (if p1 = 4 then (
         if jix D_top 3201 = true then (
          some (D_top, (D_top + 1), (upZ D_forms D_top p1), (upZ D_counts D_top p4), (upZ D_numbers D_top p2), (upZ D_nodes D_top 1), (upZ D_depths D_top 1), (upZ D_weights D_top p4))) else none) else (
         if jix D_top 3201 = true then (
          some (D_top, (D_top + 1), (upZ D_forms D_top p1), (upZ D_counts D_top p4), (upZ D_numbers D_top p2), (upZ D_nodes D_top 1), (upZ D_depths D_top 1), (upZ D_weights D_top 0))) else none)) else none) else none) else none) else none) else none) else none) else (
   some ((-1), D_top, D_forms, D_counts, D_numbers, D_nodes, D_depths, D_weights))) else none
set_option maxHeartbeats 4000000 in
set_option maxRecDepth 100000 in
theorem c_DataRow_leaf {l : Launch} {D : va_G} {cI cL cB : ClassId} {ad : Nat → Nat} {D_top : Int} {D_forms : Int → Int} {D_counts : Int → Int} {D_numbers : Int → Int} {D_nodes : Int → Int} {D_depths : Int → Int} {D_weights : Int → Int} {p1 : Int} {p2 : Int} {p4 : Int} {out : Int × Int × (Int → Int) × (Int → Int) × (Int → Int) × (Int → Int) × (Int → Int) × (Int → Int)} (h : f_DataRow_leaf D_top D_forms D_counts D_numbers D_nodes D_depths D_weights p1 p2 p4 = some out) : CT jF0 false l D [(cI, .int), (cL, .long), (cB, .byte)] y_DataRow_leaf w_DataRow_leaf ({ frames := 0, cells := 0, slots := 0, locals := 0 } : Room) [.ref (ad 16), .int (zI p1), .long (zL p2), .int (zI p4)] [(ad 16, .inr (5, [.ref (ad 17), .ref (ad 18), .ref (ad 19), .ref (ad 20), .ref (ad 21), .ref (ad 22), .int (zI D_top)])), (ad 17, .inl (cI, 3201, .inl (zA D_forms))), (ad 18, .inl (cI, 3201, .inl (zA D_counts))), (ad 19, .inl (cL, 3201, .inr (.inl (zB D_numbers)))), (ad 20, .inl (cI, 3201, .inl (zA D_nodes))), (ad 21, .inl (cI, 3201, .inl (zA D_depths))), (ad 22, .inl (cI, 3201, .inl (zA D_weights)))] (some (.int (zI out.1))) [(ad 16, .inr (5, [.ref (ad 17), .ref (ad 18), .ref (ad 19), .ref (ad 20), .ref (ad 21), .ref (ad 22), .int (zI (out.2.1))])), (ad 17, .inl (cI, 3201, .inl (zA (out.2.2.1)))), (ad 18, .inl (cI, 3201, .inl (zA (out.2.2.2.1)))), (ad 19, .inl (cL, 3201, .inr (.inl (zB (out.2.2.2.2.1))))), (ad 20, .inl (cI, 3201, .inl (zA (out.2.2.2.2.2.1)))), (ad 21, .inl (cI, 3201, .inl (zA (out.2.2.2.2.2.2.1)))), (ad 22, .inl (cI, 3201, .inl (zA (out.2.2.2.2.2.2.2))))] 0 0 := by
  refine CT_of_J (cc := b_DataRow_leaf) (maxL := 6) (ret := (some .int)) jF0_k (plainFor_of_name (by decide)) rfl (Nat.le_of_ble_eq_true rfl) ?_
  intro K hKl hKD X E
  subst hKl; subst hKD
  unfold f_DataRow_leaf at h
  refine J_aload_n X d_DataRow_leaf_0 rfl 0 rfl ?_
  refine J_get X (j_in in_DataRow) 0 rfl rfl 6 (by decide) (j_m own_DataRow_leaf (by decide +kernel)) rfl d_DataRow_leaf_1 ?_
  refine J_istore (lv' := [(5, .int (zI D_top)), (0, .ref (ad 16)), (1, .int (zI p1)), (2, .long (zL p2)), (4, .int (zI p4))]) X d_DataRow_leaf_4 (by decide) rfl ?_
  refine J_iload X d_DataRow_leaf_6 0 rfl ?_
  refine J_sipush X d_DataRow_leaf_8 (by decide) ?_
  refine J_icmp_lt (tgt := 16) X d_DataRow_leaf_11 (by decide) h (fun c1 h => ?_) (fun c1 h => ?_)
  · refine J_aload_n X d_DataRow_leaf_16 rfl 1 rfl ?_
    refine J_dup X d_DataRow_leaf_17 rfl ?_
    refine J_get X (j_in in_DataRow) 0 rfl rfl 6 (by decide) (j_m own_DataRow_leaf (by decide +kernel)) rfl d_DataRow_leaf_18 ?_
    refine J_iconst X d_DataRow_leaf_21 ?_
    refine J_iadd X d_DataRow_leaf_22 ?_
    refine J_put (ws' := [(ad 16, .inr (5, [.ref (ad 17), .ref (ad 18), .ref (ad 19), .ref (ad 20), .ref (ad 21), .ref (ad 22), .int (zI (D_top + 1))])), (ad 17, .inl (cI, 3201, .inl (zA D_forms))), (ad 18, .inl (cI, 3201, .inl (zA D_counts))), (ad 19, .inl (cL, 3201, .inr (.inl (zB D_numbers)))), (ad 20, .inl (cI, 3201, .inl (zA D_nodes))), (ad 21, .inl (cI, 3201, .inl (zA D_depths))), (ad 22, .inl (cI, 3201, .inl (zA D_weights)))]) X (j_in in_DataRow) ty_DataRow tok_DataRow nm_DataRow 0 rfl rfl 6 (by decide) (j_m own_DataRow_leaf (by decide +kernel)) rfl rfl rfl (Nat.le_of_ble_eq_true rfl) d_DataRow_leaf_23 rfl ?_
    refine J_aload_n X d_DataRow_leaf_26 rfl 1 rfl ?_
    refine J_get X (j_in in_DataRow) 0 rfl rfl 0 (by decide) (j_m own_DataRow_leaf (by decide +kernel)) rfl d_DataRow_leaf_27 ?_
    refine J_iload X d_DataRow_leaf_30 0 rfl ?_
    refine J_iload_n X d_DataRow_leaf_32 rfl 2 rfl ?_
    obtain ⟨g2, h⟩ := wk_g h
    refine J_iast (ws' := [(ad 16, .inr (5, [.ref (ad 17), .ref (ad 18), .ref (ad 19), .ref (ad 20), .ref (ad 21), .ref (ad 22), .int (zI (D_top + 1))])), (ad 17, .inl (cI, 3201, .inl (zA (upZ D_forms D_top p1)))), (ad 18, .inl (cI, 3201, .inl (zA D_counts))), (ad 19, .inl (cL, 3201, .inr (.inl (zB D_numbers)))), (ad 20, .inl (cI, 3201, .inl (zA D_nodes))), (ad 21, .inl (cI, 3201, .inl (zA D_depths))), (ad 22, .inl (cI, 3201, .inl (zA D_weights)))]) X 1 0 rfl rfl g2 d_DataRow_leaf_33 rfl ?_
    refine J_aload_n X d_DataRow_leaf_34 rfl 1 rfl ?_
    refine J_get X (j_in in_DataRow) 0 rfl rfl 2 (by decide) (j_m own_DataRow_leaf (by decide +kernel)) rfl d_DataRow_leaf_35 ?_
    refine J_iload X d_DataRow_leaf_38 0 rfl ?_
    refine J_lload_n X d_DataRow_leaf_40 rfl 3 rfl ?_
    obtain ⟨g3, h⟩ := wk_g h
    refine J_last (ws' := [(ad 16, .inr (5, [.ref (ad 17), .ref (ad 18), .ref (ad 19), .ref (ad 20), .ref (ad 21), .ref (ad 22), .int (zI (D_top + 1))])), (ad 17, .inl (cI, 3201, .inl (zA (upZ D_forms D_top p1)))), (ad 18, .inl (cI, 3201, .inl (zA D_counts))), (ad 19, .inl (cL, 3201, .inr (.inl (zB (upZ D_numbers D_top p2))))), (ad 20, .inl (cI, 3201, .inl (zA D_nodes))), (ad 21, .inl (cI, 3201, .inl (zA D_depths))), (ad 22, .inl (cI, 3201, .inl (zA D_weights)))]) X 3 1 rfl rfl g3 d_DataRow_leaf_41 rfl ?_
    refine J_aload_n X d_DataRow_leaf_42 rfl 1 rfl ?_
    refine J_get X (j_in in_DataRow) 0 rfl rfl 1 (by decide) (j_m own_DataRow_leaf (by decide +kernel)) rfl d_DataRow_leaf_43 ?_
    refine J_iload X d_DataRow_leaf_46 0 rfl ?_
    refine J_iload X d_DataRow_leaf_48 4 rfl ?_
    obtain ⟨g4, h⟩ := wk_g h
    refine J_iast (ws' := [(ad 16, .inr (5, [.ref (ad 17), .ref (ad 18), .ref (ad 19), .ref (ad 20), .ref (ad 21), .ref (ad 22), .int (zI (D_top + 1))])), (ad 17, .inl (cI, 3201, .inl (zA (upZ D_forms D_top p1)))), (ad 18, .inl (cI, 3201, .inl (zA (upZ D_counts D_top p4)))), (ad 19, .inl (cL, 3201, .inr (.inl (zB (upZ D_numbers D_top p2))))), (ad 20, .inl (cI, 3201, .inl (zA D_nodes))), (ad 21, .inl (cI, 3201, .inl (zA D_depths))), (ad 22, .inl (cI, 3201, .inl (zA D_weights)))]) X 2 0 rfl rfl g4 d_DataRow_leaf_50 rfl ?_
    refine J_aload_n X d_DataRow_leaf_51 rfl 1 rfl ?_
    refine J_get X (j_in in_DataRow) 0 rfl rfl 3 (by decide) (j_m own_DataRow_leaf (by decide +kernel)) rfl d_DataRow_leaf_52 ?_
    refine J_iload X d_DataRow_leaf_55 0 rfl ?_
    refine J_iconst X d_DataRow_leaf_57 ?_
    obtain ⟨g5, h⟩ := wk_g h
    refine J_iast (ws' := [(ad 16, .inr (5, [.ref (ad 17), .ref (ad 18), .ref (ad 19), .ref (ad 20), .ref (ad 21), .ref (ad 22), .int (zI (D_top + 1))])), (ad 17, .inl (cI, 3201, .inl (zA (upZ D_forms D_top p1)))), (ad 18, .inl (cI, 3201, .inl (zA (upZ D_counts D_top p4)))), (ad 19, .inl (cL, 3201, .inr (.inl (zB (upZ D_numbers D_top p2))))), (ad 20, .inl (cI, 3201, .inl (zA (upZ D_nodes D_top 1)))), (ad 21, .inl (cI, 3201, .inl (zA D_depths))), (ad 22, .inl (cI, 3201, .inl (zA D_weights)))]) X 4 0 rfl rfl g5 d_DataRow_leaf_58 rfl ?_
    refine J_aload_n X d_DataRow_leaf_59 rfl 1 rfl ?_
    refine J_get X (j_in in_DataRow) 0 rfl rfl 4 (by decide) (j_m own_DataRow_leaf (by decide +kernel)) rfl d_DataRow_leaf_60 ?_
    refine J_iload X d_DataRow_leaf_63 0 rfl ?_
    refine J_iconst X d_DataRow_leaf_65 ?_
    obtain ⟨g6, h⟩ := wk_g h
    refine J_iast (ws' := [(ad 16, .inr (5, [.ref (ad 17), .ref (ad 18), .ref (ad 19), .ref (ad 20), .ref (ad 21), .ref (ad 22), .int (zI (D_top + 1))])), (ad 17, .inl (cI, 3201, .inl (zA (upZ D_forms D_top p1)))), (ad 18, .inl (cI, 3201, .inl (zA (upZ D_counts D_top p4)))), (ad 19, .inl (cL, 3201, .inr (.inl (zB (upZ D_numbers D_top p2))))), (ad 20, .inl (cI, 3201, .inl (zA (upZ D_nodes D_top 1)))), (ad 21, .inl (cI, 3201, .inl (zA (upZ D_depths D_top 1)))), (ad 22, .inl (cI, 3201, .inl (zA D_weights)))]) X 5 0 rfl rfl g6 d_DataRow_leaf_66 rfl ?_
    refine J_aload_n X d_DataRow_leaf_67 rfl 1 rfl ?_
    refine J_get X (j_in in_DataRow) 0 rfl rfl 5 (by decide) (j_m own_DataRow_leaf (by decide +kernel)) rfl d_DataRow_leaf_68 ?_
    refine J_iload X d_DataRow_leaf_71 0 rfl ?_
    refine J_iload_n X d_DataRow_leaf_73 rfl 2 rfl ?_
    refine J_iconst X d_DataRow_leaf_74 ?_
    refine J_icmp_ne (tgt := 83) X d_DataRow_leaf_75 (by decide) h (fun c7 h => ?_) (fun c7 h => ?_)
    · refine J_iconst X d_DataRow_leaf_83 ?_
      obtain ⟨g8, h⟩ := wk_g h
      refine J_iast (ws' := [(ad 16, .inr (5, [.ref (ad 17), .ref (ad 18), .ref (ad 19), .ref (ad 20), .ref (ad 21), .ref (ad 22), .int (zI (D_top + 1))])), (ad 17, .inl (cI, 3201, .inl (zA (upZ D_forms D_top p1)))), (ad 18, .inl (cI, 3201, .inl (zA (upZ D_counts D_top p4)))), (ad 19, .inl (cL, 3201, .inr (.inl (zB (upZ D_numbers D_top p2))))), (ad 20, .inl (cI, 3201, .inl (zA (upZ D_nodes D_top 1)))), (ad 21, .inl (cI, 3201, .inl (zA (upZ D_depths D_top 1)))), (ad 22, .inl (cI, 3201, .inl (zA (upZ D_weights D_top 0))))]) X 6 0 rfl rfl g8 d_DataRow_leaf_84 rfl ?_
      refine J_iload X d_DataRow_leaf_85 0 rfl ?_
      cases h
      exact J_ret E ⟨_, rfl, rfl⟩ d_DataRow_leaf_87 (Nat.le_refl _) (Nat.le_refl _) rfl
    · refine J_iload X d_DataRow_leaf_78 4 rfl ?_
      refine J_goto (tgt := 84) X d_DataRow_leaf_80 (by decide) ?_
      obtain ⟨g9, h⟩ := wk_g h
      refine J_iast (ws' := [(ad 16, .inr (5, [.ref (ad 17), .ref (ad 18), .ref (ad 19), .ref (ad 20), .ref (ad 21), .ref (ad 22), .int (zI (D_top + 1))])), (ad 17, .inl (cI, 3201, .inl (zA (upZ D_forms D_top p1)))), (ad 18, .inl (cI, 3201, .inl (zA (upZ D_counts D_top p4)))), (ad 19, .inl (cL, 3201, .inr (.inl (zB (upZ D_numbers D_top p2))))), (ad 20, .inl (cI, 3201, .inl (zA (upZ D_nodes D_top 1)))), (ad 21, .inl (cI, 3201, .inl (zA (upZ D_depths D_top 1)))), (ad 22, .inl (cI, 3201, .inl (zA (upZ D_weights D_top p4))))]) X 6 0 rfl rfl g9 d_DataRow_leaf_84 rfl ?_
      refine J_iload X d_DataRow_leaf_85 0 rfl ?_
      cases h
      exact J_ret E ⟨_, rfl, rfl⟩ d_DataRow_leaf_87 (Nat.le_refl _) (Nat.le_refl _) rfl
  · refine J_iconst X d_DataRow_leaf_14 ?_
    cases h
    exact J_ret E ⟨_, rfl, rfl⟩ d_DataRow_leaf_15 (Nat.le_refl _) (Nat.le_refl _) rfl

theorem d_DataRow_forget_0 : decode b_DataRow_forget 0 = .ok (.aload_n 0, 1) := by decide +kernel
theorem d_DataRow_forget_1 : decode b_DataRow_forget 1 = .ok (.iconst 0, 1) := by decide +kernel
theorem d_DataRow_forget_2 : decode b_DataRow_forget 2 = .ok (.putfield 31, 3) := by decide +kernel
theorem d_DataRow_forget_5 : decode b_DataRow_forget 5 = .ok (.aload_n 0, 1) := by decide +kernel
theorem d_DataRow_forget_6 : decode b_DataRow_forget 6 = .ok (.iconst 2, 1) := by decide +kernel
theorem d_DataRow_forget_7 : decode b_DataRow_forget 7 = .ok (.lconst 0, 1) := by decide +kernel
theorem d_DataRow_forget_8 : decode b_DataRow_forget 8 = .ok (.iconst 0, 1) := by decide +kernel
theorem d_DataRow_forget_9 : decode b_DataRow_forget 9 = .ok (.invokevirtual 38, 3) := by decide +kernel
theorem d_DataRow_forget_12 : decode b_DataRow_forget 12 = .ok (.pop, 1) := by decide +kernel
theorem d_DataRow_forget_13 : decode b_DataRow_forget 13 = .ok (.return_, 1) := by decide +kernel
def f_DataRow_forget (D_top : Int) (D_forms : Int → Int) (D_counts : Int → Int) (D_numbers : Int → Int) (D_nodes : Int → Int) (D_depths : Int → Int) (D_weights : Int → Int) : Option (Int × (Int → Int) × (Int → Int) × (Int → Int) × (Int → Int) × (Int → Int) × (Int → Int)) :=
  ob8 (f_DataRow_leaf 0 D_forms D_counts D_numbers D_nodes D_depths D_weights 2 0 0) (fun r1 D_top_2 D_forms_3 D_counts_4 D_numbers_5 D_nodes_6 D_depths_7 D_weights_8 =>
   some (D_top_2, D_forms_3, D_counts_4, D_numbers_5, D_nodes_6, D_depths_7, D_weights_8))
set_option maxHeartbeats 4000000 in
set_option maxRecDepth 100000 in
theorem c_DataRow_forget {l : Launch} {D : va_G} {cI cL cB : ClassId} {ad : Nat → Nat} {D_top : Int} {D_forms : Int → Int} {D_counts : Int → Int} {D_numbers : Int → Int} {D_nodes : Int → Int} {D_depths : Int → Int} {D_weights : Int → Int} {out : Int × (Int → Int) × (Int → Int) × (Int → Int) × (Int → Int) × (Int → Int) × (Int → Int)} (h : f_DataRow_forget D_top D_forms D_counts D_numbers D_nodes D_depths D_weights = some out) : CT jF0 false l D [(cI, .int), (cL, .long), (cB, .byte)] y_DataRow_forget w_DataRow_forget ({ frames := 1, cells := 0, slots := 0, locals := 25 } : Room) [.ref (ad 16)] [(ad 16, .inr (5, [.ref (ad 17), .ref (ad 18), .ref (ad 19), .ref (ad 20), .ref (ad 21), .ref (ad 22), .int (zI D_top)])), (ad 17, .inl (cI, 3201, .inl (zA D_forms))), (ad 18, .inl (cI, 3201, .inl (zA D_counts))), (ad 19, .inl (cL, 3201, .inr (.inl (zB D_numbers)))), (ad 20, .inl (cI, 3201, .inl (zA D_nodes))), (ad 21, .inl (cI, 3201, .inl (zA D_depths))), (ad 22, .inl (cI, 3201, .inl (zA D_weights)))] none [(ad 16, .inr (5, [.ref (ad 17), .ref (ad 18), .ref (ad 19), .ref (ad 20), .ref (ad 21), .ref (ad 22), .int (zI (out.1))])), (ad 17, .inl (cI, 3201, .inl (zA (out.2.1)))), (ad 18, .inl (cI, 3201, .inl (zA (out.2.2.1)))), (ad 19, .inl (cL, 3201, .inr (.inl (zB (out.2.2.2.1))))), (ad 20, .inl (cI, 3201, .inl (zA (out.2.2.2.2.1)))), (ad 21, .inl (cI, 3201, .inl (zA (out.2.2.2.2.2.1)))), (ad 22, .inl (cI, 3201, .inl (zA (out.2.2.2.2.2.2))))] 0 0 := by
  refine CT_of_J (cc := b_DataRow_forget) (maxL := 1) (ret := none) jF0_k (plainFor_of_name (by decide)) rfl (Nat.le_of_ble_eq_true rfl) ?_
  intro K hKl hKD X E
  subst hKl; subst hKD
  unfold f_DataRow_forget at h
  refine J_aload_n X d_DataRow_forget_0 rfl 0 rfl ?_
  refine J_iconst X d_DataRow_forget_1 ?_
  refine J_put (ws' := [(ad 16, .inr (5, [.ref (ad 17), .ref (ad 18), .ref (ad 19), .ref (ad 20), .ref (ad 21), .ref (ad 22), .int (zI 0)])), (ad 17, .inl (cI, 3201, .inl (zA D_forms))), (ad 18, .inl (cI, 3201, .inl (zA D_counts))), (ad 19, .inl (cL, 3201, .inr (.inl (zB D_numbers)))), (ad 20, .inl (cI, 3201, .inl (zA D_nodes))), (ad 21, .inl (cI, 3201, .inl (zA D_depths))), (ad 22, .inl (cI, 3201, .inl (zA D_weights)))]) X (j_in in_DataRow) ty_DataRow tok_DataRow nm_DataRow 0 rfl rfl 6 (by decide) (j_m own_DataRow_forget (by decide +kernel)) rfl rfl rfl (Nat.le_of_ble_eq_true rfl) d_DataRow_forget_2 rfl ?_
  refine J_aload_n X d_DataRow_forget_5 rfl 0 rfl ?_
  refine J_iconst X d_DataRow_forget_6 ?_
  refine J_lconst (v := 0) X d_DataRow_forget_7 (by decide) ?_
  refine J_iconst X d_DataRow_forget_8 ?_
  obtain ⟨r1, D_top_2, D_forms_3, D_counts_4, D_numbers_5, D_nodes_6, D_depths_7, D_weights_8, q9, h⟩ := wk_b8 h
  refine J_afterI0 (ws' := [(ad 16, .inr (5, [.ref (ad 17), .ref (ad 18), .ref (ad 19), .ref (ad 20), .ref (ad 21), .ref (ad 22), .int (zI D_top_2)])), (ad 17, .inl (cI, 3201, .inl (zA D_forms_3))), (ad 18, .inl (cI, 3201, .inl (zA D_counts_4))), (ad 19, .inl (cL, 3201, .inr (.inl (zB D_numbers_5)))), (ad 20, .inl (cI, 3201, .inl (zA D_nodes_6))), (ad 21, .inl (cI, 3201, .inl (zA D_depths_7))), (ad 22, .inl (cI, 3201, .inl (zA D_weights_8)))]) X (jrunV X (c_DataRow_leaf (ad := ad) q9) jF0_k (fun _ _ _ _ => trivial) (jgV own_DataRow_forget (by decide +kernel)) rfl rfl rfl pd_DataRow_leaf (by decide) [0, 1, 2, 3, 4, 5, 6] rfl (by decide) 0 5 rfl rfl rfl rfl (Nat.le_of_ble_eq_true rfl) d_DataRow_forget_9 (by decide)) [0, 1, 2, 3, 4, 5, 6] [] [0, 1, 2, 3, 4, 5, 6] rfl rfl (by decide) (by decide) rfl (by decide) ?_
  refine J_pop X d_DataRow_forget_12 rfl ?_
  cases h
  exact J_ret E rfl d_DataRow_forget_13 (Nat.le_refl _) (Nat.le_refl _) rfl

theorem d_DataRow_formOf_0 : decode b_DataRow_formOf 0 = .ok (.iload_n 1, 1) := by decide +kernel
theorem d_DataRow_formOf_1 : decode b_DataRow_formOf 1 = .ok (.ifCond .lt 20, 3) := by decide +kernel
theorem d_DataRow_formOf_4 : decode b_DataRow_formOf 4 = .ok (.iload_n 1, 1) := by decide +kernel
theorem d_DataRow_formOf_5 : decode b_DataRow_formOf 5 = .ok (.aload_n 0, 1) := by decide +kernel
theorem d_DataRow_formOf_6 : decode b_DataRow_formOf 6 = .ok (.getfield 31, 3) := by decide +kernel
theorem d_DataRow_formOf_9 : decode b_DataRow_formOf 9 = .ok (.if_icmp .ge 12, 3) := by decide +kernel
theorem d_DataRow_formOf_12 : decode b_DataRow_formOf 12 = .ok (.aload_n 0, 1) := by decide +kernel
theorem d_DataRow_formOf_13 : decode b_DataRow_formOf 13 = .ok (.getfield 9, 3) := by decide +kernel
theorem d_DataRow_formOf_16 : decode b_DataRow_formOf 16 = .ok (.iload_n 1, 1) := by decide +kernel
theorem d_DataRow_formOf_17 : decode b_DataRow_formOf 17 = .ok (.iaload, 1) := by decide +kernel
theorem d_DataRow_formOf_18 : decode b_DataRow_formOf 18 = .ok (.goto 4, 3) := by decide +kernel
theorem d_DataRow_formOf_21 : decode b_DataRow_formOf 21 = .ok (.iconst (-1), 1) := by decide +kernel
theorem d_DataRow_formOf_22 : decode b_DataRow_formOf 22 = .ok (.ireturn, 1) := by decide +kernel
def f_DataRow_formOf (D_top : Int) (D_forms : Int → Int) (p1 : Int) : Option (Int) :=
  if rI p1 = true then (if p1 < 0 then (
   some (-1)) else (
   if jr2 p1 D_top = true then (if D_top ≤ p1 then (
    some (-1)) else (
    if jix p1 3201 = true then (
     some (D_forms p1)) else none)) else none)) else none
set_option maxHeartbeats 4000000 in
set_option maxRecDepth 100000 in
theorem c_DataRow_formOf {l : Launch} {D : va_G} {cI cL cB : ClassId} {ad : Nat → Nat} {D_top : Int} {D_forms : Int → Int} {p1 : Int} {out : Int} (h : f_DataRow_formOf D_top D_forms p1 = some out) : CT jF0 true l D [(cI, .int), (cL, .long), (cB, .byte)] y_DataRow_formOf w_DataRow_formOf ({ frames := 0, cells := 0, slots := 0, locals := 0 } : Room) [.ref (ad 16), .int (zI p1)] [(ad 16, .inr (5, [.ref (ad 17), .ref (ad 18), .ref (ad 19), .ref (ad 20), .ref (ad 21), .ref (ad 22), .int (zI D_top)])), (ad 17, .inl (cI, 3201, .inl (zA D_forms)))] (some (.int (zI out))) [(ad 16, .inr (5, [.ref (ad 17), .ref (ad 18), .ref (ad 19), .ref (ad 20), .ref (ad 21), .ref (ad 22), .int (zI D_top)])), (ad 17, .inl (cI, 3201, .inl (zA D_forms)))] 0 0 := by
  refine CT_of_J (cc := b_DataRow_formOf) (maxL := 2) (ret := (some .int)) jF0_k (plainFor_of_name (by decide)) rfl (Nat.le_of_ble_eq_true rfl) ?_
  intro K hKl hKD X E
  subst hKl; subst hKD
  unfold f_DataRow_formOf at h
  refine J_iload_n X d_DataRow_formOf_0 rfl 1 rfl ?_
  refine J_if_lt (tgt := 21) X d_DataRow_formOf_1 (by decide) h (fun c1 h => ?_) (fun c1 h => ?_)
  · refine J_iconst X d_DataRow_formOf_21 ?_
    cases h
    exact J_ret E ⟨_, rfl, rfl⟩ d_DataRow_formOf_22 (Nat.le_refl _) (Nat.le_refl _) rfl
  · refine J_iload_n X d_DataRow_formOf_4 rfl 1 rfl ?_
    refine J_aload_n X d_DataRow_formOf_5 rfl 0 rfl ?_
    refine J_get X (j_in in_DataRow) 0 rfl rfl 6 (by decide) (j_m own_DataRow_formOf (by decide +kernel)) rfl d_DataRow_formOf_6 ?_
    refine J_icmp_ge (tgt := 21) X d_DataRow_formOf_9 (by decide) h (fun c2 h => ?_) (fun c2 h => ?_)
    · refine J_iconst X d_DataRow_formOf_21 ?_
      cases h
      exact J_ret E ⟨_, rfl, rfl⟩ d_DataRow_formOf_22 (Nat.le_refl _) (Nat.le_refl _) rfl
    · refine J_aload_n X d_DataRow_formOf_12 rfl 0 rfl ?_
      refine J_get X (j_in in_DataRow) 0 rfl rfl 0 (by decide) (j_m own_DataRow_formOf (by decide +kernel)) rfl d_DataRow_formOf_13 ?_
      refine J_iload_n X d_DataRow_formOf_16 rfl 1 rfl ?_
      obtain ⟨g3, h⟩ := wk_g h
      refine J_iald X 1 0 rfl rfl g3 d_DataRow_formOf_17 ?_
      refine J_goto (tgt := 22) X d_DataRow_formOf_18 (by decide) ?_
      cases h
      exact J_ret E ⟨_, rfl, rfl⟩ d_DataRow_formOf_22 (Nat.le_refl _) (Nat.le_refl _) rfl

theorem d_DataRow_countOf_0 : decode b_DataRow_countOf 0 = .ok (.iload_n 1, 1) := by decide +kernel
theorem d_DataRow_countOf_1 : decode b_DataRow_countOf 1 = .ok (.ifCond .lt 20, 3) := by decide +kernel
theorem d_DataRow_countOf_4 : decode b_DataRow_countOf 4 = .ok (.iload_n 1, 1) := by decide +kernel
theorem d_DataRow_countOf_5 : decode b_DataRow_countOf 5 = .ok (.aload_n 0, 1) := by decide +kernel
theorem d_DataRow_countOf_6 : decode b_DataRow_countOf 6 = .ok (.getfield 31, 3) := by decide +kernel
theorem d_DataRow_countOf_9 : decode b_DataRow_countOf 9 = .ok (.if_icmp .ge 12, 3) := by decide +kernel
theorem d_DataRow_countOf_12 : decode b_DataRow_countOf 12 = .ok (.aload_n 0, 1) := by decide +kernel
theorem d_DataRow_countOf_13 : decode b_DataRow_countOf 13 = .ok (.getfield 15, 3) := by decide +kernel
theorem d_DataRow_countOf_16 : decode b_DataRow_countOf 16 = .ok (.iload_n 1, 1) := by decide +kernel
theorem d_DataRow_countOf_17 : decode b_DataRow_countOf 17 = .ok (.iaload, 1) := by decide +kernel
theorem d_DataRow_countOf_18 : decode b_DataRow_countOf 18 = .ok (.goto 4, 3) := by decide +kernel
theorem d_DataRow_countOf_21 : decode b_DataRow_countOf 21 = .ok (.iconst (-1), 1) := by decide +kernel
theorem d_DataRow_countOf_22 : decode b_DataRow_countOf 22 = .ok (.ireturn, 1) := by decide +kernel
def f_DataRow_countOf (D_top : Int) (D_counts : Int → Int) (p1 : Int) : Option (Int) :=
  if rI p1 = true then (if p1 < 0 then (
   some (-1)) else (
   if jr2 p1 D_top = true then (if D_top ≤ p1 then (
    some (-1)) else (
    if jix p1 3201 = true then (
     some (D_counts p1)) else none)) else none)) else none
set_option maxHeartbeats 4000000 in
set_option maxRecDepth 100000 in
theorem c_DataRow_countOf {l : Launch} {D : va_G} {cI cL cB : ClassId} {ad : Nat → Nat} {D_top : Int} {D_counts : Int → Int} {p1 : Int} {out : Int} (h : f_DataRow_countOf D_top D_counts p1 = some out) : CT jF0 true l D [(cI, .int), (cL, .long), (cB, .byte)] y_DataRow_countOf w_DataRow_countOf ({ frames := 0, cells := 0, slots := 0, locals := 0 } : Room) [.ref (ad 16), .int (zI p1)] [(ad 16, .inr (5, [.ref (ad 17), .ref (ad 18), .ref (ad 19), .ref (ad 20), .ref (ad 21), .ref (ad 22), .int (zI D_top)])), (ad 18, .inl (cI, 3201, .inl (zA D_counts)))] (some (.int (zI out))) [(ad 16, .inr (5, [.ref (ad 17), .ref (ad 18), .ref (ad 19), .ref (ad 20), .ref (ad 21), .ref (ad 22), .int (zI D_top)])), (ad 18, .inl (cI, 3201, .inl (zA D_counts)))] 0 0 := by
  refine CT_of_J (cc := b_DataRow_countOf) (maxL := 2) (ret := (some .int)) jF0_k (plainFor_of_name (by decide)) rfl (Nat.le_of_ble_eq_true rfl) ?_
  intro K hKl hKD X E
  subst hKl; subst hKD
  unfold f_DataRow_countOf at h
  refine J_iload_n X d_DataRow_countOf_0 rfl 1 rfl ?_
  refine J_if_lt (tgt := 21) X d_DataRow_countOf_1 (by decide) h (fun c1 h => ?_) (fun c1 h => ?_)
  · refine J_iconst X d_DataRow_countOf_21 ?_
    cases h
    exact J_ret E ⟨_, rfl, rfl⟩ d_DataRow_countOf_22 (Nat.le_refl _) (Nat.le_refl _) rfl
  · refine J_iload_n X d_DataRow_countOf_4 rfl 1 rfl ?_
    refine J_aload_n X d_DataRow_countOf_5 rfl 0 rfl ?_
    refine J_get X (j_in in_DataRow) 0 rfl rfl 6 (by decide) (j_m own_DataRow_countOf (by decide +kernel)) rfl d_DataRow_countOf_6 ?_
    refine J_icmp_ge (tgt := 21) X d_DataRow_countOf_9 (by decide) h (fun c2 h => ?_) (fun c2 h => ?_)
    · refine J_iconst X d_DataRow_countOf_21 ?_
      cases h
      exact J_ret E ⟨_, rfl, rfl⟩ d_DataRow_countOf_22 (Nat.le_refl _) (Nat.le_refl _) rfl
    · refine J_aload_n X d_DataRow_countOf_12 rfl 0 rfl ?_
      refine J_get X (j_in in_DataRow) 0 rfl rfl 1 (by decide) (j_m own_DataRow_countOf (by decide +kernel)) rfl d_DataRow_countOf_13 ?_
      refine J_iload_n X d_DataRow_countOf_16 rfl 1 rfl ?_
      obtain ⟨g3, h⟩ := wk_g h
      refine J_iald X 1 0 rfl rfl g3 d_DataRow_countOf_17 ?_
      refine J_goto (tgt := 22) X d_DataRow_countOf_18 (by decide) ?_
      cases h
      exact J_ret E ⟨_, rfl, rfl⟩ d_DataRow_countOf_22 (Nat.le_refl _) (Nat.le_refl _) rfl

theorem d_DataRow_numberOf_0 : decode b_DataRow_numberOf 0 = .ok (.iload_n 1, 1) := by decide +kernel
theorem d_DataRow_numberOf_1 : decode b_DataRow_numberOf 1 = .ok (.ifCond .lt 20, 3) := by decide +kernel
theorem d_DataRow_numberOf_4 : decode b_DataRow_numberOf 4 = .ok (.iload_n 1, 1) := by decide +kernel
theorem d_DataRow_numberOf_5 : decode b_DataRow_numberOf 5 = .ok (.aload_n 0, 1) := by decide +kernel
theorem d_DataRow_numberOf_6 : decode b_DataRow_numberOf 6 = .ok (.getfield 31, 3) := by decide +kernel
theorem d_DataRow_numberOf_9 : decode b_DataRow_numberOf 9 = .ok (.if_icmp .ge 12, 3) := by decide +kernel
theorem d_DataRow_numberOf_12 : decode b_DataRow_numberOf 12 = .ok (.aload_n 0, 1) := by decide +kernel
theorem d_DataRow_numberOf_13 : decode b_DataRow_numberOf 13 = .ok (.getfield 18, 3) := by decide +kernel
theorem d_DataRow_numberOf_16 : decode b_DataRow_numberOf 16 = .ok (.iload_n 1, 1) := by decide +kernel
theorem d_DataRow_numberOf_17 : decode b_DataRow_numberOf 17 = .ok (.laload, 1) := by decide +kernel
theorem d_DataRow_numberOf_18 : decode b_DataRow_numberOf 18 = .ok (.goto 4, 3) := by decide +kernel
theorem d_DataRow_numberOf_21 : decode b_DataRow_numberOf 21 = .ok (.lconst 0, 1) := by decide +kernel
theorem d_DataRow_numberOf_22 : decode b_DataRow_numberOf 22 = .ok (.lreturn, 1) := by decide +kernel
def f_DataRow_numberOf (D_top : Int) (D_numbers : Int → Int) (p1 : Int) : Option (Int) :=
  if rI p1 = true then (if p1 < 0 then (
   some 0) else (
   if jr2 p1 D_top = true then (if D_top ≤ p1 then (
    some 0) else (
    if jix p1 3201 = true then (
     some (D_numbers p1)) else none)) else none)) else none
set_option maxHeartbeats 4000000 in
set_option maxRecDepth 100000 in
theorem c_DataRow_numberOf {l : Launch} {D : va_G} {cI cL cB : ClassId} {ad : Nat → Nat} {D_top : Int} {D_numbers : Int → Int} {p1 : Int} {out : Int} (h : f_DataRow_numberOf D_top D_numbers p1 = some out) : CT jF0 true l D [(cI, .int), (cL, .long), (cB, .byte)] y_DataRow_numberOf w_DataRow_numberOf ({ frames := 0, cells := 0, slots := 0, locals := 0 } : Room) [.ref (ad 16), .int (zI p1)] [(ad 16, .inr (5, [.ref (ad 17), .ref (ad 18), .ref (ad 19), .ref (ad 20), .ref (ad 21), .ref (ad 22), .int (zI D_top)])), (ad 19, .inl (cL, 3201, .inr (.inl (zB D_numbers))))] (some (.long (zL out))) [(ad 16, .inr (5, [.ref (ad 17), .ref (ad 18), .ref (ad 19), .ref (ad 20), .ref (ad 21), .ref (ad 22), .int (zI D_top)])), (ad 19, .inl (cL, 3201, .inr (.inl (zB D_numbers))))] 0 0 := by
  refine CT_of_J (cc := b_DataRow_numberOf) (maxL := 2) (ret := (some .long)) jF0_k (plainFor_of_name (by decide)) rfl (Nat.le_of_ble_eq_true rfl) ?_
  intro K hKl hKD X E
  subst hKl; subst hKD
  unfold f_DataRow_numberOf at h
  refine J_iload_n X d_DataRow_numberOf_0 rfl 1 rfl ?_
  refine J_if_lt (tgt := 21) X d_DataRow_numberOf_1 (by decide) h (fun c1 h => ?_) (fun c1 h => ?_)
  · refine J_lconst (v := 0) X d_DataRow_numberOf_21 (by decide) ?_
    cases h
    exact J_ret E rfl d_DataRow_numberOf_22 (Nat.le_refl _) (Nat.le_refl _) rfl
  · refine J_iload_n X d_DataRow_numberOf_4 rfl 1 rfl ?_
    refine J_aload_n X d_DataRow_numberOf_5 rfl 0 rfl ?_
    refine J_get X (j_in in_DataRow) 0 rfl rfl 6 (by decide) (j_m own_DataRow_numberOf (by decide +kernel)) rfl d_DataRow_numberOf_6 ?_
    refine J_icmp_ge (tgt := 21) X d_DataRow_numberOf_9 (by decide) h (fun c2 h => ?_) (fun c2 h => ?_)
    · refine J_lconst (v := 0) X d_DataRow_numberOf_21 (by decide) ?_
      cases h
      exact J_ret E rfl d_DataRow_numberOf_22 (Nat.le_refl _) (Nat.le_refl _) rfl
    · refine J_aload_n X d_DataRow_numberOf_12 rfl 0 rfl ?_
      refine J_get X (j_in in_DataRow) 0 rfl rfl 2 (by decide) (j_m own_DataRow_numberOf (by decide +kernel)) rfl d_DataRow_numberOf_13 ?_
      refine J_iload_n X d_DataRow_numberOf_16 rfl 1 rfl ?_
      obtain ⟨g3, h⟩ := wk_g h
      refine J_lald X 1 1 rfl rfl g3 d_DataRow_numberOf_17 ?_
      refine J_goto (tgt := 22) X d_DataRow_numberOf_18 (by decide) ?_
      cases h
      exact J_ret E rfl d_DataRow_numberOf_22 (Nat.le_refl _) (Nat.le_refl _) rfl

theorem d_DataRow_nodesOf_0 : decode b_DataRow_nodesOf 0 = .ok (.iload_n 1, 1) := by decide +kernel
theorem d_DataRow_nodesOf_1 : decode b_DataRow_nodesOf 1 = .ok (.ifCond .lt 20, 3) := by decide +kernel
theorem d_DataRow_nodesOf_4 : decode b_DataRow_nodesOf 4 = .ok (.iload_n 1, 1) := by decide +kernel
theorem d_DataRow_nodesOf_5 : decode b_DataRow_nodesOf 5 = .ok (.aload_n 0, 1) := by decide +kernel
theorem d_DataRow_nodesOf_6 : decode b_DataRow_nodesOf 6 = .ok (.getfield 31, 3) := by decide +kernel
theorem d_DataRow_nodesOf_9 : decode b_DataRow_nodesOf 9 = .ok (.if_icmp .ge 12, 3) := by decide +kernel
theorem d_DataRow_nodesOf_12 : decode b_DataRow_nodesOf 12 = .ok (.aload_n 0, 1) := by decide +kernel
theorem d_DataRow_nodesOf_13 : decode b_DataRow_nodesOf 13 = .ok (.getfield 22, 3) := by decide +kernel
theorem d_DataRow_nodesOf_16 : decode b_DataRow_nodesOf 16 = .ok (.iload_n 1, 1) := by decide +kernel
theorem d_DataRow_nodesOf_17 : decode b_DataRow_nodesOf 17 = .ok (.iaload, 1) := by decide +kernel
theorem d_DataRow_nodesOf_18 : decode b_DataRow_nodesOf 18 = .ok (.goto 4, 3) := by decide +kernel
theorem d_DataRow_nodesOf_21 : decode b_DataRow_nodesOf 21 = .ok (.iconst 0, 1) := by decide +kernel
theorem d_DataRow_nodesOf_22 : decode b_DataRow_nodesOf 22 = .ok (.ireturn, 1) := by decide +kernel
def f_DataRow_nodesOf (D_top : Int) (D_nodes : Int → Int) (p1 : Int) : Option (Int) :=
  if rI p1 = true then (if p1 < 0 then (
   some 0) else (
   if jr2 p1 D_top = true then (if D_top ≤ p1 then (
    some 0) else (
    if jix p1 3201 = true then (
     some (D_nodes p1)) else none)) else none)) else none
set_option maxHeartbeats 4000000 in
set_option maxRecDepth 100000 in
theorem c_DataRow_nodesOf {l : Launch} {D : va_G} {cI cL cB : ClassId} {ad : Nat → Nat} {D_top : Int} {D_nodes : Int → Int} {p1 : Int} {out : Int} (h : f_DataRow_nodesOf D_top D_nodes p1 = some out) : CT jF0 true l D [(cI, .int), (cL, .long), (cB, .byte)] y_DataRow_nodesOf w_DataRow_nodesOf ({ frames := 0, cells := 0, slots := 0, locals := 0 } : Room) [.ref (ad 16), .int (zI p1)] [(ad 16, .inr (5, [.ref (ad 17), .ref (ad 18), .ref (ad 19), .ref (ad 20), .ref (ad 21), .ref (ad 22), .int (zI D_top)])), (ad 20, .inl (cI, 3201, .inl (zA D_nodes)))] (some (.int (zI out))) [(ad 16, .inr (5, [.ref (ad 17), .ref (ad 18), .ref (ad 19), .ref (ad 20), .ref (ad 21), .ref (ad 22), .int (zI D_top)])), (ad 20, .inl (cI, 3201, .inl (zA D_nodes)))] 0 0 := by
  refine CT_of_J (cc := b_DataRow_nodesOf) (maxL := 2) (ret := (some .int)) jF0_k (plainFor_of_name (by decide)) rfl (Nat.le_of_ble_eq_true rfl) ?_
  intro K hKl hKD X E
  subst hKl; subst hKD
  unfold f_DataRow_nodesOf at h
  refine J_iload_n X d_DataRow_nodesOf_0 rfl 1 rfl ?_
  refine J_if_lt (tgt := 21) X d_DataRow_nodesOf_1 (by decide) h (fun c1 h => ?_) (fun c1 h => ?_)
  · refine J_iconst X d_DataRow_nodesOf_21 ?_
    cases h
    exact J_ret E ⟨_, rfl, rfl⟩ d_DataRow_nodesOf_22 (Nat.le_refl _) (Nat.le_refl _) rfl
  · refine J_iload_n X d_DataRow_nodesOf_4 rfl 1 rfl ?_
    refine J_aload_n X d_DataRow_nodesOf_5 rfl 0 rfl ?_
    refine J_get X (j_in in_DataRow) 0 rfl rfl 6 (by decide) (j_m own_DataRow_nodesOf (by decide +kernel)) rfl d_DataRow_nodesOf_6 ?_
    refine J_icmp_ge (tgt := 21) X d_DataRow_nodesOf_9 (by decide) h (fun c2 h => ?_) (fun c2 h => ?_)
    · refine J_iconst X d_DataRow_nodesOf_21 ?_
      cases h
      exact J_ret E ⟨_, rfl, rfl⟩ d_DataRow_nodesOf_22 (Nat.le_refl _) (Nat.le_refl _) rfl
    · refine J_aload_n X d_DataRow_nodesOf_12 rfl 0 rfl ?_
      refine J_get X (j_in in_DataRow) 0 rfl rfl 3 (by decide) (j_m own_DataRow_nodesOf (by decide +kernel)) rfl d_DataRow_nodesOf_13 ?_
      refine J_iload_n X d_DataRow_nodesOf_16 rfl 1 rfl ?_
      obtain ⟨g3, h⟩ := wk_g h
      refine J_iald X 1 0 rfl rfl g3 d_DataRow_nodesOf_17 ?_
      refine J_goto (tgt := 22) X d_DataRow_nodesOf_18 (by decide) ?_
      cases h
      exact J_ret E ⟨_, rfl, rfl⟩ d_DataRow_nodesOf_22 (Nat.le_refl _) (Nat.le_refl _) rfl

theorem d_DataRow_depthOf_0 : decode b_DataRow_depthOf 0 = .ok (.iload_n 1, 1) := by decide +kernel
theorem d_DataRow_depthOf_1 : decode b_DataRow_depthOf 1 = .ok (.ifCond .lt 20, 3) := by decide +kernel
theorem d_DataRow_depthOf_4 : decode b_DataRow_depthOf 4 = .ok (.iload_n 1, 1) := by decide +kernel
theorem d_DataRow_depthOf_5 : decode b_DataRow_depthOf 5 = .ok (.aload_n 0, 1) := by decide +kernel
theorem d_DataRow_depthOf_6 : decode b_DataRow_depthOf 6 = .ok (.getfield 31, 3) := by decide +kernel
theorem d_DataRow_depthOf_9 : decode b_DataRow_depthOf 9 = .ok (.if_icmp .ge 12, 3) := by decide +kernel
theorem d_DataRow_depthOf_12 : decode b_DataRow_depthOf 12 = .ok (.aload_n 0, 1) := by decide +kernel
theorem d_DataRow_depthOf_13 : decode b_DataRow_depthOf 13 = .ok (.getfield 25, 3) := by decide +kernel
theorem d_DataRow_depthOf_16 : decode b_DataRow_depthOf 16 = .ok (.iload_n 1, 1) := by decide +kernel
theorem d_DataRow_depthOf_17 : decode b_DataRow_depthOf 17 = .ok (.iaload, 1) := by decide +kernel
theorem d_DataRow_depthOf_18 : decode b_DataRow_depthOf 18 = .ok (.goto 4, 3) := by decide +kernel
theorem d_DataRow_depthOf_21 : decode b_DataRow_depthOf 21 = .ok (.iconst (-1), 1) := by decide +kernel
theorem d_DataRow_depthOf_22 : decode b_DataRow_depthOf 22 = .ok (.ireturn, 1) := by decide +kernel
def f_DataRow_depthOf (D_top : Int) (D_depths : Int → Int) (p1 : Int) : Option (Int) :=
  if rI p1 = true then (if p1 < 0 then (
   some (-1)) else (
   if jr2 p1 D_top = true then (if D_top ≤ p1 then (
    some (-1)) else (
    if jix p1 3201 = true then (
     some (D_depths p1)) else none)) else none)) else none
set_option maxHeartbeats 4000000 in
set_option maxRecDepth 100000 in
theorem c_DataRow_depthOf {l : Launch} {D : va_G} {cI cL cB : ClassId} {ad : Nat → Nat} {D_top : Int} {D_depths : Int → Int} {p1 : Int} {out : Int} (h : f_DataRow_depthOf D_top D_depths p1 = some out) : CT jF0 true l D [(cI, .int), (cL, .long), (cB, .byte)] y_DataRow_depthOf w_DataRow_depthOf ({ frames := 0, cells := 0, slots := 0, locals := 0 } : Room) [.ref (ad 16), .int (zI p1)] [(ad 16, .inr (5, [.ref (ad 17), .ref (ad 18), .ref (ad 19), .ref (ad 20), .ref (ad 21), .ref (ad 22), .int (zI D_top)])), (ad 21, .inl (cI, 3201, .inl (zA D_depths)))] (some (.int (zI out))) [(ad 16, .inr (5, [.ref (ad 17), .ref (ad 18), .ref (ad 19), .ref (ad 20), .ref (ad 21), .ref (ad 22), .int (zI D_top)])), (ad 21, .inl (cI, 3201, .inl (zA D_depths)))] 0 0 := by
  refine CT_of_J (cc := b_DataRow_depthOf) (maxL := 2) (ret := (some .int)) jF0_k (plainFor_of_name (by decide)) rfl (Nat.le_of_ble_eq_true rfl) ?_
  intro K hKl hKD X E
  subst hKl; subst hKD
  unfold f_DataRow_depthOf at h
  refine J_iload_n X d_DataRow_depthOf_0 rfl 1 rfl ?_
  refine J_if_lt (tgt := 21) X d_DataRow_depthOf_1 (by decide) h (fun c1 h => ?_) (fun c1 h => ?_)
  · refine J_iconst X d_DataRow_depthOf_21 ?_
    cases h
    exact J_ret E ⟨_, rfl, rfl⟩ d_DataRow_depthOf_22 (Nat.le_refl _) (Nat.le_refl _) rfl
  · refine J_iload_n X d_DataRow_depthOf_4 rfl 1 rfl ?_
    refine J_aload_n X d_DataRow_depthOf_5 rfl 0 rfl ?_
    refine J_get X (j_in in_DataRow) 0 rfl rfl 6 (by decide) (j_m own_DataRow_depthOf (by decide +kernel)) rfl d_DataRow_depthOf_6 ?_
    refine J_icmp_ge (tgt := 21) X d_DataRow_depthOf_9 (by decide) h (fun c2 h => ?_) (fun c2 h => ?_)
    · refine J_iconst X d_DataRow_depthOf_21 ?_
      cases h
      exact J_ret E ⟨_, rfl, rfl⟩ d_DataRow_depthOf_22 (Nat.le_refl _) (Nat.le_refl _) rfl
    · refine J_aload_n X d_DataRow_depthOf_12 rfl 0 rfl ?_
      refine J_get X (j_in in_DataRow) 0 rfl rfl 4 (by decide) (j_m own_DataRow_depthOf (by decide +kernel)) rfl d_DataRow_depthOf_13 ?_
      refine J_iload_n X d_DataRow_depthOf_16 rfl 1 rfl ?_
      obtain ⟨g3, h⟩ := wk_g h
      refine J_iald X 1 0 rfl rfl g3 d_DataRow_depthOf_17 ?_
      refine J_goto (tgt := 22) X d_DataRow_depthOf_18 (by decide) ?_
      cases h
      exact J_ret E ⟨_, rfl, rfl⟩ d_DataRow_depthOf_22 (Nat.le_refl _) (Nat.le_refl _) rfl

theorem d_DataRow_sizeOf_0 : decode b_DataRow_sizeOf 0 = .ok (.iload_n 1, 1) := by decide +kernel
theorem d_DataRow_sizeOf_1 : decode b_DataRow_sizeOf 1 = .ok (.ifCond .lt 30, 3) := by decide +kernel
theorem d_DataRow_sizeOf_4 : decode b_DataRow_sizeOf 4 = .ok (.iload_n 1, 1) := by decide +kernel
theorem d_DataRow_sizeOf_5 : decode b_DataRow_sizeOf 5 = .ok (.aload_n 0, 1) := by decide +kernel
theorem d_DataRow_sizeOf_6 : decode b_DataRow_sizeOf 6 = .ok (.getfield 31, 3) := by decide +kernel
theorem d_DataRow_sizeOf_9 : decode b_DataRow_sizeOf 9 = .ok (.if_icmp .ge 22, 3) := by decide +kernel
theorem d_DataRow_sizeOf_12 : decode b_DataRow_sizeOf 12 = .ok (.aload_n 0, 1) := by decide +kernel
theorem d_DataRow_sizeOf_13 : decode b_DataRow_sizeOf 13 = .ok (.getfield 22, 3) := by decide +kernel
theorem d_DataRow_sizeOf_16 : decode b_DataRow_sizeOf 16 = .ok (.iload_n 1, 1) := by decide +kernel
theorem d_DataRow_sizeOf_17 : decode b_DataRow_sizeOf 17 = .ok (.iaload, 1) := by decide +kernel
theorem d_DataRow_sizeOf_18 : decode b_DataRow_sizeOf 18 = .ok (.aload_n 0, 1) := by decide +kernel
theorem d_DataRow_sizeOf_19 : decode b_DataRow_sizeOf 19 = .ok (.getfield 28, 3) := by decide +kernel
theorem d_DataRow_sizeOf_22 : decode b_DataRow_sizeOf 22 = .ok (.iload_n 1, 1) := by decide +kernel
theorem d_DataRow_sizeOf_23 : decode b_DataRow_sizeOf 23 = .ok (.iaload, 1) := by decide +kernel
theorem d_DataRow_sizeOf_24 : decode b_DataRow_sizeOf 24 = .ok (.bipush 8, 2) := by decide +kernel
theorem d_DataRow_sizeOf_26 : decode b_DataRow_sizeOf 26 = .ok (.idiv, 1) := by decide +kernel
theorem d_DataRow_sizeOf_27 : decode b_DataRow_sizeOf 27 = .ok (.iadd, 1) := by decide +kernel
theorem d_DataRow_sizeOf_28 : decode b_DataRow_sizeOf 28 = .ok (.goto 4, 3) := by decide +kernel
theorem d_DataRow_sizeOf_31 : decode b_DataRow_sizeOf 31 = .ok (.iconst 0, 1) := by decide +kernel
theorem d_DataRow_sizeOf_32 : decode b_DataRow_sizeOf 32 = .ok (.ireturn, 1) := by decide +kernel
def f_DataRow_sizeOf (D_top : Int) (D_nodes : Int → Int) (D_weights : Int → Int) (p1 : Int) : Option (Int) :=
  if rI p1 = true then (if p1 < 0 then (
   some 0) else (
   if jr2 p1 D_top = true then (if D_top ≤ p1 then (
    some 0) else (
    if jix p1 3201 = true then (
     if jix p1 3201 = true then (
      if jdv (D_weights p1) 8 = true then (
       some ((D_nodes p1) + (Int.tdiv (D_weights p1) 8))) else none) else none) else none)) else none)) else none
set_option maxHeartbeats 4000000 in
set_option maxRecDepth 100000 in
theorem c_DataRow_sizeOf {l : Launch} {D : va_G} {cI cL cB : ClassId} {ad : Nat → Nat} {D_top : Int} {D_nodes : Int → Int} {D_weights : Int → Int} {p1 : Int} {out : Int} (h : f_DataRow_sizeOf D_top D_nodes D_weights p1 = some out) : CT jF0 true l D [(cI, .int), (cL, .long), (cB, .byte)] y_DataRow_sizeOf w_DataRow_sizeOf ({ frames := 0, cells := 0, slots := 0, locals := 0 } : Room) [.ref (ad 16), .int (zI p1)] [(ad 16, .inr (5, [.ref (ad 17), .ref (ad 18), .ref (ad 19), .ref (ad 20), .ref (ad 21), .ref (ad 22), .int (zI D_top)])), (ad 20, .inl (cI, 3201, .inl (zA D_nodes))), (ad 22, .inl (cI, 3201, .inl (zA D_weights)))] (some (.int (zI out))) [(ad 16, .inr (5, [.ref (ad 17), .ref (ad 18), .ref (ad 19), .ref (ad 20), .ref (ad 21), .ref (ad 22), .int (zI D_top)])), (ad 20, .inl (cI, 3201, .inl (zA D_nodes))), (ad 22, .inl (cI, 3201, .inl (zA D_weights)))] 0 0 := by
  refine CT_of_J (cc := b_DataRow_sizeOf) (maxL := 2) (ret := (some .int)) jF0_k (plainFor_of_name (by decide)) rfl (Nat.le_of_ble_eq_true rfl) ?_
  intro K hKl hKD X E
  subst hKl; subst hKD
  unfold f_DataRow_sizeOf at h
  refine J_iload_n X d_DataRow_sizeOf_0 rfl 1 rfl ?_
  refine J_if_lt (tgt := 31) X d_DataRow_sizeOf_1 (by decide) h (fun c1 h => ?_) (fun c1 h => ?_)
  · refine J_iconst X d_DataRow_sizeOf_31 ?_
    cases h
    exact J_ret E ⟨_, rfl, rfl⟩ d_DataRow_sizeOf_32 (Nat.le_refl _) (Nat.le_refl _) rfl
  · refine J_iload_n X d_DataRow_sizeOf_4 rfl 1 rfl ?_
    refine J_aload_n X d_DataRow_sizeOf_5 rfl 0 rfl ?_
    refine J_get X (j_in in_DataRow) 0 rfl rfl 6 (by decide) (j_m own_DataRow_sizeOf (by decide +kernel)) rfl d_DataRow_sizeOf_6 ?_
    refine J_icmp_ge (tgt := 31) X d_DataRow_sizeOf_9 (by decide) h (fun c2 h => ?_) (fun c2 h => ?_)
    · refine J_iconst X d_DataRow_sizeOf_31 ?_
      cases h
      exact J_ret E ⟨_, rfl, rfl⟩ d_DataRow_sizeOf_32 (Nat.le_refl _) (Nat.le_refl _) rfl
    · refine J_aload_n X d_DataRow_sizeOf_12 rfl 0 rfl ?_
      refine J_get X (j_in in_DataRow) 0 rfl rfl 3 (by decide) (j_m own_DataRow_sizeOf (by decide +kernel)) rfl d_DataRow_sizeOf_13 ?_
      refine J_iload_n X d_DataRow_sizeOf_16 rfl 1 rfl ?_
      obtain ⟨g3, h⟩ := wk_g h
      refine J_iald X 1 0 rfl rfl g3 d_DataRow_sizeOf_17 ?_
      refine J_aload_n X d_DataRow_sizeOf_18 rfl 0 rfl ?_
      refine J_get X (j_in in_DataRow) 0 rfl rfl 5 (by decide) (j_m own_DataRow_sizeOf (by decide +kernel)) rfl d_DataRow_sizeOf_19 ?_
      refine J_iload_n X d_DataRow_sizeOf_22 rfl 1 rfl ?_
      obtain ⟨g4, h⟩ := wk_g h
      refine J_iald X 2 0 rfl rfl g4 d_DataRow_sizeOf_23 ?_
      refine J_bipush X d_DataRow_sizeOf_24 (by decide) ?_
      obtain ⟨g5, h⟩ := wk_g h
      refine J_idiv X g5 d_DataRow_sizeOf_26 ?_
      refine J_iadd X d_DataRow_sizeOf_27 ?_
      refine J_goto (tgt := 32) X d_DataRow_sizeOf_28 (by decide) ?_
      cases h
      exact J_ret E ⟨_, rfl, rfl⟩ d_DataRow_sizeOf_32 (Nat.le_refl _) (Nat.le_refl _) rfl

theorem d_DataRow_copy_0 : decode b_DataRow_copy 0 = .ok (.iload_n 1, 1) := by decide +kernel
theorem d_DataRow_copy_1 : decode b_DataRow_copy 1 = .ok (.ifCond .lt 29, 3) := by decide +kernel
theorem d_DataRow_copy_4 : decode b_DataRow_copy 4 = .ok (.iload_n 2, 1) := by decide +kernel
theorem d_DataRow_copy_5 : decode b_DataRow_copy 5 = .ok (.ifCond .lt 25, 3) := by decide +kernel
theorem d_DataRow_copy_8 : decode b_DataRow_copy 8 = .ok (.iload_n 1, 1) := by decide +kernel
theorem d_DataRow_copy_9 : decode b_DataRow_copy 9 = .ok (.iload_n 2, 1) := by decide +kernel
theorem d_DataRow_copy_10 : decode b_DataRow_copy 10 = .ok (.iadd, 1) := by decide +kernel
theorem d_DataRow_copy_11 : decode b_DataRow_copy 11 = .ok (.aload_n 0, 1) := by decide +kernel
theorem d_DataRow_copy_12 : decode b_DataRow_copy 12 = .ok (.getfield 31, 3) := by decide +kernel
theorem d_DataRow_copy_15 : decode b_DataRow_copy 15 = .ok (.if_icmp .gt 15, 3) := by decide +kernel
theorem d_DataRow_copy_18 : decode b_DataRow_copy 18 = .ok (.aload_n 0, 1) := by decide +kernel
theorem d_DataRow_copy_19 : decode b_DataRow_copy 19 = .ok (.getfield 31, 3) := by decide +kernel
theorem d_DataRow_copy_22 : decode b_DataRow_copy 22 = .ok (.iload_n 2, 1) := by decide +kernel
theorem d_DataRow_copy_23 : decode b_DataRow_copy 23 = .ok (.iadd, 1) := by decide +kernel
theorem d_DataRow_copy_24 : decode b_DataRow_copy 24 = .ok (.sipush 3201, 3) := by decide +kernel
theorem d_DataRow_copy_27 : decode b_DataRow_copy 27 = .ok (.if_icmp .le 5, 3) := by decide +kernel
theorem d_DataRow_copy_30 : decode b_DataRow_copy 30 = .ok (.iconst 0, 1) := by decide +kernel
theorem d_DataRow_copy_31 : decode b_DataRow_copy 31 = .ok (.ireturn, 1) := by decide +kernel
theorem d_DataRow_copy_32 : decode b_DataRow_copy 32 = .ok (.aload_n 0, 1) := by decide +kernel
theorem d_DataRow_copy_33 : decode b_DataRow_copy 33 = .ok (.getfield 9, 3) := by decide +kernel
theorem d_DataRow_copy_36 : decode b_DataRow_copy 36 = .ok (.iload_n 1, 1) := by decide +kernel
theorem d_DataRow_copy_37 : decode b_DataRow_copy 37 = .ok (.aload_n 0, 1) := by decide +kernel
theorem d_DataRow_copy_38 : decode b_DataRow_copy 38 = .ok (.getfield 9, 3) := by decide +kernel
theorem d_DataRow_copy_41 : decode b_DataRow_copy 41 = .ok (.aload_n 0, 1) := by decide +kernel
theorem d_DataRow_copy_42 : decode b_DataRow_copy 42 = .ok (.getfield 31, 3) := by decide +kernel
theorem d_DataRow_copy_45 : decode b_DataRow_copy 45 = .ok (.iload_n 2, 1) := by decide +kernel
theorem d_DataRow_copy_46 : decode b_DataRow_copy 46 = .ok (.invokestatic 59, 3) := by decide +kernel
theorem d_DataRow_copy_49 : decode b_DataRow_copy 49 = .ok (.aload_n 0, 1) := by decide +kernel
theorem d_DataRow_copy_50 : decode b_DataRow_copy 50 = .ok (.getfield 15, 3) := by decide +kernel
theorem d_DataRow_copy_53 : decode b_DataRow_copy 53 = .ok (.iload_n 1, 1) := by decide +kernel
theorem d_DataRow_copy_54 : decode b_DataRow_copy 54 = .ok (.aload_n 0, 1) := by decide +kernel
theorem d_DataRow_copy_55 : decode b_DataRow_copy 55 = .ok (.getfield 15, 3) := by decide +kernel
theorem d_DataRow_copy_58 : decode b_DataRow_copy 58 = .ok (.aload_n 0, 1) := by decide +kernel
theorem d_DataRow_copy_59 : decode b_DataRow_copy 59 = .ok (.getfield 31, 3) := by decide +kernel
theorem d_DataRow_copy_62 : decode b_DataRow_copy 62 = .ok (.iload_n 2, 1) := by decide +kernel
theorem d_DataRow_copy_63 : decode b_DataRow_copy 63 = .ok (.invokestatic 59, 3) := by decide +kernel
theorem d_DataRow_copy_66 : decode b_DataRow_copy 66 = .ok (.aload_n 0, 1) := by decide +kernel
theorem d_DataRow_copy_67 : decode b_DataRow_copy 67 = .ok (.getfield 18, 3) := by decide +kernel
theorem d_DataRow_copy_70 : decode b_DataRow_copy 70 = .ok (.iload_n 1, 1) := by decide +kernel
theorem d_DataRow_copy_71 : decode b_DataRow_copy 71 = .ok (.aload_n 0, 1) := by decide +kernel
theorem d_DataRow_copy_72 : decode b_DataRow_copy 72 = .ok (.getfield 18, 3) := by decide +kernel
theorem d_DataRow_copy_75 : decode b_DataRow_copy 75 = .ok (.aload_n 0, 1) := by decide +kernel
theorem d_DataRow_copy_76 : decode b_DataRow_copy 76 = .ok (.getfield 31, 3) := by decide +kernel
theorem d_DataRow_copy_79 : decode b_DataRow_copy 79 = .ok (.iload_n 2, 1) := by decide +kernel
theorem d_DataRow_copy_80 : decode b_DataRow_copy 80 = .ok (.invokestatic 59, 3) := by decide +kernel
theorem d_DataRow_copy_83 : decode b_DataRow_copy 83 = .ok (.aload_n 0, 1) := by decide +kernel
theorem d_DataRow_copy_84 : decode b_DataRow_copy 84 = .ok (.getfield 22, 3) := by decide +kernel
theorem d_DataRow_copy_87 : decode b_DataRow_copy 87 = .ok (.iload_n 1, 1) := by decide +kernel
theorem d_DataRow_copy_88 : decode b_DataRow_copy 88 = .ok (.aload_n 0, 1) := by decide +kernel
theorem d_DataRow_copy_89 : decode b_DataRow_copy 89 = .ok (.getfield 22, 3) := by decide +kernel
theorem d_DataRow_copy_92 : decode b_DataRow_copy 92 = .ok (.aload_n 0, 1) := by decide +kernel
theorem d_DataRow_copy_93 : decode b_DataRow_copy 93 = .ok (.getfield 31, 3) := by decide +kernel
theorem d_DataRow_copy_96 : decode b_DataRow_copy 96 = .ok (.iload_n 2, 1) := by decide +kernel
theorem d_DataRow_copy_97 : decode b_DataRow_copy 97 = .ok (.invokestatic 59, 3) := by decide +kernel
theorem d_DataRow_copy_100 : decode b_DataRow_copy 100 = .ok (.aload_n 0, 1) := by decide +kernel
theorem d_DataRow_copy_101 : decode b_DataRow_copy 101 = .ok (.getfield 25, 3) := by decide +kernel
theorem d_DataRow_copy_104 : decode b_DataRow_copy 104 = .ok (.iload_n 1, 1) := by decide +kernel
theorem d_DataRow_copy_105 : decode b_DataRow_copy 105 = .ok (.aload_n 0, 1) := by decide +kernel
theorem d_DataRow_copy_106 : decode b_DataRow_copy 106 = .ok (.getfield 25, 3) := by decide +kernel
theorem d_DataRow_copy_109 : decode b_DataRow_copy 109 = .ok (.aload_n 0, 1) := by decide +kernel
theorem d_DataRow_copy_110 : decode b_DataRow_copy 110 = .ok (.getfield 31, 3) := by decide +kernel
theorem d_DataRow_copy_113 : decode b_DataRow_copy 113 = .ok (.iload_n 2, 1) := by decide +kernel
theorem d_DataRow_copy_114 : decode b_DataRow_copy 114 = .ok (.invokestatic 59, 3) := by decide +kernel
theorem d_DataRow_copy_117 : decode b_DataRow_copy 117 = .ok (.aload_n 0, 1) := by decide +kernel
theorem d_DataRow_copy_118 : decode b_DataRow_copy 118 = .ok (.getfield 28, 3) := by decide +kernel
theorem d_DataRow_copy_121 : decode b_DataRow_copy 121 = .ok (.iload_n 1, 1) := by decide +kernel
theorem d_DataRow_copy_122 : decode b_DataRow_copy 122 = .ok (.aload_n 0, 1) := by decide +kernel
theorem d_DataRow_copy_123 : decode b_DataRow_copy 123 = .ok (.getfield 28, 3) := by decide +kernel
theorem d_DataRow_copy_126 : decode b_DataRow_copy 126 = .ok (.aload_n 0, 1) := by decide +kernel
theorem d_DataRow_copy_127 : decode b_DataRow_copy 127 = .ok (.getfield 31, 3) := by decide +kernel
theorem d_DataRow_copy_130 : decode b_DataRow_copy 130 = .ok (.iload_n 2, 1) := by decide +kernel
theorem d_DataRow_copy_131 : decode b_DataRow_copy 131 = .ok (.invokestatic 59, 3) := by decide +kernel
theorem d_DataRow_copy_134 : decode b_DataRow_copy 134 = .ok (.aload_n 0, 1) := by decide +kernel
theorem d_DataRow_copy_135 : decode b_DataRow_copy 135 = .ok (.dup, 1) := by decide +kernel
theorem d_DataRow_copy_136 : decode b_DataRow_copy 136 = .ok (.getfield 31, 3) := by decide +kernel
theorem d_DataRow_copy_139 : decode b_DataRow_copy 139 = .ok (.iload_n 2, 1) := by decide +kernel
theorem d_DataRow_copy_140 : decode b_DataRow_copy 140 = .ok (.iadd, 1) := by decide +kernel
theorem d_DataRow_copy_141 : decode b_DataRow_copy 141 = .ok (.putfield 31, 3) := by decide +kernel
theorem d_DataRow_copy_144 : decode b_DataRow_copy 144 = .ok (.iconst 1, 1) := by decide +kernel
theorem d_DataRow_copy_145 : decode b_DataRow_copy 145 = .ok (.ireturn, 1) := by decide +kernel
def f_DataRow_copy (D_top : Int) (D_forms : Int → Int) (D_counts : Int → Int) (D_numbers : Int → Int) (D_nodes : Int → Int) (D_depths : Int → Int) (D_weights : Int → Int) (p1 : Int) (p2 : Int) : Option (Int × Int × (Int → Int) × (Int → Int) × (Int → Int) × (Int → Int) × (Int → Int) × (Int → Int)) :=
  if rI p1 = true then (if p1 < 0 then (
   some (0, D_top, D_forms, D_counts, D_numbers, D_nodes, D_depths, D_weights)) else (
   if rI p2 = true then (if p2 < 0 then (
    some (0, D_top, D_forms, D_counts, D_numbers, D_nodes, D_depths, D_weights)) else (
    if jr2 (p1 + p2) D_top = true then (if D_top < (p1 + p2) then (
     some (0, D_top, D_forms, D_counts, D_numbers, D_nodes, D_depths, D_weights)) else (
     if jr2 (D_top + p2) 3201 = true then (if (D_top + p2) ≤ 3201 then (
      if jcp p1 D_top p2 3201 3201 = true then (
       if jcp p1 D_top p2 3201 3201 = true then (
        if jcp p1 D_top p2 3201 3201 = true then (
         if jcp p1 D_top p2 3201 3201 = true then (
          if jcp p1 D_top p2 3201 3201 = true then (
           if jcp p1 D_top p2 3201 3201 = true then (
            some (1, (D_top + p2), (cpZ D_forms D_forms p1 D_top p2), (cpZ D_counts D_counts p1 D_top p2), (cpZ D_numbers D_numbers p1 D_top p2), (cpZ D_nodes D_nodes p1 D_top p2), (cpZ D_depths D_depths p1 D_top p2), (cpZ D_weights D_weights p1 D_top p2))) else none) else none) else none) else none) else none) else none) else (
      some (0, D_top, D_forms, D_counts, D_numbers, D_nodes, D_depths, D_weights))) else none)) else none)) else none)) else none
set_option maxHeartbeats 4000000 in
set_option maxRecDepth 100000 in
theorem c_DataRow_copy {l : Launch} {D : va_G} {cI cL cB : ClassId} {ad : Nat → Nat} {D_top : Int} {D_forms : Int → Int} {D_counts : Int → Int} {D_numbers : Int → Int} {D_nodes : Int → Int} {D_depths : Int → Int} {D_weights : Int → Int} {p1 : Int} {p2 : Int} {out : Int × Int × (Int → Int) × (Int → Int) × (Int → Int) × (Int → Int) × (Int → Int) × (Int → Int)} (h : f_DataRow_copy D_top D_forms D_counts D_numbers D_nodes D_depths D_weights p1 p2 = some out) : CT jF0 false l D [(cI, .int), (cL, .long), (cB, .byte)] y_DataRow_copy w_DataRow_copy ({ frames := 1, cells := 0, slots := 0, locals := 60 } : Room) [.ref (ad 16), .int (zI p1), .int (zI p2)] [(ad 16, .inr (5, [.ref (ad 17), .ref (ad 18), .ref (ad 19), .ref (ad 20), .ref (ad 21), .ref (ad 22), .int (zI D_top)])), (ad 17, .inl (cI, 3201, .inl (zA D_forms))), (ad 18, .inl (cI, 3201, .inl (zA D_counts))), (ad 19, .inl (cL, 3201, .inr (.inl (zB D_numbers)))), (ad 20, .inl (cI, 3201, .inl (zA D_nodes))), (ad 21, .inl (cI, 3201, .inl (zA D_depths))), (ad 22, .inl (cI, 3201, .inl (zA D_weights)))] (some (.int (zI out.1))) [(ad 16, .inr (5, [.ref (ad 17), .ref (ad 18), .ref (ad 19), .ref (ad 20), .ref (ad 21), .ref (ad 22), .int (zI (out.2.1))])), (ad 17, .inl (cI, 3201, .inl (zA (out.2.2.1)))), (ad 18, .inl (cI, 3201, .inl (zA (out.2.2.2.1)))), (ad 19, .inl (cL, 3201, .inr (.inl (zB (out.2.2.2.2.1))))), (ad 20, .inl (cI, 3201, .inl (zA (out.2.2.2.2.2.1)))), (ad 21, .inl (cI, 3201, .inl (zA (out.2.2.2.2.2.2.1)))), (ad 22, .inl (cI, 3201, .inl (zA (out.2.2.2.2.2.2.2))))] 0 0 := by
  refine CT_of_J (cc := b_DataRow_copy) (maxL := 3) (ret := (some .boolean)) jF0_k (plainFor_of_name (by decide)) rfl (Nat.le_of_ble_eq_true rfl) ?_
  intro K hKl hKD X E
  subst hKl; subst hKD
  unfold f_DataRow_copy at h
  refine J_iload_n X d_DataRow_copy_0 rfl 1 rfl ?_
  refine J_if_lt (tgt := 30) X d_DataRow_copy_1 (by decide) h (fun c1 h => ?_) (fun c1 h => ?_)
  · refine J_iconst X d_DataRow_copy_30 ?_
    cases h
    exact J_ret E ⟨_, rfl, j_bool (Or.inl rfl)⟩ d_DataRow_copy_31 (Nat.le_refl _) (Nat.le_refl _) rfl
  · refine J_iload_n X d_DataRow_copy_4 rfl 2 rfl ?_
    refine J_if_lt (tgt := 30) X d_DataRow_copy_5 (by decide) h (fun c2 h => ?_) (fun c2 h => ?_)
    · refine J_iconst X d_DataRow_copy_30 ?_
      cases h
      exact J_ret E ⟨_, rfl, j_bool (Or.inl rfl)⟩ d_DataRow_copy_31 (Nat.le_refl _) (Nat.le_refl _) rfl
    · refine J_iload_n X d_DataRow_copy_8 rfl 1 rfl ?_
      refine J_iload_n X d_DataRow_copy_9 rfl 2 rfl ?_
      refine J_iadd X d_DataRow_copy_10 ?_
      refine J_aload_n X d_DataRow_copy_11 rfl 0 rfl ?_
      refine J_get X (j_in in_DataRow) 0 rfl rfl 6 (by decide) (j_m own_DataRow_copy (by decide +kernel)) rfl d_DataRow_copy_12 ?_
      refine J_icmp_gt (tgt := 30) X d_DataRow_copy_15 (by decide) h (fun c3 h => ?_) (fun c3 h => ?_)
      · refine J_iconst X d_DataRow_copy_30 ?_
        cases h
        exact J_ret E ⟨_, rfl, j_bool (Or.inl rfl)⟩ d_DataRow_copy_31 (Nat.le_refl _) (Nat.le_refl _) rfl
      · refine J_aload_n X d_DataRow_copy_18 rfl 0 rfl ?_
        refine J_get X (j_in in_DataRow) 0 rfl rfl 6 (by decide) (j_m own_DataRow_copy (by decide +kernel)) rfl d_DataRow_copy_19 ?_
        refine J_iload_n X d_DataRow_copy_22 rfl 2 rfl ?_
        refine J_iadd X d_DataRow_copy_23 ?_
        refine J_sipush X d_DataRow_copy_24 (by decide) ?_
        refine J_icmp_le (tgt := 32) X d_DataRow_copy_27 (by decide) h (fun c4 h => ?_) (fun c4 h => ?_)
        · refine J_aload_n X d_DataRow_copy_32 rfl 0 rfl ?_
          refine J_get X (j_in in_DataRow) 0 rfl rfl 0 (by decide) (j_m own_DataRow_copy (by decide +kernel)) rfl d_DataRow_copy_33 ?_
          refine J_iload_n X d_DataRow_copy_36 rfl 1 rfl ?_
          refine J_aload_n X d_DataRow_copy_37 rfl 0 rfl ?_
          refine J_get X (j_in in_DataRow) 0 rfl rfl 0 (by decide) (j_m own_DataRow_copy (by decide +kernel)) rfl d_DataRow_copy_38 ?_
          refine J_aload_n X d_DataRow_copy_41 rfl 0 rfl ?_
          refine J_get X (j_in in_DataRow) 0 rfl rfl 6 (by decide) (j_m own_DataRow_copy (by decide +kernel)) rfl d_DataRow_copy_42 ?_
          refine J_iload_n X d_DataRow_copy_45 rfl 2 rfl ?_
          obtain ⟨g5, h⟩ := wk_g h
          refine J_copyi (ws' := [(ad 16, .inr (5, [.ref (ad 17), .ref (ad 18), .ref (ad 19), .ref (ad 20), .ref (ad 21), .ref (ad 22), .int (zI D_top)])), (ad 17, .inl (cI, 3201, .inl (zA (cpZ D_forms D_forms p1 D_top p2)))), (ad 18, .inl (cI, 3201, .inl (zA D_counts))), (ad 19, .inl (cL, 3201, .inr (.inl (zB D_numbers)))), (ad 20, .inl (cI, 3201, .inl (zA D_nodes))), (ad 21, .inl (cI, 3201, .inl (zA D_depths))), (ad 22, .inl (cI, 3201, .inl (zA D_weights)))]) X (j_m own_DataRow_copy (by decide +kernel)) (j_m own_DataRow_copy (by decide +kernel)) (j_m own_DataRow_copy (by decide +kernel)) (j_m own_DataRow_copy (by decide +kernel)) 1 1 0 0 rfl rfl rfl rfl rfl g5 (fun _ => rfl) (by decide) (Nat.le_of_ble_eq_true rfl) d_DataRow_copy_46 rfl ?_
          refine J_aload_n X d_DataRow_copy_49 rfl 0 rfl ?_
          refine J_get X (j_in in_DataRow) 0 rfl rfl 1 (by decide) (j_m own_DataRow_copy (by decide +kernel)) rfl d_DataRow_copy_50 ?_
          refine J_iload_n X d_DataRow_copy_53 rfl 1 rfl ?_
          refine J_aload_n X d_DataRow_copy_54 rfl 0 rfl ?_
          refine J_get X (j_in in_DataRow) 0 rfl rfl 1 (by decide) (j_m own_DataRow_copy (by decide +kernel)) rfl d_DataRow_copy_55 ?_
          refine J_aload_n X d_DataRow_copy_58 rfl 0 rfl ?_
          refine J_get X (j_in in_DataRow) 0 rfl rfl 6 (by decide) (j_m own_DataRow_copy (by decide +kernel)) rfl d_DataRow_copy_59 ?_
          refine J_iload_n X d_DataRow_copy_62 rfl 2 rfl ?_
          obtain ⟨g6, h⟩ := wk_g h
          refine J_copyi (ws' := [(ad 16, .inr (5, [.ref (ad 17), .ref (ad 18), .ref (ad 19), .ref (ad 20), .ref (ad 21), .ref (ad 22), .int (zI D_top)])), (ad 17, .inl (cI, 3201, .inl (zA (cpZ D_forms D_forms p1 D_top p2)))), (ad 18, .inl (cI, 3201, .inl (zA (cpZ D_counts D_counts p1 D_top p2)))), (ad 19, .inl (cL, 3201, .inr (.inl (zB D_numbers)))), (ad 20, .inl (cI, 3201, .inl (zA D_nodes))), (ad 21, .inl (cI, 3201, .inl (zA D_depths))), (ad 22, .inl (cI, 3201, .inl (zA D_weights)))]) X (j_m own_DataRow_copy (by decide +kernel)) (j_m own_DataRow_copy (by decide +kernel)) (j_m own_DataRow_copy (by decide +kernel)) (j_m own_DataRow_copy (by decide +kernel)) 2 2 0 0 rfl rfl rfl rfl rfl g6 (fun _ => rfl) (by decide) (Nat.le_of_ble_eq_true rfl) d_DataRow_copy_63 rfl ?_
          refine J_aload_n X d_DataRow_copy_66 rfl 0 rfl ?_
          refine J_get X (j_in in_DataRow) 0 rfl rfl 2 (by decide) (j_m own_DataRow_copy (by decide +kernel)) rfl d_DataRow_copy_67 ?_
          refine J_iload_n X d_DataRow_copy_70 rfl 1 rfl ?_
          refine J_aload_n X d_DataRow_copy_71 rfl 0 rfl ?_
          refine J_get X (j_in in_DataRow) 0 rfl rfl 2 (by decide) (j_m own_DataRow_copy (by decide +kernel)) rfl d_DataRow_copy_72 ?_
          refine J_aload_n X d_DataRow_copy_75 rfl 0 rfl ?_
          refine J_get X (j_in in_DataRow) 0 rfl rfl 6 (by decide) (j_m own_DataRow_copy (by decide +kernel)) rfl d_DataRow_copy_76 ?_
          refine J_iload_n X d_DataRow_copy_79 rfl 2 rfl ?_
          obtain ⟨g7, h⟩ := wk_g h
          refine J_copyl (ws' := [(ad 16, .inr (5, [.ref (ad 17), .ref (ad 18), .ref (ad 19), .ref (ad 20), .ref (ad 21), .ref (ad 22), .int (zI D_top)])), (ad 17, .inl (cI, 3201, .inl (zA (cpZ D_forms D_forms p1 D_top p2)))), (ad 18, .inl (cI, 3201, .inl (zA (cpZ D_counts D_counts p1 D_top p2)))), (ad 19, .inl (cL, 3201, .inr (.inl (zB (cpZ D_numbers D_numbers p1 D_top p2))))), (ad 20, .inl (cI, 3201, .inl (zA D_nodes))), (ad 21, .inl (cI, 3201, .inl (zA D_depths))), (ad 22, .inl (cI, 3201, .inl (zA D_weights)))]) X (j_m own_DataRow_copy (by decide +kernel)) (j_m own_DataRow_copy (by decide +kernel)) (j_m own_DataRow_copy (by decide +kernel)) (j_m own_DataRow_copy (by decide +kernel)) 3 3 1 1 rfl rfl rfl rfl rfl g7 (fun _ => rfl) (by decide) (Nat.le_of_ble_eq_true rfl) d_DataRow_copy_80 rfl ?_
          refine J_aload_n X d_DataRow_copy_83 rfl 0 rfl ?_
          refine J_get X (j_in in_DataRow) 0 rfl rfl 3 (by decide) (j_m own_DataRow_copy (by decide +kernel)) rfl d_DataRow_copy_84 ?_
          refine J_iload_n X d_DataRow_copy_87 rfl 1 rfl ?_
          refine J_aload_n X d_DataRow_copy_88 rfl 0 rfl ?_
          refine J_get X (j_in in_DataRow) 0 rfl rfl 3 (by decide) (j_m own_DataRow_copy (by decide +kernel)) rfl d_DataRow_copy_89 ?_
          refine J_aload_n X d_DataRow_copy_92 rfl 0 rfl ?_
          refine J_get X (j_in in_DataRow) 0 rfl rfl 6 (by decide) (j_m own_DataRow_copy (by decide +kernel)) rfl d_DataRow_copy_93 ?_
          refine J_iload_n X d_DataRow_copy_96 rfl 2 rfl ?_
          obtain ⟨g8, h⟩ := wk_g h
          refine J_copyi (ws' := [(ad 16, .inr (5, [.ref (ad 17), .ref (ad 18), .ref (ad 19), .ref (ad 20), .ref (ad 21), .ref (ad 22), .int (zI D_top)])), (ad 17, .inl (cI, 3201, .inl (zA (cpZ D_forms D_forms p1 D_top p2)))), (ad 18, .inl (cI, 3201, .inl (zA (cpZ D_counts D_counts p1 D_top p2)))), (ad 19, .inl (cL, 3201, .inr (.inl (zB (cpZ D_numbers D_numbers p1 D_top p2))))), (ad 20, .inl (cI, 3201, .inl (zA (cpZ D_nodes D_nodes p1 D_top p2)))), (ad 21, .inl (cI, 3201, .inl (zA D_depths))), (ad 22, .inl (cI, 3201, .inl (zA D_weights)))]) X (j_m own_DataRow_copy (by decide +kernel)) (j_m own_DataRow_copy (by decide +kernel)) (j_m own_DataRow_copy (by decide +kernel)) (j_m own_DataRow_copy (by decide +kernel)) 4 4 0 0 rfl rfl rfl rfl rfl g8 (fun _ => rfl) (by decide) (Nat.le_of_ble_eq_true rfl) d_DataRow_copy_97 rfl ?_
          refine J_aload_n X d_DataRow_copy_100 rfl 0 rfl ?_
          refine J_get X (j_in in_DataRow) 0 rfl rfl 4 (by decide) (j_m own_DataRow_copy (by decide +kernel)) rfl d_DataRow_copy_101 ?_
          refine J_iload_n X d_DataRow_copy_104 rfl 1 rfl ?_
          refine J_aload_n X d_DataRow_copy_105 rfl 0 rfl ?_
          refine J_get X (j_in in_DataRow) 0 rfl rfl 4 (by decide) (j_m own_DataRow_copy (by decide +kernel)) rfl d_DataRow_copy_106 ?_
          refine J_aload_n X d_DataRow_copy_109 rfl 0 rfl ?_
          refine J_get X (j_in in_DataRow) 0 rfl rfl 6 (by decide) (j_m own_DataRow_copy (by decide +kernel)) rfl d_DataRow_copy_110 ?_
          refine J_iload_n X d_DataRow_copy_113 rfl 2 rfl ?_
          obtain ⟨g9, h⟩ := wk_g h
          refine J_copyi (ws' := [(ad 16, .inr (5, [.ref (ad 17), .ref (ad 18), .ref (ad 19), .ref (ad 20), .ref (ad 21), .ref (ad 22), .int (zI D_top)])), (ad 17, .inl (cI, 3201, .inl (zA (cpZ D_forms D_forms p1 D_top p2)))), (ad 18, .inl (cI, 3201, .inl (zA (cpZ D_counts D_counts p1 D_top p2)))), (ad 19, .inl (cL, 3201, .inr (.inl (zB (cpZ D_numbers D_numbers p1 D_top p2))))), (ad 20, .inl (cI, 3201, .inl (zA (cpZ D_nodes D_nodes p1 D_top p2)))), (ad 21, .inl (cI, 3201, .inl (zA (cpZ D_depths D_depths p1 D_top p2)))), (ad 22, .inl (cI, 3201, .inl (zA D_weights)))]) X (j_m own_DataRow_copy (by decide +kernel)) (j_m own_DataRow_copy (by decide +kernel)) (j_m own_DataRow_copy (by decide +kernel)) (j_m own_DataRow_copy (by decide +kernel)) 5 5 0 0 rfl rfl rfl rfl rfl g9 (fun _ => rfl) (by decide) (Nat.le_of_ble_eq_true rfl) d_DataRow_copy_114 rfl ?_
          refine J_aload_n X d_DataRow_copy_117 rfl 0 rfl ?_
          refine J_get X (j_in in_DataRow) 0 rfl rfl 5 (by decide) (j_m own_DataRow_copy (by decide +kernel)) rfl d_DataRow_copy_118 ?_
          refine J_iload_n X d_DataRow_copy_121 rfl 1 rfl ?_
          refine J_aload_n X d_DataRow_copy_122 rfl 0 rfl ?_
          refine J_get X (j_in in_DataRow) 0 rfl rfl 5 (by decide) (j_m own_DataRow_copy (by decide +kernel)) rfl d_DataRow_copy_123 ?_
          refine J_aload_n X d_DataRow_copy_126 rfl 0 rfl ?_
          refine J_get X (j_in in_DataRow) 0 rfl rfl 6 (by decide) (j_m own_DataRow_copy (by decide +kernel)) rfl d_DataRow_copy_127 ?_
          refine J_iload_n X d_DataRow_copy_130 rfl 2 rfl ?_
          obtain ⟨g10, h⟩ := wk_g h
          refine J_copyi (ws' := [(ad 16, .inr (5, [.ref (ad 17), .ref (ad 18), .ref (ad 19), .ref (ad 20), .ref (ad 21), .ref (ad 22), .int (zI D_top)])), (ad 17, .inl (cI, 3201, .inl (zA (cpZ D_forms D_forms p1 D_top p2)))), (ad 18, .inl (cI, 3201, .inl (zA (cpZ D_counts D_counts p1 D_top p2)))), (ad 19, .inl (cL, 3201, .inr (.inl (zB (cpZ D_numbers D_numbers p1 D_top p2))))), (ad 20, .inl (cI, 3201, .inl (zA (cpZ D_nodes D_nodes p1 D_top p2)))), (ad 21, .inl (cI, 3201, .inl (zA (cpZ D_depths D_depths p1 D_top p2)))), (ad 22, .inl (cI, 3201, .inl (zA (cpZ D_weights D_weights p1 D_top p2))))]) X (j_m own_DataRow_copy (by decide +kernel)) (j_m own_DataRow_copy (by decide +kernel)) (j_m own_DataRow_copy (by decide +kernel)) (j_m own_DataRow_copy (by decide +kernel)) 6 6 0 0 rfl rfl rfl rfl rfl g10 (fun _ => rfl) (by decide) (Nat.le_of_ble_eq_true rfl) d_DataRow_copy_131 rfl ?_
          refine J_aload_n X d_DataRow_copy_134 rfl 0 rfl ?_
          refine J_dup X d_DataRow_copy_135 rfl ?_
          refine J_get X (j_in in_DataRow) 0 rfl rfl 6 (by decide) (j_m own_DataRow_copy (by decide +kernel)) rfl d_DataRow_copy_136 ?_
          refine J_iload_n X d_DataRow_copy_139 rfl 2 rfl ?_
          refine J_iadd X d_DataRow_copy_140 ?_
          refine J_put (ws' := [(ad 16, .inr (5, [.ref (ad 17), .ref (ad 18), .ref (ad 19), .ref (ad 20), .ref (ad 21), .ref (ad 22), .int (zI (D_top + p2))])), (ad 17, .inl (cI, 3201, .inl (zA (cpZ D_forms D_forms p1 D_top p2)))), (ad 18, .inl (cI, 3201, .inl (zA (cpZ D_counts D_counts p1 D_top p2)))), (ad 19, .inl (cL, 3201, .inr (.inl (zB (cpZ D_numbers D_numbers p1 D_top p2))))), (ad 20, .inl (cI, 3201, .inl (zA (cpZ D_nodes D_nodes p1 D_top p2)))), (ad 21, .inl (cI, 3201, .inl (zA (cpZ D_depths D_depths p1 D_top p2)))), (ad 22, .inl (cI, 3201, .inl (zA (cpZ D_weights D_weights p1 D_top p2))))]) X (j_in in_DataRow) ty_DataRow tok_DataRow nm_DataRow 0 rfl rfl 6 (by decide) (j_m own_DataRow_copy (by decide +kernel)) rfl rfl rfl (Nat.le_of_ble_eq_true rfl) d_DataRow_copy_141 rfl ?_
          refine J_iconst X d_DataRow_copy_144 ?_
          cases h
          exact J_ret E ⟨_, rfl, j_bool (Or.inr rfl)⟩ d_DataRow_copy_145 (Nat.le_refl _) (Nat.le_refl _) rfl
        · refine J_iconst X d_DataRow_copy_30 ?_
          cases h
          exact J_ret E ⟨_, rfl, j_bool (Or.inl rfl)⟩ d_DataRow_copy_31 (Nat.le_refl _) (Nat.le_refl _) rfl

theorem d_DataRow_recast_0 : decode b_DataRow_recast 0 = .ok (.aload_n 0, 1) := by decide +kernel
theorem d_DataRow_recast_1 : decode b_DataRow_recast 1 = .ok (.getfield 31, 3) := by decide +kernel
theorem d_DataRow_recast_4 : decode b_DataRow_recast 4 = .ok (.istore 6, 2) := by decide +kernel
theorem d_DataRow_recast_6 : decode b_DataRow_recast 6 = .ok (.aload_n 0, 1) := by decide +kernel
theorem d_DataRow_recast_7 : decode b_DataRow_recast 7 = .ok (.iload_n 1, 1) := by decide +kernel
theorem d_DataRow_recast_8 : decode b_DataRow_recast 8 = .ok (.aload_n 0, 1) := by decide +kernel
theorem d_DataRow_recast_9 : decode b_DataRow_recast 9 = .ok (.iload_n 1, 1) := by decide +kernel
theorem d_DataRow_recast_10 : decode b_DataRow_recast 10 = .ok (.invokevirtual 42, 3) := by decide +kernel
theorem d_DataRow_recast_13 : decode b_DataRow_recast 13 = .ok (.invokevirtual 46, 3) := by decide +kernel
theorem d_DataRow_recast_16 : decode b_DataRow_recast 16 = .ok (.ifCond .eq 12, 3) := by decide +kernel
theorem d_DataRow_recast_19 : decode b_DataRow_recast 19 = .ok (.iload 6, 2) := by decide +kernel
theorem d_DataRow_recast_21 : decode b_DataRow_recast 21 = .ok (.aload_n 0, 1) := by decide +kernel
theorem d_DataRow_recast_22 : decode b_DataRow_recast 22 = .ok (.getfield 31, 3) := by decide +kernel
theorem d_DataRow_recast_25 : decode b_DataRow_recast 25 = .ok (.if_icmp .lt 5, 3) := by decide +kernel
theorem d_DataRow_recast_28 : decode b_DataRow_recast 28 = .ok (.iconst (-1), 1) := by decide +kernel
theorem d_DataRow_recast_29 : decode b_DataRow_recast 29 = .ok (.ireturn, 1) := by decide +kernel
theorem d_DataRow_recast_30 : decode b_DataRow_recast 30 = .ok (.aload_n 0, 1) := by decide +kernel
theorem d_DataRow_recast_31 : decode b_DataRow_recast 31 = .ok (.getfield 9, 3) := by decide +kernel
theorem d_DataRow_recast_34 : decode b_DataRow_recast 34 = .ok (.iload 6, 2) := by decide +kernel
theorem d_DataRow_recast_36 : decode b_DataRow_recast 36 = .ok (.iload_n 2, 1) := by decide +kernel
theorem d_DataRow_recast_37 : decode b_DataRow_recast 37 = .ok (.iastore, 1) := by decide +kernel
theorem d_DataRow_recast_38 : decode b_DataRow_recast 38 = .ok (.aload_n 0, 1) := by decide +kernel
theorem d_DataRow_recast_39 : decode b_DataRow_recast 39 = .ok (.getfield 18, 3) := by decide +kernel
theorem d_DataRow_recast_42 : decode b_DataRow_recast 42 = .ok (.iload 6, 2) := by decide +kernel
theorem d_DataRow_recast_44 : decode b_DataRow_recast 44 = .ok (.lload_n 3, 1) := by decide +kernel
theorem d_DataRow_recast_45 : decode b_DataRow_recast 45 = .ok (.lastore, 1) := by decide +kernel
theorem d_DataRow_recast_46 : decode b_DataRow_recast 46 = .ok (.aload_n 0, 1) := by decide +kernel
theorem d_DataRow_recast_47 : decode b_DataRow_recast 47 = .ok (.getfield 15, 3) := by decide +kernel
theorem d_DataRow_recast_50 : decode b_DataRow_recast 50 = .ok (.iload 6, 2) := by decide +kernel
theorem d_DataRow_recast_52 : decode b_DataRow_recast 52 = .ok (.iload 5, 2) := by decide +kernel
theorem d_DataRow_recast_54 : decode b_DataRow_recast 54 = .ok (.iastore, 1) := by decide +kernel
theorem d_DataRow_recast_55 : decode b_DataRow_recast 55 = .ok (.iload 6, 2) := by decide +kernel
theorem d_DataRow_recast_57 : decode b_DataRow_recast 57 = .ok (.ireturn, 1) := by decide +kernel
def f_DataRow_recast (D_top : Int) (D_forms : Int → Int) (D_counts : Int → Int) (D_numbers : Int → Int) (D_nodes : Int → Int) (D_depths : Int → Int) (D_weights : Int → Int) (p1 : Int) (p2 : Int) (p3 : Int) (p5 : Int) : Option (Int × Int × (Int → Int) × (Int → Int) × (Int → Int) × (Int → Int) × (Int → Int) × (Int → Int)) :=
  Option.bind (f_DataRow_nodesOf D_top D_nodes p1) (fun r1 =>
   ob8 (f_DataRow_copy D_top D_forms D_counts D_numbers D_nodes D_depths D_weights p1 r1) (fun r3 D_top_4 D_forms_5 D_counts_6 D_numbers_7 D_nodes_8 D_depths_9 D_weights_10 =>
    if rI r3 = true then (if r3 = 0 then (
     some ((-1), D_top_4, D_forms_5, D_counts_6, D_numbers_7, D_nodes_8, D_depths_9, D_weights_10)) else (
     if jr2 D_top D_top_4 = true then (if D_top < D_top_4 then (
      if jix D_top 3201 = true then (
       if jix D_top 3201 = true then (
        if jix D_top 3201 = true then (
         some (D_top, D_top_4, (upZ D_forms_5 D_top p2), (upZ D_counts_6 D_top p5), (upZ D_numbers_7 D_top p3), D_nodes_8, D_depths_9, D_weights_10)) else none) else none) else none) else (
      some ((-1), D_top_4, D_forms_5, D_counts_6, D_numbers_7, D_nodes_8, D_depths_9, D_weights_10))) else none)) else none))
set_option maxHeartbeats 4000000 in
set_option maxRecDepth 100000 in
theorem c_DataRow_recast {l : Launch} {D : va_G} {cI cL cB : ClassId} {ad : Nat → Nat} {D_top : Int} {D_forms : Int → Int} {D_counts : Int → Int} {D_numbers : Int → Int} {D_nodes : Int → Int} {D_depths : Int → Int} {D_weights : Int → Int} {p1 : Int} {p2 : Int} {p3 : Int} {p5 : Int} {out : Int × Int × (Int → Int) × (Int → Int) × (Int → Int) × (Int → Int) × (Int → Int) × (Int → Int)} (h : f_DataRow_recast D_top D_forms D_counts D_numbers D_nodes D_depths D_weights p1 p2 p3 p5 = some out) : CT jF0 false l D [(cI, .int), (cL, .long), (cB, .byte)] y_DataRow_recast w_DataRow_recast ({ frames := 2, cells := 0, slots := 0, locals := 82 } : Room) [.ref (ad 16), .int (zI p1), .int (zI p2), .long (zL p3), .int (zI p5)] [(ad 16, .inr (5, [.ref (ad 17), .ref (ad 18), .ref (ad 19), .ref (ad 20), .ref (ad 21), .ref (ad 22), .int (zI D_top)])), (ad 17, .inl (cI, 3201, .inl (zA D_forms))), (ad 18, .inl (cI, 3201, .inl (zA D_counts))), (ad 19, .inl (cL, 3201, .inr (.inl (zB D_numbers)))), (ad 20, .inl (cI, 3201, .inl (zA D_nodes))), (ad 21, .inl (cI, 3201, .inl (zA D_depths))), (ad 22, .inl (cI, 3201, .inl (zA D_weights)))] (some (.int (zI out.1))) [(ad 16, .inr (5, [.ref (ad 17), .ref (ad 18), .ref (ad 19), .ref (ad 20), .ref (ad 21), .ref (ad 22), .int (zI (out.2.1))])), (ad 17, .inl (cI, 3201, .inl (zA (out.2.2.1)))), (ad 18, .inl (cI, 3201, .inl (zA (out.2.2.2.1)))), (ad 19, .inl (cL, 3201, .inr (.inl (zB (out.2.2.2.2.1))))), (ad 20, .inl (cI, 3201, .inl (zA (out.2.2.2.2.2.1)))), (ad 21, .inl (cI, 3201, .inl (zA (out.2.2.2.2.2.2.1)))), (ad 22, .inl (cI, 3201, .inl (zA (out.2.2.2.2.2.2.2))))] 0 0 := by
  refine CT_of_J (cc := b_DataRow_recast) (maxL := 7) (ret := (some .int)) jF0_k (plainFor_of_name (by decide)) rfl (Nat.le_of_ble_eq_true rfl) ?_
  intro K hKl hKD X E
  subst hKl; subst hKD
  unfold f_DataRow_recast at h
  refine J_aload_n X d_DataRow_recast_0 rfl 0 rfl ?_
  refine J_get X (j_in in_DataRow) 0 rfl rfl 6 (by decide) (j_m own_DataRow_recast (by decide +kernel)) rfl d_DataRow_recast_1 ?_
  refine J_istore (lv' := [(6, .int (zI D_top)), (0, .ref (ad 16)), (1, .int (zI p1)), (2, .int (zI p2)), (3, .long (zL p3)), (5, .int (zI p5))]) X d_DataRow_recast_4 (by decide) rfl ?_
  refine J_aload_n X d_DataRow_recast_6 rfl 1 rfl ?_
  refine J_iload_n X d_DataRow_recast_7 rfl 2 rfl ?_
  refine J_aload_n X d_DataRow_recast_8 rfl 1 rfl ?_
  refine J_iload_n X d_DataRow_recast_9 rfl 2 rfl ?_
  obtain ⟨r1, q2, h⟩ := wk_b h
  refine J_afterP (jrunV X (c_DataRow_nodesOf (ad := ad) q2) jF0_k (fun _ _ _ _ => trivial) (jgV own_DataRow_recast (by decide +kernel)) rfl rfl rfl pd_DataRow_nodesOf (by decide) [0, 4] rfl (by decide) 0 5 rfl rfl rfl rfl (Nat.le_of_ble_eq_true rfl) d_DataRow_recast_10 (by decide)) ?_
  obtain ⟨r3, D_top_4, D_forms_5, D_counts_6, D_numbers_7, D_nodes_8, D_depths_9, D_weights_10, q11, h⟩ := wk_b8 h
  refine J_afterI0 (ws' := [(ad 16, .inr (5, [.ref (ad 17), .ref (ad 18), .ref (ad 19), .ref (ad 20), .ref (ad 21), .ref (ad 22), .int (zI D_top_4)])), (ad 17, .inl (cI, 3201, .inl (zA D_forms_5))), (ad 18, .inl (cI, 3201, .inl (zA D_counts_6))), (ad 19, .inl (cL, 3201, .inr (.inl (zB D_numbers_7)))), (ad 20, .inl (cI, 3201, .inl (zA D_nodes_8))), (ad 21, .inl (cI, 3201, .inl (zA D_depths_9))), (ad 22, .inl (cI, 3201, .inl (zA D_weights_10)))]) X (jrunV X (c_DataRow_copy (ad := ad) q11) jF0_k (fun _ _ _ _ => trivial) (jgV own_DataRow_recast (by decide +kernel)) rfl rfl rfl pd_DataRow_copy (by decide) [0, 1, 2, 3, 4, 5, 6] rfl (by decide) 0 5 rfl rfl rfl rfl (Nat.le_of_ble_eq_true rfl) d_DataRow_recast_13 (by decide)) [0, 1, 2, 3, 4, 5, 6] [] [0, 1, 2, 3, 4, 5, 6] rfl rfl (by decide) (by decide) rfl (by decide) ?_
  refine J_if_eq (tgt := 28) X d_DataRow_recast_16 (by decide) h (fun c12 h => ?_) (fun c12 h => ?_)
  · refine J_iconst X d_DataRow_recast_28 ?_
    cases h
    exact J_ret E ⟨_, rfl, rfl⟩ d_DataRow_recast_29 (Nat.le_refl _) (Nat.le_refl _) rfl
  · refine J_iload X d_DataRow_recast_19 0 rfl ?_
    refine J_aload_n X d_DataRow_recast_21 rfl 1 rfl ?_
    refine J_get X (j_in in_DataRow) 0 rfl rfl 6 (by decide) (j_m own_DataRow_recast (by decide +kernel)) rfl d_DataRow_recast_22 ?_
    refine J_icmp_lt (tgt := 30) X d_DataRow_recast_25 (by decide) h (fun c13 h => ?_) (fun c13 h => ?_)
    · refine J_aload_n X d_DataRow_recast_30 rfl 1 rfl ?_
      refine J_get X (j_in in_DataRow) 0 rfl rfl 0 (by decide) (j_m own_DataRow_recast (by decide +kernel)) rfl d_DataRow_recast_31 ?_
      refine J_iload X d_DataRow_recast_34 0 rfl ?_
      refine J_iload_n X d_DataRow_recast_36 rfl 3 rfl ?_
      obtain ⟨g14, h⟩ := wk_g h
      refine J_iast (ws' := [(ad 16, .inr (5, [.ref (ad 17), .ref (ad 18), .ref (ad 19), .ref (ad 20), .ref (ad 21), .ref (ad 22), .int (zI D_top_4)])), (ad 17, .inl (cI, 3201, .inl (zA (upZ D_forms_5 D_top p2)))), (ad 18, .inl (cI, 3201, .inl (zA D_counts_6))), (ad 19, .inl (cL, 3201, .inr (.inl (zB D_numbers_7)))), (ad 20, .inl (cI, 3201, .inl (zA D_nodes_8))), (ad 21, .inl (cI, 3201, .inl (zA D_depths_9))), (ad 22, .inl (cI, 3201, .inl (zA D_weights_10)))]) X 1 0 rfl rfl g14 d_DataRow_recast_37 rfl ?_
      refine J_aload_n X d_DataRow_recast_38 rfl 1 rfl ?_
      refine J_get X (j_in in_DataRow) 0 rfl rfl 2 (by decide) (j_m own_DataRow_recast (by decide +kernel)) rfl d_DataRow_recast_39 ?_
      refine J_iload X d_DataRow_recast_42 0 rfl ?_
      refine J_lload_n X d_DataRow_recast_44 rfl 4 rfl ?_
      obtain ⟨g15, h⟩ := wk_g h
      refine J_last (ws' := [(ad 16, .inr (5, [.ref (ad 17), .ref (ad 18), .ref (ad 19), .ref (ad 20), .ref (ad 21), .ref (ad 22), .int (zI D_top_4)])), (ad 17, .inl (cI, 3201, .inl (zA (upZ D_forms_5 D_top p2)))), (ad 18, .inl (cI, 3201, .inl (zA D_counts_6))), (ad 19, .inl (cL, 3201, .inr (.inl (zB (upZ D_numbers_7 D_top p3))))), (ad 20, .inl (cI, 3201, .inl (zA D_nodes_8))), (ad 21, .inl (cI, 3201, .inl (zA D_depths_9))), (ad 22, .inl (cI, 3201, .inl (zA D_weights_10)))]) X 3 1 rfl rfl g15 d_DataRow_recast_45 rfl ?_
      refine J_aload_n X d_DataRow_recast_46 rfl 1 rfl ?_
      refine J_get X (j_in in_DataRow) 0 rfl rfl 1 (by decide) (j_m own_DataRow_recast (by decide +kernel)) rfl d_DataRow_recast_47 ?_
      refine J_iload X d_DataRow_recast_50 0 rfl ?_
      refine J_iload X d_DataRow_recast_52 5 rfl ?_
      obtain ⟨g16, h⟩ := wk_g h
      refine J_iast (ws' := [(ad 16, .inr (5, [.ref (ad 17), .ref (ad 18), .ref (ad 19), .ref (ad 20), .ref (ad 21), .ref (ad 22), .int (zI D_top_4)])), (ad 17, .inl (cI, 3201, .inl (zA (upZ D_forms_5 D_top p2)))), (ad 18, .inl (cI, 3201, .inl (zA (upZ D_counts_6 D_top p5)))), (ad 19, .inl (cL, 3201, .inr (.inl (zB (upZ D_numbers_7 D_top p3))))), (ad 20, .inl (cI, 3201, .inl (zA D_nodes_8))), (ad 21, .inl (cI, 3201, .inl (zA D_depths_9))), (ad 22, .inl (cI, 3201, .inl (zA D_weights_10)))]) X 2 0 rfl rfl g16 d_DataRow_recast_54 rfl ?_
      refine J_iload X d_DataRow_recast_55 0 rfl ?_
      cases h
      exact J_ret E ⟨_, rfl, rfl⟩ d_DataRow_recast_57 (Nat.le_refl _) (Nat.le_refl _) rfl
    · refine J_iconst X d_DataRow_recast_28 ?_
      cases h
      exact J_ret E ⟨_, rfl, rfl⟩ d_DataRow_recast_29 (Nat.le_refl _) (Nat.le_refl _) rfl

theorem d_DataRow_sealed_0 : decode b_DataRow_sealed 0 = .ok (.iload_n 1, 1) := by decide +kernel
theorem d_DataRow_sealed_1 : decode b_DataRow_sealed 1 = .ok (.ifCond .lt 11, 3) := by decide +kernel
theorem d_DataRow_sealed_4 : decode b_DataRow_sealed 4 = .ok (.iload_n 1, 1) := by decide +kernel
theorem d_DataRow_sealed_5 : decode b_DataRow_sealed 5 = .ok (.aload_n 0, 1) := by decide +kernel
theorem d_DataRow_sealed_6 : decode b_DataRow_sealed 6 = .ok (.getfield 31, 3) := by decide +kernel
theorem d_DataRow_sealed_9 : decode b_DataRow_sealed 9 = .ok (.if_icmp .lt 5, 3) := by decide +kernel
theorem d_DataRow_sealed_12 : decode b_DataRow_sealed 12 = .ok (.iconst (-1), 1) := by decide +kernel
theorem d_DataRow_sealed_13 : decode b_DataRow_sealed 13 = .ok (.ireturn, 1) := by decide +kernel
theorem d_DataRow_sealed_14 : decode b_DataRow_sealed 14 = .ok (.iconst 0, 1) := by decide +kernel
theorem d_DataRow_sealed_15 : decode b_DataRow_sealed 15 = .ok (.istore_n 2, 1) := by decide +kernel
theorem d_DataRow_sealed_16 : decode b_DataRow_sealed 16 = .ok (.iconst 0, 1) := by decide +kernel
theorem d_DataRow_sealed_17 : decode b_DataRow_sealed 17 = .ok (.istore_n 3, 1) := by decide +kernel
theorem d_DataRow_sealed_18 : decode b_DataRow_sealed 18 = .ok (.iload_n 1, 1) := by decide +kernel
theorem d_DataRow_sealed_19 : decode b_DataRow_sealed 19 = .ok (.iconst 1, 1) := by decide +kernel
theorem d_DataRow_sealed_20 : decode b_DataRow_sealed 20 = .ok (.iadd, 1) := by decide +kernel
theorem d_DataRow_sealed_21 : decode b_DataRow_sealed 21 = .ok (.istore 4, 2) := by decide +kernel
theorem d_DataRow_sealed_23 : decode b_DataRow_sealed 23 = .ok (.iconst 0, 1) := by decide +kernel
theorem d_DataRow_sealed_24 : decode b_DataRow_sealed 24 = .ok (.istore 5, 2) := by decide +kernel
theorem d_DataRow_sealed_26 : decode b_DataRow_sealed 26 = .ok (.iload 5, 2) := by decide +kernel
theorem d_DataRow_sealed_28 : decode b_DataRow_sealed 28 = .ok (.aload_n 0, 1) := by decide +kernel
theorem d_DataRow_sealed_29 : decode b_DataRow_sealed 29 = .ok (.getfield 15, 3) := by decide +kernel
theorem d_DataRow_sealed_32 : decode b_DataRow_sealed 32 = .ok (.iload_n 1, 1) := by decide +kernel
theorem d_DataRow_sealed_33 : decode b_DataRow_sealed 33 = .ok (.iaload, 1) := by decide +kernel
theorem d_DataRow_sealed_34 : decode b_DataRow_sealed 34 = .ok (.if_icmp .ge 52, 3) := by decide +kernel
theorem d_DataRow_sealed_37 : decode b_DataRow_sealed 37 = .ok (.iload 4, 2) := by decide +kernel
theorem d_DataRow_sealed_39 : decode b_DataRow_sealed 39 = .ok (.aload_n 0, 1) := by decide +kernel
theorem d_DataRow_sealed_40 : decode b_DataRow_sealed 40 = .ok (.getfield 31, 3) := by decide +kernel
theorem d_DataRow_sealed_43 : decode b_DataRow_sealed 43 = .ok (.if_icmp .ge 43, 3) := by decide +kernel
theorem d_DataRow_sealed_46 : decode b_DataRow_sealed 46 = .ok (.iload_n 2, 1) := by decide +kernel
theorem d_DataRow_sealed_47 : decode b_DataRow_sealed 47 = .ok (.aload_n 0, 1) := by decide +kernel
theorem d_DataRow_sealed_48 : decode b_DataRow_sealed 48 = .ok (.getfield 25, 3) := by decide +kernel
theorem d_DataRow_sealed_51 : decode b_DataRow_sealed 51 = .ok (.iload 4, 2) := by decide +kernel
theorem d_DataRow_sealed_53 : decode b_DataRow_sealed 53 = .ok (.iaload, 1) := by decide +kernel
theorem d_DataRow_sealed_54 : decode b_DataRow_sealed 54 = .ok (.invokestatic 65, 3) := by decide +kernel
theorem d_DataRow_sealed_57 : decode b_DataRow_sealed 57 = .ok (.istore_n 2, 1) := by decide +kernel
theorem d_DataRow_sealed_58 : decode b_DataRow_sealed 58 = .ok (.iload_n 3, 1) := by decide +kernel
theorem d_DataRow_sealed_59 : decode b_DataRow_sealed 59 = .ok (.aload_n 0, 1) := by decide +kernel
theorem d_DataRow_sealed_60 : decode b_DataRow_sealed 60 = .ok (.getfield 28, 3) := by decide +kernel
theorem d_DataRow_sealed_63 : decode b_DataRow_sealed 63 = .ok (.iload 4, 2) := by decide +kernel
theorem d_DataRow_sealed_65 : decode b_DataRow_sealed 65 = .ok (.iaload, 1) := by decide +kernel
theorem d_DataRow_sealed_66 : decode b_DataRow_sealed 66 = .ok (.iadd, 1) := by decide +kernel
theorem d_DataRow_sealed_67 : decode b_DataRow_sealed 67 = .ok (.istore_n 3, 1) := by decide +kernel
theorem d_DataRow_sealed_68 : decode b_DataRow_sealed 68 = .ok (.iload 4, 2) := by decide +kernel
theorem d_DataRow_sealed_70 : decode b_DataRow_sealed 70 = .ok (.aload_n 0, 1) := by decide +kernel
theorem d_DataRow_sealed_71 : decode b_DataRow_sealed 71 = .ok (.getfield 22, 3) := by decide +kernel
theorem d_DataRow_sealed_74 : decode b_DataRow_sealed 74 = .ok (.iload 4, 2) := by decide +kernel
theorem d_DataRow_sealed_76 : decode b_DataRow_sealed 76 = .ok (.iaload, 1) := by decide +kernel
theorem d_DataRow_sealed_77 : decode b_DataRow_sealed 77 = .ok (.iadd, 1) := by decide +kernel
theorem d_DataRow_sealed_78 : decode b_DataRow_sealed 78 = .ok (.istore 4, 2) := by decide +kernel
theorem d_DataRow_sealed_80 : decode b_DataRow_sealed 80 = .ok (.iinc 5 1, 3) := by decide +kernel
theorem d_DataRow_sealed_83 : decode b_DataRow_sealed 83 = .ok (.goto (-57), 3) := by decide +kernel
theorem d_DataRow_sealed_86 : decode b_DataRow_sealed 86 = .ok (.aload_n 0, 1) := by decide +kernel
theorem d_DataRow_sealed_87 : decode b_DataRow_sealed 87 = .ok (.getfield 22, 3) := by decide +kernel
theorem d_DataRow_sealed_90 : decode b_DataRow_sealed 90 = .ok (.iload_n 1, 1) := by decide +kernel
theorem d_DataRow_sealed_91 : decode b_DataRow_sealed 91 = .ok (.aload_n 0, 1) := by decide +kernel
theorem d_DataRow_sealed_92 : decode b_DataRow_sealed 92 = .ok (.getfield 31, 3) := by decide +kernel
theorem d_DataRow_sealed_95 : decode b_DataRow_sealed 95 = .ok (.iload_n 1, 1) := by decide +kernel
theorem d_DataRow_sealed_96 : decode b_DataRow_sealed 96 = .ok (.isub, 1) := by decide +kernel
theorem d_DataRow_sealed_97 : decode b_DataRow_sealed 97 = .ok (.iastore, 1) := by decide +kernel
theorem d_DataRow_sealed_98 : decode b_DataRow_sealed 98 = .ok (.aload_n 0, 1) := by decide +kernel
theorem d_DataRow_sealed_99 : decode b_DataRow_sealed 99 = .ok (.getfield 25, 3) := by decide +kernel
theorem d_DataRow_sealed_102 : decode b_DataRow_sealed 102 = .ok (.iload_n 1, 1) := by decide +kernel
theorem d_DataRow_sealed_103 : decode b_DataRow_sealed 103 = .ok (.iload_n 2, 1) := by decide +kernel
theorem d_DataRow_sealed_104 : decode b_DataRow_sealed 104 = .ok (.iconst 1, 1) := by decide +kernel
theorem d_DataRow_sealed_105 : decode b_DataRow_sealed 105 = .ok (.iadd, 1) := by decide +kernel
theorem d_DataRow_sealed_106 : decode b_DataRow_sealed 106 = .ok (.iastore, 1) := by decide +kernel
theorem d_DataRow_sealed_107 : decode b_DataRow_sealed 107 = .ok (.aload_n 0, 1) := by decide +kernel
theorem d_DataRow_sealed_108 : decode b_DataRow_sealed 108 = .ok (.getfield 28, 3) := by decide +kernel
theorem d_DataRow_sealed_111 : decode b_DataRow_sealed 111 = .ok (.iload_n 1, 1) := by decide +kernel
theorem d_DataRow_sealed_112 : decode b_DataRow_sealed 112 = .ok (.iload_n 3, 1) := by decide +kernel
theorem d_DataRow_sealed_113 : decode b_DataRow_sealed 113 = .ok (.iastore, 1) := by decide +kernel
theorem d_DataRow_sealed_114 : decode b_DataRow_sealed 114 = .ok (.iload_n 1, 1) := by decide +kernel
theorem d_DataRow_sealed_115 : decode b_DataRow_sealed 115 = .ok (.ireturn, 1) := by decide +kernel
def f_DataRow_sealed_L26 (D_top : Int) (D_counts : Int → Int) (D_nodes : Int → Int) (D_depths : Int → Int) (D_weights : Int → Int) (x1 : Int) : Nat → Int → Int → Int → Int → Option (Int × Int × Int × Int)
  | 0, _, _, _, _ => none
  | n + 1, x2, x3, x4, x5 =>
    if jix x1 3201 = true then (
     if jr2 x5 (D_counts x1) = true then (if (D_counts x1) ≤ x5 then (
      some (x2, x3, x4, x5)) else (
      if jr2 x4 D_top = true then (if D_top ≤ x4 then (
       some (x2, x3, x4, x5)) else (
       if jix x4 3201 = true then (
        if jr2 x2 (D_depths x4) = true then (
         if jix x4 3201 = true then (
          if jix x4 3201 = true then (
           f_DataRow_sealed_L26 D_top D_counts D_nodes D_depths D_weights x1 n (max x2 (D_depths x4)) (x3 + (D_weights x4)) (x4 + (D_nodes x4)) (x5 + 1)) else none) else none) else none) else none)) else none)) else none) else none
def f_DataRow_sealed (N : Nat) (D_top : Int) (D_counts : Int → Int) (D_nodes : Int → Int) (D_depths : Int → Int) (D_weights : Int → Int) (p1 : Int) : Option (Int × (Int → Int) × (Int → Int) × (Int → Int)) :=
  if rI p1 = true then (if p1 < 0 then (
   some ((-1), D_nodes, D_depths, D_weights)) else (
   if jr2 p1 D_top = true then (if p1 < D_top then (
    ob4 (f_DataRow_sealed_L26 D_top D_counts D_nodes D_depths D_weights p1 N 0 0 (p1 + 1) 0) (fun x2_3 x3_4 x4_5 x5_6 =>
     if jix p1 3201 = true then (
      if jix p1 3201 = true then (
       if jix p1 3201 = true then (
        some (p1, (upZ D_nodes p1 (D_top - p1)), (upZ D_depths p1 (x2_3 + 1)), (upZ D_weights p1 x3_4))) else none) else none) else none)) else (
    some ((-1), D_nodes, D_depths, D_weights))) else none)) else none
set_option maxHeartbeats 4000000 in
set_option maxRecDepth 100000 in
theorem k_DataRow_sealed_L26 {K : jK} {cI cL cB : ClassId} {ad : Nat → Nat} {D_top : Int} {D_counts : Int → Int} {D_nodes : Int → Int} {D_depths : Int → Int} {D_weights : Int → Int} {x1 : Int} {out : Int × Int × Int × Int} (X : jX jF0 K 6 b_DataRow_sealed w_DataRow_sealed R_DataRow [(cI, .int), (cL, .long), (cB, .byte)]) : ∀ (n : Nat) (x2 : Int) (x3 : Int) (x4 : Int) (x5 : Int), f_DataRow_sealed_L26 D_top D_counts D_nodes D_depths D_weights x1 n x2 x3 x4 x5 = some out → J K 6 ({ frames := 1, cells := 0, slots := 0, locals := 23 } : Room) false 0 0 [(ad 16, .inr (5, [.ref (ad 17), .ref (ad 18), .ref (ad 19), .ref (ad 20), .ref (ad 21), .ref (ad 22), .int (zI D_top)])), (ad 18, .inl (cI, 3201, .inl (zA D_counts))), (ad 20, .inl (cI, 3201, .inl (zA D_nodes))), (ad 21, .inl (cI, 3201, .inl (zA D_depths))), (ad 22, .inl (cI, 3201, .inl (zA D_weights)))] [(0, .ref (ad 16)), (1, .int (zI x1)), (2, .int (zI (out.1))), (3, .int (zI (out.2.1))), (4, .int (zI (out.2.2.1))), (5, .int (zI (out.2.2.2)))] [] 86 → J K 6 ({ frames := 1, cells := 0, slots := 0, locals := 23 } : Room) false 0 0 [(ad 16, .inr (5, [.ref (ad 17), .ref (ad 18), .ref (ad 19), .ref (ad 20), .ref (ad 21), .ref (ad 22), .int (zI D_top)])), (ad 18, .inl (cI, 3201, .inl (zA D_counts))), (ad 20, .inl (cI, 3201, .inl (zA D_nodes))), (ad 21, .inl (cI, 3201, .inl (zA D_depths))), (ad 22, .inl (cI, 3201, .inl (zA D_weights)))] [(0, .ref (ad 16)), (1, .int (zI x1)), (2, .int (zI x2)), (3, .int (zI x3)), (4, .int (zI x4)), (5, .int (zI x5))] [] 26 := by
  intro n
  induction n with
  | zero =>
    intro x2 x3 x4 x5 h hk
    cases h
  | succ n ih =>
    intro x2 x3 x4 x5 h hk
    unfold f_DataRow_sealed_L26 at h
    refine J_iload X d_DataRow_sealed_26 5 rfl ?_
    refine J_aload_n X d_DataRow_sealed_28 rfl 0 rfl ?_
    refine J_get X (j_in in_DataRow) 0 rfl rfl 1 (by decide) (j_m own_DataRow_sealed (by decide +kernel)) rfl d_DataRow_sealed_29 ?_
    refine J_iload_n X d_DataRow_sealed_32 rfl 1 rfl ?_
    obtain ⟨g11, h⟩ := wk_g h
    refine J_iald X 1 0 rfl rfl g11 d_DataRow_sealed_33 ?_
    refine J_icmp_ge (tgt := 86) X d_DataRow_sealed_34 (by decide) h (fun c12 h => ?_) (fun c12 h => ?_)
    · cases h
      refine J_lv (lv' := [(0, .ref (ad 16)), (1, .int (zI x1)), (2, .int (zI x2)), (3, .int (zI x3)), (4, .int (zI x4)), (5, .int (zI x5))]) [0, 1, 2, 3, 4, 5] rfl ?_
      exact hk
    · refine J_iload X d_DataRow_sealed_37 4 rfl ?_
      refine J_aload_n X d_DataRow_sealed_39 rfl 0 rfl ?_
      refine J_get X (j_in in_DataRow) 0 rfl rfl 6 (by decide) (j_m own_DataRow_sealed (by decide +kernel)) rfl d_DataRow_sealed_40 ?_
      refine J_icmp_ge (tgt := 86) X d_DataRow_sealed_43 (by decide) h (fun c13 h => ?_) (fun c13 h => ?_)
      · cases h
        refine J_lv (lv' := [(0, .ref (ad 16)), (1, .int (zI x1)), (2, .int (zI x2)), (3, .int (zI x3)), (4, .int (zI x4)), (5, .int (zI x5))]) [0, 1, 2, 3, 4, 5] rfl ?_
        exact hk
      · refine J_iload_n X d_DataRow_sealed_46 rfl 2 rfl ?_
        refine J_aload_n X d_DataRow_sealed_47 rfl 0 rfl ?_
        refine J_get X (j_in in_DataRow) 0 rfl rfl 4 (by decide) (j_m own_DataRow_sealed (by decide +kernel)) rfl d_DataRow_sealed_48 ?_
        refine J_iload X d_DataRow_sealed_51 4 rfl ?_
        obtain ⟨g14, h⟩ := wk_g h
        refine J_iald X 3 0 rfl rfl g14 d_DataRow_sealed_53 ?_
        obtain ⟨g15, h⟩ := wk_g h
        refine J_mmax X g15 (j_m own_DataRow_sealed (by decide +kernel)) (j_m own_DataRow_sealed (by decide +kernel)) (j_m own_DataRow_sealed (by decide +kernel)) (j_m own_DataRow_sealed (by decide +kernel)) (by decide) (Nat.le_of_ble_eq_true rfl) (by decide) (by decide) d_DataRow_sealed_54 ?_
        refine J_istore_n (lv' := [(2, .int (zI (max x2 (D_depths x4)))), (0, .ref (ad 16)), (1, .int (zI x1)), (3, .int (zI x3)), (4, .int (zI x4)), (5, .int (zI x5))]) X d_DataRow_sealed_57 rfl (by decide) rfl ?_
        refine J_iload_n X d_DataRow_sealed_58 rfl 3 rfl ?_
        refine J_aload_n X d_DataRow_sealed_59 rfl 1 rfl ?_
        refine J_get X (j_in in_DataRow) 0 rfl rfl 5 (by decide) (j_m own_DataRow_sealed (by decide +kernel)) rfl d_DataRow_sealed_60 ?_
        refine J_iload X d_DataRow_sealed_63 4 rfl ?_
        obtain ⟨g16, h⟩ := wk_g h
        refine J_iald X 4 0 rfl rfl g16 d_DataRow_sealed_65 ?_
        refine J_iadd X d_DataRow_sealed_66 ?_
        refine J_istore_n (lv' := [(3, .int (zI (x3 + (D_weights x4)))), (2, .int (zI (max x2 (D_depths x4)))), (0, .ref (ad 16)), (1, .int (zI x1)), (4, .int (zI x4)), (5, .int (zI x5))]) X d_DataRow_sealed_67 rfl (by decide) rfl ?_
        refine J_iload X d_DataRow_sealed_68 4 rfl ?_
        refine J_aload_n X d_DataRow_sealed_70 rfl 2 rfl ?_
        refine J_get X (j_in in_DataRow) 0 rfl rfl 3 (by decide) (j_m own_DataRow_sealed (by decide +kernel)) rfl d_DataRow_sealed_71 ?_
        refine J_iload X d_DataRow_sealed_74 4 rfl ?_
        obtain ⟨g17, h⟩ := wk_g h
        refine J_iald X 2 0 rfl rfl g17 d_DataRow_sealed_76 ?_
        refine J_iadd X d_DataRow_sealed_77 ?_
        refine J_istore (lv' := [(4, .int (zI (x4 + (D_nodes x4)))), (3, .int (zI (x3 + (D_weights x4)))), (2, .int (zI (max x2 (D_depths x4)))), (0, .ref (ad 16)), (1, .int (zI x1)), (5, .int (zI x5))]) X d_DataRow_sealed_78 (by decide) rfl ?_
        refine J_iinc (lv' := [(5, .int (zI (x5 + 1))), (4, .int (zI (x4 + (D_nodes x4)))), (3, .int (zI (x3 + (D_weights x4)))), (2, .int (zI (max x2 (D_depths x4)))), (0, .ref (ad 16)), (1, .int (zI x1))]) X d_DataRow_sealed_80 5 rfl (by decide) rfl ?_
        refine J_goto (tgt := 26) X d_DataRow_sealed_83 (by decide) ?_
        refine J_lv (lv' := [(0, .ref (ad 16)), (1, .int (zI x1)), (2, .int (zI (max x2 (D_depths x4)))), (3, .int (zI (x3 + (D_weights x4)))), (4, .int (zI (x4 + (D_nodes x4)))), (5, .int (zI (x5 + 1)))]) [4, 5, 3, 2, 1, 0] rfl ?_
        exact ih _ _ _ _ h hk
set_option maxHeartbeats 4000000 in
set_option maxRecDepth 100000 in
theorem c_DataRow_sealed {l : Launch} {D : va_G} {cI cL cB : ClassId} {ad : Nat → Nat} {N : Nat} {D_top : Int} {D_counts : Int → Int} {D_nodes : Int → Int} {D_depths : Int → Int} {D_weights : Int → Int} {p1 : Int} {out : Int × (Int → Int) × (Int → Int) × (Int → Int)} (h : f_DataRow_sealed N D_top D_counts D_nodes D_depths D_weights p1 = some out) : CT jF0 false l D [(cI, .int), (cL, .long), (cB, .byte)] y_DataRow_sealed w_DataRow_sealed ({ frames := 1, cells := 0, slots := 0, locals := 23 } : Room) [.ref (ad 16), .int (zI p1)] [(ad 16, .inr (5, [.ref (ad 17), .ref (ad 18), .ref (ad 19), .ref (ad 20), .ref (ad 21), .ref (ad 22), .int (zI D_top)])), (ad 18, .inl (cI, 3201, .inl (zA D_counts))), (ad 20, .inl (cI, 3201, .inl (zA D_nodes))), (ad 21, .inl (cI, 3201, .inl (zA D_depths))), (ad 22, .inl (cI, 3201, .inl (zA D_weights)))] (some (.int (zI out.1))) [(ad 16, .inr (5, [.ref (ad 17), .ref (ad 18), .ref (ad 19), .ref (ad 20), .ref (ad 21), .ref (ad 22), .int (zI D_top)])), (ad 18, .inl (cI, 3201, .inl (zA D_counts))), (ad 20, .inl (cI, 3201, .inl (zA (out.2.1)))), (ad 21, .inl (cI, 3201, .inl (zA (out.2.2.1)))), (ad 22, .inl (cI, 3201, .inl (zA (out.2.2.2))))] 0 0 := by
  refine CT_of_J (cc := b_DataRow_sealed) (maxL := 6) (ret := (some .int)) jF0_k (plainFor_of_name (by decide)) rfl (Nat.le_of_ble_eq_true rfl) ?_
  intro K hKl hKD X E
  subst hKl; subst hKD
  unfold f_DataRow_sealed at h
  refine J_iload_n X d_DataRow_sealed_0 rfl 1 rfl ?_
  refine J_if_lt (tgt := 12) X d_DataRow_sealed_1 (by decide) h (fun c1 h => ?_) (fun c1 h => ?_)
  · refine J_iconst X d_DataRow_sealed_12 ?_
    cases h
    exact J_ret E ⟨_, rfl, rfl⟩ d_DataRow_sealed_13 (Nat.le_refl _) (Nat.le_refl _) rfl
  · refine J_iload_n X d_DataRow_sealed_4 rfl 1 rfl ?_
    refine J_aload_n X d_DataRow_sealed_5 rfl 0 rfl ?_
    refine J_get X (j_in in_DataRow) 0 rfl rfl 6 (by decide) (j_m own_DataRow_sealed (by decide +kernel)) rfl d_DataRow_sealed_6 ?_
    refine J_icmp_lt (tgt := 14) X d_DataRow_sealed_9 (by decide) h (fun c2 h => ?_) (fun c2 h => ?_)
    · refine J_iconst X d_DataRow_sealed_14 ?_
      refine J_istore_n (lv' := [(2, .int (zI 0)), (0, .ref (ad 16)), (1, .int (zI p1))]) X d_DataRow_sealed_15 rfl (by decide) rfl ?_
      refine J_iconst X d_DataRow_sealed_16 ?_
      refine J_istore_n (lv' := [(3, .int (zI 0)), (2, .int (zI 0)), (0, .ref (ad 16)), (1, .int (zI p1))]) X d_DataRow_sealed_17 rfl (by decide) rfl ?_
      refine J_iload_n X d_DataRow_sealed_18 rfl 3 rfl ?_
      refine J_iconst X d_DataRow_sealed_19 ?_
      refine J_iadd X d_DataRow_sealed_20 ?_
      refine J_istore (lv' := [(4, .int (zI (p1 + 1))), (3, .int (zI 0)), (2, .int (zI 0)), (0, .ref (ad 16)), (1, .int (zI p1))]) X d_DataRow_sealed_21 (by decide) rfl ?_
      refine J_iconst X d_DataRow_sealed_23 ?_
      refine J_istore (lv' := [(5, .int (zI 0)), (4, .int (zI (p1 + 1))), (3, .int (zI 0)), (2, .int (zI 0)), (0, .ref (ad 16)), (1, .int (zI p1))]) X d_DataRow_sealed_24 (by decide) rfl ?_
      refine J_lv (lv' := [(0, .ref (ad 16)), (1, .int (zI p1)), (2, .int (zI 0)), (3, .int (zI 0)), (4, .int (zI (p1 + 1))), (5, .int (zI 0))]) [4, 5, 3, 2, 1, 0] rfl ?_
      obtain ⟨x2_3, x3_4, x4_5, x5_6, q7, h⟩ := wk_b4 h
      refine k_DataRow_sealed_L26 X _ _ _ _ _ q7 ?_
      refine J_aload_n X d_DataRow_sealed_86 rfl 0 rfl ?_
      refine J_get X (j_in in_DataRow) 0 rfl rfl 3 (by decide) (j_m own_DataRow_sealed (by decide +kernel)) rfl d_DataRow_sealed_87 ?_
      refine J_iload_n X d_DataRow_sealed_90 rfl 1 rfl ?_
      refine J_aload_n X d_DataRow_sealed_91 rfl 0 rfl ?_
      refine J_get X (j_in in_DataRow) 0 rfl rfl 6 (by decide) (j_m own_DataRow_sealed (by decide +kernel)) rfl d_DataRow_sealed_92 ?_
      refine J_iload_n X d_DataRow_sealed_95 rfl 1 rfl ?_
      refine J_isub X d_DataRow_sealed_96 ?_
      obtain ⟨g8, h⟩ := wk_g h
      refine J_iast (ws' := [(ad 16, .inr (5, [.ref (ad 17), .ref (ad 18), .ref (ad 19), .ref (ad 20), .ref (ad 21), .ref (ad 22), .int (zI D_top)])), (ad 18, .inl (cI, 3201, .inl (zA D_counts))), (ad 20, .inl (cI, 3201, .inl (zA (upZ D_nodes p1 (D_top - p1))))), (ad 21, .inl (cI, 3201, .inl (zA D_depths))), (ad 22, .inl (cI, 3201, .inl (zA D_weights)))]) X 2 0 rfl rfl g8 d_DataRow_sealed_97 rfl ?_
      refine J_aload_n X d_DataRow_sealed_98 rfl 0 rfl ?_
      refine J_get X (j_in in_DataRow) 0 rfl rfl 4 (by decide) (j_m own_DataRow_sealed (by decide +kernel)) rfl d_DataRow_sealed_99 ?_
      refine J_iload_n X d_DataRow_sealed_102 rfl 1 rfl ?_
      refine J_iload_n X d_DataRow_sealed_103 rfl 2 rfl ?_
      refine J_iconst X d_DataRow_sealed_104 ?_
      refine J_iadd X d_DataRow_sealed_105 ?_
      obtain ⟨g9, h⟩ := wk_g h
      refine J_iast (ws' := [(ad 16, .inr (5, [.ref (ad 17), .ref (ad 18), .ref (ad 19), .ref (ad 20), .ref (ad 21), .ref (ad 22), .int (zI D_top)])), (ad 18, .inl (cI, 3201, .inl (zA D_counts))), (ad 20, .inl (cI, 3201, .inl (zA (upZ D_nodes p1 (D_top - p1))))), (ad 21, .inl (cI, 3201, .inl (zA (upZ D_depths p1 (x2_3 + 1))))), (ad 22, .inl (cI, 3201, .inl (zA D_weights)))]) X 3 0 rfl rfl g9 d_DataRow_sealed_106 rfl ?_
      refine J_aload_n X d_DataRow_sealed_107 rfl 0 rfl ?_
      refine J_get X (j_in in_DataRow) 0 rfl rfl 5 (by decide) (j_m own_DataRow_sealed (by decide +kernel)) rfl d_DataRow_sealed_108 ?_
      refine J_iload_n X d_DataRow_sealed_111 rfl 1 rfl ?_
      refine J_iload_n X d_DataRow_sealed_112 rfl 3 rfl ?_
      obtain ⟨g10, h⟩ := wk_g h
      refine J_iast (ws' := [(ad 16, .inr (5, [.ref (ad 17), .ref (ad 18), .ref (ad 19), .ref (ad 20), .ref (ad 21), .ref (ad 22), .int (zI D_top)])), (ad 18, .inl (cI, 3201, .inl (zA D_counts))), (ad 20, .inl (cI, 3201, .inl (zA (upZ D_nodes p1 (D_top - p1))))), (ad 21, .inl (cI, 3201, .inl (zA (upZ D_depths p1 (x2_3 + 1))))), (ad 22, .inl (cI, 3201, .inl (zA (upZ D_weights p1 x3_4))))]) X 4 0 rfl rfl g10 d_DataRow_sealed_113 rfl ?_
      refine J_iload_n X d_DataRow_sealed_114 rfl 1 rfl ?_
      cases h
      exact J_ret E ⟨_, rfl, rfl⟩ d_DataRow_sealed_115 (Nat.le_refl _) (Nat.le_refl _) rfl
    · refine J_iconst X d_DataRow_sealed_12 ?_
      cases h
      exact J_ret E ⟨_, rfl, rfl⟩ d_DataRow_sealed_13 (Nat.le_refl _) (Nat.le_refl _) rfl

theorem d_DataRow_prepend_0 : decode b_DataRow_prepend 0 = .ok (.aload_n 0, 1) := by decide +kernel
theorem d_DataRow_prepend_1 : decode b_DataRow_prepend 1 = .ok (.iload_n 1, 1) := by decide +kernel
theorem d_DataRow_prepend_2 : decode b_DataRow_prepend 2 = .ok (.invokevirtual 42, 3) := by decide +kernel
theorem d_DataRow_prepend_5 : decode b_DataRow_prepend 5 = .ok (.aload_n 0, 1) := by decide +kernel
theorem d_DataRow_prepend_6 : decode b_DataRow_prepend 6 = .ok (.iload_n 2, 1) := by decide +kernel
theorem d_DataRow_prepend_7 : decode b_DataRow_prepend 7 = .ok (.invokevirtual 42, 3) := by decide +kernel
theorem d_DataRow_prepend_10 : decode b_DataRow_prepend 10 = .ok (.iadd, 1) := by decide +kernel
theorem d_DataRow_prepend_11 : decode b_DataRow_prepend 11 = .ok (.sipush 200, 3) := by decide +kernel
theorem d_DataRow_prepend_14 : decode b_DataRow_prepend 14 = .ok (.if_icmp .gt 13, 3) := by decide +kernel
theorem d_DataRow_prepend_17 : decode b_DataRow_prepend 17 = .ok (.aload_n 0, 1) := by decide +kernel
theorem d_DataRow_prepend_18 : decode b_DataRow_prepend 18 = .ok (.iload_n 1, 1) := by decide +kernel
theorem d_DataRow_prepend_19 : decode b_DataRow_prepend 19 = .ok (.invokevirtual 50, 3) := by decide +kernel
theorem d_DataRow_prepend_22 : decode b_DataRow_prepend 22 = .ok (.bipush 12, 2) := by decide +kernel
theorem d_DataRow_prepend_24 : decode b_DataRow_prepend 24 = .ok (.if_icmp .lt 5, 3) := by decide +kernel
theorem d_DataRow_prepend_27 : decode b_DataRow_prepend 27 = .ok (.iconst (-1), 1) := by decide +kernel
theorem d_DataRow_prepend_28 : decode b_DataRow_prepend 28 = .ok (.ireturn, 1) := by decide +kernel
theorem d_DataRow_prepend_29 : decode b_DataRow_prepend 29 = .ok (.aload_n 0, 1) := by decide +kernel
theorem d_DataRow_prepend_30 : decode b_DataRow_prepend 30 = .ok (.iconst 2, 1) := by decide +kernel
theorem d_DataRow_prepend_31 : decode b_DataRow_prepend 31 = .ok (.lconst 0, 1) := by decide +kernel
theorem d_DataRow_prepend_32 : decode b_DataRow_prepend 32 = .ok (.aload_n 0, 1) := by decide +kernel
theorem d_DataRow_prepend_33 : decode b_DataRow_prepend 33 = .ok (.iload_n 2, 1) := by decide +kernel
theorem d_DataRow_prepend_34 : decode b_DataRow_prepend 34 = .ok (.invokevirtual 53, 3) := by decide +kernel
theorem d_DataRow_prepend_37 : decode b_DataRow_prepend 37 = .ok (.iconst 1, 1) := by decide +kernel
theorem d_DataRow_prepend_38 : decode b_DataRow_prepend 38 = .ok (.iadd, 1) := by decide +kernel
theorem d_DataRow_prepend_39 : decode b_DataRow_prepend 39 = .ok (.invokevirtual 38, 3) := by decide +kernel
theorem d_DataRow_prepend_42 : decode b_DataRow_prepend 42 = .ok (.istore_n 3, 1) := by decide +kernel
theorem d_DataRow_prepend_43 : decode b_DataRow_prepend 43 = .ok (.aload_n 0, 1) := by decide +kernel
theorem d_DataRow_prepend_44 : decode b_DataRow_prepend 44 = .ok (.iload_n 1, 1) := by decide +kernel
theorem d_DataRow_prepend_45 : decode b_DataRow_prepend 45 = .ok (.aload_n 0, 1) := by decide +kernel
theorem d_DataRow_prepend_46 : decode b_DataRow_prepend 46 = .ok (.iload_n 1, 1) := by decide +kernel
theorem d_DataRow_prepend_47 : decode b_DataRow_prepend 47 = .ok (.invokevirtual 42, 3) := by decide +kernel
theorem d_DataRow_prepend_50 : decode b_DataRow_prepend 50 = .ok (.invokevirtual 46, 3) := by decide +kernel
theorem d_DataRow_prepend_53 : decode b_DataRow_prepend 53 = .ok (.ifCond .eq 24, 3) := by decide +kernel
theorem d_DataRow_prepend_56 : decode b_DataRow_prepend 56 = .ok (.aload_n 0, 1) := by decide +kernel
theorem d_DataRow_prepend_57 : decode b_DataRow_prepend 57 = .ok (.iload_n 2, 1) := by decide +kernel
theorem d_DataRow_prepend_58 : decode b_DataRow_prepend 58 = .ok (.iconst 1, 1) := by decide +kernel
theorem d_DataRow_prepend_59 : decode b_DataRow_prepend 59 = .ok (.iadd, 1) := by decide +kernel
theorem d_DataRow_prepend_60 : decode b_DataRow_prepend 60 = .ok (.aload_n 0, 1) := by decide +kernel
theorem d_DataRow_prepend_61 : decode b_DataRow_prepend 61 = .ok (.iload_n 2, 1) := by decide +kernel
theorem d_DataRow_prepend_62 : decode b_DataRow_prepend 62 = .ok (.invokevirtual 42, 3) := by decide +kernel
theorem d_DataRow_prepend_65 : decode b_DataRow_prepend 65 = .ok (.iconst 1, 1) := by decide +kernel
theorem d_DataRow_prepend_66 : decode b_DataRow_prepend 66 = .ok (.isub, 1) := by decide +kernel
theorem d_DataRow_prepend_67 : decode b_DataRow_prepend 67 = .ok (.invokevirtual 46, 3) := by decide +kernel
theorem d_DataRow_prepend_70 : decode b_DataRow_prepend 70 = .ok (.ifCond .eq 7, 3) := by decide +kernel
theorem d_DataRow_prepend_73 : decode b_DataRow_prepend 73 = .ok (.iconst 1, 1) := by decide +kernel
theorem d_DataRow_prepend_74 : decode b_DataRow_prepend 74 = .ok (.goto 4, 3) := by decide +kernel
theorem d_DataRow_prepend_77 : decode b_DataRow_prepend 77 = .ok (.iconst 0, 1) := by decide +kernel
theorem d_DataRow_prepend_78 : decode b_DataRow_prepend 78 = .ok (.istore 4, 2) := by decide +kernel
theorem d_DataRow_prepend_80 : decode b_DataRow_prepend 80 = .ok (.iload 4, 2) := by decide +kernel
theorem d_DataRow_prepend_82 : decode b_DataRow_prepend 82 = .ok (.ifCond .eq 11, 3) := by decide +kernel
theorem d_DataRow_prepend_85 : decode b_DataRow_prepend 85 = .ok (.aload_n 0, 1) := by decide +kernel
theorem d_DataRow_prepend_86 : decode b_DataRow_prepend 86 = .ok (.iload_n 3, 1) := by decide +kernel
theorem d_DataRow_prepend_87 : decode b_DataRow_prepend 87 = .ok (.invokevirtual 56, 3) := by decide +kernel
theorem d_DataRow_prepend_90 : decode b_DataRow_prepend 90 = .ok (.goto 4, 3) := by decide +kernel
theorem d_DataRow_prepend_93 : decode b_DataRow_prepend 93 = .ok (.iconst (-1), 1) := by decide +kernel
theorem d_DataRow_prepend_94 : decode b_DataRow_prepend 94 = .ok (.ireturn, 1) := by decide +kernel
def f_DataRow_prepend (N : Nat) (D_top : Int) (D_forms : Int → Int) (D_counts : Int → Int) (D_numbers : Int → Int) (D_nodes : Int → Int) (D_depths : Int → Int) (D_weights : Int → Int) (p1 : Int) (p2 : Int) : Option (Int × Int × (Int → Int) × (Int → Int) × (Int → Int) × (Int → Int) × (Int → Int) × (Int → Int)) :=
  Option.bind (f_DataRow_nodesOf D_top D_nodes p1) (fun r1 =>
   Option.bind (f_DataRow_nodesOf D_top D_nodes p2) (fun r3 =>
    if jr2 (r1 + r3) 200 = true then (if 200 < (r1 + r3) then (
     some ((-1), D_top, D_forms, D_counts, D_numbers, D_nodes, D_depths, D_weights)) else (
     Option.bind (f_DataRow_depthOf D_top D_depths p1) (fun r6 =>
      if jr2 r6 12 = true then (if r6 < 12 then (
       Option.bind (f_DataRow_countOf D_top D_counts p2) (fun r9 =>
        ob8 (f_DataRow_leaf D_top D_forms D_counts D_numbers D_nodes D_depths D_weights 2 0 (r9 + 1)) (fun r11 D_top_12 D_forms_13 D_counts_14 D_numbers_15 D_nodes_16 D_depths_17 D_weights_18 =>
         Option.bind (f_DataRow_nodesOf D_top_12 D_nodes_16 p1) (fun r20 =>
          ob8 (f_DataRow_copy D_top_12 D_forms_13 D_counts_14 D_numbers_15 D_nodes_16 D_depths_17 D_weights_18 p1 r20) (fun r22 D_top_23 D_forms_24 D_counts_25 D_numbers_26 D_nodes_27 D_depths_28 D_weights_29 =>
           if rI r22 = true then (if r22 = 0 then (
            some ((-1), D_top_23, D_forms_24, D_counts_25, D_numbers_26, D_nodes_27, D_depths_28, D_weights_29)) else (
            Option.bind (f_DataRow_nodesOf D_top_23 D_nodes_27 p2) (fun r32 =>
             ob8 (f_DataRow_copy D_top_23 D_forms_24 D_counts_25 D_numbers_26 D_nodes_27 D_depths_28 D_weights_29 (p2 + 1) (r32 - 1)) (fun r34 D_top_35 D_forms_36 D_counts_37 D_numbers_38 D_nodes_39 D_depths_40 D_weights_41 =>
              if rI r34 = true then (if r34 = 0 then (
               some ((-1), D_top_35, D_forms_36, D_counts_37, D_numbers_38, D_nodes_39, D_depths_40, D_weights_41)) else (
               ob4 (f_DataRow_sealed N D_top_35 D_counts_37 D_nodes_39 D_depths_40 D_weights_41 r11) (fun r44 D_nodes_45 D_depths_46 D_weights_47 =>
                some (r44, D_top_35, D_forms_36, D_counts_37, D_numbers_38, D_nodes_45, D_depths_46, D_weights_47)))) else none)))) else none))))) else (
       some ((-1), D_top, D_forms, D_counts, D_numbers, D_nodes, D_depths, D_weights))) else none))) else none))
set_option maxHeartbeats 4000000 in
set_option maxRecDepth 100000 in
theorem c_DataRow_prepend {l : Launch} {D : va_G} {cI cL cB : ClassId} {ad : Nat → Nat} {N : Nat} {D_top : Int} {D_forms : Int → Int} {D_counts : Int → Int} {D_numbers : Int → Int} {D_nodes : Int → Int} {D_depths : Int → Int} {D_weights : Int → Int} {p1 : Int} {p2 : Int} {out : Int × Int × (Int → Int) × (Int → Int) × (Int → Int) × (Int → Int) × (Int → Int) × (Int → Int)} (h : f_DataRow_prepend N D_top D_forms D_counts D_numbers D_nodes D_depths D_weights p1 p2 = some out) : CT jF0 false l D [(cI, .int), (cL, .long), (cB, .byte)] y_DataRow_prepend w_DataRow_prepend ({ frames := 2, cells := 0, slots := 0, locals := 82 } : Room) [.ref (ad 16), .int (zI p1), .int (zI p2)] [(ad 16, .inr (5, [.ref (ad 17), .ref (ad 18), .ref (ad 19), .ref (ad 20), .ref (ad 21), .ref (ad 22), .int (zI D_top)])), (ad 17, .inl (cI, 3201, .inl (zA D_forms))), (ad 18, .inl (cI, 3201, .inl (zA D_counts))), (ad 19, .inl (cL, 3201, .inr (.inl (zB D_numbers)))), (ad 20, .inl (cI, 3201, .inl (zA D_nodes))), (ad 21, .inl (cI, 3201, .inl (zA D_depths))), (ad 22, .inl (cI, 3201, .inl (zA D_weights)))] (some (.int (zI out.1))) [(ad 16, .inr (5, [.ref (ad 17), .ref (ad 18), .ref (ad 19), .ref (ad 20), .ref (ad 21), .ref (ad 22), .int (zI (out.2.1))])), (ad 17, .inl (cI, 3201, .inl (zA (out.2.2.1)))), (ad 18, .inl (cI, 3201, .inl (zA (out.2.2.2.1)))), (ad 19, .inl (cL, 3201, .inr (.inl (zB (out.2.2.2.2.1))))), (ad 20, .inl (cI, 3201, .inl (zA (out.2.2.2.2.2.1)))), (ad 21, .inl (cI, 3201, .inl (zA (out.2.2.2.2.2.2.1)))), (ad 22, .inl (cI, 3201, .inl (zA (out.2.2.2.2.2.2.2))))] 0 0 := by
  refine CT_of_J (cc := b_DataRow_prepend) (maxL := 5) (ret := (some .int)) jF0_k (plainFor_of_name (by decide)) rfl (Nat.le_of_ble_eq_true rfl) ?_
  intro K hKl hKD X E
  subst hKl; subst hKD
  unfold f_DataRow_prepend at h
  refine J_aload_n X d_DataRow_prepend_0 rfl 0 rfl ?_
  refine J_iload_n X d_DataRow_prepend_1 rfl 1 rfl ?_
  obtain ⟨r1, q2, h⟩ := wk_b h
  refine J_afterP (jrunV X (c_DataRow_nodesOf (ad := ad) q2) jF0_k (fun _ _ _ _ => trivial) (jgV own_DataRow_prepend (by decide +kernel)) rfl rfl rfl pd_DataRow_nodesOf (by decide) [0, 4] rfl (by decide) 0 5 rfl rfl rfl rfl (Nat.le_of_ble_eq_true rfl) d_DataRow_prepend_2 (by decide)) ?_
  refine J_aload_n X d_DataRow_prepend_5 rfl 0 rfl ?_
  refine J_iload_n X d_DataRow_prepend_6 rfl 2 rfl ?_
  obtain ⟨r3, q4, h⟩ := wk_b h
  refine J_afterP (jrunV X (c_DataRow_nodesOf (ad := ad) q4) jF0_k (fun _ _ _ _ => trivial) (jgV own_DataRow_prepend (by decide +kernel)) rfl rfl rfl pd_DataRow_nodesOf (by decide) [0, 4] rfl (by decide) 0 5 rfl rfl rfl rfl (Nat.le_of_ble_eq_true rfl) d_DataRow_prepend_7 (by decide)) ?_
  refine J_iadd X d_DataRow_prepend_10 ?_
  refine J_sipush X d_DataRow_prepend_11 (by decide) ?_
  refine J_icmp_gt (tgt := 27) X d_DataRow_prepend_14 (by decide) h (fun c5 h => ?_) (fun c5 h => ?_)
  · refine J_iconst X d_DataRow_prepend_27 ?_
    cases h
    exact J_ret E ⟨_, rfl, rfl⟩ d_DataRow_prepend_28 (Nat.le_refl _) (Nat.le_refl _) rfl
  · refine J_aload_n X d_DataRow_prepend_17 rfl 0 rfl ?_
    refine J_iload_n X d_DataRow_prepend_18 rfl 1 rfl ?_
    obtain ⟨r6, q7, h⟩ := wk_b h
    refine J_afterP (jrunV X (c_DataRow_depthOf (ad := ad) q7) jF0_k (fun _ _ _ _ => trivial) (jgV own_DataRow_prepend (by decide +kernel)) rfl rfl rfl pd_DataRow_depthOf (by decide) [0, 5] rfl (by decide) 0 5 rfl rfl rfl rfl (Nat.le_of_ble_eq_true rfl) d_DataRow_prepend_19 (by decide)) ?_
    refine J_bipush X d_DataRow_prepend_22 (by decide) ?_
    refine J_icmp_lt (tgt := 29) X d_DataRow_prepend_24 (by decide) h (fun c8 h => ?_) (fun c8 h => ?_)
    · refine J_aload_n X d_DataRow_prepend_29 rfl 0 rfl ?_
      refine J_iconst X d_DataRow_prepend_30 ?_
      refine J_lconst (v := 0) X d_DataRow_prepend_31 (by decide) ?_
      refine J_aload_n X d_DataRow_prepend_32 rfl 0 rfl ?_
      refine J_iload_n X d_DataRow_prepend_33 rfl 2 rfl ?_
      obtain ⟨r9, q10, h⟩ := wk_b h
      refine J_afterP (jrunV X (c_DataRow_countOf (ad := ad) q10) jF0_k (fun _ _ _ _ => trivial) (jgV own_DataRow_prepend (by decide +kernel)) rfl rfl rfl pd_DataRow_countOf (by decide) [0, 2] rfl (by decide) 0 5 rfl rfl rfl rfl (Nat.le_of_ble_eq_true rfl) d_DataRow_prepend_34 (by decide)) ?_
      refine J_iconst X d_DataRow_prepend_37 ?_
      refine J_iadd X d_DataRow_prepend_38 ?_
      obtain ⟨r11, D_top_12, D_forms_13, D_counts_14, D_numbers_15, D_nodes_16, D_depths_17, D_weights_18, q19, h⟩ := wk_b8 h
      refine J_afterI0 (ws' := [(ad 16, .inr (5, [.ref (ad 17), .ref (ad 18), .ref (ad 19), .ref (ad 20), .ref (ad 21), .ref (ad 22), .int (zI D_top_12)])), (ad 17, .inl (cI, 3201, .inl (zA D_forms_13))), (ad 18, .inl (cI, 3201, .inl (zA D_counts_14))), (ad 19, .inl (cL, 3201, .inr (.inl (zB D_numbers_15)))), (ad 20, .inl (cI, 3201, .inl (zA D_nodes_16))), (ad 21, .inl (cI, 3201, .inl (zA D_depths_17))), (ad 22, .inl (cI, 3201, .inl (zA D_weights_18)))]) X (jrunV X (c_DataRow_leaf (ad := ad) q19) jF0_k (fun _ _ _ _ => trivial) (jgV own_DataRow_prepend (by decide +kernel)) rfl rfl rfl pd_DataRow_leaf (by decide) [0, 1, 2, 3, 4, 5, 6] rfl (by decide) 0 5 rfl rfl rfl rfl (Nat.le_of_ble_eq_true rfl) d_DataRow_prepend_39 (by decide)) [0, 1, 2, 3, 4, 5, 6] [] [0, 1, 2, 3, 4, 5, 6] rfl rfl (by decide) (by decide) rfl (by decide) ?_
      refine J_istore_n (lv' := [(3, .int (zI r11)), (0, .ref (ad 16)), (1, .int (zI p1)), (2, .int (zI p2))]) X d_DataRow_prepend_42 rfl (by decide) rfl ?_
      refine J_aload_n X d_DataRow_prepend_43 rfl 1 rfl ?_
      refine J_iload_n X d_DataRow_prepend_44 rfl 2 rfl ?_
      refine J_aload_n X d_DataRow_prepend_45 rfl 1 rfl ?_
      refine J_iload_n X d_DataRow_prepend_46 rfl 2 rfl ?_
      obtain ⟨r20, q21, h⟩ := wk_b h
      refine J_afterP (jrunV X (c_DataRow_nodesOf (ad := ad) q21) jF0_k (fun _ _ _ _ => trivial) (jgV own_DataRow_prepend (by decide +kernel)) rfl rfl rfl pd_DataRow_nodesOf (by decide) [0, 4] rfl (by decide) 0 5 rfl rfl rfl rfl (Nat.le_of_ble_eq_true rfl) d_DataRow_prepend_47 (by decide)) ?_
      obtain ⟨r22, D_top_23, D_forms_24, D_counts_25, D_numbers_26, D_nodes_27, D_depths_28, D_weights_29, q30, h⟩ := wk_b8 h
      refine J_afterI0 (ws' := [(ad 16, .inr (5, [.ref (ad 17), .ref (ad 18), .ref (ad 19), .ref (ad 20), .ref (ad 21), .ref (ad 22), .int (zI D_top_23)])), (ad 17, .inl (cI, 3201, .inl (zA D_forms_24))), (ad 18, .inl (cI, 3201, .inl (zA D_counts_25))), (ad 19, .inl (cL, 3201, .inr (.inl (zB D_numbers_26)))), (ad 20, .inl (cI, 3201, .inl (zA D_nodes_27))), (ad 21, .inl (cI, 3201, .inl (zA D_depths_28))), (ad 22, .inl (cI, 3201, .inl (zA D_weights_29)))]) X (jrunV X (c_DataRow_copy (ad := ad) q30) jF0_k (fun _ _ _ _ => trivial) (jgV own_DataRow_prepend (by decide +kernel)) rfl rfl rfl pd_DataRow_copy (by decide) [0, 1, 2, 3, 4, 5, 6] rfl (by decide) 0 5 rfl rfl rfl rfl (Nat.le_of_ble_eq_true rfl) d_DataRow_prepend_50 (by decide)) [0, 1, 2, 3, 4, 5, 6] [] [0, 1, 2, 3, 4, 5, 6] rfl rfl (by decide) (by decide) rfl (by decide) ?_
      refine J_if_eq (tgt := 77) X d_DataRow_prepend_53 (by decide) h (fun c31 h => ?_) (fun c31 h => ?_)
      · refine J_iconst X d_DataRow_prepend_77 ?_
        refine J_istore (lv' := [(4, .int (zI 0)), (3, .int (zI r11)), (0, .ref (ad 16)), (1, .int (zI p1)), (2, .int (zI p2))]) X d_DataRow_prepend_78 (by decide) rfl ?_
        refine J_iload X d_DataRow_prepend_80 0 rfl ?_
        refine J_if_eq (pa := some ()) (pb := none) (o := ()) (tgt := 93) X d_DataRow_prepend_82 (by decide) (by decide) (fun _ _ => ?_) (fun _ h => by cases h)
        refine J_iconst X d_DataRow_prepend_93 ?_
        cases h
        exact J_ret E ⟨_, rfl, rfl⟩ d_DataRow_prepend_94 (Nat.le_refl _) (Nat.le_refl _) rfl
      · refine J_aload_n X d_DataRow_prepend_56 rfl 1 rfl ?_
        refine J_iload_n X d_DataRow_prepend_57 rfl 3 rfl ?_
        refine J_iconst X d_DataRow_prepend_58 ?_
        refine J_iadd X d_DataRow_prepend_59 ?_
        refine J_aload_n X d_DataRow_prepend_60 rfl 1 rfl ?_
        refine J_iload_n X d_DataRow_prepend_61 rfl 3 rfl ?_
        obtain ⟨r32, q33, h⟩ := wk_b h
        refine J_afterP (jrunV X (c_DataRow_nodesOf (ad := ad) q33) jF0_k (fun _ _ _ _ => trivial) (jgV own_DataRow_prepend (by decide +kernel)) rfl rfl rfl pd_DataRow_nodesOf (by decide) [0, 4] rfl (by decide) 0 5 rfl rfl rfl rfl (Nat.le_of_ble_eq_true rfl) d_DataRow_prepend_62 (by decide)) ?_
        refine J_iconst X d_DataRow_prepend_65 ?_
        refine J_isub X d_DataRow_prepend_66 ?_
        obtain ⟨r34, D_top_35, D_forms_36, D_counts_37, D_numbers_38, D_nodes_39, D_depths_40, D_weights_41, q42, h⟩ := wk_b8 h
        refine J_afterI0 (ws' := [(ad 16, .inr (5, [.ref (ad 17), .ref (ad 18), .ref (ad 19), .ref (ad 20), .ref (ad 21), .ref (ad 22), .int (zI D_top_35)])), (ad 17, .inl (cI, 3201, .inl (zA D_forms_36))), (ad 18, .inl (cI, 3201, .inl (zA D_counts_37))), (ad 19, .inl (cL, 3201, .inr (.inl (zB D_numbers_38)))), (ad 20, .inl (cI, 3201, .inl (zA D_nodes_39))), (ad 21, .inl (cI, 3201, .inl (zA D_depths_40))), (ad 22, .inl (cI, 3201, .inl (zA D_weights_41)))]) X (jrunV X (c_DataRow_copy (ad := ad) q42) jF0_k (fun _ _ _ _ => trivial) (jgV own_DataRow_prepend (by decide +kernel)) rfl rfl rfl pd_DataRow_copy (by decide) [0, 1, 2, 3, 4, 5, 6] rfl (by decide) 0 5 rfl rfl rfl rfl (Nat.le_of_ble_eq_true rfl) d_DataRow_prepend_67 (by decide)) [0, 1, 2, 3, 4, 5, 6] [] [0, 1, 2, 3, 4, 5, 6] rfl rfl (by decide) (by decide) rfl (by decide) ?_
        refine J_if_eq (tgt := 77) X d_DataRow_prepend_70 (by decide) h (fun c43 h => ?_) (fun c43 h => ?_)
        · refine J_iconst X d_DataRow_prepend_77 ?_
          refine J_istore (lv' := [(4, .int (zI 0)), (3, .int (zI r11)), (0, .ref (ad 16)), (1, .int (zI p1)), (2, .int (zI p2))]) X d_DataRow_prepend_78 (by decide) rfl ?_
          refine J_iload X d_DataRow_prepend_80 0 rfl ?_
          refine J_if_eq (pa := some ()) (pb := none) (o := ()) (tgt := 93) X d_DataRow_prepend_82 (by decide) (by decide) (fun _ _ => ?_) (fun _ h => by cases h)
          refine J_iconst X d_DataRow_prepend_93 ?_
          cases h
          exact J_ret E ⟨_, rfl, rfl⟩ d_DataRow_prepend_94 (Nat.le_refl _) (Nat.le_refl _) rfl
        · refine J_iconst X d_DataRow_prepend_73 ?_
          refine J_goto (tgt := 78) X d_DataRow_prepend_74 (by decide) ?_
          refine J_istore (lv' := [(4, .int (zI 1)), (3, .int (zI r11)), (0, .ref (ad 16)), (1, .int (zI p1)), (2, .int (zI p2))]) X d_DataRow_prepend_78 (by decide) rfl ?_
          refine J_iload X d_DataRow_prepend_80 0 rfl ?_
          refine J_if_eq (pa := none) (pb := some ()) (o := ()) (tgt := 93) X d_DataRow_prepend_82 (by decide) (by decide) (fun _ h => by cases h) (fun _ _ => ?_)
          refine J_aload_n X d_DataRow_prepend_85 rfl 2 rfl ?_
          refine J_iload_n X d_DataRow_prepend_86 rfl 1 rfl ?_
          obtain ⟨r44, D_nodes_45, D_depths_46, D_weights_47, q48, h⟩ := wk_b4 h
          refine J_afterI0 (ws' := [(ad 16, .inr (5, [.ref (ad 17), .ref (ad 18), .ref (ad 19), .ref (ad 20), .ref (ad 21), .ref (ad 22), .int (zI D_top_35)])), (ad 17, .inl (cI, 3201, .inl (zA D_forms_36))), (ad 18, .inl (cI, 3201, .inl (zA D_counts_37))), (ad 19, .inl (cL, 3201, .inr (.inl (zB D_numbers_38)))), (ad 20, .inl (cI, 3201, .inl (zA D_nodes_45))), (ad 21, .inl (cI, 3201, .inl (zA D_depths_46))), (ad 22, .inl (cI, 3201, .inl (zA D_weights_47)))]) X (jrunV X (c_DataRow_sealed (ad := ad) q48) jF0_k (fun _ _ _ _ => trivial) (jgV own_DataRow_prepend (by decide +kernel)) rfl rfl rfl pd_DataRow_sealed (by decide) [0, 2, 4, 5, 6] rfl (by decide) 0 5 rfl rfl rfl rfl (Nat.le_of_ble_eq_true rfl) d_DataRow_prepend_87 (by decide)) [0, 2, 4, 5, 6] [1, 3] [2, 0, 3, 1, 4, 5, 6] rfl rfl (by decide) (by decide) rfl (by decide) ?_
          refine J_goto (tgt := 94) X d_DataRow_prepend_90 (by decide) ?_
          cases h
          exact J_ret E ⟨_, rfl, rfl⟩ d_DataRow_prepend_94 (Nat.le_refl _) (Nat.le_refl _) rfl
    · refine J_iconst X d_DataRow_prepend_27 ?_
      cases h
      exact J_ret E ⟨_, rfl, rfl⟩ d_DataRow_prepend_28 (Nat.le_refl _) (Nat.le_refl _) rfl

theorem d_DataRow_rest_0 : decode b_DataRow_rest 0 = .ok (.aload_n 0, 1) := by decide +kernel
theorem d_DataRow_rest_1 : decode b_DataRow_rest 1 = .ok (.iload_n 1, 1) := by decide +kernel
theorem d_DataRow_rest_2 : decode b_DataRow_rest 2 = .ok (.invokevirtual 53, 3) := by decide +kernel
theorem d_DataRow_rest_5 : decode b_DataRow_rest 5 = .ok (.iconst 1, 1) := by decide +kernel
theorem d_DataRow_rest_6 : decode b_DataRow_rest 6 = .ok (.if_icmp .ge 5, 3) := by decide +kernel
theorem d_DataRow_rest_9 : decode b_DataRow_rest 9 = .ok (.iconst (-1), 1) := by decide +kernel
theorem d_DataRow_rest_10 : decode b_DataRow_rest 10 = .ok (.ireturn, 1) := by decide +kernel
theorem d_DataRow_rest_11 : decode b_DataRow_rest 11 = .ok (.aload_n 0, 1) := by decide +kernel
theorem d_DataRow_rest_12 : decode b_DataRow_rest 12 = .ok (.iload_n 1, 1) := by decide +kernel
theorem d_DataRow_rest_13 : decode b_DataRow_rest 13 = .ok (.iconst 1, 1) := by decide +kernel
theorem d_DataRow_rest_14 : decode b_DataRow_rest 14 = .ok (.iadd, 1) := by decide +kernel
theorem d_DataRow_rest_15 : decode b_DataRow_rest 15 = .ok (.invokevirtual 42, 3) := by decide +kernel
theorem d_DataRow_rest_18 : decode b_DataRow_rest 18 = .ok (.istore_n 2, 1) := by decide +kernel
theorem d_DataRow_rest_19 : decode b_DataRow_rest 19 = .ok (.aload_n 0, 1) := by decide +kernel
theorem d_DataRow_rest_20 : decode b_DataRow_rest 20 = .ok (.iconst 2, 1) := by decide +kernel
theorem d_DataRow_rest_21 : decode b_DataRow_rest 21 = .ok (.lconst 0, 1) := by decide +kernel
theorem d_DataRow_rest_22 : decode b_DataRow_rest 22 = .ok (.aload_n 0, 1) := by decide +kernel
theorem d_DataRow_rest_23 : decode b_DataRow_rest 23 = .ok (.iload_n 1, 1) := by decide +kernel
theorem d_DataRow_rest_24 : decode b_DataRow_rest 24 = .ok (.invokevirtual 53, 3) := by decide +kernel
theorem d_DataRow_rest_27 : decode b_DataRow_rest 27 = .ok (.iconst 1, 1) := by decide +kernel
theorem d_DataRow_rest_28 : decode b_DataRow_rest 28 = .ok (.isub, 1) := by decide +kernel
theorem d_DataRow_rest_29 : decode b_DataRow_rest 29 = .ok (.invokevirtual 38, 3) := by decide +kernel
theorem d_DataRow_rest_32 : decode b_DataRow_rest 32 = .ok (.istore_n 3, 1) := by decide +kernel
theorem d_DataRow_rest_33 : decode b_DataRow_rest 33 = .ok (.aload_n 0, 1) := by decide +kernel
theorem d_DataRow_rest_34 : decode b_DataRow_rest 34 = .ok (.iload_n 1, 1) := by decide +kernel
theorem d_DataRow_rest_35 : decode b_DataRow_rest 35 = .ok (.iconst 1, 1) := by decide +kernel
theorem d_DataRow_rest_36 : decode b_DataRow_rest 36 = .ok (.iadd, 1) := by decide +kernel
theorem d_DataRow_rest_37 : decode b_DataRow_rest 37 = .ok (.iload_n 2, 1) := by decide +kernel
theorem d_DataRow_rest_38 : decode b_DataRow_rest 38 = .ok (.iadd, 1) := by decide +kernel
theorem d_DataRow_rest_39 : decode b_DataRow_rest 39 = .ok (.aload_n 0, 1) := by decide +kernel
theorem d_DataRow_rest_40 : decode b_DataRow_rest 40 = .ok (.iload_n 1, 1) := by decide +kernel
theorem d_DataRow_rest_41 : decode b_DataRow_rest 41 = .ok (.invokevirtual 42, 3) := by decide +kernel
theorem d_DataRow_rest_44 : decode b_DataRow_rest 44 = .ok (.iconst 1, 1) := by decide +kernel
theorem d_DataRow_rest_45 : decode b_DataRow_rest 45 = .ok (.isub, 1) := by decide +kernel
theorem d_DataRow_rest_46 : decode b_DataRow_rest 46 = .ok (.iload_n 2, 1) := by decide +kernel
theorem d_DataRow_rest_47 : decode b_DataRow_rest 47 = .ok (.isub, 1) := by decide +kernel
theorem d_DataRow_rest_48 : decode b_DataRow_rest 48 = .ok (.invokevirtual 46, 3) := by decide +kernel
theorem d_DataRow_rest_51 : decode b_DataRow_rest 51 = .ok (.ifCond .eq 11, 3) := by decide +kernel
theorem d_DataRow_rest_54 : decode b_DataRow_rest 54 = .ok (.aload_n 0, 1) := by decide +kernel
theorem d_DataRow_rest_55 : decode b_DataRow_rest 55 = .ok (.iload_n 3, 1) := by decide +kernel
theorem d_DataRow_rest_56 : decode b_DataRow_rest 56 = .ok (.invokevirtual 56, 3) := by decide +kernel
theorem d_DataRow_rest_59 : decode b_DataRow_rest 59 = .ok (.goto 4, 3) := by decide +kernel
theorem d_DataRow_rest_62 : decode b_DataRow_rest 62 = .ok (.iconst (-1), 1) := by decide +kernel
theorem d_DataRow_rest_63 : decode b_DataRow_rest 63 = .ok (.ireturn, 1) := by decide +kernel
def f_DataRow_rest (N : Nat) (D_top : Int) (D_forms : Int → Int) (D_counts : Int → Int) (D_numbers : Int → Int) (D_nodes : Int → Int) (D_depths : Int → Int) (D_weights : Int → Int) (p1 : Int) : Option (Int × Int × (Int → Int) × (Int → Int) × (Int → Int) × (Int → Int) × (Int → Int) × (Int → Int)) :=
  Option.bind (f_DataRow_countOf D_top D_counts p1) (fun r1 =>
   if jr2 r1 1 = true then (if 1 ≤ r1 then (
    Option.bind (f_DataRow_nodesOf D_top D_nodes (p1 + 1)) (fun r4 =>
     Option.bind (f_DataRow_countOf D_top D_counts p1) (fun r6 =>
      ob8 (f_DataRow_leaf D_top D_forms D_counts D_numbers D_nodes D_depths D_weights 2 0 (r6 - 1)) (fun r8 D_top_9 D_forms_10 D_counts_11 D_numbers_12 D_nodes_13 D_depths_14 D_weights_15 =>
       Option.bind (f_DataRow_nodesOf D_top_9 D_nodes_13 p1) (fun r17 =>
        ob8 (f_DataRow_copy D_top_9 D_forms_10 D_counts_11 D_numbers_12 D_nodes_13 D_depths_14 D_weights_15 ((p1 + 1) + r4) ((r17 - 1) - r4)) (fun r19 D_top_20 D_forms_21 D_counts_22 D_numbers_23 D_nodes_24 D_depths_25 D_weights_26 =>
         if rI r19 = true then (if r19 = 0 then (
          some ((-1), D_top_20, D_forms_21, D_counts_22, D_numbers_23, D_nodes_24, D_depths_25, D_weights_26)) else (
          ob4 (f_DataRow_sealed N D_top_20 D_counts_22 D_nodes_24 D_depths_25 D_weights_26 r8) (fun r29 D_nodes_30 D_depths_31 D_weights_32 =>
           some (r29, D_top_20, D_forms_21, D_counts_22, D_numbers_23, D_nodes_30, D_depths_31, D_weights_32)))) else none)))))) else (
    some ((-1), D_top, D_forms, D_counts, D_numbers, D_nodes, D_depths, D_weights))) else none)
set_option maxHeartbeats 4000000 in
set_option maxRecDepth 100000 in
theorem c_DataRow_rest {l : Launch} {D : va_G} {cI cL cB : ClassId} {ad : Nat → Nat} {N : Nat} {D_top : Int} {D_forms : Int → Int} {D_counts : Int → Int} {D_numbers : Int → Int} {D_nodes : Int → Int} {D_depths : Int → Int} {D_weights : Int → Int} {p1 : Int} {out : Int × Int × (Int → Int) × (Int → Int) × (Int → Int) × (Int → Int) × (Int → Int) × (Int → Int)} (h : f_DataRow_rest N D_top D_forms D_counts D_numbers D_nodes D_depths D_weights p1 = some out) : CT jF0 false l D [(cI, .int), (cL, .long), (cB, .byte)] y_DataRow_rest w_DataRow_rest ({ frames := 2, cells := 0, slots := 0, locals := 82 } : Room) [.ref (ad 16), .int (zI p1)] [(ad 16, .inr (5, [.ref (ad 17), .ref (ad 18), .ref (ad 19), .ref (ad 20), .ref (ad 21), .ref (ad 22), .int (zI D_top)])), (ad 17, .inl (cI, 3201, .inl (zA D_forms))), (ad 18, .inl (cI, 3201, .inl (zA D_counts))), (ad 19, .inl (cL, 3201, .inr (.inl (zB D_numbers)))), (ad 20, .inl (cI, 3201, .inl (zA D_nodes))), (ad 21, .inl (cI, 3201, .inl (zA D_depths))), (ad 22, .inl (cI, 3201, .inl (zA D_weights)))] (some (.int (zI out.1))) [(ad 16, .inr (5, [.ref (ad 17), .ref (ad 18), .ref (ad 19), .ref (ad 20), .ref (ad 21), .ref (ad 22), .int (zI (out.2.1))])), (ad 17, .inl (cI, 3201, .inl (zA (out.2.2.1)))), (ad 18, .inl (cI, 3201, .inl (zA (out.2.2.2.1)))), (ad 19, .inl (cL, 3201, .inr (.inl (zB (out.2.2.2.2.1))))), (ad 20, .inl (cI, 3201, .inl (zA (out.2.2.2.2.2.1)))), (ad 21, .inl (cI, 3201, .inl (zA (out.2.2.2.2.2.2.1)))), (ad 22, .inl (cI, 3201, .inl (zA (out.2.2.2.2.2.2.2))))] 0 0 := by
  refine CT_of_J (cc := b_DataRow_rest) (maxL := 4) (ret := (some .int)) jF0_k (plainFor_of_name (by decide)) rfl (Nat.le_of_ble_eq_true rfl) ?_
  intro K hKl hKD X E
  subst hKl; subst hKD
  unfold f_DataRow_rest at h
  refine J_aload_n X d_DataRow_rest_0 rfl 0 rfl ?_
  refine J_iload_n X d_DataRow_rest_1 rfl 1 rfl ?_
  obtain ⟨r1, q2, h⟩ := wk_b h
  refine J_afterP (jrunV X (c_DataRow_countOf (ad := ad) q2) jF0_k (fun _ _ _ _ => trivial) (jgV own_DataRow_rest (by decide +kernel)) rfl rfl rfl pd_DataRow_countOf (by decide) [0, 2] rfl (by decide) 0 5 rfl rfl rfl rfl (Nat.le_of_ble_eq_true rfl) d_DataRow_rest_2 (by decide)) ?_
  refine J_iconst X d_DataRow_rest_5 ?_
  refine J_icmp_ge (tgt := 11) X d_DataRow_rest_6 (by decide) h (fun c3 h => ?_) (fun c3 h => ?_)
  · refine J_aload_n X d_DataRow_rest_11 rfl 0 rfl ?_
    refine J_iload_n X d_DataRow_rest_12 rfl 1 rfl ?_
    refine J_iconst X d_DataRow_rest_13 ?_
    refine J_iadd X d_DataRow_rest_14 ?_
    obtain ⟨r4, q5, h⟩ := wk_b h
    refine J_afterP (jrunV X (c_DataRow_nodesOf (ad := ad) q5) jF0_k (fun _ _ _ _ => trivial) (jgV own_DataRow_rest (by decide +kernel)) rfl rfl rfl pd_DataRow_nodesOf (by decide) [0, 4] rfl (by decide) 0 5 rfl rfl rfl rfl (Nat.le_of_ble_eq_true rfl) d_DataRow_rest_15 (by decide)) ?_
    refine J_istore_n (lv' := [(2, .int (zI r4)), (0, .ref (ad 16)), (1, .int (zI p1))]) X d_DataRow_rest_18 rfl (by decide) rfl ?_
    refine J_aload_n X d_DataRow_rest_19 rfl 1 rfl ?_
    refine J_iconst X d_DataRow_rest_20 ?_
    refine J_lconst (v := 0) X d_DataRow_rest_21 (by decide) ?_
    refine J_aload_n X d_DataRow_rest_22 rfl 1 rfl ?_
    refine J_iload_n X d_DataRow_rest_23 rfl 2 rfl ?_
    obtain ⟨r6, q7, h⟩ := wk_b h
    refine J_afterP (jrunV X (c_DataRow_countOf (ad := ad) q7) jF0_k (fun _ _ _ _ => trivial) (jgV own_DataRow_rest (by decide +kernel)) rfl rfl rfl pd_DataRow_countOf (by decide) [0, 2] rfl (by decide) 0 5 rfl rfl rfl rfl (Nat.le_of_ble_eq_true rfl) d_DataRow_rest_24 (by decide)) ?_
    refine J_iconst X d_DataRow_rest_27 ?_
    refine J_isub X d_DataRow_rest_28 ?_
    obtain ⟨r8, D_top_9, D_forms_10, D_counts_11, D_numbers_12, D_nodes_13, D_depths_14, D_weights_15, q16, h⟩ := wk_b8 h
    refine J_afterI0 (ws' := [(ad 16, .inr (5, [.ref (ad 17), .ref (ad 18), .ref (ad 19), .ref (ad 20), .ref (ad 21), .ref (ad 22), .int (zI D_top_9)])), (ad 17, .inl (cI, 3201, .inl (zA D_forms_10))), (ad 18, .inl (cI, 3201, .inl (zA D_counts_11))), (ad 19, .inl (cL, 3201, .inr (.inl (zB D_numbers_12)))), (ad 20, .inl (cI, 3201, .inl (zA D_nodes_13))), (ad 21, .inl (cI, 3201, .inl (zA D_depths_14))), (ad 22, .inl (cI, 3201, .inl (zA D_weights_15)))]) X (jrunV X (c_DataRow_leaf (ad := ad) q16) jF0_k (fun _ _ _ _ => trivial) (jgV own_DataRow_rest (by decide +kernel)) rfl rfl rfl pd_DataRow_leaf (by decide) [0, 1, 2, 3, 4, 5, 6] rfl (by decide) 0 5 rfl rfl rfl rfl (Nat.le_of_ble_eq_true rfl) d_DataRow_rest_29 (by decide)) [0, 1, 2, 3, 4, 5, 6] [] [0, 1, 2, 3, 4, 5, 6] rfl rfl (by decide) (by decide) rfl (by decide) ?_
    refine J_istore_n (lv' := [(3, .int (zI r8)), (2, .int (zI r4)), (0, .ref (ad 16)), (1, .int (zI p1))]) X d_DataRow_rest_32 rfl (by decide) rfl ?_
    refine J_aload_n X d_DataRow_rest_33 rfl 2 rfl ?_
    refine J_iload_n X d_DataRow_rest_34 rfl 3 rfl ?_
    refine J_iconst X d_DataRow_rest_35 ?_
    refine J_iadd X d_DataRow_rest_36 ?_
    refine J_iload_n X d_DataRow_rest_37 rfl 1 rfl ?_
    refine J_iadd X d_DataRow_rest_38 ?_
    refine J_aload_n X d_DataRow_rest_39 rfl 2 rfl ?_
    refine J_iload_n X d_DataRow_rest_40 rfl 3 rfl ?_
    obtain ⟨r17, q18, h⟩ := wk_b h
    refine J_afterP (jrunV X (c_DataRow_nodesOf (ad := ad) q18) jF0_k (fun _ _ _ _ => trivial) (jgV own_DataRow_rest (by decide +kernel)) rfl rfl rfl pd_DataRow_nodesOf (by decide) [0, 4] rfl (by decide) 0 5 rfl rfl rfl rfl (Nat.le_of_ble_eq_true rfl) d_DataRow_rest_41 (by decide)) ?_
    refine J_iconst X d_DataRow_rest_44 ?_
    refine J_isub X d_DataRow_rest_45 ?_
    refine J_iload_n X d_DataRow_rest_46 rfl 1 rfl ?_
    refine J_isub X d_DataRow_rest_47 ?_
    obtain ⟨r19, D_top_20, D_forms_21, D_counts_22, D_numbers_23, D_nodes_24, D_depths_25, D_weights_26, q27, h⟩ := wk_b8 h
    refine J_afterI0 (ws' := [(ad 16, .inr (5, [.ref (ad 17), .ref (ad 18), .ref (ad 19), .ref (ad 20), .ref (ad 21), .ref (ad 22), .int (zI D_top_20)])), (ad 17, .inl (cI, 3201, .inl (zA D_forms_21))), (ad 18, .inl (cI, 3201, .inl (zA D_counts_22))), (ad 19, .inl (cL, 3201, .inr (.inl (zB D_numbers_23)))), (ad 20, .inl (cI, 3201, .inl (zA D_nodes_24))), (ad 21, .inl (cI, 3201, .inl (zA D_depths_25))), (ad 22, .inl (cI, 3201, .inl (zA D_weights_26)))]) X (jrunV X (c_DataRow_copy (ad := ad) q27) jF0_k (fun _ _ _ _ => trivial) (jgV own_DataRow_rest (by decide +kernel)) rfl rfl rfl pd_DataRow_copy (by decide) [0, 1, 2, 3, 4, 5, 6] rfl (by decide) 0 5 rfl rfl rfl rfl (Nat.le_of_ble_eq_true rfl) d_DataRow_rest_48 (by decide)) [0, 1, 2, 3, 4, 5, 6] [] [0, 1, 2, 3, 4, 5, 6] rfl rfl (by decide) (by decide) rfl (by decide) ?_
    refine J_if_eq (tgt := 62) X d_DataRow_rest_51 (by decide) h (fun c28 h => ?_) (fun c28 h => ?_)
    · refine J_iconst X d_DataRow_rest_62 ?_
      cases h
      exact J_ret E ⟨_, rfl, rfl⟩ d_DataRow_rest_63 (Nat.le_refl _) (Nat.le_refl _) rfl
    · refine J_aload_n X d_DataRow_rest_54 rfl 2 rfl ?_
      refine J_iload_n X d_DataRow_rest_55 rfl 0 rfl ?_
      obtain ⟨r29, D_nodes_30, D_depths_31, D_weights_32, q33, h⟩ := wk_b4 h
      refine J_afterI0 (ws' := [(ad 16, .inr (5, [.ref (ad 17), .ref (ad 18), .ref (ad 19), .ref (ad 20), .ref (ad 21), .ref (ad 22), .int (zI D_top_20)])), (ad 17, .inl (cI, 3201, .inl (zA D_forms_21))), (ad 18, .inl (cI, 3201, .inl (zA D_counts_22))), (ad 19, .inl (cL, 3201, .inr (.inl (zB D_numbers_23)))), (ad 20, .inl (cI, 3201, .inl (zA D_nodes_30))), (ad 21, .inl (cI, 3201, .inl (zA D_depths_31))), (ad 22, .inl (cI, 3201, .inl (zA D_weights_32)))]) X (jrunV X (c_DataRow_sealed (ad := ad) q33) jF0_k (fun _ _ _ _ => trivial) (jgV own_DataRow_rest (by decide +kernel)) rfl rfl rfl pd_DataRow_sealed (by decide) [0, 2, 4, 5, 6] rfl (by decide) 0 5 rfl rfl rfl rfl (Nat.le_of_ble_eq_true rfl) d_DataRow_rest_56 (by decide)) [0, 2, 4, 5, 6] [1, 3] [2, 0, 3, 1, 4, 5, 6] rfl rfl (by decide) (by decide) rfl (by decide) ?_
      refine J_goto (tgt := 63) X d_DataRow_rest_59 (by decide) ?_
      cases h
      exact J_ret E ⟨_, rfl, rfl⟩ d_DataRow_rest_63 (Nat.le_refl _) (Nat.le_refl _) rfl
  · refine J_iconst X d_DataRow_rest_9 ?_
    cases h
    exact J_ret E ⟨_, rfl, rfl⟩ d_DataRow_rest_10 (Nat.le_refl _) (Nat.le_refl _) rfl
