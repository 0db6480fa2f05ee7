theorem d_Builtins_takes_0 : decode b_Builtins_takes 0 = .ok (.iload_n 0, 1) := by decide +kernel
theorem d_Builtins_takes_1 : decode b_Builtins_takes 1 = .ok (.iconst 3, 1) := by decide +kernel
theorem d_Builtins_takes_2 : decode b_Builtins_takes 2 = .ok (.imul, 1) := by decide +kernel
theorem d_Builtins_takes_3 : decode b_Builtins_takes 3 = .ok (.iload_n 1, 1) := by decide +kernel
theorem d_Builtins_takes_4 : decode b_Builtins_takes 4 = .ok (.iadd, 1) := by decide +kernel
theorem d_Builtins_takes_5 : decode b_Builtins_takes 5 = .ok (.istore_n 2, 1) := by decide +kernel
theorem d_Builtins_takes_6 : decode b_Builtins_takes 6 = .ok (.iload_n 0, 1) := by decide +kernel
theorem d_Builtins_takes_7 : decode b_Builtins_takes 7 = .ok (.ifCond .lt 22, 3) := by decide +kernel
theorem d_Builtins_takes_10 : decode b_Builtins_takes 10 = .ok (.iload_n 0, 1) := by decide +kernel
theorem d_Builtins_takes_11 : decode b_Builtins_takes 11 = .ok (.bipush 32, 2) := by decide +kernel
theorem d_Builtins_takes_13 : decode b_Builtins_takes 13 = .ok (.if_icmp .ge 16, 3) := by decide +kernel
theorem d_Builtins_takes_16 : decode b_Builtins_takes 16 = .ok (.iload_n 1, 1) := by decide +kernel
theorem d_Builtins_takes_17 : decode b_Builtins_takes 17 = .ok (.ifCond .lt 12, 3) := by decide +kernel
theorem d_Builtins_takes_20 : decode b_Builtins_takes 20 = .ok (.iload_n 1, 1) := by decide +kernel
theorem d_Builtins_takes_21 : decode b_Builtins_takes 21 = .ok (.iconst 3, 1) := by decide +kernel
theorem d_Builtins_takes_22 : decode b_Builtins_takes 22 = .ok (.if_icmp .ge 7, 3) := by decide +kernel
theorem d_Builtins_takes_25 : decode b_Builtins_takes 25 = .ok (.iconst 1, 1) := by decide +kernel
theorem d_Builtins_takes_26 : decode b_Builtins_takes 26 = .ok (.goto 4, 3) := by decide +kernel
theorem d_Builtins_takes_29 : decode b_Builtins_takes 29 = .ok (.iconst 0, 1) := by decide +kernel
theorem d_Builtins_takes_30 : decode b_Builtins_takes 30 = .ok (.istore_n 3, 1) := by decide +kernel
theorem d_Builtins_takes_31 : decode b_Builtins_takes 31 = .ok (.iload_n 3, 1) := by decide +kernel
theorem d_Builtins_takes_32 : decode b_Builtins_takes 32 = .ok (.ifCond .eq 19, 3) := by decide +kernel
theorem d_Builtins_takes_35 : decode b_Builtins_takes 35 = .ok (.iload_n 2, 1) := by decide +kernel
theorem d_Builtins_takes_36 : decode b_Builtins_takes 36 = .ok (.getstatic 27, 3) := by decide +kernel
theorem d_Builtins_takes_39 : decode b_Builtins_takes 39 = .ok (.arraylength, 1) := by decide +kernel
theorem d_Builtins_takes_40 : decode b_Builtins_takes 40 = .ok (.if_icmp .ge 11, 3) := by decide +kernel
theorem d_Builtins_takes_43 : decode b_Builtins_takes 43 = .ok (.getstatic 27, 3) := by decide +kernel
theorem d_Builtins_takes_46 : decode b_Builtins_takes 46 = .ok (.iload_n 2, 1) := by decide +kernel
theorem d_Builtins_takes_47 : decode b_Builtins_takes 47 = .ok (.iaload, 1) := by decide +kernel
theorem d_Builtins_takes_48 : decode b_Builtins_takes 48 = .ok (.goto 4, 3) := by decide +kernel
theorem d_Builtins_takes_51 : decode b_Builtins_takes 51 = .ok (.iconst (-1), 1) := by decide +kernel
theorem d_Builtins_takes_52 : decode b_Builtins_takes 52 = .ok (.ireturn, 1) := by decide +kernel
def f_Builtins_takes (p0 : Int) (p1 : Int) : Option (Int) :=
  if rI p0 = true then (if p0 < 0 then (
   some (-1)) else (
   if jr2 p0 32 = true then (if 32 ≤ p0 then (
    some (-1)) else (
    if rI p1 = true then (if p1 < 0 then (
     some (-1)) else (
     if jr2 p1 3 = true then (if 3 ≤ p1 then (
      some (-1)) else (
      if jr2 ((p0 * 3) + p1) 96 = true then (if 96 ≤ ((p0 * 3) + p1) then (
       some (-1)) else (
       if jix ((p0 * 3) + p1) 96 = true then (
        some (takZ ((p0 * 3) + p1))) else none)) else none)) else none)) else none)) else none)) else none
set_option maxHeartbeats 4000000 in
set_option maxRecDepth 100000 in
theorem c_Builtins_takes {l : Launch} {D : va_G} {cI cL cB : ClassId} {ad : Nat → Nat} {adK adV : Nat → Nat} {ro : Nat} {p0 : Int} {p1 : Int} {out : Int} (h : f_Builtins_takes p0 p1 = some out) : CT (jFs adK adV ro) true l D [(cI, .int), (cL, .long), (cB, .byte)] y_Builtins_takes w_Builtins_takes ({ frames := 0, cells := 0, slots := 0, locals := 0 } : Room) [.int (zI p0), .int (zI p1)] [] (some (.int (zI out))) [] 0 0 := by
  refine CT_of_J (cc := b_Builtins_takes) (maxL := 4) (ret := (some .int)) jFs_k (plainFor_of_name (by decide)) rfl (Nat.le_of_ble_eq_true rfl) ?_
  intro K hKl hKD X E
  subst hKl; subst hKD
  unfold f_Builtins_takes at h
  refine J_iload_n X d_Builtins_takes_0 rfl 0 rfl ?_
  refine J_iconst X d_Builtins_takes_1 ?_
  refine J_imul X d_Builtins_takes_2 ?_
  refine J_iload_n X d_Builtins_takes_3 rfl 1 rfl ?_
  refine J_iadd X d_Builtins_takes_4 ?_
  refine J_istore_n (lv' := [(2, .int (zI ((p0 * 3) + p1))), (0, .int (zI p0)), (1, .int (zI p1))]) X d_Builtins_takes_5 rfl (by decide) rfl ?_
  refine J_iload_n X d_Builtins_takes_6 rfl 1 rfl ?_
  refine J_if_lt (tgt := 29) X d_Builtins_takes_7 (by decide) h (fun c1 h => ?_) (fun c1 h => ?_)
  · refine J_iconst X d_Builtins_takes_29 ?_
    refine J_istore_n (lv' := [(3, .int (zI 0)), (2, .int (zI ((p0 * 3) + p1))), (0, .int (zI p0)), (1, .int (zI p1))]) X d_Builtins_takes_30 rfl (by decide) rfl ?_
    refine J_iload_n X d_Builtins_takes_31 rfl 0 rfl ?_
    refine J_if_eq (pa := some ()) (pb := none) (o := ()) (tgt := 51) X d_Builtins_takes_32 (by decide) (by decide) (fun _ _ => ?_) (fun _ h => by cases h)
    refine J_iconst X d_Builtins_takes_51 ?_
    cases h
    exact J_ret E ⟨_, rfl, rfl⟩ d_Builtins_takes_52 (Nat.le_refl _) (Nat.le_refl _) rfl
  · refine J_iload_n X d_Builtins_takes_10 rfl 1 rfl ?_
    refine J_bipush X d_Builtins_takes_11 (by decide) ?_
    refine J_icmp_ge (tgt := 29) X d_Builtins_takes_13 (by decide) h (fun c2 h => ?_) (fun c2 h => ?_)
    · refine J_iconst X d_Builtins_takes_29 ?_
      refine J_istore_n (lv' := [(3, .int (zI 0)), (2, .int (zI ((p0 * 3) + p1))), (0, .int (zI p0)), (1, .int (zI p1))]) X d_Builtins_takes_30 rfl (by decide) rfl ?_
      refine J_iload_n X d_Builtins_takes_31 rfl 0 rfl ?_
      refine J_if_eq (pa := some ()) (pb := none) (o := ()) (tgt := 51) X d_Builtins_takes_32 (by decide) (by decide) (fun _ _ => ?_) (fun _ h => by cases h)
      refine J_iconst X d_Builtins_takes_51 ?_
      cases h
      exact J_ret E ⟨_, rfl, rfl⟩ d_Builtins_takes_52 (Nat.le_refl _) (Nat.le_refl _) rfl
    · refine J_iload_n X d_Builtins_takes_16 rfl 2 rfl ?_
      refine J_if_lt (tgt := 29) X d_Builtins_takes_17 (by decide) h (fun c3 h => ?_) (fun c3 h => ?_)
      · refine J_iconst X d_Builtins_takes_29 ?_
        refine J_istore_n (lv' := [(3, .int (zI 0)), (2, .int (zI ((p0 * 3) + p1))), (0, .int (zI p0)), (1, .int (zI p1))]) X d_Builtins_takes_30 rfl (by decide) rfl ?_
        refine J_iload_n X d_Builtins_takes_31 rfl 0 rfl ?_
        refine J_if_eq (pa := some ()) (pb := none) (o := ()) (tgt := 51) X d_Builtins_takes_32 (by decide) (by decide) (fun _ _ => ?_) (fun _ h => by cases h)
        refine J_iconst X d_Builtins_takes_51 ?_
        cases h
        exact J_ret E ⟨_, rfl, rfl⟩ d_Builtins_takes_52 (Nat.le_refl _) (Nat.le_refl _) rfl
      · refine J_iload_n X d_Builtins_takes_20 rfl 2 rfl ?_
        refine J_iconst X d_Builtins_takes_21 ?_
        refine J_icmp_ge (tgt := 29) X d_Builtins_takes_22 (by decide) h (fun c4 h => ?_) (fun c4 h => ?_)
        · refine J_iconst X d_Builtins_takes_29 ?_
          refine J_istore_n (lv' := [(3, .int (zI 0)), (2, .int (zI ((p0 * 3) + p1))), (0, .int (zI p0)), (1, .int (zI p1))]) X d_Builtins_takes_30 rfl (by decide) rfl ?_
          refine J_iload_n X d_Builtins_takes_31 rfl 0 rfl ?_
          refine J_if_eq (pa := some ()) (pb := none) (o := ()) (tgt := 51) X d_Builtins_takes_32 (by decide) (by decide) (fun _ _ => ?_) (fun _ h => by cases h)
          refine J_iconst X d_Builtins_takes_51 ?_
          cases h
          exact J_ret E ⟨_, rfl, rfl⟩ d_Builtins_takes_52 (Nat.le_refl _) (Nat.le_refl _) rfl
        · refine J_iconst X d_Builtins_takes_25 ?_
          refine J_goto (tgt := 30) X d_Builtins_takes_26 (by decide) ?_
          refine J_istore_n (lv' := [(3, .int (zI 1)), (2, .int (zI ((p0 * 3) + p1))), (0, .int (zI p0)), (1, .int (zI p1))]) X d_Builtins_takes_30 rfl (by decide) rfl ?_
          refine J_iload_n X d_Builtins_takes_31 rfl 0 rfl ?_
          refine J_if_eq (pa := none) (pb := some ()) (o := ()) (tgt := 51) X d_Builtins_takes_32 (by decide) (by decide) (fun _ h => by cases h) (fun _ _ => ?_)
          refine J_iload_n X d_Builtins_takes_35 rfl 1 rfl ?_
          refine J_gett X (j_m own_Builtins_takes (by decide +kernel)) d_Builtins_takes_36 ?_
          refine J_tlen X d_Builtins_takes_39 ?_
          refine J_icmp_ge (tgt := 51) X d_Builtins_takes_40 (by decide) h (fun c5 h => ?_) (fun c5 h => ?_)
          · refine J_iconst X d_Builtins_takes_51 ?_
            cases h
            exact J_ret E ⟨_, rfl, rfl⟩ d_Builtins_takes_52 (Nat.le_refl _) (Nat.le_refl _) rfl
          · refine J_gett X (j_m own_Builtins_takes (by decide +kernel)) d_Builtins_takes_43 ?_
            refine J_iload_n X d_Builtins_takes_46 rfl 1 rfl ?_
            obtain ⟨g6, h⟩ := wk_g h
            refine J_tload X g6 d_Builtins_takes_47 ?_
            refine J_goto (tgt := 52) X d_Builtins_takes_48 (by decide) ?_
            cases h
            exact J_ret E ⟨_, rfl, rfl⟩ d_Builtins_takes_52 (Nat.le_refl _) (Nat.le_refl _) rfl

theorem d_Builtins_forget_0 : decode b_Builtins_forget 0 = .ok (.aload_n 0, 1) := by decide +kernel
theorem d_Builtins_forget_1 : decode b_Builtins_forget 1 = .ok (.iconst (-1), 1) := by decide +kernel
theorem d_Builtins_forget_2 : decode b_Builtins_forget 2 = .ok (.putfield 15, 3) := by decide +kernel
theorem d_Builtins_forget_5 : decode b_Builtins_forget 5 = .ok (.return_, 1) := by decide +kernel
def f_Builtins_forget (B_ready : Int) : Option (Int) :=
  some (-1)
set_option maxHeartbeats 4000000 in
set_option maxRecDepth 100000 in
theorem c_Builtins_forget {l : Launch} {D : va_G} {cI cL cB : ClassId} {ad : Nat → Nat} {B_ready : Int} {out : Int} (h : f_Builtins_forget B_ready = some out) : CT jF0 false l D [(cI, .int), (cL, .long), (cB, .byte)] y_Builtins_forget w_Builtins_forget ({ frames := 0, cells := 0, slots := 0, locals := 0 } : Room) [.ref (ad 31)] [(ad 31, .inr (9, [.ref (ad 9), .ref (ad 23), .ref (ad 32), .int (zI B_ready)]))] none [(ad 31, .inr (9, [.ref (ad 9), .ref (ad 23), .ref (ad 32), .int (zI out)]))] 0 0 := by
  refine CT_of_J (cc := b_Builtins_forget) (maxL := 1) (ret := none) jF0_k (plainFor_of_name (by decide)) rfl (Nat.le_of_ble_eq_true rfl) ?_
  intro K hKl hKD X E
  subst hKl; subst hKD
  unfold f_Builtins_forget at h
  refine J_aload_n X d_Builtins_forget_0 rfl 0 rfl ?_
  refine J_iconst X d_Builtins_forget_1 ?_
  refine J_put (ws' := [(ad 31, .inr (9, [.ref (ad 9), .ref (ad 23), .ref (ad 32), .int (zI (-1))]))]) X (j_in in_Builtins) ty_Builtins tok_Builtins nm_Builtins 0 rfl rfl 3 (by decide) (j_m own_Builtins_forget (by decide +kernel)) rfl rfl rfl (Nat.le_of_ble_eq_true rfl) d_Builtins_forget_2 rfl ?_
  cases h
  exact J_ret E rfl d_Builtins_forget_5 (Nat.le_refl _) (Nat.le_refl _) rfl

theorem d_Builtins_isReady_0 : decode b_Builtins_isReady 0 = .ok (.aload_n 0, 1) := by decide +kernel
theorem d_Builtins_isReady_1 : decode b_Builtins_isReady 1 = .ok (.getfield 15, 3) := by decide +kernel
theorem d_Builtins_isReady_4 : decode b_Builtins_isReady 4 = .ok (.iconst (-1), 1) := by decide +kernel
theorem d_Builtins_isReady_5 : decode b_Builtins_isReady 5 = .ok (.if_icmp .eq 7, 3) := by decide +kernel
theorem d_Builtins_isReady_8 : decode b_Builtins_isReady 8 = .ok (.iconst 1, 1) := by decide +kernel
theorem d_Builtins_isReady_9 : decode b_Builtins_isReady 9 = .ok (.goto 4, 3) := by decide +kernel
theorem d_Builtins_isReady_12 : decode b_Builtins_isReady 12 = .ok (.iconst 0, 1) := by decide +kernel
theorem d_Builtins_isReady_13 : decode b_Builtins_isReady 13 = .ok (.ireturn, 1) := by decide +kernel
def f_Builtins_isReady (B_ready : Int) : Option (Int) :=
  if jr2 B_ready (-1) = true then (if B_ready = (-1) then (
   some 0) else (
   some 1)) else none
set_option maxHeartbeats 4000000 in
set_option maxRecDepth 100000 in
theorem c_Builtins_isReady {l : Launch} {D : va_G} {cI cL cB : ClassId} {ad : Nat → Nat} {B_ready : Int} {out : Int} (h : f_Builtins_isReady B_ready = some out) : CT jF0 true l D [(cI, .int), (cL, .long), (cB, .byte)] y_Builtins_isReady w_Builtins_isReady ({ frames := 0, cells := 0, slots := 0, locals := 0 } : Room) [.ref (ad 31)] [(ad 31, .inr (9, [.ref (ad 9), .ref (ad 23), .ref (ad 32), .int (zI B_ready)]))] (some (.int (zI out))) [(ad 31, .inr (9, [.ref (ad 9), .ref (ad 23), .ref (ad 32), .int (zI B_ready)]))] 0 0 := by
  refine CT_of_J (cc := b_Builtins_isReady) (maxL := 1) (ret := (some .boolean)) jF0_k (plainFor_of_name (by decide)) rfl (Nat.le_of_ble_eq_true rfl) ?_
  intro K hKl hKD X E
  subst hKl; subst hKD
  unfold f_Builtins_isReady at h
  refine J_aload_n X d_Builtins_isReady_0 rfl 0 rfl ?_
  refine J_get X (j_in in_Builtins) 0 rfl rfl 3 (by decide) (j_m own_Builtins_isReady (by decide +kernel)) rfl d_Builtins_isReady_1 ?_
  refine J_iconst X d_Builtins_isReady_4 ?_
  refine J_icmp_eq (tgt := 12) X d_Builtins_isReady_5 (by decide) h (fun c1 h => ?_) (fun c1 h => ?_)
  · refine J_iconst X d_Builtins_isReady_12 ?_
    cases h
    exact J_ret E ⟨_, rfl, j_bool (Or.inl rfl)⟩ d_Builtins_isReady_13 (Nat.le_refl _) (Nat.le_refl _) rfl
  · refine J_iconst X d_Builtins_isReady_8 ?_
    refine J_goto (tgt := 13) X d_Builtins_isReady_9 (by decide) ?_
    cases h
    exact J_ret E ⟨_, rfl, j_bool (Or.inr rfl)⟩ d_Builtins_isReady_13 (Nat.le_refl _) (Nat.le_refl _) rfl

theorem d_Builtins_gather_0 : decode b_Builtins_gather 0 = .ok (.iload_n 2, 1) := by decide +kernel
theorem d_Builtins_gather_1 : decode b_Builtins_gather 1 = .ok (.istore 4, 2) := by decide +kernel
theorem d_Builtins_gather_3 : decode b_Builtins_gather 3 = .ok (.iload_n 1, 1) := by decide +kernel
theorem d_Builtins_gather_4 : decode b_Builtins_gather 4 = .ok (.istore 5, 2) := by decide +kernel
theorem d_Builtins_gather_6 : decode b_Builtins_gather 6 = .ok (.iload_n 3, 1) := by decide +kernel
theorem d_Builtins_gather_7 : decode b_Builtins_gather 7 = .ok (.iconst 2, 1) := by decide +kernel
theorem d_Builtins_gather_8 : decode b_Builtins_gather 8 = .ok (.invokestatic 87, 3) := by decide +kernel
theorem d_Builtins_gather_11 : decode b_Builtins_gather 11 = .ok (.istore 6, 2) := by decide +kernel
theorem d_Builtins_gather_13 : decode b_Builtins_gather 13 = .ok (.iload 6, 2) := by decide +kernel
theorem d_Builtins_gather_15 : decode b_Builtins_gather 15 = .ok (.ifCond .lt 40, 3) := by decide +kernel
theorem d_Builtins_gather_18 : decode b_Builtins_gather 18 = .ok (.aload_n 0, 1) := by decide +kernel
theorem d_Builtins_gather_19 : decode b_Builtins_gather 19 = .ok (.getfield 11, 3) := by decide +kernel
theorem d_Builtins_gather_22 : decode b_Builtins_gather 22 = .ok (.iload 6, 2) := by decide +kernel
theorem d_Builtins_gather_24 : decode b_Builtins_gather 24 = .ok (.iload 4, 2) := by decide +kernel
theorem d_Builtins_gather_26 : decode b_Builtins_gather 26 = .ok (.iastore, 1) := by decide +kernel
theorem d_Builtins_gather_27 : decode b_Builtins_gather 27 = .ok (.aload_n 0, 1) := by decide +kernel
theorem d_Builtins_gather_28 : decode b_Builtins_gather 28 = .ok (.getfield 19, 3) := by decide +kernel
theorem d_Builtins_gather_31 : decode b_Builtins_gather 31 = .ok (.iload 5, 2) := by decide +kernel
theorem d_Builtins_gather_33 : decode b_Builtins_gather 33 = .ok (.invokevirtual 92, 3) := by decide +kernel
theorem d_Builtins_gather_36 : decode b_Builtins_gather 36 = .ok (.istore 4, 2) := by decide +kernel
theorem d_Builtins_gather_38 : decode b_Builtins_gather 38 = .ok (.aload_n 0, 1) := by decide +kernel
theorem d_Builtins_gather_39 : decode b_Builtins_gather 39 = .ok (.getfield 19, 3) := by decide +kernel
theorem d_Builtins_gather_42 : decode b_Builtins_gather 42 = .ok (.iload 5, 2) := by decide +kernel
theorem d_Builtins_gather_44 : decode b_Builtins_gather 44 = .ok (.invokevirtual 95, 3) := by decide +kernel
theorem d_Builtins_gather_47 : decode b_Builtins_gather 47 = .ok (.istore 5, 2) := by decide +kernel
theorem d_Builtins_gather_49 : decode b_Builtins_gather 49 = .ok (.iinc 6 (-1), 3) := by decide +kernel
theorem d_Builtins_gather_52 : decode b_Builtins_gather 52 = .ok (.goto (-39), 3) := by decide +kernel
theorem d_Builtins_gather_55 : decode b_Builtins_gather 55 = .ok (.return_, 1) := by decide +kernel
def f_Builtins_gather_L13 (V_top : Int) (V_parts : Int → Int) (V_links : Int → Int) (x1 : Int) (x2 : Int) (x3 : Int) : Nat → Int → Int → Int → (Int → Int) → Option (Int × Int × Int × (Int → Int))
  | 0, _, _, _, _ => none
  | n + 1, x4, x5, x6, B_given =>
    if rI x6 = true then (if x6 < 0 then (
     some (x4, x5, x6, B_given)) else (
     if jix x6 3 = true then (
      Option.bind (f_Values_argumentOf V_top V_parts x5) (fun r9 =>
       Option.bind (f_Values_beforeOf V_top V_links x5) (fun r11 =>
        f_Builtins_gather_L13 V_top V_parts V_links x1 x2 x3 n r9 r11 (x6 + (-1)) (upZ B_given x6 x4)))) else none)) else none
def f_Builtins_gather (N : Nat) (V_top : Int) (V_parts : Int → Int) (V_links : Int → Int) (B_given : Int → Int) (p1 : Int) (p2 : Int) (p3 : Int) : Option ((Int → Int)) :=
  if jr2 p3 2 = true then (
   ob4 (f_Builtins_gather_L13 V_top V_parts V_links p1 p2 p3 N p2 p1 (min p3 2) B_given) (fun x4_2 x5_3 x6_4 B_given_5 =>
    some B_given_5)) else none
set_option maxHeartbeats 4000000 in
set_option maxRecDepth 100000 in
theorem k_Builtins_gather_L13 {K : jK} {cI cL cB : ClassId} {ad : Nat → Nat} {V_top : Int} {V_parts : Int → Int} {V_links : Int → Int} {x1 : Int} {x2 : Int} {x3 : Int} {B_ready : Int} {out : Int × Int × Int × (Int → Int)} (X : jX jF0 K 7 b_Builtins_gather w_Builtins_gather R_Builtins [(cI, .int), (cL, .long), (cB, .byte)]) : ∀ (n : Nat) (x4 : Int) (x5 : Int) (x6 : Int) (B_given : (Int → Int)), f_Builtins_gather_L13 V_top V_parts V_links x1 x2 x3 n x4 x5 x6 B_given = some out → J K 7 ({ frames := 2, cells := 0, slots := 0, locals := 42 } : Room) false 0 0 [(ad 9, .inr (4, [.ref (ad 14), .ref (ad 16), .ref (ad 10), .ref (ad 11), .ref (ad 12), .ref (ad 13), .int (zI V_top)])), (ad 12, .inl (cI, 3201, .inl (zA V_parts))), (ad 13, .inl (cI, 3201, .inl (zA V_links))), (ad 31, .inr (9, [.ref (ad 9), .ref (ad 23), .ref (ad 32), .int (zI B_ready)])), (ad 32, .inl (cI, 3, .inl (zA (out.2.2.2))))] [(0, .ref (ad 31)), (1, .int (zI x1)), (2, .int (zI x2)), (3, .int (zI x3)), (4, .int (zI (out.1))), (5, .int (zI (out.2.1))), (6, .int (zI (out.2.2.1)))] [] 55 → J K 7 ({ frames := 2, cells := 0, slots := 0, locals := 42 } : Room) false 0 0 [(ad 9, .inr (4, [.ref (ad 14), .ref (ad 16), .ref (ad 10), .ref (ad 11), .ref (ad 12), .ref (ad 13), .int (zI V_top)])), (ad 12, .inl (cI, 3201, .inl (zA V_parts))), (ad 13, .inl (cI, 3201, .inl (zA V_links))), (ad 31, .inr (9, [.ref (ad 9), .ref (ad 23), .ref (ad 32), .int (zI B_ready)])), (ad 32, .inl (cI, 3, .inl (zA B_given)))] [(0, .ref (ad 31)), (1, .int (zI x1)), (2, .int (zI x2)), (3, .int (zI x3)), (4, .int (zI x4)), (5, .int (zI x5)), (6, .int (zI x6))] [] 13 := by
  intro n
  induction n with
  | zero =>
    intro x4 x5 x6 B_given h hk
    cases h
  | succ n ih =>
    intro x4 x5 x6 B_given h hk
    unfold f_Builtins_gather_L13 at h
    refine J_iload X d_Builtins_gather_13 6 rfl ?_
    refine J_if_lt (tgt := 55) X d_Builtins_gather_15 (by decide) h (fun c7 h => ?_) (fun c7 h => ?_)
    · cases h
      refine J_lv (lv' := [(0, .ref (ad 31)), (1, .int (zI x1)), (2, .int (zI x2)), (3, .int (zI x3)), (4, .int (zI x4)), (5, .int (zI x5)), (6, .int (zI x6))]) [0, 1, 2, 3, 4, 5, 6] rfl ?_
      exact hk
    · refine J_aload_n X d_Builtins_gather_18 rfl 0 rfl ?_
      refine J_get X (j_in in_Builtins) 3 rfl rfl 2 (by decide) (j_m own_Builtins_gather (by decide +kernel)) rfl d_Builtins_gather_19 ?_
      refine J_iload X d_Builtins_gather_22 6 rfl ?_
      refine J_iload X d_Builtins_gather_24 4 rfl ?_
      obtain ⟨g8, h⟩ := wk_g h
      refine J_iast (ws' := [(ad 9, .inr (4, [.ref (ad 14), .ref (ad 16), .ref (ad 10), .ref (ad 11), .ref (ad 12), .ref (ad 13), .int (zI V_top)])), (ad 12, .inl (cI, 3201, .inl (zA V_parts))), (ad 13, .inl (cI, 3201, .inl (zA V_links))), (ad 31, .inr (9, [.ref (ad 9), .ref (ad 23), .ref (ad 32), .int (zI B_ready)])), (ad 32, .inl (cI, 3, .inl (zA (upZ B_given x6 x4))))]) X 4 0 rfl rfl g8 d_Builtins_gather_26 rfl ?_
      refine J_aload_n X d_Builtins_gather_27 rfl 0 rfl ?_
      refine J_get X (j_in in_Builtins) 3 rfl rfl 0 (by decide) (j_m own_Builtins_gather (by decide +kernel)) rfl d_Builtins_gather_28 ?_
      refine J_iload X d_Builtins_gather_31 5 rfl ?_
      obtain ⟨r9, q10, h⟩ := wk_b h
      refine J_afterP (jrunV X (c_Values_argumentOf (ad := ad) q10) jF0_k (fun _ _ _ _ => trivial) (jgV own_Builtins_gather (by decide +kernel)) rfl rfl rfl pd_Values_argumentOf (by decide) [0, 1] rfl (by decide) 0 4 rfl rfl rfl rfl (Nat.le_of_ble_eq_true rfl) d_Builtins_gather_33 (by decide)) ?_
      refine J_istore (lv' := [(4, .int (zI r9)), (0, .ref (ad 31)), (1, .int (zI x1)), (2, .int (zI x2)), (3, .int (zI x3)), (5, .int (zI x5)), (6, .int (zI x6))]) X d_Builtins_gather_36 (by decide) rfl ?_
      refine J_aload_n X d_Builtins_gather_38 rfl 1 rfl ?_
      refine J_get X (j_in in_Builtins) 3 rfl rfl 0 (by decide) (j_m own_Builtins_gather (by decide +kernel)) rfl d_Builtins_gather_39 ?_
      refine J_iload X d_Builtins_gather_42 5 rfl ?_
      obtain ⟨r11, q12, h⟩ := wk_b h
      refine J_afterP (jrunV X (c_Values_beforeOf (ad := ad) q12) jF0_k (fun _ _ _ _ => trivial) (jgV own_Builtins_gather (by decide +kernel)) rfl rfl rfl pd_Values_beforeOf (by decide) [0, 2] rfl (by decide) 0 4 rfl rfl rfl rfl (Nat.le_of_ble_eq_true rfl) d_Builtins_gather_44 (by decide)) ?_
      refine J_istore (lv' := [(5, .int (zI r11)), (4, .int (zI r9)), (0, .ref (ad 31)), (1, .int (zI x1)), (2, .int (zI x2)), (3, .int (zI x3)), (6, .int (zI x6))]) X d_Builtins_gather_47 (by decide) rfl ?_
      refine J_iinc (lv' := [(6, .int (zI (x6 + (-1)))), (5, .int (zI r11)), (4, .int (zI r9)), (0, .ref (ad 31)), (1, .int (zI x1)), (2, .int (zI x2)), (3, .int (zI x3))]) X d_Builtins_gather_49 6 rfl (by decide) rfl ?_
      refine J_goto (tgt := 13) X d_Builtins_gather_52 (by decide) ?_
      refine J_lv (lv' := [(0, .ref (ad 31)), (1, .int (zI x1)), (2, .int (zI x2)), (3, .int (zI x3)), (4, .int (zI r9)), (5, .int (zI r11)), (6, .int (zI (x6 + (-1))))]) [3, 4, 5, 6, 2, 1, 0] rfl ?_
      exact ih _ _ _ _ h hk
set_option maxHeartbeats 4000000 in
set_option maxRecDepth 100000 in
theorem c_Builtins_gather {l : Launch} {D : va_G} {cI cL cB : ClassId} {ad : Nat → Nat} {N : Nat} {V_top : Int} {V_parts : Int → Int} {V_links : Int → Int} {B_ready : Int} {B_given : Int → Int} {p1 : Int} {p2 : Int} {p3 : Int} {out : (Int → Int)} (h : f_Builtins_gather N V_top V_parts V_links B_given p1 p2 p3 = some out) : CT jF0 false l D [(cI, .int), (cL, .long), (cB, .byte)] y_Builtins_gather w_Builtins_gather ({ frames := 2, cells := 0, slots := 0, locals := 42 } : Room) [.ref (ad 31), .int (zI p1), .int (zI p2), .int (zI p3)] [(ad 9, .inr (4, [.ref (ad 14), .ref (ad 16), .ref (ad 10), .ref (ad 11), .ref (ad 12), .ref (ad 13), .int (zI V_top)])), (ad 12, .inl (cI, 3201, .inl (zA V_parts))), (ad 13, .inl (cI, 3201, .inl (zA V_links))), (ad 31, .inr (9, [.ref (ad 9), .ref (ad 23), .ref (ad 32), .int (zI B_ready)])), (ad 32, .inl (cI, 3, .inl (zA B_given)))] none [(ad 9, .inr (4, [.ref (ad 14), .ref (ad 16), .ref (ad 10), .ref (ad 11), .ref (ad 12), .ref (ad 13), .int (zI V_top)])), (ad 12, .inl (cI, 3201, .inl (zA V_parts))), (ad 13, .inl (cI, 3201, .inl (zA V_links))), (ad 31, .inr (9, [.ref (ad 9), .ref (ad 23), .ref (ad 32), .int (zI B_ready)])), (ad 32, .inl (cI, 3, .inl (zA out)))] 0 0 := by
  refine CT_of_J (cc := b_Builtins_gather) (maxL := 7) (ret := none) jF0_k (plainFor_of_name (by decide)) rfl (Nat.le_of_ble_eq_true rfl) ?_
  intro K hKl hKD X E
  subst hKl; subst hKD
  unfold f_Builtins_gather at h
  refine J_iload_n X d_Builtins_gather_0 rfl 2 rfl ?_
  refine J_istore (lv' := [(4, .int (zI p2)), (0, .ref (ad 31)), (1, .int (zI p1)), (2, .int (zI p2)), (3, .int (zI p3))]) X d_Builtins_gather_1 (by decide) rfl ?_
  refine J_iload_n X d_Builtins_gather_3 rfl 2 rfl ?_
  refine J_istore (lv' := [(5, .int (zI p1)), (4, .int (zI p2)), (0, .ref (ad 31)), (1, .int (zI p1)), (2, .int (zI p2)), (3, .int (zI p3))]) X d_Builtins_gather_4 (by decide) rfl ?_
  refine J_iload_n X d_Builtins_gather_6 rfl 5 rfl ?_
  refine J_iconst X d_Builtins_gather_7 ?_
  obtain ⟨g1, h⟩ := wk_g h
  refine J_mmin X g1 (j_m own_Builtins_gather (by decide +kernel)) (j_m own_Builtins_gather (by decide +kernel)) (j_m own_Builtins_gather (by decide +kernel)) (j_m own_Builtins_gather (by decide +kernel)) (by decide) (Nat.le_of_ble_eq_true rfl) (by decide) (by decide) d_Builtins_gather_8 ?_
  refine J_istore (lv' := [(6, .int (zI (min p3 2))), (5, .int (zI p1)), (4, .int (zI p2)), (0, .ref (ad 31)), (1, .int (zI p1)), (2, .int (zI p2)), (3, .int (zI p3))]) X d_Builtins_gather_11 (by decide) rfl ?_
  refine J_lv (lv' := [(0, .ref (ad 31)), (1, .int (zI p1)), (2, .int (zI p2)), (3, .int (zI p3)), (4, .int (zI p2)), (5, .int (zI p1)), (6, .int (zI (min p3 2)))]) [3, 4, 5, 6, 2, 1, 0] rfl ?_
  obtain ⟨x4_2, x5_3, x6_4, B_given_5, q6, h⟩ := wk_b4 h
  refine k_Builtins_gather_L13 X _ _ _ _ _ q6 ?_
  cases h
  exact J_ret E rfl d_Builtins_gather_55 (Nat.le_refl _) (Nat.le_refl _) rfl

theorem d_Builtins_take_0 : decode b_Builtins_take 0 = .ok (.aload_n 0, 1) := by decide +kernel
theorem d_Builtins_take_1 : decode b_Builtins_take 1 = .ok (.getfield 19, 3) := by decide +kernel
theorem d_Builtins_take_4 : decode b_Builtins_take 4 = .ok (.iload_n 1, 1) := by decide +kernel
theorem d_Builtins_take_5 : decode b_Builtins_take 5 = .ok (.invokevirtual 30, 3) := by decide +kernel
theorem d_Builtins_take_8 : decode b_Builtins_take 8 = .ok (.l2i, 1) := by decide +kernel
theorem d_Builtins_take_9 : decode b_Builtins_take 9 = .ok (.istore_n 3, 1) := by decide +kernel
theorem d_Builtins_take_10 : decode b_Builtins_take 10 = .ok (.aload_n 0, 1) := by decide +kernel
theorem d_Builtins_take_11 : decode b_Builtins_take 11 = .ok (.getfield 19, 3) := by decide +kernel
theorem d_Builtins_take_14 : decode b_Builtins_take 14 = .ok (.iload_n 1, 1) := by decide +kernel
theorem d_Builtins_take_15 : decode b_Builtins_take 15 = .ok (.invokevirtual 36, 3) := by decide +kernel
theorem d_Builtins_take_18 : decode b_Builtins_take 18 = .ok (.istore 4, 2) := by decide +kernel
theorem d_Builtins_take_20 : decode b_Builtins_take 20 = .ok (.iload_n 3, 1) := by decide +kernel
theorem d_Builtins_take_21 : decode b_Builtins_take 21 = .ok (.iload 4, 2) := by decide +kernel
theorem d_Builtins_take_23 : decode b_Builtins_take 23 = .ok (.iconst 1, 1) := by decide +kernel
theorem d_Builtins_take_24 : decode b_Builtins_take 24 = .ok (.iadd, 1) := by decide +kernel
theorem d_Builtins_take_25 : decode b_Builtins_take 25 = .ok (.invokestatic 40, 3) := by decide +kernel
theorem d_Builtins_take_28 : decode b_Builtins_take 28 = .ok (.iconst (-1), 1) := by decide +kernel
theorem d_Builtins_take_29 : decode b_Builtins_take 29 = .ok (.if_icmp .eq 30, 3) := by decide +kernel
theorem d_Builtins_take_32 : decode b_Builtins_take 32 = .ok (.aload_n 0, 1) := by decide +kernel
theorem d_Builtins_take_33 : decode b_Builtins_take 33 = .ok (.getfield 23, 3) := by decide +kernel
theorem d_Builtins_take_36 : decode b_Builtins_take 36 = .ok (.iconst 1, 1) := by decide +kernel
theorem d_Builtins_take_37 : decode b_Builtins_take 37 = .ok (.invokevirtual 44, 3) := by decide +kernel
theorem d_Builtins_take_40 : decode b_Builtins_take 40 = .ok (.ifCond .eq 17, 3) := by decide +kernel
theorem d_Builtins_take_43 : decode b_Builtins_take 43 = .ok (.aload_n 0, 1) := by decide +kernel
theorem d_Builtins_take_44 : decode b_Builtins_take 44 = .ok (.getfield 19, 3) := by decide +kernel
theorem d_Builtins_take_47 : decode b_Builtins_take 47 = .ok (.iload_n 3, 1) := by decide +kernel
theorem d_Builtins_take_48 : decode b_Builtins_take 48 = .ok (.i2l, 1) := by decide +kernel
theorem d_Builtins_take_49 : decode b_Builtins_take 49 = .ok (.iload_n 2, 1) := by decide +kernel
theorem d_Builtins_take_50 : decode b_Builtins_take 50 = .ok (.iload_n 1, 1) := by decide +kernel
theorem d_Builtins_take_51 : decode b_Builtins_take 51 = .ok (.invokevirtual 50, 3) := by decide +kernel
theorem d_Builtins_take_54 : decode b_Builtins_take 54 = .ok (.goto 4, 3) := by decide +kernel
theorem d_Builtins_take_57 : decode b_Builtins_take 57 = .ok (.iconst (-1), 1) := by decide +kernel
theorem d_Builtins_take_58 : decode b_Builtins_take 58 = .ok (.ireturn, 1) := by decide +kernel
theorem d_Builtins_take_59 : decode b_Builtins_take 59 = .ok (.aload_n 0, 1) := by decide +kernel
theorem d_Builtins_take_60 : decode b_Builtins_take 60 = .ok (.iload_n 1, 1) := by decide +kernel
theorem d_Builtins_take_61 : decode b_Builtins_take 61 = .ok (.iload_n 2, 1) := by decide +kernel
theorem d_Builtins_take_62 : decode b_Builtins_take 62 = .ok (.iload 4, 2) := by decide +kernel
theorem d_Builtins_take_64 : decode b_Builtins_take 64 = .ok (.invokevirtual 54, 3) := by decide +kernel
theorem d_Builtins_take_67 : decode b_Builtins_take 67 = .ok (.aload_n 0, 1) := by decide +kernel
theorem d_Builtins_take_68 : decode b_Builtins_take 68 = .ok (.iload_n 3, 1) := by decide +kernel
theorem d_Builtins_take_69 : decode b_Builtins_take 69 = .ok (.putfield 15, 3) := by decide +kernel
theorem d_Builtins_take_72 : decode b_Builtins_take 72 = .ok (.iconst (-1), 1) := by decide +kernel
theorem d_Builtins_take_73 : decode b_Builtins_take 73 = .ok (.ireturn, 1) := by decide +kernel
def f_Builtins_take (N : Nat) (V_top : Int) (V_kinds : Int → Int) (V_numbers : Int → Int) (V_parts : Int → Int) (V_links : Int → Int) (M_memory : Int) (M_mostMemory : Int) (M_fault : Int) (B_ready : Int) (B_given : Int → Int) (p1 : Int) (p2 : Int) : Option (Int × Int × (Int → Int) × (Int → Int) × (Int → Int) × (Int → Int) × Int × Int × Int × (Int → Int)) :=
  Option.bind (f_Values_numberOf V_top V_numbers p1) (fun r1 =>
   Option.bind (f_Values_givenTo N V_top V_links p1) (fun r3 =>
    Option.bind (f_Builtins_takes r1 (r3 + 1)) (fun r5 =>
     if jr2 r5 (-1) = true then (if r5 = (-1) then (
      Option.bind (f_Builtins_gather N V_top V_parts V_links B_given p1 p2 r3) (fun B_given_8 =>
       some ((-1), V_top, V_kinds, V_numbers, V_parts, V_links, M_memory, M_fault, r1, B_given_8))) else (
      ob3 (f_Meter_payMemory M_memory M_mostMemory M_fault 1) (fun r10 M_memory_11 M_fault_12 =>
       if rI r10 = true then (if r10 = 0 then (
        some ((-1), V_top, V_kinds, V_numbers, V_parts, V_links, M_memory_11, M_fault_12, B_ready, B_given)) else (
        if rI r1 = true then (
         ob6 (f_Values_ofBuiltin V_top V_kinds V_numbers V_parts V_links r1 p2 p1) (fun r16 V_top_17 V_kinds_18 V_numbers_19 V_parts_20 V_links_21 =>
          some (r16, V_top_17, V_kinds_18, V_numbers_19, V_parts_20, V_links_21, M_memory_11, M_fault_12, B_ready, B_given))) else none)) else none))) else none)))
set_option maxHeartbeats 4000000 in
set_option maxRecDepth 100000 in
theorem c_Builtins_take {l : Launch} {D : va_G} {cI cL cB : ClassId} {ad : Nat → Nat} {adK adV : Nat → Nat} {ro : Nat} {N : Nat} {V_top : Int} {V_kinds : Int → Int} {V_numbers : Int → Int} {V_parts : Int → Int} {V_links : Int → Int} {M_steps : Int} {M_memory : Int} {M_mostSteps : Int} {M_mostMemory : Int} {M_fault : Int} {B_ready : Int} {B_given : Int → Int} {p1 : Int} {p2 : Int} {out : Int × Int × (Int → Int) × (Int → Int) × (Int → Int) × (Int → Int) × Int × Int × Int × (Int → Int)} (h : f_Builtins_take N V_top V_kinds V_numbers V_parts V_links M_memory M_mostMemory M_fault B_ready B_given p1 p2 = some out) : CT (jFs adK adV ro) false l D [(cI, .int), (cL, .long), (cB, .byte)] y_Builtins_take w_Builtins_take ({ frames := 3, cells := 0, slots := 0, locals := 76 } : Room) [.ref (ad 31), .int (zI p1), .int (zI p2)] [(ad 9, .inr (4, [.ref (ad 14), .ref (ad 16), .ref (ad 10), .ref (ad 11), .ref (ad 12), .ref (ad 13), .int (zI V_top)])), (ad 10, .inl (cI, 3201, .inl (zA V_kinds))), (ad 11, .inl (cL, 3201, .inr (.inl (zB V_numbers)))), (ad 12, .inl (cI, 3201, .inl (zA V_parts))), (ad 13, .inl (cI, 3201, .inl (zA V_links))), (ad 23, .inr (6, [.int (zI M_steps), .int (zI M_memory), .int (zI M_mostSteps), .int (zI M_mostMemory), .int (zI M_fault)])), (ad 31, .inr (9, [.ref (ad 9), .ref (ad 23), .ref (ad 32), .int (zI B_ready)])), (ad 32, .inl (cI, 3, .inl (zA B_given)))] (some (.int (zI out.1))) [(ad 9, .inr (4, [.ref (ad 14), .ref (ad 16), .ref (ad 10), .ref (ad 11), .ref (ad 12), .ref (ad 13), .int (zI (out.2.1))])), (ad 10, .inl (cI, 3201, .inl (zA (out.2.2.1)))), (ad 11, .inl (cL, 3201, .inr (.inl (zB (out.2.2.2.1))))), (ad 12, .inl (cI, 3201, .inl (zA (out.2.2.2.2.1)))), (ad 13, .inl (cI, 3201, .inl (zA (out.2.2.2.2.2.1)))), (ad 23, .inr (6, [.int (zI M_steps), .int (zI (out.2.2.2.2.2.2.1)), .int (zI M_mostSteps), .int (zI M_mostMemory), .int (zI (out.2.2.2.2.2.2.2.1))])), (ad 31, .inr (9, [.ref (ad 9), .ref (ad 23), .ref (ad 32), .int (zI (out.2.2.2.2.2.2.2.2.1))])), (ad 32, .inl (cI, 3, .inl (zA (out.2.2.2.2.2.2.2.2.2))))] 0 0 := by
  refine CT_of_J (cc := b_Builtins_take) (maxL := 5) (ret := (some .int)) jFs_k (plainFor_of_name (by decide)) rfl (Nat.le_of_ble_eq_true rfl) ?_
  intro K hKl hKD X E
  subst hKl; subst hKD
  unfold f_Builtins_take at h
  refine J_aload_n X d_Builtins_take_0 rfl 0 rfl ?_
  refine J_get X (j_in in_Builtins) 6 rfl rfl 0 (by decide) (j_m own_Builtins_take (by decide +kernel)) rfl d_Builtins_take_1 ?_
  refine J_iload_n X d_Builtins_take_4 rfl 1 rfl ?_
  obtain ⟨r1, q2, h⟩ := wk_b h
  refine J_afterP (jrunV X (c_Values_numberOf (ad := ad) q2) jF0_k (fun _ _ _ _ => trivial) (jgV own_Builtins_take (by decide +kernel)) rfl rfl rfl pd_Values_numberOf (by decide) [0, 2] rfl (by decide) 0 4 rfl rfl rfl rfl (Nat.le_of_ble_eq_true rfl) d_Builtins_take_5 (by decide)) ?_
  refine J_l2i X d_Builtins_take_8 ?_
  refine J_istore_n (lv' := [(3, .int (zI r1)), (0, .ref (ad 31)), (1, .int (zI p1)), (2, .int (zI p2))]) X d_Builtins_take_9 rfl (by decide) rfl ?_
  refine J_aload_n X d_Builtins_take_10 rfl 1 rfl ?_
  refine J_get X (j_in in_Builtins) 6 rfl rfl 0 (by decide) (j_m own_Builtins_take (by decide +kernel)) rfl d_Builtins_take_11 ?_
  refine J_iload_n X d_Builtins_take_14 rfl 2 rfl ?_
  obtain ⟨r3, q4, h⟩ := wk_b h
  refine J_afterP (jrunV X (c_Values_givenTo (ad := ad) q4) jF0_k (fun _ _ _ _ => trivial) (jgV own_Builtins_take (by decide +kernel)) rfl rfl rfl pd_Values_givenTo (by decide) [0, 4] rfl (by decide) 0 4 rfl rfl rfl rfl (Nat.le_of_ble_eq_true rfl) d_Builtins_take_15 (by decide)) ?_
  refine J_istore (lv' := [(4, .int (zI r3)), (3, .int (zI r1)), (0, .ref (ad 31)), (1, .int (zI p1)), (2, .int (zI p2))]) X d_Builtins_take_18 (by decide) rfl ?_
  refine J_iload_n X d_Builtins_take_20 rfl 1 rfl ?_
  refine J_iload X d_Builtins_take_21 0 rfl ?_
  refine J_iconst X d_Builtins_take_23 ?_
  refine J_iadd X d_Builtins_take_24 ?_
  obtain ⟨r5, q6, h⟩ := wk_b h
  refine J_afterP (jrunS X (c_Builtins_takes (ad := ad) q6) jFs_k (fun _ _ _ h => h) (jgS own_Builtins_take (by decide +kernel)) rfl rfl rfl pd_Builtins_takes (by decide) [] rfl (by decide) rfl rfl (Nat.le_of_ble_eq_true rfl) d_Builtins_take_25 (by decide)) ?_
  refine J_iconst X d_Builtins_take_28 ?_
  refine J_icmp_eq (tgt := 59) X d_Builtins_take_29 (by decide) h (fun c7 h => ?_) (fun c7 h => ?_)
  · refine J_aload_n X d_Builtins_take_59 rfl 2 rfl ?_
    refine J_iload_n X d_Builtins_take_60 rfl 3 rfl ?_
    refine J_iload_n X d_Builtins_take_61 rfl 4 rfl ?_
    refine J_iload X d_Builtins_take_62 0 rfl ?_
    obtain ⟨B_given_8, q9, h⟩ := wk_b h
    refine J_afterI0 (ws' := [(ad 9, .inr (4, [.ref (ad 14), .ref (ad 16), .ref (ad 10), .ref (ad 11), .ref (ad 12), .ref (ad 13), .int (zI V_top)])), (ad 10, .inl (cI, 3201, .inl (zA V_kinds))), (ad 11, .inl (cL, 3201, .inr (.inl (zB V_numbers)))), (ad 12, .inl (cI, 3201, .inl (zA V_parts))), (ad 13, .inl (cI, 3201, .inl (zA V_links))), (ad 23, .inr (6, [.int (zI M_steps), .int (zI M_memory), .int (zI M_mostSteps), .int (zI M_mostMemory), .int (zI M_fault)])), (ad 31, .inr (9, [.ref (ad 9), .ref (ad 23), .ref (ad 32), .int (zI B_ready)])), (ad 32, .inl (cI, 3, .inl (zA B_given_8)))]) X (jrunV X (c_Builtins_gather (ad := ad) q9) jF0_k (fun _ _ _ _ => trivial) (jgV own_Builtins_take (by decide +kernel)) rfl rfl rfl pd_Builtins_gather (by decide) [0, 3, 4, 6, 7] rfl (by decide) 3 9 rfl rfl rfl rfl (Nat.le_of_ble_eq_true rfl) d_Builtins_take_64 (by decide)) [0, 3, 4, 6, 7] [1, 2, 5] [3, 0, 1, 4, 5, 2, 6, 7] rfl rfl (by decide) (by decide) rfl (by decide) ?_
    refine J_aload_n X d_Builtins_take_67 rfl 2 rfl ?_
    refine J_iload_n X d_Builtins_take_68 rfl 1 rfl ?_
    refine J_put (ws' := [(ad 9, .inr (4, [.ref (ad 14), .ref (ad 16), .ref (ad 10), .ref (ad 11), .ref (ad 12), .ref (ad 13), .int (zI V_top)])), (ad 10, .inl (cI, 3201, .inl (zA V_kinds))), (ad 11, .inl (cL, 3201, .inr (.inl (zB V_numbers)))), (ad 12, .inl (cI, 3201, .inl (zA V_parts))), (ad 13, .inl (cI, 3201, .inl (zA V_links))), (ad 23, .inr (6, [.int (zI M_steps), .int (zI M_memory), .int (zI M_mostSteps), .int (zI M_mostMemory), .int (zI M_fault)])), (ad 31, .inr (9, [.ref (ad 9), .ref (ad 23), .ref (ad 32), .int (zI r1)])), (ad 32, .inl (cI, 3, .inl (zA B_given_8)))]) X (j_in in_Builtins) ty_Builtins tok_Builtins nm_Builtins 6 rfl rfl 3 (by decide) (j_m own_Builtins_take (by decide +kernel)) rfl rfl rfl (Nat.le_of_ble_eq_true rfl) d_Builtins_take_69 rfl ?_
    refine J_iconst X d_Builtins_take_72 ?_
    cases h
    exact J_ret E ⟨_, rfl, rfl⟩ d_Builtins_take_73 (Nat.le_refl _) (Nat.le_refl _) rfl
  · refine J_aload_n X d_Builtins_take_32 rfl 2 rfl ?_
    refine J_get X (j_in in_Builtins) 6 rfl rfl 1 (by decide) (j_m own_Builtins_take (by decide +kernel)) rfl d_Builtins_take_33 ?_
    refine J_iconst X d_Builtins_take_36 ?_
    obtain ⟨r10, M_memory_11, M_fault_12, q13, h⟩ := wk_b3 h
    refine J_afterI0 (ws' := [(ad 9, .inr (4, [.ref (ad 14), .ref (ad 16), .ref (ad 10), .ref (ad 11), .ref (ad 12), .ref (ad 13), .int (zI V_top)])), (ad 10, .inl (cI, 3201, .inl (zA V_kinds))), (ad 11, .inl (cL, 3201, .inr (.inl (zB V_numbers)))), (ad 12, .inl (cI, 3201, .inl (zA V_parts))), (ad 13, .inl (cI, 3201, .inl (zA V_links))), (ad 23, .inr (6, [.int (zI M_steps), .int (zI M_memory_11), .int (zI M_mostSteps), .int (zI M_mostMemory), .int (zI M_fault_12)])), (ad 31, .inr (9, [.ref (ad 9), .ref (ad 23), .ref (ad 32), .int (zI B_ready)])), (ad 32, .inl (cI, 3, .inl (zA B_given)))]) X (jrunV X (c_Meter_payMemory (ad := ad) q13) jF0_k (fun _ _ _ _ => trivial) (jgV own_Builtins_take (by decide +kernel)) rfl rfl rfl pd_Meter_payMemory (by decide) [5] rfl (by decide) 0 6 rfl rfl rfl rfl (Nat.le_of_ble_eq_true rfl) d_Builtins_take_37 (by decide)) [5] [0, 1, 2, 3, 4, 6, 7] [0, 1, 2, 3, 4, 7, 5, 6] rfl rfl (by decide) (by decide) rfl (by decide) ?_
    refine J_if_eq (tgt := 57) X d_Builtins_take_40 (by decide) h (fun c14 h => ?_) (fun c14 h => ?_)
    · refine J_iconst X d_Builtins_take_57 ?_
      cases h
      exact J_ret E ⟨_, rfl, rfl⟩ d_Builtins_take_58 (Nat.le_refl _) (Nat.le_refl _) rfl
    · refine J_aload_n X d_Builtins_take_43 rfl 2 rfl ?_
      refine J_get X (j_in in_Builtins) 6 rfl rfl 0 (by decide) (j_m own_Builtins_take (by decide +kernel)) rfl d_Builtins_take_44 ?_
      refine J_iload_n X d_Builtins_take_47 rfl 1 rfl ?_
      obtain ⟨g15, h⟩ := wk_g h
      refine J_i2l X g15 d_Builtins_take_48 ?_
      refine J_iload_n X d_Builtins_take_49 rfl 4 rfl ?_
      refine J_iload_n X d_Builtins_take_50 rfl 3 rfl ?_
      obtain ⟨r16, V_top_17, V_kinds_18, V_numbers_19, V_parts_20, V_links_21, q22, h⟩ := wk_b6 h
      refine J_afterI0 (ws' := [(ad 9, .inr (4, [.ref (ad 14), .ref (ad 16), .ref (ad 10), .ref (ad 11), .ref (ad 12), .ref (ad 13), .int (zI V_top_17)])), (ad 10, .inl (cI, 3201, .inl (zA V_kinds_18))), (ad 11, .inl (cL, 3201, .inr (.inl (zB V_numbers_19)))), (ad 12, .inl (cI, 3201, .inl (zA V_parts_20))), (ad 13, .inl (cI, 3201, .inl (zA V_links_21))), (ad 23, .inr (6, [.int (zI M_steps), .int (zI M_memory_11), .int (zI M_mostSteps), .int (zI M_mostMemory), .int (zI M_fault_12)])), (ad 31, .inr (9, [.ref (ad 9), .ref (ad 23), .ref (ad 32), .int (zI B_ready)])), (ad 32, .inl (cI, 3, .inl (zA B_given)))]) X (jrunV X (c_Values_ofBuiltin (ad := ad) q22) jF0_k (fun _ _ _ _ => trivial) (jgV own_Builtins_take (by decide +kernel)) rfl rfl rfl pd_Values_ofBuiltin (by decide) [0, 1, 2, 3, 4] rfl (by decide) 0 4 rfl rfl rfl rfl (Nat.le_of_ble_eq_true rfl) d_Builtins_take_51 (by decide)) [0, 1, 2, 3, 4] [5, 6, 7] [3, 4, 5, 6, 7, 0, 1, 2] rfl rfl (by decide) (by decide) rfl (by decide) ?_
      refine J_goto (tgt := 58) X d_Builtins_take_54 (by decide) ?_
      cases h
      exact J_ret E ⟨_, rfl, rfl⟩ d_Builtins_take_58 (Nat.le_refl _) (Nat.le_refl _) rfl

theorem d_Builtins_sizeOfGiven_0 : decode b_Builtins_sizeOfGiven 0 = .ok (.iconst 0, 1) := by decide +kernel
theorem d_Builtins_sizeOfGiven_1 : decode b_Builtins_sizeOfGiven 1 = .ok (.istore_n 2, 1) := by decide +kernel
theorem d_Builtins_sizeOfGiven_2 : decode b_Builtins_sizeOfGiven 2 = .ok (.iconst 0, 1) := by decide +kernel
theorem d_Builtins_sizeOfGiven_3 : decode b_Builtins_sizeOfGiven 3 = .ok (.istore_n 3, 1) := by decide +kernel
theorem d_Builtins_sizeOfGiven_4 : decode b_Builtins_sizeOfGiven 4 = .ok (.iload_n 3, 1) := by decide +kernel
theorem d_Builtins_sizeOfGiven_5 : decode b_Builtins_sizeOfGiven 5 = .ok (.iconst 3, 1) := by decide +kernel
theorem d_Builtins_sizeOfGiven_6 : decode b_Builtins_sizeOfGiven 6 = .ok (.if_icmp .ge 34, 3) := by decide +kernel
theorem d_Builtins_sizeOfGiven_9 : decode b_Builtins_sizeOfGiven 9 = .ok (.iload_n 1, 1) := by decide +kernel
theorem d_Builtins_sizeOfGiven_10 : decode b_Builtins_sizeOfGiven 10 = .ok (.iload_n 3, 1) := by decide +kernel
theorem d_Builtins_sizeOfGiven_11 : decode b_Builtins_sizeOfGiven 11 = .ok (.invokestatic 40, 3) := by decide +kernel
theorem d_Builtins_sizeOfGiven_14 : decode b_Builtins_sizeOfGiven 14 = .ok (.iconst (-1), 1) := by decide +kernel
theorem d_Builtins_sizeOfGiven_15 : decode b_Builtins_sizeOfGiven 15 = .ok (.if_icmp .eq 25, 3) := by decide +kernel
theorem d_Builtins_sizeOfGiven_18 : decode b_Builtins_sizeOfGiven 18 = .ok (.iload_n 2, 1) := by decide +kernel
theorem d_Builtins_sizeOfGiven_19 : decode b_Builtins_sizeOfGiven 19 = .ok (.aload_n 0, 1) := by decide +kernel
theorem d_Builtins_sizeOfGiven_20 : decode b_Builtins_sizeOfGiven 20 = .ok (.getfield 19, 3) := by decide +kernel
theorem d_Builtins_sizeOfGiven_23 : decode b_Builtins_sizeOfGiven 23 = .ok (.aload_n 0, 1) := by decide +kernel
theorem d_Builtins_sizeOfGiven_24 : decode b_Builtins_sizeOfGiven 24 = .ok (.getfield 11, 3) := by decide +kernel
theorem d_Builtins_sizeOfGiven_27 : decode b_Builtins_sizeOfGiven 27 = .ok (.iload_n 3, 1) := by decide +kernel
theorem d_Builtins_sizeOfGiven_28 : decode b_Builtins_sizeOfGiven 28 = .ok (.iaload, 1) := by decide +kernel
theorem d_Builtins_sizeOfGiven_29 : decode b_Builtins_sizeOfGiven 29 = .ok (.invokevirtual 84, 3) := by decide +kernel
theorem d_Builtins_sizeOfGiven_32 : decode b_Builtins_sizeOfGiven 32 = .ok (.iadd, 1) := by decide +kernel
theorem d_Builtins_sizeOfGiven_33 : decode b_Builtins_sizeOfGiven 33 = .ok (.istore_n 2, 1) := by decide +kernel
theorem d_Builtins_sizeOfGiven_34 : decode b_Builtins_sizeOfGiven 34 = .ok (.iinc 3 1, 3) := by decide +kernel
theorem d_Builtins_sizeOfGiven_37 : decode b_Builtins_sizeOfGiven 37 = .ok (.goto (-33), 3) := by decide +kernel
theorem d_Builtins_sizeOfGiven_40 : decode b_Builtins_sizeOfGiven 40 = .ok (.iload_n 2, 1) := by decide +kernel
theorem d_Builtins_sizeOfGiven_41 : decode b_Builtins_sizeOfGiven 41 = .ok (.ireturn, 1) := by decide +kernel
def f_Builtins_sizeOfGiven_L4 (V_top : Int) (V_kinds : Int → Int) (V_parts : Int → Int) (V_links : Int → Int) (D_top : Int) (D_nodes : Int → Int) (D_weights : Int → Int) (B_given : Int → Int) (x1 : Int) : Nat → Int → Int → Option (Int × Int)
  | 0, _, _ => none
  | n + 1, x2, x3 =>
    if jr2 x3 3 = true then (if 3 ≤ x3 then (
     some (x2, x3)) else (
     Option.bind (f_Builtins_takes x1 x3) (fun r5 =>
      if jr2 r5 (-1) = true then (if r5 = (-1) then (
       some (x2, x3)) else (
       if jix x3 3 = true then (
        Option.bind (f_Values_sizeOf V_top V_kinds V_parts V_links D_top D_nodes D_weights (B_given x3)) (fun r9 =>
         f_Builtins_sizeOfGiven_L4 V_top V_kinds V_parts V_links D_top D_nodes D_weights B_given x1 n (x2 + r9) (x3 + 1))) else none)) else none))) else none
def f_Builtins_sizeOfGiven (N : Nat) (V_top : Int) (V_kinds : Int → Int) (V_parts : Int → Int) (V_links : Int → Int) (D_top : Int) (D_nodes : Int → Int) (D_weights : Int → Int) (B_given : Int → Int) (p1 : Int) : Option (Int) :=
  ob2 (f_Builtins_sizeOfGiven_L4 V_top V_kinds V_parts V_links D_top D_nodes D_weights B_given p1 N 0 0) (fun x2_1 x3_2 =>
   some x2_1)
set_option maxHeartbeats 4000000 in
set_option maxRecDepth 100000 in
theorem k_Builtins_sizeOfGiven_L4 {K : jK} {cI cL cB : ClassId} {ad : Nat → Nat} {adK adV : Nat → Nat} {ro : Nat} {V_top : Int} {V_kinds : Int → Int} {V_parts : Int → Int} {V_links : Int → Int} {D_top : Int} {D_nodes : Int → Int} {D_weights : Int → Int} {B_given : Int → Int} {x1 : Int} {B_ready : Int} {out : Int × Int} (X : jX (jFs adK adV ro) K 4 b_Builtins_sizeOfGiven w_Builtins_sizeOfGiven R_Builtins [(cI, .int), (cL, .long), (cB, .byte)]) : ∀ (n : Nat) (x2 : Int) (x3 : Int), f_Builtins_sizeOfGiven_L4 V_top V_kinds V_parts V_links D_top D_nodes D_weights B_given x1 n x2 x3 = some out → J K 4 ({ frames := 3, cells := 0, slots := 0, locals := 63 } : Room) true 0 0 [(ad 9, .inr (4, [.ref (ad 14), .ref (ad 16), .ref (ad 10), .ref (ad 11), .ref (ad 12), .ref (ad 13), .int (zI V_top)])), (ad 10, .inl (cI, 3201, .inl (zA V_kinds))), (ad 12, .inl (cI, 3201, .inl (zA V_parts))), (ad 13, .inl (cI, 3201, .inl (zA V_links))), (ad 16, .inr (5, [.ref (ad 17), .ref (ad 18), .ref (ad 19), .ref (ad 20), .ref (ad 21), .ref (ad 22), .int (zI D_top)])), (ad 20, .inl (cI, 3201, .inl (zA D_nodes))), (ad 22, .inl (cI, 3201, .inl (zA D_weights))), (ad 31, .inr (9, [.ref (ad 9), .ref (ad 23), .ref (ad 32), .int (zI B_ready)])), (ad 32, .inl (cI, 3, .inl (zA B_given)))] [(0, .ref (ad 31)), (1, .int (zI x1)), (2, .int (zI (out.1))), (3, .int (zI (out.2)))] [] 40 → J K 4 ({ frames := 3, cells := 0, slots := 0, locals := 63 } : Room) true 0 0 [(ad 9, .inr (4, [.ref (ad 14), .ref (ad 16), .ref (ad 10), .ref (ad 11), .ref (ad 12), .ref (ad 13), .int (zI V_top)])), (ad 10, .inl (cI, 3201, .inl (zA V_kinds))), (ad 12, .inl (cI, 3201, .inl (zA V_parts))), (ad 13, .inl (cI, 3201, .inl (zA V_links))), (ad 16, .inr (5, [.ref (ad 17), .ref (ad 18), .ref (ad 19), .ref (ad 20), .ref (ad 21), .ref (ad 22), .int (zI D_top)])), (ad 20, .inl (cI, 3201, .inl (zA D_nodes))), (ad 22, .inl (cI, 3201, .inl (zA D_weights))), (ad 31, .inr (9, [.ref (ad 9), .ref (ad 23), .ref (ad 32), .int (zI B_ready)])), (ad 32, .inl (cI, 3, .inl (zA B_given)))] [(0, .ref (ad 31)), (1, .int (zI x1)), (2, .int (zI x2)), (3, .int (zI x3))] [] 4 := by
  intro n
  induction n with
  | zero =>
    intro x2 x3 h hk
    cases h
  | succ n ih =>
    intro x2 x3 h hk
    unfold f_Builtins_sizeOfGiven_L4 at h
    refine J_iload_n X d_Builtins_sizeOfGiven_4 rfl 3 rfl ?_
    refine J_iconst X d_Builtins_sizeOfGiven_5 ?_
    refine J_icmp_ge (tgt := 40) X d_Builtins_sizeOfGiven_6 (by decide) h (fun c4 h => ?_) (fun c4 h => ?_)
    · cases h
      refine J_lv (lv' := [(0, .ref (ad 31)), (1, .int (zI x1)), (2, .int (zI x2)), (3, .int (zI x3))]) [0, 1, 2, 3] rfl ?_
      exact hk
    · refine J_iload_n X d_Builtins_sizeOfGiven_9 rfl 1 rfl ?_
      refine J_iload_n X d_Builtins_sizeOfGiven_10 rfl 3 rfl ?_
      obtain ⟨r5, q6, h⟩ := wk_b h
      refine J_afterP (jrunS X (c_Builtins_takes (ad := ad) q6) jFs_k (fun _ _ _ h => h) (jgS own_Builtins_sizeOfGiven (by decide +kernel)) rfl rfl rfl pd_Builtins_takes (by decide) [] rfl (by decide) rfl rfl (Nat.le_of_ble_eq_true rfl) d_Builtins_sizeOfGiven_11 (by decide)) ?_
      refine J_iconst X d_Builtins_sizeOfGiven_14 ?_
      refine J_icmp_eq (tgt := 40) X d_Builtins_sizeOfGiven_15 (by decide) h (fun c7 h => ?_) (fun c7 h => ?_)
      · cases h
        refine J_lv (lv' := [(0, .ref (ad 31)), (1, .int (zI x1)), (2, .int (zI x2)), (3, .int (zI x3))]) [0, 1, 2, 3] rfl ?_
        exact hk
      · refine J_iload_n X d_Builtins_sizeOfGiven_18 rfl 2 rfl ?_
        refine J_aload_n X d_Builtins_sizeOfGiven_19 rfl 0 rfl ?_
        refine J_get X (j_in in_Builtins) 7 rfl rfl 0 (by decide) (j_m own_Builtins_sizeOfGiven (by decide +kernel)) rfl d_Builtins_sizeOfGiven_20 ?_
        refine J_aload_n X d_Builtins_sizeOfGiven_23 rfl 0 rfl ?_
        refine J_get X (j_in in_Builtins) 7 rfl rfl 2 (by decide) (j_m own_Builtins_sizeOfGiven (by decide +kernel)) rfl d_Builtins_sizeOfGiven_24 ?_
        refine J_iload_n X d_Builtins_sizeOfGiven_27 rfl 3 rfl ?_
        obtain ⟨g8, h⟩ := wk_g h
        refine J_iald X 8 0 rfl rfl g8 d_Builtins_sizeOfGiven_28 ?_
        obtain ⟨r9, q10, h⟩ := wk_b h
        refine J_afterP (jrunV X (c_Values_sizeOf (ad := ad) q10) jF0_k (fun _ _ _ _ => trivial) (jgV own_Builtins_sizeOfGiven (by decide +kernel)) rfl rfl rfl pd_Values_sizeOf (by decide) [0, 1, 2, 3, 4, 5, 6] rfl (by decide) 0 4 rfl rfl rfl rfl (Nat.le_of_ble_eq_true rfl) d_Builtins_sizeOfGiven_29 (by decide)) ?_
        refine J_iadd X d_Builtins_sizeOfGiven_32 ?_
        refine J_istore_n (lv' := [(2, .int (zI (x2 + r9))), (0, .ref (ad 31)), (1, .int (zI x1)), (3, .int (zI x3))]) X d_Builtins_sizeOfGiven_33 rfl (by decide) rfl ?_
        refine J_iinc (lv' := [(3, .int (zI (x3 + 1))), (2, .int (zI (x2 + r9))), (0, .ref (ad 31)), (1, .int (zI x1))]) X d_Builtins_sizeOfGiven_34 3 rfl (by decide) rfl ?_
        refine J_goto (tgt := 4) X d_Builtins_sizeOfGiven_37 (by decide) ?_
        refine J_lv (lv' := [(0, .ref (ad 31)), (1, .int (zI x1)), (2, .int (zI (x2 + r9))), (3, .int (zI (x3 + 1)))]) [2, 3, 1, 0] rfl ?_
        exact ih _ _ h hk
set_option maxHeartbeats 4000000 in
set_option maxRecDepth 100000 in
theorem c_Builtins_sizeOfGiven {l : Launch} {D : va_G} {cI cL cB : ClassId} {ad : Nat → Nat} {adK adV : Nat → Nat} {ro : Nat} {N : Nat} {V_top : Int} {V_kinds : Int → Int} {V_parts : Int → Int} {V_links : Int → Int} {D_top : Int} {D_nodes : Int → Int} {D_weights : Int → Int} {B_ready : Int} {B_given : Int → Int} {p1 : Int} {out : Int} (h : f_Builtins_sizeOfGiven N V_top V_kinds V_parts V_links D_top D_nodes D_weights B_given p1 = some out) : CT (jFs adK adV ro) true l D [(cI, .int), (cL, .long), (cB, .byte)] y_Builtins_sizeOfGiven w_Builtins_sizeOfGiven ({ frames := 3, cells := 0, slots := 0, locals := 63 } : Room) [.ref (ad 31), .int (zI p1)] [(ad 9, .inr (4, [.ref (ad 14), .ref (ad 16), .ref (ad 10), .ref (ad 11), .ref (ad 12), .ref (ad 13), .int (zI V_top)])), (ad 10, .inl (cI, 3201, .inl (zA V_kinds))), (ad 12, .inl (cI, 3201, .inl (zA V_parts))), (ad 13, .inl (cI, 3201, .inl (zA V_links))), (ad 16, .inr (5, [.ref (ad 17), .ref (ad 18), .ref (ad 19), .ref (ad 20), .ref (ad 21), .ref (ad 22), .int (zI D_top)])), (ad 20, .inl (cI, 3201, .inl (zA D_nodes))), (ad 22, .inl (cI, 3201, .inl (zA D_weights))), (ad 31, .inr (9, [.ref (ad 9), .ref (ad 23), .ref (ad 32), .int (zI B_ready)])), (ad 32, .inl (cI, 3, .inl (zA B_given)))] (some (.int (zI out))) [(ad 9, .inr (4, [.ref (ad 14), .ref (ad 16), .ref (ad 10), .ref (ad 11), .ref (ad 12), .ref (ad 13), .int (zI V_top)])), (ad 10, .inl (cI, 3201, .inl (zA V_kinds))), (ad 12, .inl (cI, 3201, .inl (zA V_parts))), (ad 13, .inl (cI, 3201, .inl (zA V_links))), (ad 16, .inr (5, [.ref (ad 17), .ref (ad 18), .ref (ad 19), .ref (ad 20), .ref (ad 21), .ref (ad 22), .int (zI D_top)])), (ad 20, .inl (cI, 3201, .inl (zA D_nodes))), (ad 22, .inl (cI, 3201, .inl (zA D_weights))), (ad 31, .inr (9, [.ref (ad 9), .ref (ad 23), .ref (ad 32), .int (zI B_ready)])), (ad 32, .inl (cI, 3, .inl (zA B_given)))] 0 0 := by
  refine CT_of_J (cc := b_Builtins_sizeOfGiven) (maxL := 4) (ret := (some .int)) jFs_k (plainFor_of_name (by decide)) rfl (Nat.le_of_ble_eq_true rfl) ?_
  intro K hKl hKD X E
  subst hKl; subst hKD
  unfold f_Builtins_sizeOfGiven at h
  refine J_iconst X d_Builtins_sizeOfGiven_0 ?_
  refine J_istore_n (lv' := [(2, .int (zI 0)), (0, .ref (ad 31)), (1, .int (zI p1))]) X d_Builtins_sizeOfGiven_1 rfl (by decide) rfl ?_
  refine J_iconst X d_Builtins_sizeOfGiven_2 ?_
  refine J_istore_n (lv' := [(3, .int (zI 0)), (2, .int (zI 0)), (0, .ref (ad 31)), (1, .int (zI p1))]) X d_Builtins_sizeOfGiven_3 rfl (by decide) rfl ?_
  refine J_lv (lv' := [(0, .ref (ad 31)), (1, .int (zI p1)), (2, .int (zI 0)), (3, .int (zI 0))]) [2, 3, 1, 0] rfl ?_
  obtain ⟨x2_1, x3_2, q3, h⟩ := wk_b2 h
  refine k_Builtins_sizeOfGiven_L4 X _ _ _ q3 ?_
  refine J_iload_n X d_Builtins_sizeOfGiven_40 rfl 2 rfl ?_
  cases h
  exact J_ret E ⟨_, rfl, rfl⟩ d_Builtins_sizeOfGiven_41 (Nat.le_refl _) (Nat.le_refl _) rfl

theorem d_Builtins_fits_0 : decode b_Builtins_fits 0 = .ok (.aload_n 0, 1) := by decide +kernel
theorem d_Builtins_fits_1 : decode b_Builtins_fits 1 = .ok (.getfield 19, 3) := by decide +kernel
theorem d_Builtins_fits_4 : decode b_Builtins_fits 4 = .ok (.iload_n 2, 1) := by decide +kernel
theorem d_Builtins_fits_5 : decode b_Builtins_fits 5 = .ok (.invokevirtual 102, 3) := by decide +kernel
theorem d_Builtins_fits_8 : decode b_Builtins_fits 8 = .ok (.istore_n 3, 1) := by decide +kernel
theorem d_Builtins_fits_9 : decode b_Builtins_fits 9 = .ok (.iload_n 1, 1) := by decide +kernel
theorem d_Builtins_fits_10 : decode b_Builtins_fits 10 = .ok (.bipush 9, 2) := by decide +kernel
theorem d_Builtins_fits_12 : decode b_Builtins_fits 12 = .ok (.if_icmp .ge 20, 3) := by decide +kernel
theorem d_Builtins_fits_15 : decode b_Builtins_fits 15 = .ok (.iload_n 1, 1) := by decide +kernel
theorem d_Builtins_fits_16 : decode b_Builtins_fits 16 = .ok (.bipush 8, 2) := by decide +kernel
theorem d_Builtins_fits_18 : decode b_Builtins_fits 18 = .ok (.if_icmp .eq 8, 3) := by decide +kernel
theorem d_Builtins_fits_21 : decode b_Builtins_fits 21 = .ok (.iload_n 1, 1) := by decide +kernel
theorem d_Builtins_fits_22 : decode b_Builtins_fits 22 = .ok (.iload_n 3, 1) := by decide +kernel
theorem d_Builtins_fits_23 : decode b_Builtins_fits 23 = .ok (.if_icmp .ne 7, 3) := by decide +kernel
theorem d_Builtins_fits_26 : decode b_Builtins_fits 26 = .ok (.iconst 1, 1) := by decide +kernel
theorem d_Builtins_fits_27 : decode b_Builtins_fits 27 = .ok (.goto 4, 3) := by decide +kernel
theorem d_Builtins_fits_30 : decode b_Builtins_fits 30 = .ok (.iconst 0, 1) := by decide +kernel
theorem d_Builtins_fits_31 : decode b_Builtins_fits 31 = .ok (.ireturn, 1) := by decide +kernel
theorem d_Builtins_fits_32 : decode b_Builtins_fits 32 = .ok (.aload_n 0, 1) := by decide +kernel
theorem d_Builtins_fits_33 : decode b_Builtins_fits 33 = .ok (.getfield 19, 3) := by decide +kernel
theorem d_Builtins_fits_36 : decode b_Builtins_fits 36 = .ok (.getfield 105, 3) := by decide +kernel
theorem d_Builtins_fits_39 : decode b_Builtins_fits 39 = .ok (.aload_n 0, 1) := by decide +kernel
theorem d_Builtins_fits_40 : decode b_Builtins_fits 40 = .ok (.getfield 19, 3) := by decide +kernel
theorem d_Builtins_fits_43 : decode b_Builtins_fits 43 = .ok (.iload_n 2, 1) := by decide +kernel
theorem d_Builtins_fits_44 : decode b_Builtins_fits 44 = .ok (.invokevirtual 109, 3) := by decide +kernel
theorem d_Builtins_fits_47 : decode b_Builtins_fits 47 = .ok (.invokevirtual 112, 3) := by decide +kernel
theorem d_Builtins_fits_50 : decode b_Builtins_fits 50 = .ok (.istore 4, 2) := by decide +kernel
theorem d_Builtins_fits_52 : decode b_Builtins_fits 52 = .ok (.iload_n 3, 1) := by decide +kernel
theorem d_Builtins_fits_53 : decode b_Builtins_fits 53 = .ok (.iconst 4, 1) := by decide +kernel
theorem d_Builtins_fits_54 : decode b_Builtins_fits 54 = .ok (.if_icmp .ne 16, 3) := by decide +kernel
theorem d_Builtins_fits_57 : decode b_Builtins_fits 57 = .ok (.iload 4, 2) := by decide +kernel
theorem d_Builtins_fits_59 : decode b_Builtins_fits 59 = .ok (.iload_n 1, 1) := by decide +kernel
theorem d_Builtins_fits_60 : decode b_Builtins_fits 60 = .ok (.bipush 9, 2) := by decide +kernel
theorem d_Builtins_fits_62 : decode b_Builtins_fits 62 = .ok (.isub, 1) := by decide +kernel
theorem d_Builtins_fits_63 : decode b_Builtins_fits 63 = .ok (.if_icmp .ne 7, 3) := by decide +kernel
theorem d_Builtins_fits_66 : decode b_Builtins_fits 66 = .ok (.iconst 1, 1) := by decide +kernel
theorem d_Builtins_fits_67 : decode b_Builtins_fits 67 = .ok (.goto 4, 3) := by decide +kernel
theorem d_Builtins_fits_70 : decode b_Builtins_fits 70 = .ok (.iconst 0, 1) := by decide +kernel
theorem d_Builtins_fits_71 : decode b_Builtins_fits 71 = .ok (.ireturn, 1) := by decide +kernel
def f_Builtins_fits (V_top : Int) (V_kinds : Int → Int) (V_parts : Int → Int) (D_top : Int) (D_forms : Int → Int) (p1 : Int) (p2 : Int) : Option (Int) :=
  Option.bind (f_Values_kindOf V_top V_kinds p2) (fun r1 =>
   if jr2 p1 9 = true then (if 9 ≤ p1 then (
    Option.bind (f_Values_rootOf V_top V_parts p2) (fun r4 =>
     Option.bind (f_DataRow_formOf D_top D_forms (j_w32 r4)) (fun r6 =>
      if jr2 r1 4 = true then (if r1 = 4 then (
       if jr2 r6 (p1 - 9) = true then (if r6 = (p1 - 9) then (
        some 1) else (
        some 0)) else none) else (
       some 0)) else none))) else (
    if jr2 p1 8 = true then (if p1 = 8 then (
     some 1) else (
     if jr2 p1 r1 = true then (if p1 = r1 then (
      some 1) else (
      some 0)) else none)) else none)) else none)
set_option maxHeartbeats 4000000 in
set_option maxRecDepth 100000 in
theorem c_Builtins_fits {l : Launch} {D : va_G} {cI cL cB : ClassId} {ad : Nat → Nat} {V_top : Int} {V_kinds : Int → Int} {V_parts : Int → Int} {D_top : Int} {D_forms : Int → Int} {B_ready : Int} {p1 : Int} {p2 : Int} {out : Int} (h : f_Builtins_fits V_top V_kinds V_parts D_top D_forms p1 p2 = some out) : CT jF0 true l D [(cI, .int), (cL, .long), (cB, .byte)] y_Builtins_fits w_Builtins_fits ({ frames := 2, cells := 0, slots := 0, locals := 42 } : Room) [.ref (ad 31), .int (zI p1), .int (zI p2)] [(ad 9, .inr (4, [.ref (ad 14), .ref (ad 16), .ref (ad 10), .ref (ad 11), .ref (ad 12), .ref (ad 13), .int (zI V_top)])), (ad 10, .inl (cI, 3201, .inl (zA V_kinds))), (ad 12, .inl (cI, 3201, .inl (zA V_parts))), (ad 16, .inr (5, [.ref (ad 17), .ref (ad 18), .ref (ad 19), .ref (ad 20), .ref (ad 21), .ref (ad 22), .int (zI D_top)])), (ad 17, .inl (cI, 3201, .inl (zA D_forms))), (ad 31, .inr (9, [.ref (ad 9), .ref (ad 23), .ref (ad 32), .int (zI B_ready)]))] (some (.int (zI out))) [(ad 9, .inr (4, [.ref (ad 14), .ref (ad 16), .ref (ad 10), .ref (ad 11), .ref (ad 12), .ref (ad 13), .int (zI V_top)])), (ad 10, .inl (cI, 3201, .inl (zA V_kinds))), (ad 12, .inl (cI, 3201, .inl (zA V_parts))), (ad 16, .inr (5, [.ref (ad 17), .ref (ad 18), .ref (ad 19), .ref (ad 20), .ref (ad 21), .ref (ad 22), .int (zI D_top)])), (ad 17, .inl (cI, 3201, .inl (zA D_forms))), (ad 31, .inr (9, [.ref (ad 9), .ref (ad 23), .ref (ad 32), .int (zI B_ready)]))] 0 0 := by
  refine CT_of_J (cc := b_Builtins_fits) (maxL := 5) (ret := (some .boolean)) jF0_k (plainFor_of_name (by decide)) rfl (Nat.le_of_ble_eq_true rfl) ?_
  intro K hKl hKD X E
  subst hKl; subst hKD
  unfold f_Builtins_fits at h
  refine J_aload_n X d_Builtins_fits_0 rfl 0 rfl ?_
  refine J_get X (j_in in_Builtins) 5 rfl rfl 0 (by decide) (j_m own_Builtins_fits (by decide +kernel)) rfl d_Builtins_fits_1 ?_
  refine J_iload_n X d_Builtins_fits_4 rfl 2 rfl ?_
  obtain ⟨r1, q2, h⟩ := wk_b h
  refine J_afterP (jrunV X (c_Values_kindOf (ad := ad) q2) jF0_k (fun _ _ _ _ => trivial) (jgV own_Builtins_fits (by decide +kernel)) rfl rfl rfl pd_Values_kindOf (by decide) [0, 1] rfl (by decide) 0 4 rfl rfl rfl rfl (Nat.le_of_ble_eq_true rfl) d_Builtins_fits_5 (by decide)) ?_
  refine J_istore_n (lv' := [(3, .int (zI r1)), (0, .ref (ad 31)), (1, .int (zI p1)), (2, .int (zI p2))]) X d_Builtins_fits_8 rfl (by decide) rfl ?_
  refine J_iload_n X d_Builtins_fits_9 rfl 2 rfl ?_
  refine J_bipush X d_Builtins_fits_10 (by decide) ?_
  refine J_icmp_ge (tgt := 32) X d_Builtins_fits_12 (by decide) h (fun c3 h => ?_) (fun c3 h => ?_)
  · refine J_aload_n X d_Builtins_fits_32 rfl 1 rfl ?_
    refine J_get X (j_in in_Builtins) 5 rfl rfl 0 (by decide) (j_m own_Builtins_fits (by decide +kernel)) rfl d_Builtins_fits_33 ?_
    refine J_get X (j_in in_Values) 0 rfl rfl 1 (by decide) (j_m own_Builtins_fits (by decide +kernel)) rfl d_Builtins_fits_36 ?_
    refine J_aload_n X d_Builtins_fits_39 rfl 1 rfl ?_
    refine J_get X (j_in in_Builtins) 5 rfl rfl 0 (by decide) (j_m own_Builtins_fits (by decide +kernel)) rfl d_Builtins_fits_40 ?_
    refine J_iload_n X d_Builtins_fits_43 rfl 3 rfl ?_
    obtain ⟨r4, q5, h⟩ := wk_b h
    refine J_afterP (jrunV X (c_Values_rootOf (ad := ad) q5) jF0_k (fun _ _ _ _ => trivial) (jgV own_Builtins_fits (by decide +kernel)) rfl rfl rfl pd_Values_rootOf (by decide) [0, 2] rfl (by decide) 0 4 rfl rfl rfl rfl (Nat.le_of_ble_eq_true rfl) d_Builtins_fits_44 (by decide)) ?_
    refine J_w32 ?_
    obtain ⟨r6, q7, h⟩ := wk_b h
    refine J_afterP (jrunV X (c_DataRow_formOf (ad := ad) q7) jF0_k (fun _ _ _ _ => trivial) (jgV own_Builtins_fits (by decide +kernel)) rfl rfl rfl pd_DataRow_formOf (by decide) [3, 4] rfl (by decide) 0 5 rfl rfl rfl rfl (Nat.le_of_ble_eq_true rfl) d_Builtins_fits_47 (by decide)) ?_
    refine J_istore (lv' := [(4, .int (zI r6)), (3, .int (zI r1)), (0, .ref (ad 31)), (1, .int (zI p1)), (2, .int (zI p2))]) X d_Builtins_fits_50 (by decide) rfl ?_
    refine J_iload_n X d_Builtins_fits_52 rfl 1 rfl ?_
    refine J_iconst X d_Builtins_fits_53 ?_
    refine J_icmp_ne (tgt := 70) X d_Builtins_fits_54 (by decide) h (fun c8 h => ?_) (fun c8 h => ?_)
    · refine J_iconst X d_Builtins_fits_70 ?_
      cases h
      exact J_ret E ⟨_, rfl, j_bool (Or.inl rfl)⟩ d_Builtins_fits_71 (Nat.le_refl _) (Nat.le_refl _) rfl
    · refine J_iload X d_Builtins_fits_57 0 rfl ?_
      refine J_iload_n X d_Builtins_fits_59 rfl 3 rfl ?_
      refine J_bipush X d_Builtins_fits_60 (by decide) ?_
      refine J_isub X d_Builtins_fits_62 ?_
      refine J_icmp_ne (tgt := 70) X d_Builtins_fits_63 (by decide) h (fun c9 h => ?_) (fun c9 h => ?_)
      · refine J_iconst X d_Builtins_fits_70 ?_
        cases h
        exact J_ret E ⟨_, rfl, j_bool (Or.inl rfl)⟩ d_Builtins_fits_71 (Nat.le_refl _) (Nat.le_refl _) rfl
      · refine J_iconst X d_Builtins_fits_66 ?_
        refine J_goto (tgt := 71) X d_Builtins_fits_67 (by decide) ?_
        cases h
        exact J_ret E ⟨_, rfl, j_bool (Or.inr rfl)⟩ d_Builtins_fits_71 (Nat.le_refl _) (Nat.le_refl _) rfl
  · refine J_iload_n X d_Builtins_fits_15 rfl 2 rfl ?_
    refine J_bipush X d_Builtins_fits_16 (by decide) ?_
    refine J_icmp_eq (tgt := 26) X d_Builtins_fits_18 (by decide) h (fun c10 h => ?_) (fun c10 h => ?_)
    · refine J_iconst X d_Builtins_fits_26 ?_
      refine J_goto (tgt := 31) X d_Builtins_fits_27 (by decide) ?_
      cases h
      exact J_ret E ⟨_, rfl, j_bool (Or.inr rfl)⟩ d_Builtins_fits_31 (Nat.le_refl _) (Nat.le_refl _) rfl
    · refine J_iload_n X d_Builtins_fits_21 rfl 2 rfl ?_
      refine J_iload_n X d_Builtins_fits_22 rfl 0 rfl ?_
      refine J_icmp_ne (tgt := 30) X d_Builtins_fits_23 (by decide) h (fun c11 h => ?_) (fun c11 h => ?_)
      · refine J_iconst X d_Builtins_fits_30 ?_
        cases h
        exact J_ret E ⟨_, rfl, j_bool (Or.inl rfl)⟩ d_Builtins_fits_31 (Nat.le_refl _) (Nat.le_refl _) rfl
      · refine J_iconst X d_Builtins_fits_26 ?_
        refine J_goto (tgt := 31) X d_Builtins_fits_27 (by decide) ?_
        cases h
        exact J_ret E ⟨_, rfl, j_bool (Or.inr rfl)⟩ d_Builtins_fits_31 (Nat.le_refl _) (Nat.le_refl _) rfl

theorem d_Builtins_allFit_0 : decode b_Builtins_allFit 0 = .ok (.iconst 0, 1) := by decide +kernel
theorem d_Builtins_allFit_1 : decode b_Builtins_allFit 1 = .ok (.istore_n 2, 1) := by decide +kernel
theorem d_Builtins_allFit_2 : decode b_Builtins_allFit 2 = .ok (.iload_n 2, 1) := by decide +kernel
theorem d_Builtins_allFit_3 : decode b_Builtins_allFit 3 = .ok (.iconst 3, 1) := by decide +kernel
theorem d_Builtins_allFit_4 : decode b_Builtins_allFit 4 = .ok (.if_icmp .ge 38, 3) := by decide +kernel
theorem d_Builtins_allFit_7 : decode b_Builtins_allFit 7 = .ok (.iload_n 1, 1) := by decide +kernel
theorem d_Builtins_allFit_8 : decode b_Builtins_allFit 8 = .ok (.iload_n 2, 1) := by decide +kernel
theorem d_Builtins_allFit_9 : decode b_Builtins_allFit 9 = .ok (.invokestatic 40, 3) := by decide +kernel
theorem d_Builtins_allFit_12 : decode b_Builtins_allFit 12 = .ok (.iconst (-1), 1) := by decide +kernel
theorem d_Builtins_allFit_13 : decode b_Builtins_allFit 13 = .ok (.if_icmp .eq 29, 3) := by decide +kernel
theorem d_Builtins_allFit_16 : decode b_Builtins_allFit 16 = .ok (.aload_n 0, 1) := by decide +kernel
theorem d_Builtins_allFit_17 : decode b_Builtins_allFit 17 = .ok (.iload_n 1, 1) := by decide +kernel
theorem d_Builtins_allFit_18 : decode b_Builtins_allFit 18 = .ok (.iload_n 2, 1) := by decide +kernel
theorem d_Builtins_allFit_19 : decode b_Builtins_allFit 19 = .ok (.invokestatic 40, 3) := by decide +kernel
theorem d_Builtins_allFit_22 : decode b_Builtins_allFit 22 = .ok (.aload_n 0, 1) := by decide +kernel
theorem d_Builtins_allFit_23 : decode b_Builtins_allFit 23 = .ok (.getfield 11, 3) := by decide +kernel
theorem d_Builtins_allFit_26 : decode b_Builtins_allFit 26 = .ok (.iload_n 2, 1) := by decide +kernel
theorem d_Builtins_allFit_27 : decode b_Builtins_allFit 27 = .ok (.iaload, 1) := by decide +kernel
theorem d_Builtins_allFit_28 : decode b_Builtins_allFit 28 = .ok (.invokevirtual 98, 3) := by decide +kernel
theorem d_Builtins_allFit_31 : decode b_Builtins_allFit 31 = .ok (.ifCond .ne 5, 3) := by decide +kernel
theorem d_Builtins_allFit_34 : decode b_Builtins_allFit 34 = .ok (.iconst 0, 1) := by decide +kernel
theorem d_Builtins_allFit_35 : decode b_Builtins_allFit 35 = .ok (.ireturn, 1) := by decide +kernel
theorem d_Builtins_allFit_36 : decode b_Builtins_allFit 36 = .ok (.iinc 2 1, 3) := by decide +kernel
theorem d_Builtins_allFit_39 : decode b_Builtins_allFit 39 = .ok (.goto (-37), 3) := by decide +kernel
theorem d_Builtins_allFit_42 : decode b_Builtins_allFit 42 = .ok (.iconst 1, 1) := by decide +kernel
theorem d_Builtins_allFit_43 : decode b_Builtins_allFit 43 = .ok (.ireturn, 1) := by decide +kernel
def f_Builtins_allFit_L2 (V_top : Int) (V_kinds : Int → Int) (V_parts : Int → Int) (D_top : Int) (D_forms : Int → Int) (B_given : Int → Int) : Nat → Int → Int → Option (Int)
  | 0, _, _ => none
  | n + 1, x1, x2 =>
    if jr2 x2 3 = true then (if 3 ≤ x2 then (
     some 1) else (
     Option.bind (f_Builtins_takes x1 x2) (fun r2 =>
      if jr2 r2 (-1) = true then (if r2 = (-1) then (
       some 1) else (
       Option.bind (f_Builtins_takes x1 x2) (fun r5 =>
        if jix x2 3 = true then (
         Option.bind (f_Builtins_fits V_top V_kinds V_parts D_top D_forms r5 (B_given x2)) (fun r8 =>
          if rI r8 = true then (if r8 = 0 then (
           some 0) else (
           f_Builtins_allFit_L2 V_top V_kinds V_parts D_top D_forms B_given n x1 (x2 + 1))) else none)) else none))) else none))) else none
def f_Builtins_allFit (N : Nat) (V_top : Int) (V_kinds : Int → Int) (V_parts : Int → Int) (D_top : Int) (D_forms : Int → Int) (B_given : Int → Int) (p1 : Int) : Option (Int) :=
  f_Builtins_allFit_L2 V_top V_kinds V_parts D_top D_forms B_given N p1 0
set_option maxHeartbeats 4000000 in
set_option maxRecDepth 100000 in
theorem k_Builtins_allFit_L2 {K : jK} {cI cL cB : ClassId} {ad : Nat → Nat} {adK adV : Nat → Nat} {ro : Nat} {V_top : Int} {V_kinds : Int → Int} {V_parts : Int → Int} {D_top : Int} {D_forms : Int → Int} {B_given : Int → Int} {B_ready : Int} {out : Int} (X : jX (jFs adK adV ro) K 3 b_Builtins_allFit w_Builtins_allFit R_Builtins [(cI, .int), (cL, .long), (cB, .byte)]) (E : jE K b_Builtins_allFit (some .boolean) ({ frames := 3, cells := 0, slots := 0, locals := 66 } : Room) true 0 0 (some (.int (zI out))) [(ad 9, .inr (4, [.ref (ad 14), .ref (ad 16), .ref (ad 10), .ref (ad 11), .ref (ad 12), .ref (ad 13), .int (zI V_top)])), (ad 10, .inl (cI, 3201, .inl (zA V_kinds))), (ad 12, .inl (cI, 3201, .inl (zA V_parts))), (ad 16, .inr (5, [.ref (ad 17), .ref (ad 18), .ref (ad 19), .ref (ad 20), .ref (ad 21), .ref (ad 22), .int (zI D_top)])), (ad 17, .inl (cI, 3201, .inl (zA D_forms))), (ad 31, .inr (9, [.ref (ad 9), .ref (ad 23), .ref (ad 32), .int (zI B_ready)])), (ad 32, .inl (cI, 3, .inl (zA B_given)))]) : ∀ (n : Nat) (x1 : Int) (x2 : Int), f_Builtins_allFit_L2 V_top V_kinds V_parts D_top D_forms B_given n x1 x2 = some out → J K 3 ({ frames := 3, cells := 0, slots := 0, locals := 66 } : Room) true 0 0 [(ad 9, .inr (4, [.ref (ad 14), .ref (ad 16), .ref (ad 10), .ref (ad 11), .ref (ad 12), .ref (ad 13), .int (zI V_top)])), (ad 10, .inl (cI, 3201, .inl (zA V_kinds))), (ad 12, .inl (cI, 3201, .inl (zA V_parts))), (ad 16, .inr (5, [.ref (ad 17), .ref (ad 18), .ref (ad 19), .ref (ad 20), .ref (ad 21), .ref (ad 22), .int (zI D_top)])), (ad 17, .inl (cI, 3201, .inl (zA D_forms))), (ad 31, .inr (9, [.ref (ad 9), .ref (ad 23), .ref (ad 32), .int (zI B_ready)])), (ad 32, .inl (cI, 3, .inl (zA B_given)))] [(0, .ref (ad 31)), (1, .int (zI x1)), (2, .int (zI x2))] [] 2 := by
  intro n
  induction n with
  | zero =>
    intro x1 x2 h
    cases h
  | succ n ih =>
    intro x1 x2 h
    unfold f_Builtins_allFit_L2 at h
    refine J_iload_n X d_Builtins_allFit_2 rfl 2 rfl ?_
    refine J_iconst X d_Builtins_allFit_3 ?_
    refine J_icmp_ge (tgt := 42) X d_Builtins_allFit_4 (by decide) h (fun c1 h => ?_) (fun c1 h => ?_)
    · refine J_iconst X d_Builtins_allFit_42 ?_
      cases h
      exact J_ret E ⟨_, rfl, j_bool (Or.inr rfl)⟩ d_Builtins_allFit_43 (Nat.le_refl _) (Nat.le_refl _) rfl
    · refine J_iload_n X d_Builtins_allFit_7 rfl 1 rfl ?_
      refine J_iload_n X d_Builtins_allFit_8 rfl 2 rfl ?_
      obtain ⟨r2, q3, h⟩ := wk_b h
      refine J_afterP (jrunS X (c_Builtins_takes (ad := ad) q3) jFs_k (fun _ _ _ h => h) (jgS own_Builtins_allFit (by decide +kernel)) rfl rfl rfl pd_Builtins_takes (by decide) [] rfl (by decide) rfl rfl (Nat.le_of_ble_eq_true rfl) d_Builtins_allFit_9 (by decide)) ?_
      refine J_iconst X d_Builtins_allFit_12 ?_
      refine J_icmp_eq (tgt := 42) X d_Builtins_allFit_13 (by decide) h (fun c4 h => ?_) (fun c4 h => ?_)
      · refine J_iconst X d_Builtins_allFit_42 ?_
        cases h
        exact J_ret E ⟨_, rfl, j_bool (Or.inr rfl)⟩ d_Builtins_allFit_43 (Nat.le_refl _) (Nat.le_refl _) rfl
      · refine J_aload_n X d_Builtins_allFit_16 rfl 0 rfl ?_
        refine J_iload_n X d_Builtins_allFit_17 rfl 1 rfl ?_
        refine J_iload_n X d_Builtins_allFit_18 rfl 2 rfl ?_
        obtain ⟨r5, q6, h⟩ := wk_b h
        refine J_afterP (jrunS X (c_Builtins_takes (ad := ad) q6) jFs_k (fun _ _ _ h => h) (jgS own_Builtins_allFit (by decide +kernel)) rfl rfl rfl pd_Builtins_takes (by decide) [] rfl (by decide) rfl rfl (Nat.le_of_ble_eq_true rfl) d_Builtins_allFit_19 (by decide)) ?_
        refine J_aload_n X d_Builtins_allFit_22 rfl 0 rfl ?_
        refine J_get X (j_in in_Builtins) 5 rfl rfl 2 (by decide) (j_m own_Builtins_allFit (by decide +kernel)) rfl d_Builtins_allFit_23 ?_
        refine J_iload_n X d_Builtins_allFit_26 rfl 2 rfl ?_
        obtain ⟨g7, h⟩ := wk_g h
        refine J_iald X 6 0 rfl rfl g7 d_Builtins_allFit_27 ?_
        obtain ⟨r8, q9, h⟩ := wk_b h
        refine J_afterP (jrunV X (c_Builtins_fits (ad := ad) q9) jF0_k (fun _ _ _ _ => trivial) (jgV own_Builtins_allFit (by decide +kernel)) rfl rfl rfl pd_Builtins_fits (by decide) [0, 1, 2, 3, 4, 5] rfl (by decide) 5 9 rfl rfl rfl rfl (Nat.le_of_ble_eq_true rfl) d_Builtins_allFit_28 (by decide)) ?_
        refine J_if_ne (tgt := 36) X d_Builtins_allFit_31 (by decide) h (fun c10 h => ?_) (fun c10 h => ?_)
        · refine J_iinc (lv' := [(2, .int (zI (x2 + 1))), (0, .ref (ad 31)), (1, .int (zI x1))]) X d_Builtins_allFit_36 2 rfl (by decide) rfl ?_
          refine J_goto (tgt := 2) X d_Builtins_allFit_39 (by decide) ?_
          refine J_lv (lv' := [(0, .ref (ad 31)), (1, .int (zI x1)), (2, .int (zI (x2 + 1)))]) [1, 2, 0] rfl ?_
          exact ih _ _ h
        · refine J_iconst X d_Builtins_allFit_34 ?_
          cases h
          exact J_ret E ⟨_, rfl, j_bool (Or.inl rfl)⟩ d_Builtins_allFit_35 (Nat.le_refl _) (Nat.le_refl _) rfl
set_option maxHeartbeats 4000000 in
set_option maxRecDepth 100000 in
theorem c_Builtins_allFit {l : Launch} {D : va_G} {cI cL cB : ClassId} {ad : Nat → Nat} {adK adV : Nat → Nat} {ro : Nat} {N : Nat} {V_top : Int} {V_kinds : Int → Int} {V_parts : Int → Int} {D_top : Int} {D_forms : Int → Int} {B_ready : Int} {B_given : Int → Int} {p1 : Int} {out : Int} (h : f_Builtins_allFit N V_top V_kinds V_parts D_top D_forms B_given p1 = some out) : CT (jFs adK adV ro) true l D [(cI, .int), (cL, .long), (cB, .byte)] y_Builtins_allFit w_Builtins_allFit ({ frames := 3, cells := 0, slots := 0, locals := 66 } : Room) [.ref (ad 31), .int (zI p1)] [(ad 9, .inr (4, [.ref (ad 14), .ref (ad 16), .ref (ad 10), .ref (ad 11), .ref (ad 12), .ref (ad 13), .int (zI V_top)])), (ad 10, .inl (cI, 3201, .inl (zA V_kinds))), (ad 12, .inl (cI, 3201, .inl (zA V_parts))), (ad 16, .inr (5, [.ref (ad 17), .ref (ad 18), .ref (ad 19), .ref (ad 20), .ref (ad 21), .ref (ad 22), .int (zI D_top)])), (ad 17, .inl (cI, 3201, .inl (zA D_forms))), (ad 31, .inr (9, [.ref (ad 9), .ref (ad 23), .ref (ad 32), .int (zI B_ready)])), (ad 32, .inl (cI, 3, .inl (zA B_given)))] (some (.int (zI out))) [(ad 9, .inr (4, [.ref (ad 14), .ref (ad 16), .ref (ad 10), .ref (ad 11), .ref (ad 12), .ref (ad 13), .int (zI V_top)])), (ad 10, .inl (cI, 3201, .inl (zA V_kinds))), (ad 12, .inl (cI, 3201, .inl (zA V_parts))), (ad 16, .inr (5, [.ref (ad 17), .ref (ad 18), .ref (ad 19), .ref (ad 20), .ref (ad 21), .ref (ad 22), .int (zI D_top)])), (ad 17, .inl (cI, 3201, .inl (zA D_forms))), (ad 31, .inr (9, [.ref (ad 9), .ref (ad 23), .ref (ad 32), .int (zI B_ready)])), (ad 32, .inl (cI, 3, .inl (zA B_given)))] 0 0 := by
  refine CT_of_J (cc := b_Builtins_allFit) (maxL := 3) (ret := (some .boolean)) jFs_k (plainFor_of_name (by decide)) rfl (Nat.le_of_ble_eq_true rfl) ?_
  intro K hKl hKD X E
  subst hKl; subst hKD
  unfold f_Builtins_allFit at h
  refine J_iconst X d_Builtins_allFit_0 ?_
  refine J_istore_n (lv' := [(2, .int (zI 0)), (0, .ref (ad 31)), (1, .int (zI p1))]) X d_Builtins_allFit_1 rfl (by decide) rfl ?_
  refine J_lv (lv' := [(0, .ref (ad 31)), (1, .int (zI p1)), (2, .int (zI 0))]) [1, 2, 0] rfl ?_
  exact k_Builtins_allFit_L2 X E _ _ _ h

theorem d_Builtins_sumFits_0 : decode b_Builtins_sumFits 0 = .ok (.lload_n 2, 1) := by decide +kernel
theorem d_Builtins_sumFits_1 : decode b_Builtins_sumFits 1 = .ok (.lconst 0, 1) := by decide +kernel
theorem d_Builtins_sumFits_2 : decode b_Builtins_sumFits 2 = .ok (.lcmp, 1) := by decide +kernel
theorem d_Builtins_sumFits_3 : decode b_Builtins_sumFits 3 = .ok (.ifCond .lt 21, 3) := by decide +kernel
theorem d_Builtins_sumFits_6 : decode b_Builtins_sumFits 6 = .ok (.lload_n 0, 1) := by decide +kernel
theorem d_Builtins_sumFits_7 : decode b_Builtins_sumFits 7 = .ok (.ldc2_w 147, 3) := by decide +kernel
theorem d_Builtins_sumFits_10 : decode b_Builtins_sumFits 10 = .ok (.lload_n 2, 1) := by decide +kernel
theorem d_Builtins_sumFits_11 : decode b_Builtins_sumFits 11 = .ok (.lsub, 1) := by decide +kernel
theorem d_Builtins_sumFits_12 : decode b_Builtins_sumFits 12 = .ok (.lcmp, 1) := by decide +kernel
theorem d_Builtins_sumFits_13 : decode b_Builtins_sumFits 13 = .ok (.ifCond .gt 7, 3) := by decide +kernel
theorem d_Builtins_sumFits_16 : decode b_Builtins_sumFits 16 = .ok (.iconst 1, 1) := by decide +kernel
theorem d_Builtins_sumFits_17 : decode b_Builtins_sumFits 17 = .ok (.goto 22, 3) := by decide +kernel
theorem d_Builtins_sumFits_20 : decode b_Builtins_sumFits 20 = .ok (.iconst 0, 1) := by decide +kernel
theorem d_Builtins_sumFits_21 : decode b_Builtins_sumFits 21 = .ok (.goto 18, 3) := by decide +kernel
theorem d_Builtins_sumFits_24 : decode b_Builtins_sumFits 24 = .ok (.lload_n 0, 1) := by decide +kernel
theorem d_Builtins_sumFits_25 : decode b_Builtins_sumFits 25 = .ok (.ldc2_w 149, 3) := by decide +kernel
theorem d_Builtins_sumFits_28 : decode b_Builtins_sumFits 28 = .ok (.lload_n 2, 1) := by decide +kernel
theorem d_Builtins_sumFits_29 : decode b_Builtins_sumFits 29 = .ok (.lsub, 1) := by decide +kernel
theorem d_Builtins_sumFits_30 : decode b_Builtins_sumFits 30 = .ok (.lcmp, 1) := by decide +kernel
theorem d_Builtins_sumFits_31 : decode b_Builtins_sumFits 31 = .ok (.ifCond .lt 7, 3) := by decide +kernel
theorem d_Builtins_sumFits_34 : decode b_Builtins_sumFits 34 = .ok (.iconst 1, 1) := by decide +kernel
theorem d_Builtins_sumFits_35 : decode b_Builtins_sumFits 35 = .ok (.goto 4, 3) := by decide +kernel
theorem d_Builtins_sumFits_38 : decode b_Builtins_sumFits 38 = .ok (.iconst 0, 1) := by decide +kernel
theorem d_Builtins_sumFits_39 : decode b_Builtins_sumFits 39 = .ok (.ireturn, 1) := by decide +kernel
def f_Builtins_sumFits (p0 : Int) (p2 : Int) : Option (Int) :=
  if jl2 p2 0 = true then (if p2 < 0 then (
   if jl2 p0 ((-9223372036854775808) - p2) = true then (if p0 < ((-9223372036854775808) - p2) then (
    some 0) else (
    some 1)) else none) else (
   if jl2 p0 (9223372036854775807 - p2) = true then (if (9223372036854775807 - p2) < p0 then (
    some 0) else (
    some 1)) else none)) else none
set_option maxHeartbeats 4000000 in
set_option maxRecDepth 100000 in
theorem c_Builtins_sumFits {l : Launch} {D : va_G} {cI cL cB : ClassId} {ad : Nat → Nat} {p0 : Int} {p2 : Int} {out : Int} (h : f_Builtins_sumFits p0 p2 = some out) : CT jF0 true l D [(cI, .int), (cL, .long), (cB, .byte)] y_Builtins_sumFits w_Builtins_sumFits ({ frames := 0, cells := 0, slots := 0, locals := 0 } : Room) [.long (zL p0), .long (zL p2)] [] (some (.int (zI out))) [] 0 0 := by
  refine CT_of_J (cc := b_Builtins_sumFits) (maxL := 4) (ret := (some .boolean)) jF0_k (plainFor_of_name (by decide)) rfl (Nat.le_of_ble_eq_true rfl) ?_
  intro K hKl hKD X E
  subst hKl; subst hKD
  unfold f_Builtins_sumFits at h
  refine J_lload_n X d_Builtins_sumFits_0 rfl 1 rfl ?_
  refine J_lconst (v := 0) X d_Builtins_sumFits_1 (by decide) ?_
  refine J_lc_lt (tgt := 24) X d_Builtins_sumFits_2 d_Builtins_sumFits_3 (by decide) h (fun c1 h => ?_) (fun c1 h => ?_)
  · refine J_lload_n X d_Builtins_sumFits_24 rfl 0 rfl ?_
    refine J_ldc2 (v := (-9223372036854775808)) (n := (-9223372036854775808)) X (j_m own_Builtins_sumFits (by decide +kernel)) (by decide) d_Builtins_sumFits_25 ?_
    refine J_lload_n X d_Builtins_sumFits_28 rfl 1 rfl ?_
    refine J_lsub X d_Builtins_sumFits_29 ?_
    refine J_lc_lt (tgt := 38) X d_Builtins_sumFits_30 d_Builtins_sumFits_31 (by decide) h (fun c2 h => ?_) (fun c2 h => ?_)
    · refine J_iconst X d_Builtins_sumFits_38 ?_
      cases h
      exact J_ret E ⟨_, rfl, j_bool (Or.inl rfl)⟩ d_Builtins_sumFits_39 (Nat.le_refl _) (Nat.le_refl _) rfl
    · refine J_iconst X d_Builtins_sumFits_34 ?_
      refine J_goto (tgt := 39) X d_Builtins_sumFits_35 (by decide) ?_
      cases h
      exact J_ret E ⟨_, rfl, j_bool (Or.inr rfl)⟩ d_Builtins_sumFits_39 (Nat.le_refl _) (Nat.le_refl _) rfl
  · refine J_lload_n X d_Builtins_sumFits_6 rfl 0 rfl ?_
    refine J_ldc2 (v := 9223372036854775807) (n := 9223372036854775807) X (j_m own_Builtins_sumFits (by decide +kernel)) (by decide) d_Builtins_sumFits_7 ?_
    refine J_lload_n X d_Builtins_sumFits_10 rfl 1 rfl ?_
    refine J_lsub X d_Builtins_sumFits_11 ?_
    refine J_lc_gt (tgt := 20) X d_Builtins_sumFits_12 d_Builtins_sumFits_13 (by decide) h (fun c3 h => ?_) (fun c3 h => ?_)
    · refine J_iconst X d_Builtins_sumFits_20 ?_
      refine J_goto (tgt := 39) X d_Builtins_sumFits_21 (by decide) ?_
      cases h
      exact J_ret E ⟨_, rfl, j_bool (Or.inl rfl)⟩ d_Builtins_sumFits_39 (Nat.le_refl _) (Nat.le_refl _) rfl
    · refine J_iconst X d_Builtins_sumFits_16 ?_
      refine J_goto (tgt := 39) X d_Builtins_sumFits_17 (by decide) ?_
      cases h
      exact J_ret E ⟨_, rfl, j_bool (Or.inr rfl)⟩ d_Builtins_sumFits_39 (Nat.le_refl _) (Nat.le_refl _) rfl

theorem d_Builtins_quotientFits_0 : decode b_Builtins_quotientFits 0 = .ok (.lload_n 2, 1) := by decide +kernel
theorem d_Builtins_quotientFits_1 : decode b_Builtins_quotientFits 1 = .ok (.lconst 0, 1) := by decide +kernel
theorem d_Builtins_quotientFits_2 : decode b_Builtins_quotientFits 2 = .ok (.lcmp, 1) := by decide +kernel
theorem d_Builtins_quotientFits_3 : decode b_Builtins_quotientFits 3 = .ok (.ifCond .eq 23, 3) := by decide +kernel
theorem d_Builtins_quotientFits_6 : decode b_Builtins_quotientFits 6 = .ok (.lload_n 2, 1) := by decide +kernel
theorem d_Builtins_quotientFits_7 : decode b_Builtins_quotientFits 7 = .ok (.ldc2_w 151, 3) := by decide +kernel
theorem d_Builtins_quotientFits_10 : decode b_Builtins_quotientFits 10 = .ok (.lcmp, 1) := by decide +kernel
theorem d_Builtins_quotientFits_11 : decode b_Builtins_quotientFits 11 = .ok (.ifCond .ne 11, 3) := by decide +kernel
theorem d_Builtins_quotientFits_14 : decode b_Builtins_quotientFits 14 = .ok (.lload_n 0, 1) := by decide +kernel
theorem d_Builtins_quotientFits_15 : decode b_Builtins_quotientFits 15 = .ok (.ldc2_w 149, 3) := by decide +kernel
theorem d_Builtins_quotientFits_18 : decode b_Builtins_quotientFits 18 = .ok (.lcmp, 1) := by decide +kernel
theorem d_Builtins_quotientFits_19 : decode b_Builtins_quotientFits 19 = .ok (.ifCond .eq 7, 3) := by decide +kernel
theorem d_Builtins_quotientFits_22 : decode b_Builtins_quotientFits 22 = .ok (.iconst 1, 1) := by decide +kernel
theorem d_Builtins_quotientFits_23 : decode b_Builtins_quotientFits 23 = .ok (.goto 4, 3) := by decide +kernel
theorem d_Builtins_quotientFits_26 : decode b_Builtins_quotientFits 26 = .ok (.iconst 0, 1) := by decide +kernel
theorem d_Builtins_quotientFits_27 : decode b_Builtins_quotientFits 27 = .ok (.ireturn, 1) := by decide +kernel
def f_Builtins_quotientFits (p0 : Int) (p2 : Int) : Option (Int) :=
  if jl2 p2 0 = true then (if p2 = 0 then (
   some 0) else (
   if jl2 p2 (-1) = true then (if p2 = (-1) then (
    if jl2 p0 (-9223372036854775808) = true then (if p0 = (-9223372036854775808) then (
     some 0) else (
     some 1)) else none) else (
    some 1)) else none)) else none
set_option maxHeartbeats 4000000 in
set_option maxRecDepth 100000 in
theorem c_Builtins_quotientFits {l : Launch} {D : va_G} {cI cL cB : ClassId} {ad : Nat → Nat} {p0 : Int} {p2 : Int} {out : Int} (h : f_Builtins_quotientFits p0 p2 = some out) : CT jF0 true l D [(cI, .int), (cL, .long), (cB, .byte)] y_Builtins_quotientFits w_Builtins_quotientFits ({ frames := 0, cells := 0, slots := 0, locals := 0 } : Room) [.long (zL p0), .long (zL p2)] [] (some (.int (zI out))) [] 0 0 := by
  refine CT_of_J (cc := b_Builtins_quotientFits) (maxL := 4) (ret := (some .boolean)) jF0_k (plainFor_of_name (by decide)) rfl (Nat.le_of_ble_eq_true rfl) ?_
  intro K hKl hKD X E
  subst hKl; subst hKD
  unfold f_Builtins_quotientFits at h
  refine J_lload_n X d_Builtins_quotientFits_0 rfl 1 rfl ?_
  refine J_lconst (v := 0) X d_Builtins_quotientFits_1 (by decide) ?_
  refine J_lc_eq (tgt := 26) X d_Builtins_quotientFits_2 d_Builtins_quotientFits_3 (by decide) h (fun c1 h => ?_) (fun c1 h => ?_)
  · refine J_iconst X d_Builtins_quotientFits_26 ?_
    cases h
    exact J_ret E ⟨_, rfl, j_bool (Or.inl rfl)⟩ d_Builtins_quotientFits_27 (Nat.le_refl _) (Nat.le_refl _) rfl
  · refine J_lload_n X d_Builtins_quotientFits_6 rfl 1 rfl ?_
    refine J_ldc2 (v := (-1)) (n := (-1)) X (j_m own_Builtins_quotientFits (by decide +kernel)) (by decide) d_Builtins_quotientFits_7 ?_
    refine J_lc_ne (tgt := 22) X d_Builtins_quotientFits_10 d_Builtins_quotientFits_11 (by decide) h (fun c2 h => ?_) (fun c2 h => ?_)
    · refine J_iconst X d_Builtins_quotientFits_22 ?_
      refine J_goto (tgt := 27) X d_Builtins_quotientFits_23 (by decide) ?_
      cases h
      exact J_ret E ⟨_, rfl, j_bool (Or.inr rfl)⟩ d_Builtins_quotientFits_27 (Nat.le_refl _) (Nat.le_refl _) rfl
    · refine J_lload_n X d_Builtins_quotientFits_14 rfl 0 rfl ?_
      refine J_ldc2 (v := (-9223372036854775808)) (n := (-9223372036854775808)) X (j_m own_Builtins_quotientFits (by decide +kernel)) (by decide) d_Builtins_quotientFits_15 ?_
      refine J_lc_eq (tgt := 26) X d_Builtins_quotientFits_18 d_Builtins_quotientFits_19 (by decide) h (fun c3 h => ?_) (fun c3 h => ?_)
      · refine J_iconst X d_Builtins_quotientFits_26 ?_
        cases h
        exact J_ret E ⟨_, rfl, j_bool (Or.inl rfl)⟩ d_Builtins_quotientFits_27 (Nat.le_refl _) (Nat.le_refl _) rfl
      · refine J_iconst X d_Builtins_quotientFits_22 ?_
        refine J_goto (tgt := 27) X d_Builtins_quotientFits_23 (by decide) ?_
        cases h
        exact J_ret E ⟨_, rfl, j_bool (Or.inr rfl)⟩ d_Builtins_quotientFits_27 (Nat.le_refl _) (Nat.le_refl _) rfl

theorem d_Builtins_productFits_0 : decode b_Builtins_productFits 0 = .ok (.lload_n 2, 1) := by decide +kernel
theorem d_Builtins_productFits_1 : decode b_Builtins_productFits 1 = .ok (.lconst 0, 1) := by decide +kernel
theorem d_Builtins_productFits_2 : decode b_Builtins_productFits 2 = .ok (.lcmp, 1) := by decide +kernel
theorem d_Builtins_productFits_3 : decode b_Builtins_productFits 3 = .ok (.ifCond .ne 5, 3) := by decide +kernel
theorem d_Builtins_productFits_6 : decode b_Builtins_productFits 6 = .ok (.iconst 1, 1) := by decide +kernel
theorem d_Builtins_productFits_7 : decode b_Builtins_productFits 7 = .ok (.ireturn, 1) := by decide +kernel
theorem d_Builtins_productFits_8 : decode b_Builtins_productFits 8 = .ok (.lload_n 2, 1) := by decide +kernel
theorem d_Builtins_productFits_9 : decode b_Builtins_productFits 9 = .ok (.ldc2_w 151, 3) := by decide +kernel
theorem d_Builtins_productFits_12 : decode b_Builtins_productFits 12 = .ok (.lcmp, 1) := by decide +kernel
theorem d_Builtins_productFits_13 : decode b_Builtins_productFits 13 = .ok (.ifCond .ne 19, 3) := by decide +kernel
theorem d_Builtins_productFits_16 : decode b_Builtins_productFits 16 = .ok (.lload_n 0, 1) := by decide +kernel
theorem d_Builtins_productFits_17 : decode b_Builtins_productFits 17 = .ok (.ldc2_w 149, 3) := by decide +kernel
theorem d_Builtins_productFits_20 : decode b_Builtins_productFits 20 = .ok (.lcmp, 1) := by decide +kernel
theorem d_Builtins_productFits_21 : decode b_Builtins_productFits 21 = .ok (.ifCond .eq 7, 3) := by decide +kernel
theorem d_Builtins_productFits_24 : decode b_Builtins_productFits 24 = .ok (.iconst 1, 1) := by decide +kernel
theorem d_Builtins_productFits_25 : decode b_Builtins_productFits 25 = .ok (.goto 22, 3) := by decide +kernel
theorem d_Builtins_productFits_28 : decode b_Builtins_productFits 28 = .ok (.iconst 0, 1) := by decide +kernel
theorem d_Builtins_productFits_29 : decode b_Builtins_productFits 29 = .ok (.goto 18, 3) := by decide +kernel
theorem d_Builtins_productFits_32 : decode b_Builtins_productFits 32 = .ok (.lload_n 0, 1) := by decide +kernel
theorem d_Builtins_productFits_33 : decode b_Builtins_productFits 33 = .ok (.lload_n 2, 1) := by decide +kernel
theorem d_Builtins_productFits_34 : decode b_Builtins_productFits 34 = .ok (.lmul, 1) := by decide +kernel
theorem d_Builtins_productFits_35 : decode b_Builtins_productFits 35 = .ok (.lload_n 2, 1) := by decide +kernel
theorem d_Builtins_productFits_36 : decode b_Builtins_productFits 36 = .ok (.ldiv, 1) := by decide +kernel
theorem d_Builtins_productFits_37 : decode b_Builtins_productFits 37 = .ok (.lload_n 0, 1) := by decide +kernel
theorem d_Builtins_productFits_38 : decode b_Builtins_productFits 38 = .ok (.lcmp, 1) := by decide +kernel
theorem d_Builtins_productFits_39 : decode b_Builtins_productFits 39 = .ok (.ifCond .ne 7, 3) := by decide +kernel
theorem d_Builtins_productFits_42 : decode b_Builtins_productFits 42 = .ok (.iconst 1, 1) := by decide +kernel
theorem d_Builtins_productFits_43 : decode b_Builtins_productFits 43 = .ok (.goto 4, 3) := by decide +kernel
theorem d_Builtins_productFits_46 : decode b_Builtins_productFits 46 = .ok (.iconst 0, 1) := by decide +kernel
theorem d_Builtins_productFits_47 : decode b_Builtins_productFits 47 = .ok (.ireturn, 1) := by decide +kernel
def f_Builtins_productFits (p0 : Int) (p2 : Int) : Option (Int) :=
  if jl2 p2 0 = true then (if p2 = 0 then (
   some 1) else (
   if jl2 p2 (-1) = true then (if p2 = (-1) then (
    if jl2 p0 (-9223372036854775808) = true then (if p0 = (-9223372036854775808) then (
     some 0) else (
     some 1)) else none) else (
    if jdl (j_w64 (p0 * p2)) p2 = true then (
     if jl2 (Int.tdiv (j_w64 (p0 * p2)) p2) p0 = true then (if (Int.tdiv (j_w64 (p0 * p2)) p2) = p0 then (
      some 1) else (
      some 0)) else none) else none)) else none)) else none
set_option maxHeartbeats 4000000 in
set_option maxRecDepth 100000 in
theorem c_Builtins_productFits {l : Launch} {D : va_G} {cI cL cB : ClassId} {ad : Nat → Nat} {p0 : Int} {p2 : Int} {out : Int} (h : f_Builtins_productFits p0 p2 = some out) : CT jF0 true l D [(cI, .int), (cL, .long), (cB, .byte)] y_Builtins_productFits w_Builtins_productFits ({ frames := 0, cells := 0, slots := 0, locals := 0 } : Room) [.long (zL p0), .long (zL p2)] [] (some (.int (zI out))) [] 0 0 := by
  refine CT_of_J (cc := b_Builtins_productFits) (maxL := 4) (ret := (some .boolean)) jF0_k (plainFor_of_name (by decide)) rfl (Nat.le_of_ble_eq_true rfl) ?_
  intro K hKl hKD X E
  subst hKl; subst hKD
  unfold f_Builtins_productFits at h
  refine J_lload_n X d_Builtins_productFits_0 rfl 1 rfl ?_
  refine J_lconst (v := 0) X d_Builtins_productFits_1 (by decide) ?_
  refine J_lc_ne (tgt := 8) X d_Builtins_productFits_2 d_Builtins_productFits_3 (by decide) h (fun c1 h => ?_) (fun c1 h => ?_)
  · refine J_lload_n X d_Builtins_productFits_8 rfl 1 rfl ?_
    refine J_ldc2 (v := (-1)) (n := (-1)) X (j_m own_Builtins_productFits (by decide +kernel)) (by decide) d_Builtins_productFits_9 ?_
    refine J_lc_ne (tgt := 32) X d_Builtins_productFits_12 d_Builtins_productFits_13 (by decide) h (fun c2 h => ?_) (fun c2 h => ?_)
    · refine J_lload_n X d_Builtins_productFits_32 rfl 0 rfl ?_
      refine J_lload_n X d_Builtins_productFits_33 rfl 1 rfl ?_
      refine J_lmulw X d_Builtins_productFits_34 ?_
      refine J_lload_n X d_Builtins_productFits_35 rfl 1 rfl ?_
      obtain ⟨g3, h⟩ := wk_g h
      refine J_ldiv X g3 d_Builtins_productFits_36 ?_
      refine J_lload_n X d_Builtins_productFits_37 rfl 0 rfl ?_
      refine J_lc_ne (tgt := 46) X d_Builtins_productFits_38 d_Builtins_productFits_39 (by decide) h (fun c4 h => ?_) (fun c4 h => ?_)
      · refine J_iconst X d_Builtins_productFits_46 ?_
        cases h
        exact J_ret E ⟨_, rfl, j_bool (Or.inl rfl)⟩ d_Builtins_productFits_47 (Nat.le_refl _) (Nat.le_refl _) rfl
      · refine J_iconst X d_Builtins_productFits_42 ?_
        refine J_goto (tgt := 47) X d_Builtins_productFits_43 (by decide) ?_
        cases h
        exact J_ret E ⟨_, rfl, j_bool (Or.inr rfl)⟩ d_Builtins_productFits_47 (Nat.le_refl _) (Nat.le_refl _) rfl
    · refine J_lload_n X d_Builtins_productFits_16 rfl 0 rfl ?_
      refine J_ldc2 (v := (-9223372036854775808)) (n := (-9223372036854775808)) X (j_m own_Builtins_productFits (by decide +kernel)) (by decide) d_Builtins_productFits_17 ?_
      refine J_lc_eq (tgt := 28) X d_Builtins_productFits_20 d_Builtins_productFits_21 (by decide) h (fun c5 h => ?_) (fun c5 h => ?_)
      · refine J_iconst X d_Builtins_productFits_28 ?_
        refine J_goto (tgt := 47) X d_Builtins_productFits_29 (by decide) ?_
        cases h
        exact J_ret E ⟨_, rfl, j_bool (Or.inl rfl)⟩ d_Builtins_productFits_47 (Nat.le_refl _) (Nat.le_refl _) rfl
      · refine J_iconst X d_Builtins_productFits_24 ?_
        refine J_goto (tgt := 47) X d_Builtins_productFits_25 (by decide) ?_
        cases h
        exact J_ret E ⟨_, rfl, j_bool (Or.inr rfl)⟩ d_Builtins_productFits_47 (Nat.le_refl _) (Nat.le_refl _) rfl
  · refine J_iconst X d_Builtins_productFits_6 ?_
    cases h
    exact J_ret E ⟨_, rfl, j_bool (Or.inr rfl)⟩ d_Builtins_productFits_7 (Nat.le_refl _) (Nat.le_refl _) rfl

theorem d_Builtins_differenceFits_0 : decode b_Builtins_differenceFits 0 = .ok (.lload_n 2, 1) := by decide +kernel
theorem d_Builtins_differenceFits_1 : decode b_Builtins_differenceFits 1 = .ok (.lconst 0, 1) := by decide +kernel
theorem d_Builtins_differenceFits_2 : decode b_Builtins_differenceFits 2 = .ok (.lcmp, 1) := by decide +kernel
theorem d_Builtins_differenceFits_3 : decode b_Builtins_differenceFits 3 = .ok (.ifCond .lt 21, 3) := by decide +kernel
theorem d_Builtins_differenceFits_6 : decode b_Builtins_differenceFits 6 = .ok (.lload_n 0, 1) := by decide +kernel
theorem d_Builtins_differenceFits_7 : decode b_Builtins_differenceFits 7 = .ok (.ldc2_w 149, 3) := by decide +kernel
theorem d_Builtins_differenceFits_10 : decode b_Builtins_differenceFits 10 = .ok (.lload_n 2, 1) := by decide +kernel
theorem d_Builtins_differenceFits_11 : decode b_Builtins_differenceFits 11 = .ok (.ladd, 1) := by decide +kernel
theorem d_Builtins_differenceFits_12 : decode b_Builtins_differenceFits 12 = .ok (.lcmp, 1) := by decide +kernel
theorem d_Builtins_differenceFits_13 : decode b_Builtins_differenceFits 13 = .ok (.ifCond .lt 7, 3) := by decide +kernel
theorem d_Builtins_differenceFits_16 : decode b_Builtins_differenceFits 16 = .ok (.iconst 1, 1) := by decide +kernel
theorem d_Builtins_differenceFits_17 : decode b_Builtins_differenceFits 17 = .ok (.goto 22, 3) := by decide +kernel
theorem d_Builtins_differenceFits_20 : decode b_Builtins_differenceFits 20 = .ok (.iconst 0, 1) := by decide +kernel
theorem d_Builtins_differenceFits_21 : decode b_Builtins_differenceFits 21 = .ok (.goto 18, 3) := by decide +kernel
theorem d_Builtins_differenceFits_24 : decode b_Builtins_differenceFits 24 = .ok (.lload_n 0, 1) := by decide +kernel
theorem d_Builtins_differenceFits_25 : decode b_Builtins_differenceFits 25 = .ok (.ldc2_w 147, 3) := by decide +kernel
theorem d_Builtins_differenceFits_28 : decode b_Builtins_differenceFits 28 = .ok (.lload_n 2, 1) := by decide +kernel
theorem d_Builtins_differenceFits_29 : decode b_Builtins_differenceFits 29 = .ok (.ladd, 1) := by decide +kernel
theorem d_Builtins_differenceFits_30 : decode b_Builtins_differenceFits 30 = .ok (.lcmp, 1) := by decide +kernel
theorem d_Builtins_differenceFits_31 : decode b_Builtins_differenceFits 31 = .ok (.ifCond .gt 7, 3) := by decide +kernel
theorem d_Builtins_differenceFits_34 : decode b_Builtins_differenceFits 34 = .ok (.iconst 1, 1) := by decide +kernel
theorem d_Builtins_differenceFits_35 : decode b_Builtins_differenceFits 35 = .ok (.goto 4, 3) := by decide +kernel
theorem d_Builtins_differenceFits_38 : decode b_Builtins_differenceFits 38 = .ok (.iconst 0, 1) := by decide +kernel
theorem d_Builtins_differenceFits_39 : decode b_Builtins_differenceFits 39 = .ok (.ireturn, 1) := by decide +kernel
def f_Builtins_differenceFits (p0 : Int) (p2 : Int) : Option (Int) :=
  if jl2 p2 0 = true then (if p2 < 0 then (
   if jl2 p0 (9223372036854775807 + p2) = true then (if (9223372036854775807 + p2) < p0 then (
    some 0) else (
    some 1)) else none) else (
   if jl2 p0 ((-9223372036854775808) + p2) = true then (if p0 < ((-9223372036854775808) + p2) then (
    some 0) else (
    some 1)) else none)) else none
set_option maxHeartbeats 4000000 in
set_option maxRecDepth 100000 in
theorem c_Builtins_differenceFits {l : Launch} {D : va_G} {cI cL cB : ClassId} {ad : Nat → Nat} {p0 : Int} {p2 : Int} {out : Int} (h : f_Builtins_differenceFits p0 p2 = some out) : CT jF0 true l D [(cI, .int), (cL, .long), (cB, .byte)] y_Builtins_differenceFits w_Builtins_differenceFits ({ frames := 0, cells := 0, slots := 0, locals := 0 } : Room) [.long (zL p0), .long (zL p2)] [] (some (.int (zI out))) [] 0 0 := by
  refine CT_of_J (cc := b_Builtins_differenceFits) (maxL := 4) (ret := (some .boolean)) jF0_k (plainFor_of_name (by decide)) rfl (Nat.le_of_ble_eq_true rfl) ?_
  intro K hKl hKD X E
  subst hKl; subst hKD
  unfold f_Builtins_differenceFits at h
  refine J_lload_n X d_Builtins_differenceFits_0 rfl 1 rfl ?_
  refine J_lconst (v := 0) X d_Builtins_differenceFits_1 (by decide) ?_
  refine J_lc_lt (tgt := 24) X d_Builtins_differenceFits_2 d_Builtins_differenceFits_3 (by decide) h (fun c1 h => ?_) (fun c1 h => ?_)
  · refine J_lload_n X d_Builtins_differenceFits_24 rfl 0 rfl ?_
    refine J_ldc2 (v := 9223372036854775807) (n := 9223372036854775807) X (j_m own_Builtins_differenceFits (by decide +kernel)) (by decide) d_Builtins_differenceFits_25 ?_
    refine J_lload_n X d_Builtins_differenceFits_28 rfl 1 rfl ?_
    refine J_ladd X d_Builtins_differenceFits_29 ?_
    refine J_lc_gt (tgt := 38) X d_Builtins_differenceFits_30 d_Builtins_differenceFits_31 (by decide) h (fun c2 h => ?_) (fun c2 h => ?_)
    · refine J_iconst X d_Builtins_differenceFits_38 ?_
      cases h
      exact J_ret E ⟨_, rfl, j_bool (Or.inl rfl)⟩ d_Builtins_differenceFits_39 (Nat.le_refl _) (Nat.le_refl _) rfl
    · refine J_iconst X d_Builtins_differenceFits_34 ?_
      refine J_goto (tgt := 39) X d_Builtins_differenceFits_35 (by decide) ?_
      cases h
      exact J_ret E ⟨_, rfl, j_bool (Or.inr rfl)⟩ d_Builtins_differenceFits_39 (Nat.le_refl _) (Nat.le_refl _) rfl
  · refine J_lload_n X d_Builtins_differenceFits_6 rfl 0 rfl ?_
    refine J_ldc2 (v := (-9223372036854775808)) (n := (-9223372036854775808)) X (j_m own_Builtins_differenceFits (by decide +kernel)) (by decide) d_Builtins_differenceFits_7 ?_
    refine J_lload_n X d_Builtins_differenceFits_10 rfl 1 rfl ?_
    refine J_ladd X d_Builtins_differenceFits_11 ?_
    refine J_lc_lt (tgt := 20) X d_Builtins_differenceFits_12 d_Builtins_differenceFits_13 (by decide) h (fun c3 h => ?_) (fun c3 h => ?_)
    · refine J_iconst X d_Builtins_differenceFits_20 ?_
      refine J_goto (tgt := 39) X d_Builtins_differenceFits_21 (by decide) ?_
      cases h
      exact J_ret E ⟨_, rfl, j_bool (Or.inl rfl)⟩ d_Builtins_differenceFits_39 (Nat.le_refl _) (Nat.le_refl _) rfl
    · refine J_iconst X d_Builtins_differenceFits_16 ?_
      refine J_goto (tgt := 39) X d_Builtins_differenceFits_17 (by decide) ?_
      cases h
      exact J_ret E ⟨_, rfl, j_bool (Or.inr rfl)⟩ d_Builtins_differenceFits_39 (Nat.le_refl _) (Nat.le_refl _) rfl

theorem d_Builtins_onIntegers_0 : decode b_Builtins_onIntegers 0 = .ok (.iload_n 1, 1) := by decide +kernel
theorem d_Builtins_onIntegers_1 : decode b_Builtins_onIntegers 1 = .ok (.tableswitch 266 0 8 #[51, 76, 101, 126, 153, 178, 203, 226, 246], 51) := by decide +kernel
theorem d_Builtins_onIntegers_52 : decode b_Builtins_onIntegers 52 = .ok (.lload_n 2, 1) := by decide +kernel
theorem d_Builtins_onIntegers_53 : decode b_Builtins_onIntegers 53 = .ok (.lload 4, 2) := by decide +kernel
theorem d_Builtins_onIntegers_55 : decode b_Builtins_onIntegers 55 = .ok (.invokestatic 117, 3) := by decide +kernel
theorem d_Builtins_onIntegers_58 : decode b_Builtins_onIntegers 58 = .ok (.ifCond .eq 17, 3) := by decide +kernel
theorem d_Builtins_onIntegers_61 : decode b_Builtins_onIntegers 61 = .ok (.aload_n 0, 1) := by decide +kernel
theorem d_Builtins_onIntegers_62 : decode b_Builtins_onIntegers 62 = .ok (.getfield 19, 3) := by decide +kernel
theorem d_Builtins_onIntegers_65 : decode b_Builtins_onIntegers 65 = .ok (.lload_n 2, 1) := by decide +kernel
theorem d_Builtins_onIntegers_66 : decode b_Builtins_onIntegers 66 = .ok (.lload 4, 2) := by decide +kernel
theorem d_Builtins_onIntegers_68 : decode b_Builtins_onIntegers 68 = .ok (.ladd, 1) := by decide +kernel
theorem d_Builtins_onIntegers_69 : decode b_Builtins_onIntegers 69 = .ok (.invokevirtual 121, 3) := by decide +kernel
theorem d_Builtins_onIntegers_72 : decode b_Builtins_onIntegers 72 = .ok (.goto 4, 3) := by decide +kernel
theorem d_Builtins_onIntegers_75 : decode b_Builtins_onIntegers 75 = .ok (.iconst (-1), 1) := by decide +kernel
theorem d_Builtins_onIntegers_76 : decode b_Builtins_onIntegers 76 = .ok (.ireturn, 1) := by decide +kernel
theorem d_Builtins_onIntegers_77 : decode b_Builtins_onIntegers 77 = .ok (.lload_n 2, 1) := by decide +kernel
theorem d_Builtins_onIntegers_78 : decode b_Builtins_onIntegers 78 = .ok (.lload 4, 2) := by decide +kernel
theorem d_Builtins_onIntegers_80 : decode b_Builtins_onIntegers 80 = .ok (.invokestatic 125, 3) := by decide +kernel
theorem d_Builtins_onIntegers_83 : decode b_Builtins_onIntegers 83 = .ok (.ifCond .eq 17, 3) := by decide +kernel
theorem d_Builtins_onIntegers_86 : decode b_Builtins_onIntegers 86 = .ok (.aload_n 0, 1) := by decide +kernel
theorem d_Builtins_onIntegers_87 : decode b_Builtins_onIntegers 87 = .ok (.getfield 19, 3) := by decide +kernel
theorem d_Builtins_onIntegers_90 : decode b_Builtins_onIntegers 90 = .ok (.lload_n 2, 1) := by decide +kernel
theorem d_Builtins_onIntegers_91 : decode b_Builtins_onIntegers 91 = .ok (.lload 4, 2) := by decide +kernel
theorem d_Builtins_onIntegers_93 : decode b_Builtins_onIntegers 93 = .ok (.lsub, 1) := by decide +kernel
theorem d_Builtins_onIntegers_94 : decode b_Builtins_onIntegers 94 = .ok (.invokevirtual 121, 3) := by decide +kernel
theorem d_Builtins_onIntegers_97 : decode b_Builtins_onIntegers 97 = .ok (.goto 4, 3) := by decide +kernel
theorem d_Builtins_onIntegers_100 : decode b_Builtins_onIntegers 100 = .ok (.iconst (-1), 1) := by decide +kernel
theorem d_Builtins_onIntegers_101 : decode b_Builtins_onIntegers 101 = .ok (.ireturn, 1) := by decide +kernel
theorem d_Builtins_onIntegers_102 : decode b_Builtins_onIntegers 102 = .ok (.lload_n 2, 1) := by decide +kernel
theorem d_Builtins_onIntegers_103 : decode b_Builtins_onIntegers 103 = .ok (.lload 4, 2) := by decide +kernel
theorem d_Builtins_onIntegers_105 : decode b_Builtins_onIntegers 105 = .ok (.invokestatic 128, 3) := by decide +kernel
theorem d_Builtins_onIntegers_108 : decode b_Builtins_onIntegers 108 = .ok (.ifCond .eq 17, 3) := by decide +kernel
theorem d_Builtins_onIntegers_111 : decode b_Builtins_onIntegers 111 = .ok (.aload_n 0, 1) := by decide +kernel
theorem d_Builtins_onIntegers_112 : decode b_Builtins_onIntegers 112 = .ok (.getfield 19, 3) := by decide +kernel
theorem d_Builtins_onIntegers_115 : decode b_Builtins_onIntegers 115 = .ok (.lload_n 2, 1) := by decide +kernel
theorem d_Builtins_onIntegers_116 : decode b_Builtins_onIntegers 116 = .ok (.lload 4, 2) := by decide +kernel
theorem d_Builtins_onIntegers_118 : decode b_Builtins_onIntegers 118 = .ok (.lmul, 1) := by decide +kernel
theorem d_Builtins_onIntegers_119 : decode b_Builtins_onIntegers 119 = .ok (.invokevirtual 121, 3) := by decide +kernel
theorem d_Builtins_onIntegers_122 : decode b_Builtins_onIntegers 122 = .ok (.goto 4, 3) := by decide +kernel
theorem d_Builtins_onIntegers_125 : decode b_Builtins_onIntegers 125 = .ok (.iconst (-1), 1) := by decide +kernel
theorem d_Builtins_onIntegers_126 : decode b_Builtins_onIntegers 126 = .ok (.ireturn, 1) := by decide +kernel
theorem d_Builtins_onIntegers_127 : decode b_Builtins_onIntegers 127 = .ok (.lload_n 2, 1) := by decide +kernel
theorem d_Builtins_onIntegers_128 : decode b_Builtins_onIntegers 128 = .ok (.lload 4, 2) := by decide +kernel
theorem d_Builtins_onIntegers_130 : decode b_Builtins_onIntegers 130 = .ok (.invokestatic 131, 3) := by decide +kernel
theorem d_Builtins_onIntegers_133 : decode b_Builtins_onIntegers 133 = .ok (.ifCond .eq 19, 3) := by decide +kernel
theorem d_Builtins_onIntegers_136 : decode b_Builtins_onIntegers 136 = .ok (.aload_n 0, 1) := by decide +kernel
theorem d_Builtins_onIntegers_137 : decode b_Builtins_onIntegers 137 = .ok (.getfield 19, 3) := by decide +kernel
theorem d_Builtins_onIntegers_140 : decode b_Builtins_onIntegers 140 = .ok (.lload_n 2, 1) := by decide +kernel
theorem d_Builtins_onIntegers_141 : decode b_Builtins_onIntegers 141 = .ok (.lload 4, 2) := by decide +kernel
theorem d_Builtins_onIntegers_143 : decode b_Builtins_onIntegers 143 = .ok (.invokestatic 134, 3) := by decide +kernel
theorem d_Builtins_onIntegers_146 : decode b_Builtins_onIntegers 146 = .ok (.invokevirtual 121, 3) := by decide +kernel
theorem d_Builtins_onIntegers_149 : decode b_Builtins_onIntegers 149 = .ok (.goto 4, 3) := by decide +kernel
theorem d_Builtins_onIntegers_152 : decode b_Builtins_onIntegers 152 = .ok (.iconst (-1), 1) := by decide +kernel
theorem d_Builtins_onIntegers_153 : decode b_Builtins_onIntegers 153 = .ok (.ireturn, 1) := by decide +kernel
theorem d_Builtins_onIntegers_154 : decode b_Builtins_onIntegers 154 = .ok (.lload 4, 2) := by decide +kernel
theorem d_Builtins_onIntegers_156 : decode b_Builtins_onIntegers 156 = .ok (.lconst 0, 1) := by decide +kernel
theorem d_Builtins_onIntegers_157 : decode b_Builtins_onIntegers 157 = .ok (.lcmp, 1) := by decide +kernel
theorem d_Builtins_onIntegers_158 : decode b_Builtins_onIntegers 158 = .ok (.ifCond .eq 19, 3) := by decide +kernel
theorem d_Builtins_onIntegers_161 : decode b_Builtins_onIntegers 161 = .ok (.aload_n 0, 1) := by decide +kernel
theorem d_Builtins_onIntegers_162 : decode b_Builtins_onIntegers 162 = .ok (.getfield 19, 3) := by decide +kernel
theorem d_Builtins_onIntegers_165 : decode b_Builtins_onIntegers 165 = .ok (.lload_n 2, 1) := by decide +kernel
theorem d_Builtins_onIntegers_166 : decode b_Builtins_onIntegers 166 = .ok (.lload 4, 2) := by decide +kernel
theorem d_Builtins_onIntegers_168 : decode b_Builtins_onIntegers 168 = .ok (.invokestatic 138, 3) := by decide +kernel
theorem d_Builtins_onIntegers_171 : decode b_Builtins_onIntegers 171 = .ok (.invokevirtual 121, 3) := by decide +kernel
theorem d_Builtins_onIntegers_174 : decode b_Builtins_onIntegers 174 = .ok (.goto 4, 3) := by decide +kernel
theorem d_Builtins_onIntegers_177 : decode b_Builtins_onIntegers 177 = .ok (.iconst (-1), 1) := by decide +kernel
theorem d_Builtins_onIntegers_178 : decode b_Builtins_onIntegers 178 = .ok (.ireturn, 1) := by decide +kernel
theorem d_Builtins_onIntegers_179 : decode b_Builtins_onIntegers 179 = .ok (.lload_n 2, 1) := by decide +kernel
theorem d_Builtins_onIntegers_180 : decode b_Builtins_onIntegers 180 = .ok (.lload 4, 2) := by decide +kernel
theorem d_Builtins_onIntegers_182 : decode b_Builtins_onIntegers 182 = .ok (.invokestatic 131, 3) := by decide +kernel
theorem d_Builtins_onIntegers_185 : decode b_Builtins_onIntegers 185 = .ok (.ifCond .eq 17, 3) := by decide +kernel
theorem d_Builtins_onIntegers_188 : decode b_Builtins_onIntegers 188 = .ok (.aload_n 0, 1) := by decide +kernel
theorem d_Builtins_onIntegers_189 : decode b_Builtins_onIntegers 189 = .ok (.getfield 19, 3) := by decide +kernel
theorem d_Builtins_onIntegers_192 : decode b_Builtins_onIntegers 192 = .ok (.lload_n 2, 1) := by decide +kernel
theorem d_Builtins_onIntegers_193 : decode b_Builtins_onIntegers 193 = .ok (.lload 4, 2) := by decide +kernel
theorem d_Builtins_onIntegers_195 : decode b_Builtins_onIntegers 195 = .ok (.ldiv, 1) := by decide +kernel
theorem d_Builtins_onIntegers_196 : decode b_Builtins_onIntegers 196 = .ok (.invokevirtual 121, 3) := by decide +kernel
theorem d_Builtins_onIntegers_199 : decode b_Builtins_onIntegers 199 = .ok (.goto 4, 3) := by decide +kernel
theorem d_Builtins_onIntegers_202 : decode b_Builtins_onIntegers 202 = .ok (.iconst (-1), 1) := by decide +kernel
theorem d_Builtins_onIntegers_203 : decode b_Builtins_onIntegers 203 = .ok (.ireturn, 1) := by decide +kernel
theorem d_Builtins_onIntegers_204 : decode b_Builtins_onIntegers 204 = .ok (.lload 4, 2) := by decide +kernel
theorem d_Builtins_onIntegers_206 : decode b_Builtins_onIntegers 206 = .ok (.lconst 0, 1) := by decide +kernel
theorem d_Builtins_onIntegers_207 : decode b_Builtins_onIntegers 207 = .ok (.lcmp, 1) := by decide +kernel
theorem d_Builtins_onIntegers_208 : decode b_Builtins_onIntegers 208 = .ok (.ifCond .eq 17, 3) := by decide +kernel
theorem d_Builtins_onIntegers_211 : decode b_Builtins_onIntegers 211 = .ok (.aload_n 0, 1) := by decide +kernel
theorem d_Builtins_onIntegers_212 : decode b_Builtins_onIntegers 212 = .ok (.getfield 19, 3) := by decide +kernel
theorem d_Builtins_onIntegers_215 : decode b_Builtins_onIntegers 215 = .ok (.lload_n 2, 1) := by decide +kernel
theorem d_Builtins_onIntegers_216 : decode b_Builtins_onIntegers 216 = .ok (.lload 4, 2) := by decide +kernel
theorem d_Builtins_onIntegers_218 : decode b_Builtins_onIntegers 218 = .ok (.lrem, 1) := by decide +kernel
theorem d_Builtins_onIntegers_219 : decode b_Builtins_onIntegers 219 = .ok (.invokevirtual 121, 3) := by decide +kernel
theorem d_Builtins_onIntegers_222 : decode b_Builtins_onIntegers 222 = .ok (.goto 4, 3) := by decide +kernel
theorem d_Builtins_onIntegers_225 : decode b_Builtins_onIntegers 225 = .ok (.iconst (-1), 1) := by decide +kernel
theorem d_Builtins_onIntegers_226 : decode b_Builtins_onIntegers 226 = .ok (.ireturn, 1) := by decide +kernel
theorem d_Builtins_onIntegers_227 : decode b_Builtins_onIntegers 227 = .ok (.aload_n 0, 1) := by decide +kernel
theorem d_Builtins_onIntegers_228 : decode b_Builtins_onIntegers 228 = .ok (.getfield 19, 3) := by decide +kernel
theorem d_Builtins_onIntegers_231 : decode b_Builtins_onIntegers 231 = .ok (.lload_n 2, 1) := by decide +kernel
theorem d_Builtins_onIntegers_232 : decode b_Builtins_onIntegers 232 = .ok (.lload 4, 2) := by decide +kernel
theorem d_Builtins_onIntegers_234 : decode b_Builtins_onIntegers 234 = .ok (.lcmp, 1) := by decide +kernel
theorem d_Builtins_onIntegers_235 : decode b_Builtins_onIntegers 235 = .ok (.ifCond .ne 7, 3) := by decide +kernel
theorem d_Builtins_onIntegers_238 : decode b_Builtins_onIntegers 238 = .ok (.iconst 1, 1) := by decide +kernel
theorem d_Builtins_onIntegers_239 : decode b_Builtins_onIntegers 239 = .ok (.goto 4, 3) := by decide +kernel
theorem d_Builtins_onIntegers_242 : decode b_Builtins_onIntegers 242 = .ok (.iconst 0, 1) := by decide +kernel
theorem d_Builtins_onIntegers_243 : decode b_Builtins_onIntegers 243 = .ok (.invokevirtual 141, 3) := by decide +kernel
theorem d_Builtins_onIntegers_246 : decode b_Builtins_onIntegers 246 = .ok (.ireturn, 1) := by decide +kernel
theorem d_Builtins_onIntegers_247 : decode b_Builtins_onIntegers 247 = .ok (.aload_n 0, 1) := by decide +kernel
theorem d_Builtins_onIntegers_248 : decode b_Builtins_onIntegers 248 = .ok (.getfield 19, 3) := by decide +kernel
theorem d_Builtins_onIntegers_251 : decode b_Builtins_onIntegers 251 = .ok (.lload_n 2, 1) := by decide +kernel
theorem d_Builtins_onIntegers_252 : decode b_Builtins_onIntegers 252 = .ok (.lload 4, 2) := by decide +kernel
theorem d_Builtins_onIntegers_254 : decode b_Builtins_onIntegers 254 = .ok (.lcmp, 1) := by decide +kernel
theorem d_Builtins_onIntegers_255 : decode b_Builtins_onIntegers 255 = .ok (.ifCond .ge 7, 3) := by decide +kernel
theorem d_Builtins_onIntegers_258 : decode b_Builtins_onIntegers 258 = .ok (.iconst 1, 1) := by decide +kernel
theorem d_Builtins_onIntegers_259 : decode b_Builtins_onIntegers 259 = .ok (.goto 4, 3) := by decide +kernel
theorem d_Builtins_onIntegers_262 : decode b_Builtins_onIntegers 262 = .ok (.iconst 0, 1) := by decide +kernel
theorem d_Builtins_onIntegers_263 : decode b_Builtins_onIntegers 263 = .ok (.invokevirtual 141, 3) := by decide +kernel
theorem d_Builtins_onIntegers_266 : decode b_Builtins_onIntegers 266 = .ok (.ireturn, 1) := by decide +kernel
theorem d_Builtins_onIntegers_267 : decode b_Builtins_onIntegers 267 = .ok (.aload_n 0, 1) := by decide +kernel
theorem d_Builtins_onIntegers_268 : decode b_Builtins_onIntegers 268 = .ok (.getfield 19, 3) := by decide +kernel
theorem d_Builtins_onIntegers_271 : decode b_Builtins_onIntegers 271 = .ok (.lload_n 2, 1) := by decide +kernel
theorem d_Builtins_onIntegers_272 : decode b_Builtins_onIntegers 272 = .ok (.lload 4, 2) := by decide +kernel
theorem d_Builtins_onIntegers_274 : decode b_Builtins_onIntegers 274 = .ok (.lcmp, 1) := by decide +kernel
theorem d_Builtins_onIntegers_275 : decode b_Builtins_onIntegers 275 = .ok (.ifCond .gt 7, 3) := by decide +kernel
theorem d_Builtins_onIntegers_278 : decode b_Builtins_onIntegers 278 = .ok (.iconst 1, 1) := by decide +kernel
theorem d_Builtins_onIntegers_279 : decode b_Builtins_onIntegers 279 = .ok (.goto 4, 3) := by decide +kernel
theorem d_Builtins_onIntegers_282 : decode b_Builtins_onIntegers 282 = .ok (.iconst 0, 1) := by decide +kernel
theorem d_Builtins_onIntegers_283 : decode b_Builtins_onIntegers 283 = .ok (.invokevirtual 141, 3) := by decide +kernel
theorem d_Builtins_onIntegers_286 : decode b_Builtins_onIntegers 286 = .ok (.ireturn, 1) := by decide +kernel
def f_Builtins_onIntegers (V_top : Int) (V_kinds : Int → Int) (V_numbers : Int → Int) (V_parts : Int → Int) (V_links : Int → Int) (p1 : Int) (p2 : Int) (p4 : Int) : Option (Int × Int × (Int → Int) × (Int → Int) × (Int → Int) × (Int → Int)) :=
  if rI p1 = true then (
   if p1 = 0 then (
    Option.bind (f_Builtins_sumFits p2 p4) (fun r3 =>
     if rI r3 = true then (if r3 = 0 then (
      some ((-1), V_top, V_kinds, V_numbers, V_parts, V_links)) else (
      ob6 (f_Values_ofInteger V_top V_kinds V_numbers V_parts V_links (p2 + p4)) (fun r6 V_top_7 V_kinds_8 V_numbers_9 V_parts_10 V_links_11 =>
       some (r6, V_top_7, V_kinds_8, V_numbers_9, V_parts_10, V_links_11)))) else none)) else (
    if p1 = 1 then (
     Option.bind (f_Builtins_differenceFits p2 p4) (fun r14 =>
      if rI r14 = true then (if r14 = 0 then (
       some ((-1), V_top, V_kinds, V_numbers, V_parts, V_links)) else (
       ob6 (f_Values_ofInteger V_top V_kinds V_numbers V_parts V_links (p2 - p4)) (fun r17 V_top_18 V_kinds_19 V_numbers_20 V_parts_21 V_links_22 =>
        some (r17, V_top_18, V_kinds_19, V_numbers_20, V_parts_21, V_links_22)))) else none)) else (
     if p1 = 2 then (
      Option.bind (f_Builtins_productFits p2 p4) (fun r25 =>
       if rI r25 = true then (if r25 = 0 then (
        some ((-1), V_top, V_kinds, V_numbers, V_parts, V_links)) else (
        ob6 (f_Values_ofInteger V_top V_kinds V_numbers V_parts V_links (p2 * p4)) (fun r28 V_top_29 V_kinds_30 V_numbers_31 V_parts_32 V_links_33 =>
         some (r28, V_top_29, V_kinds_30, V_numbers_31, V_parts_32, V_links_33)))) else none)) else (
      if p1 = 3 then (
       Option.bind (f_Builtins_quotientFits p2 p4) (fun r36 =>
        if rI r36 = true then (if r36 = 0 then (
         some ((-1), V_top, V_kinds, V_numbers, V_parts, V_links)) else (
         Option.bind (f_Math_floorDiv p2 p4) (fun r39 =>
          ob6 (f_Values_ofInteger V_top V_kinds V_numbers V_parts V_links r39) (fun r41 V_top_42 V_kinds_43 V_numbers_44 V_parts_45 V_links_46 =>
           some (r41, V_top_42, V_kinds_43, V_numbers_44, V_parts_45, V_links_46))))) else none)) else (
       if p1 = 4 then (
        if jl2 p4 0 = true then (if p4 = 0 then (
         some ((-1), V_top, V_kinds, V_numbers, V_parts, V_links)) else (
         Option.bind (f_Math_floorMod p2 p4) (fun r50 =>
          ob6 (f_Values_ofInteger V_top V_kinds V_numbers V_parts V_links r50) (fun r52 V_top_53 V_kinds_54 V_numbers_55 V_parts_56 V_links_57 =>
           some (r52, V_top_53, V_kinds_54, V_numbers_55, V_parts_56, V_links_57))))) else none) else (
        if p1 = 5 then (
         Option.bind (f_Builtins_quotientFits p2 p4) (fun r60 =>
          if rI r60 = true then (if r60 = 0 then (
           some ((-1), V_top, V_kinds, V_numbers, V_parts, V_links)) else (
           if jdl p2 p4 = true then (
            ob6 (f_Values_ofInteger V_top V_kinds V_numbers V_parts V_links (Int.tdiv p2 p4)) (fun r64 V_top_65 V_kinds_66 V_numbers_67 V_parts_68 V_links_69 =>
             some (r64, V_top_65, V_kinds_66, V_numbers_67, V_parts_68, V_links_69))) else none)) else none)) else (
         if p1 = 6 then (
          if jl2 p4 0 = true then (if p4 = 0 then (
           some ((-1), V_top, V_kinds, V_numbers, V_parts, V_links)) else (
           if jdl p2 p4 = true then (
            ob6 (f_Values_ofInteger V_top V_kinds V_numbers V_parts V_links (p2 - (Int.tdiv p2 p4) * p4)) (fun r74 V_top_75 V_kinds_76 V_numbers_77 V_parts_78 V_links_79 =>
             some (r74, V_top_75, V_kinds_76, V_numbers_77, V_parts_78, V_links_79))) else none)) else none) else (
          if p1 = 7 then (
           if jl2 p2 p4 = true then (if p2 = p4 then (
            ob6 (f_Values_ofTruth V_top V_kinds V_numbers V_parts V_links 1) (fun r90 V_top_91 V_kinds_92 V_numbers_93 V_parts_94 V_links_95 =>
             some (r90, V_top_91, V_kinds_92, V_numbers_93, V_parts_94, V_links_95))) else (
            ob6 (f_Values_ofTruth V_top V_kinds V_numbers V_parts V_links 0) (fun r83 V_top_84 V_kinds_85 V_numbers_86 V_parts_87 V_links_88 =>
             some (r83, V_top_84, V_kinds_85, V_numbers_86, V_parts_87, V_links_88)))) else none) else (
           if p1 = 8 then (
            if jl2 p2 p4 = true then (if p4 ≤ p2 then (
             ob6 (f_Values_ofTruth V_top V_kinds V_numbers V_parts V_links 0) (fun r99 V_top_100 V_kinds_101 V_numbers_102 V_parts_103 V_links_104 =>
              some (r99, V_top_100, V_kinds_101, V_numbers_102, V_parts_103, V_links_104))) else (
             ob6 (f_Values_ofTruth V_top V_kinds V_numbers V_parts V_links 1) (fun r106 V_top_107 V_kinds_108 V_numbers_109 V_parts_110 V_links_111 =>
              some (r106, V_top_107, V_kinds_108, V_numbers_109, V_parts_110, V_links_111)))) else none) else (
            if jl2 p2 p4 = true then (if p4 < p2 then (
             ob6 (f_Values_ofTruth V_top V_kinds V_numbers V_parts V_links 0) (fun r114 V_top_115 V_kinds_116 V_numbers_117 V_parts_118 V_links_119 =>
              some (r114, V_top_115, V_kinds_116, V_numbers_117, V_parts_118, V_links_119))) else (
             ob6 (f_Values_ofTruth V_top V_kinds V_numbers V_parts V_links 1) (fun r121 V_top_122 V_kinds_123 V_numbers_124 V_parts_125 V_links_126 =>
              some (r121, V_top_122, V_kinds_123, V_numbers_124, V_parts_125, V_links_126)))) else none)))))))))) else none
set_option maxHeartbeats 4000000 in
set_option maxRecDepth 100000 in
theorem c_Builtins_onIntegers {l : Launch} {D : va_G} {cI cL cB : ClassId} {ad : Nat → Nat} {V_top : Int} {V_kinds : Int → Int} {V_numbers : Int → Int} {V_parts : Int → Int} {V_links : Int → Int} {B_ready : Int} {p1 : Int} {p2 : Int} {p4 : Int} {out : Int × Int × (Int → Int) × (Int → Int) × (Int → Int) × (Int → Int)} (h : f_Builtins_onIntegers V_top V_kinds V_numbers V_parts V_links p1 p2 p4 = some out) : CT jF0 false l D [(cI, .int), (cL, .long), (cB, .byte)] y_Builtins_onIntegers w_Builtins_onIntegers ({ frames := 3, cells := 0, slots := 0, locals := 74 } : Room) [.ref (ad 31), .int (zI p1), .long (zL p2), .long (zL p4)] [(ad 9, .inr (4, [.ref (ad 14), .ref (ad 16), .ref (ad 10), .ref (ad 11), .ref (ad 12), .ref (ad 13), .int (zI V_top)])), (ad 10, .inl (cI, 3201, .inl (zA V_kinds))), (ad 11, .inl (cL, 3201, .inr (.inl (zB V_numbers)))), (ad 12, .inl (cI, 3201, .inl (zA V_parts))), (ad 13, .inl (cI, 3201, .inl (zA V_links))), (ad 31, .inr (9, [.ref (ad 9), .ref (ad 23), .ref (ad 32), .int (zI B_ready)]))] (some (.int (zI out.1))) [(ad 9, .inr (4, [.ref (ad 14), .ref (ad 16), .ref (ad 10), .ref (ad 11), .ref (ad 12), .ref (ad 13), .int (zI (out.2.1))])), (ad 10, .inl (cI, 3201, .inl (zA (out.2.2.1)))), (ad 11, .inl (cL, 3201, .inr (.inl (zB (out.2.2.2.1))))), (ad 12, .inl (cI, 3201, .inl (zA (out.2.2.2.2.1)))), (ad 13, .inl (cI, 3201, .inl (zA (out.2.2.2.2.2)))), (ad 31, .inr (9, [.ref (ad 9), .ref (ad 23), .ref (ad 32), .int (zI B_ready)]))] 0 0 := by
  refine CT_of_J (cc := b_Builtins_onIntegers) (maxL := 6) (ret := (some .int)) jF0_k (plainFor_of_name (by decide)) rfl (Nat.le_of_ble_eq_true rfl) ?_
  intro K hKl hKD X E
  subst hKl; subst hKD
  unfold f_Builtins_onIntegers at h
  refine J_iload_n X d_Builtins_onIntegers_0 rfl 1 rfl ?_
  obtain ⟨g1, h⟩ := wk_g h
  rcases wk_c h with ⟨c2, h⟩ | ⟨c2, h⟩
  · refine J_tsIn (tgt := 52) X 0 c2 g1 d_Builtins_onIntegers_1 (by decide) (by decide) rfl (by decide) ?_
    refine J_lload_n X d_Builtins_onIntegers_52 rfl 2 rfl ?_
    refine J_lload X d_Builtins_onIntegers_53 3 rfl ?_
    obtain ⟨r3, q4, h⟩ := wk_b h
    refine J_afterP (jrunS X (c_Builtins_sumFits (ad := ad) q4) jF0_k (fun _ _ _ _ => trivial) (jgS own_Builtins_onIntegers (by decide +kernel)) rfl rfl rfl pd_Builtins_sumFits (by decide) [] rfl (by decide) rfl rfl (Nat.le_of_ble_eq_true rfl) d_Builtins_onIntegers_55 (by decide)) ?_
    refine J_if_eq (tgt := 75) X d_Builtins_onIntegers_58 (by decide) h (fun c5 h => ?_) (fun c5 h => ?_)
    · refine J_iconst X d_Builtins_onIntegers_75 ?_
      cases h
      exact J_ret E ⟨_, rfl, rfl⟩ d_Builtins_onIntegers_76 (Nat.le_refl _) (Nat.le_refl _) rfl
    · refine J_aload_n X d_Builtins_onIntegers_61 rfl 0 rfl ?_
      refine J_get X (j_in in_Builtins) 5 rfl rfl 0 (by decide) (j_m own_Builtins_onIntegers (by decide +kernel)) rfl d_Builtins_onIntegers_62 ?_
      refine J_lload_n X d_Builtins_onIntegers_65 rfl 2 rfl ?_
      refine J_lload X d_Builtins_onIntegers_66 3 rfl ?_
      refine J_ladd X d_Builtins_onIntegers_68 ?_
      obtain ⟨r6, V_top_7, V_kinds_8, V_numbers_9, V_parts_10, V_links_11, q12, h⟩ := wk_b6 h
      refine J_afterI0 (ws' := [(ad 9, .inr (4, [.ref (ad 14), .ref (ad 16), .ref (ad 10), .ref (ad 11), .ref (ad 12), .ref (ad 13), .int (zI V_top_7)])), (ad 10, .inl (cI, 3201, .inl (zA V_kinds_8))), (ad 11, .inl (cL, 3201, .inr (.inl (zB V_numbers_9)))), (ad 12, .inl (cI, 3201, .inl (zA V_parts_10))), (ad 13, .inl (cI, 3201, .inl (zA V_links_11))), (ad 31, .inr (9, [.ref (ad 9), .ref (ad 23), .ref (ad 32), .int (zI B_ready)]))]) X (jrunV X (c_Values_ofInteger (ad := ad) q12) jF0_k (fun _ _ _ _ => trivial) (jgV own_Builtins_onIntegers (by decide +kernel)) rfl rfl rfl pd_Values_ofInteger (by decide) [0, 1, 2, 3, 4] rfl (by decide) 0 4 rfl rfl rfl rfl (Nat.le_of_ble_eq_true rfl) d_Builtins_onIntegers_69 (by decide)) [0, 1, 2, 3, 4] [5] [1, 2, 3, 4, 5, 0] rfl rfl (by decide) (by decide) rfl (by decide) ?_
      refine J_goto (tgt := 76) X d_Builtins_onIntegers_72 (by decide) ?_
      cases h
      exact J_ret E ⟨_, rfl, rfl⟩ d_Builtins_onIntegers_76 (Nat.le_refl _) (Nat.le_refl _) rfl
  · rcases wk_c h with ⟨c13, h⟩ | ⟨c13, h⟩
    · refine J_tsIn (tgt := 77) X 1 c13 g1 d_Builtins_onIntegers_1 (by decide) (by decide) rfl (by decide) ?_
      refine J_lload_n X d_Builtins_onIntegers_77 rfl 2 rfl ?_
      refine J_lload X d_Builtins_onIntegers_78 3 rfl ?_
      obtain ⟨r14, q15, h⟩ := wk_b h
      refine J_afterP (jrunS X (c_Builtins_differenceFits (ad := ad) q15) jF0_k (fun _ _ _ _ => trivial) (jgS own_Builtins_onIntegers (by decide +kernel)) rfl rfl rfl pd_Builtins_differenceFits (by decide) [] rfl (by decide) rfl rfl (Nat.le_of_ble_eq_true rfl) d_Builtins_onIntegers_80 (by decide)) ?_
      refine J_if_eq (tgt := 100) X d_Builtins_onIntegers_83 (by decide) h (fun c16 h => ?_) (fun c16 h => ?_)
      · refine J_iconst X d_Builtins_onIntegers_100 ?_
        cases h
        exact J_ret E ⟨_, rfl, rfl⟩ d_Builtins_onIntegers_101 (Nat.le_refl _) (Nat.le_refl _) rfl
      · refine J_aload_n X d_Builtins_onIntegers_86 rfl 0 rfl ?_
        refine J_get X (j_in in_Builtins) 5 rfl rfl 0 (by decide) (j_m own_Builtins_onIntegers (by decide +kernel)) rfl d_Builtins_onIntegers_87 ?_
        refine J_lload_n X d_Builtins_onIntegers_90 rfl 2 rfl ?_
        refine J_lload X d_Builtins_onIntegers_91 3 rfl ?_
        refine J_lsub X d_Builtins_onIntegers_93 ?_
        obtain ⟨r17, V_top_18, V_kinds_19, V_numbers_20, V_parts_21, V_links_22, q23, h⟩ := wk_b6 h
        refine J_afterI0 (ws' := [(ad 9, .inr (4, [.ref (ad 14), .ref (ad 16), .ref (ad 10), .ref (ad 11), .ref (ad 12), .ref (ad 13), .int (zI V_top_18)])), (ad 10, .inl (cI, 3201, .inl (zA V_kinds_19))), (ad 11, .inl (cL, 3201, .inr (.inl (zB V_numbers_20)))), (ad 12, .inl (cI, 3201, .inl (zA V_parts_21))), (ad 13, .inl (cI, 3201, .inl (zA V_links_22))), (ad 31, .inr (9, [.ref (ad 9), .ref (ad 23), .ref (ad 32), .int (zI B_ready)]))]) X (jrunV X (c_Values_ofInteger (ad := ad) q23) jF0_k (fun _ _ _ _ => trivial) (jgV own_Builtins_onIntegers (by decide +kernel)) rfl rfl rfl pd_Values_ofInteger (by decide) [0, 1, 2, 3, 4] rfl (by decide) 0 4 rfl rfl rfl rfl (Nat.le_of_ble_eq_true rfl) d_Builtins_onIntegers_94 (by decide)) [0, 1, 2, 3, 4] [5] [1, 2, 3, 4, 5, 0] rfl rfl (by decide) (by decide) rfl (by decide) ?_
        refine J_goto (tgt := 101) X d_Builtins_onIntegers_97 (by decide) ?_
        cases h
        exact J_ret E ⟨_, rfl, rfl⟩ d_Builtins_onIntegers_101 (Nat.le_refl _) (Nat.le_refl _) rfl
    · rcases wk_c h with ⟨c24, h⟩ | ⟨c24, h⟩
      · refine J_tsIn (tgt := 102) X 2 c24 g1 d_Builtins_onIntegers_1 (by decide) (by decide) rfl (by decide) ?_
        refine J_lload_n X d_Builtins_onIntegers_102 rfl 2 rfl ?_
        refine J_lload X d_Builtins_onIntegers_103 3 rfl ?_
        obtain ⟨r25, q26, h⟩ := wk_b h
        refine J_afterP (jrunS X (c_Builtins_productFits (ad := ad) q26) jF0_k (fun _ _ _ _ => trivial) (jgS own_Builtins_onIntegers (by decide +kernel)) rfl rfl rfl pd_Builtins_productFits (by decide) [] rfl (by decide) rfl rfl (Nat.le_of_ble_eq_true rfl) d_Builtins_onIntegers_105 (by decide)) ?_
        refine J_if_eq (tgt := 125) X d_Builtins_onIntegers_108 (by decide) h (fun c27 h => ?_) (fun c27 h => ?_)
        · refine J_iconst X d_Builtins_onIntegers_125 ?_
          cases h
          exact J_ret E ⟨_, rfl, rfl⟩ d_Builtins_onIntegers_126 (Nat.le_refl _) (Nat.le_refl _) rfl
        · refine J_aload_n X d_Builtins_onIntegers_111 rfl 0 rfl ?_
          refine J_get X (j_in in_Builtins) 5 rfl rfl 0 (by decide) (j_m own_Builtins_onIntegers (by decide +kernel)) rfl d_Builtins_onIntegers_112 ?_
          refine J_lload_n X d_Builtins_onIntegers_115 rfl 2 rfl ?_
          refine J_lload X d_Builtins_onIntegers_116 3 rfl ?_
          refine J_lmul X d_Builtins_onIntegers_118 ?_
          obtain ⟨r28, V_top_29, V_kinds_30, V_numbers_31, V_parts_32, V_links_33, q34, h⟩ := wk_b6 h
          refine J_afterI0 (ws' := [(ad 9, .inr (4, [.ref (ad 14), .ref (ad 16), .ref (ad 10), .ref (ad 11), .ref (ad 12), .ref (ad 13), .int (zI V_top_29)])), (ad 10, .inl (cI, 3201, .inl (zA V_kinds_30))), (ad 11, .inl (cL, 3201, .inr (.inl (zB V_numbers_31)))), (ad 12, .inl (cI, 3201, .inl (zA V_parts_32))), (ad 13, .inl (cI, 3201, .inl (zA V_links_33))), (ad 31, .inr (9, [.ref (ad 9), .ref (ad 23), .ref (ad 32), .int (zI B_ready)]))]) X (jrunV X (c_Values_ofInteger (ad := ad) q34) jF0_k (fun _ _ _ _ => trivial) (jgV own_Builtins_onIntegers (by decide +kernel)) rfl rfl rfl pd_Values_ofInteger (by decide) [0, 1, 2, 3, 4] rfl (by decide) 0 4 rfl rfl rfl rfl (Nat.le_of_ble_eq_true rfl) d_Builtins_onIntegers_119 (by decide)) [0, 1, 2, 3, 4] [5] [1, 2, 3, 4, 5, 0] rfl rfl (by decide) (by decide) rfl (by decide) ?_
          refine J_goto (tgt := 126) X d_Builtins_onIntegers_122 (by decide) ?_
          cases h
          exact J_ret E ⟨_, rfl, rfl⟩ d_Builtins_onIntegers_126 (Nat.le_refl _) (Nat.le_refl _) rfl
      · rcases wk_c h with ⟨c35, h⟩ | ⟨c35, h⟩
        · refine J_tsIn (tgt := 127) X 3 c35 g1 d_Builtins_onIntegers_1 (by decide) (by decide) rfl (by decide) ?_
          refine J_lload_n X d_Builtins_onIntegers_127 rfl 2 rfl ?_
          refine J_lload X d_Builtins_onIntegers_128 3 rfl ?_
          obtain ⟨r36, q37, h⟩ := wk_b h
          refine J_afterP (jrunS X (c_Builtins_quotientFits (ad := ad) q37) jF0_k (fun _ _ _ _ => trivial) (jgS own_Builtins_onIntegers (by decide +kernel)) rfl rfl rfl pd_Builtins_quotientFits (by decide) [] rfl (by decide) rfl rfl (Nat.le_of_ble_eq_true rfl) d_Builtins_onIntegers_130 (by decide)) ?_
          refine J_if_eq (tgt := 152) X d_Builtins_onIntegers_133 (by decide) h (fun c38 h => ?_) (fun c38 h => ?_)
          · refine J_iconst X d_Builtins_onIntegers_152 ?_
            cases h
            exact J_ret E ⟨_, rfl, rfl⟩ d_Builtins_onIntegers_153 (Nat.le_refl _) (Nat.le_refl _) rfl
          · refine J_aload_n X d_Builtins_onIntegers_136 rfl 0 rfl ?_
            refine J_get X (j_in in_Builtins) 5 rfl rfl 0 (by decide) (j_m own_Builtins_onIntegers (by decide +kernel)) rfl d_Builtins_onIntegers_137 ?_
            refine J_lload_n X d_Builtins_onIntegers_140 rfl 2 rfl ?_
            refine J_lload X d_Builtins_onIntegers_141 3 rfl ?_
            obtain ⟨r39, q40, h⟩ := wk_b h
            refine J_afterP (jrunS X (c_Math_floorDiv q40) jF0_k (fun _ _ _ _ => trivial) (jgS own_Builtins_onIntegers (by decide +kernel)) rfl rfl rfl pd_Math_floorDiv (by decide) [] rfl (by decide) rfl rfl (Nat.le_of_ble_eq_true rfl) d_Builtins_onIntegers_143 (by decide)) ?_
            obtain ⟨r41, V_top_42, V_kinds_43, V_numbers_44, V_parts_45, V_links_46, q47, h⟩ := wk_b6 h
            refine J_afterI0 (ws' := [(ad 9, .inr (4, [.ref (ad 14), .ref (ad 16), .ref (ad 10), .ref (ad 11), .ref (ad 12), .ref (ad 13), .int (zI V_top_42)])), (ad 10, .inl (cI, 3201, .inl (zA V_kinds_43))), (ad 11, .inl (cL, 3201, .inr (.inl (zB V_numbers_44)))), (ad 12, .inl (cI, 3201, .inl (zA V_parts_45))), (ad 13, .inl (cI, 3201, .inl (zA V_links_46))), (ad 31, .inr (9, [.ref (ad 9), .ref (ad 23), .ref (ad 32), .int (zI B_ready)]))]) X (jrunV X (c_Values_ofInteger (ad := ad) q47) jF0_k (fun _ _ _ _ => trivial) (jgV own_Builtins_onIntegers (by decide +kernel)) rfl rfl rfl pd_Values_ofInteger (by decide) [0, 1, 2, 3, 4] rfl (by decide) 0 4 rfl rfl rfl rfl (Nat.le_of_ble_eq_true rfl) d_Builtins_onIntegers_146 (by decide)) [0, 1, 2, 3, 4] [5] [1, 2, 3, 4, 5, 0] rfl rfl (by decide) (by decide) rfl (by decide) ?_
            refine J_goto (tgt := 153) X d_Builtins_onIntegers_149 (by decide) ?_
            cases h
            exact J_ret E ⟨_, rfl, rfl⟩ d_Builtins_onIntegers_153 (Nat.le_refl _) (Nat.le_refl _) rfl
        · rcases wk_c h with ⟨c48, h⟩ | ⟨c48, h⟩
          · refine J_tsIn (tgt := 154) X 4 c48 g1 d_Builtins_onIntegers_1 (by decide) (by decide) rfl (by decide) ?_
            refine J_lload X d_Builtins_onIntegers_154 3 rfl ?_
            refine J_lconst (v := 0) X d_Builtins_onIntegers_156 (by decide) ?_
            refine J_lc_eq (tgt := 177) X d_Builtins_onIntegers_157 d_Builtins_onIntegers_158 (by decide) h (fun c49 h => ?_) (fun c49 h => ?_)
            · refine J_iconst X d_Builtins_onIntegers_177 ?_
              cases h
              exact J_ret E ⟨_, rfl, rfl⟩ d_Builtins_onIntegers_178 (Nat.le_refl _) (Nat.le_refl _) rfl
            · refine J_aload_n X d_Builtins_onIntegers_161 rfl 0 rfl ?_
              refine J_get X (j_in in_Builtins) 5 rfl rfl 0 (by decide) (j_m own_Builtins_onIntegers (by decide +kernel)) rfl d_Builtins_onIntegers_162 ?_
              refine J_lload_n X d_Builtins_onIntegers_165 rfl 2 rfl ?_
              refine J_lload X d_Builtins_onIntegers_166 3 rfl ?_
              obtain ⟨r50, q51, h⟩ := wk_b h
              refine J_afterP (jrunS X (c_Math_floorMod q51) jF0_k (fun _ _ _ _ => trivial) (jgS own_Builtins_onIntegers (by decide +kernel)) rfl rfl rfl pd_Math_floorMod (by decide) [] rfl (by decide) rfl rfl (Nat.le_of_ble_eq_true rfl) d_Builtins_onIntegers_168 (by decide)) ?_
              obtain ⟨r52, V_top_53, V_kinds_54, V_numbers_55, V_parts_56, V_links_57, q58, h⟩ := wk_b6 h
              refine J_afterI0 (ws' := [(ad 9, .inr (4, [.ref (ad 14), .ref (ad 16), .ref (ad 10), .ref (ad 11), .ref (ad 12), .ref (ad 13), .int (zI V_top_53)])), (ad 10, .inl (cI, 3201, .inl (zA V_kinds_54))), (ad 11, .inl (cL, 3201, .inr (.inl (zB V_numbers_55)))), (ad 12, .inl (cI, 3201, .inl (zA V_parts_56))), (ad 13, .inl (cI, 3201, .inl (zA V_links_57))), (ad 31, .inr (9, [.ref (ad 9), .ref (ad 23), .ref (ad 32), .int (zI B_ready)]))]) X (jrunV X (c_Values_ofInteger (ad := ad) q58) jF0_k (fun _ _ _ _ => trivial) (jgV own_Builtins_onIntegers (by decide +kernel)) rfl rfl rfl pd_Values_ofInteger (by decide) [0, 1, 2, 3, 4] rfl (by decide) 0 4 rfl rfl rfl rfl (Nat.le_of_ble_eq_true rfl) d_Builtins_onIntegers_171 (by decide)) [0, 1, 2, 3, 4] [5] [1, 2, 3, 4, 5, 0] rfl rfl (by decide) (by decide) rfl (by decide) ?_
              refine J_goto (tgt := 178) X d_Builtins_onIntegers_174 (by decide) ?_
              cases h
              exact J_ret E ⟨_, rfl, rfl⟩ d_Builtins_onIntegers_178 (Nat.le_refl _) (Nat.le_refl _) rfl
          · rcases wk_c h with ⟨c59, h⟩ | ⟨c59, h⟩
            · refine J_tsIn (tgt := 179) X 5 c59 g1 d_Builtins_onIntegers_1 (by decide) (by decide) rfl (by decide) ?_
              refine J_lload_n X d_Builtins_onIntegers_179 rfl 2 rfl ?_
              refine J_lload X d_Builtins_onIntegers_180 3 rfl ?_
              obtain ⟨r60, q61, h⟩ := wk_b h
              refine J_afterP (jrunS X (c_Builtins_quotientFits (ad := ad) q61) jF0_k (fun _ _ _ _ => trivial) (jgS own_Builtins_onIntegers (by decide +kernel)) rfl rfl rfl pd_Builtins_quotientFits (by decide) [] rfl (by decide) rfl rfl (Nat.le_of_ble_eq_true rfl) d_Builtins_onIntegers_182 (by decide)) ?_
              refine J_if_eq (tgt := 202) X d_Builtins_onIntegers_185 (by decide) h (fun c62 h => ?_) (fun c62 h => ?_)
              · refine J_iconst X d_Builtins_onIntegers_202 ?_
                cases h
                exact J_ret E ⟨_, rfl, rfl⟩ d_Builtins_onIntegers_203 (Nat.le_refl _) (Nat.le_refl _) rfl
              · refine J_aload_n X d_Builtins_onIntegers_188 rfl 0 rfl ?_
                refine J_get X (j_in in_Builtins) 5 rfl rfl 0 (by decide) (j_m own_Builtins_onIntegers (by decide +kernel)) rfl d_Builtins_onIntegers_189 ?_
                refine J_lload_n X d_Builtins_onIntegers_192 rfl 2 rfl ?_
                refine J_lload X d_Builtins_onIntegers_193 3 rfl ?_
                obtain ⟨g63, h⟩ := wk_g h
                refine J_ldiv X g63 d_Builtins_onIntegers_195 ?_
                obtain ⟨r64, V_top_65, V_kinds_66, V_numbers_67, V_parts_68, V_links_69, q70, h⟩ := wk_b6 h
                refine J_afterI0 (ws' := [(ad 9, .inr (4, [.ref (ad 14), .ref (ad 16), .ref (ad 10), .ref (ad 11), .ref (ad 12), .ref (ad 13), .int (zI V_top_65)])), (ad 10, .inl (cI, 3201, .inl (zA V_kinds_66))), (ad 11, .inl (cL, 3201, .inr (.inl (zB V_numbers_67)))), (ad 12, .inl (cI, 3201, .inl (zA V_parts_68))), (ad 13, .inl (cI, 3201, .inl (zA V_links_69))), (ad 31, .inr (9, [.ref (ad 9), .ref (ad 23), .ref (ad 32), .int (zI B_ready)]))]) X (jrunV X (c_Values_ofInteger (ad := ad) q70) jF0_k (fun _ _ _ _ => trivial) (jgV own_Builtins_onIntegers (by decide +kernel)) rfl rfl rfl pd_Values_ofInteger (by decide) [0, 1, 2, 3, 4] rfl (by decide) 0 4 rfl rfl rfl rfl (Nat.le_of_ble_eq_true rfl) d_Builtins_onIntegers_196 (by decide)) [0, 1, 2, 3, 4] [5] [1, 2, 3, 4, 5, 0] rfl rfl (by decide) (by decide) rfl (by decide) ?_
                refine J_goto (tgt := 203) X d_Builtins_onIntegers_199 (by decide) ?_
                cases h
                exact J_ret E ⟨_, rfl, rfl⟩ d_Builtins_onIntegers_203 (Nat.le_refl _) (Nat.le_refl _) rfl
            · rcases wk_c h with ⟨c71, h⟩ | ⟨c71, h⟩
              · refine J_tsIn (tgt := 204) X 6 c71 g1 d_Builtins_onIntegers_1 (by decide) (by decide) rfl (by decide) ?_
                refine J_lload X d_Builtins_onIntegers_204 3 rfl ?_
                refine J_lconst (v := 0) X d_Builtins_onIntegers_206 (by decide) ?_
                refine J_lc_eq (tgt := 225) X d_Builtins_onIntegers_207 d_Builtins_onIntegers_208 (by decide) h (fun c72 h => ?_) (fun c72 h => ?_)
                · refine J_iconst X d_Builtins_onIntegers_225 ?_
                  cases h
                  exact J_ret E ⟨_, rfl, rfl⟩ d_Builtins_onIntegers_226 (Nat.le_refl _) (Nat.le_refl _) rfl
                · refine J_aload_n X d_Builtins_onIntegers_211 rfl 0 rfl ?_
                  refine J_get X (j_in in_Builtins) 5 rfl rfl 0 (by decide) (j_m own_Builtins_onIntegers (by decide +kernel)) rfl d_Builtins_onIntegers_212 ?_
                  refine J_lload_n X d_Builtins_onIntegers_215 rfl 2 rfl ?_
                  refine J_lload X d_Builtins_onIntegers_216 3 rfl ?_
                  obtain ⟨g73, h⟩ := wk_g h
                  refine J_lrem X g73 d_Builtins_onIntegers_218 ?_
                  obtain ⟨r74, V_top_75, V_kinds_76, V_numbers_77, V_parts_78, V_links_79, q80, h⟩ := wk_b6 h
                  refine J_afterI0 (ws' := [(ad 9, .inr (4, [.ref (ad 14), .ref (ad 16), .ref (ad 10), .ref (ad 11), .ref (ad 12), .ref (ad 13), .int (zI V_top_75)])), (ad 10, .inl (cI, 3201, .inl (zA V_kinds_76))), (ad 11, .inl (cL, 3201, .inr (.inl (zB V_numbers_77)))), (ad 12, .inl (cI, 3201, .inl (zA V_parts_78))), (ad 13, .inl (cI, 3201, .inl (zA V_links_79))), (ad 31, .inr (9, [.ref (ad 9), .ref (ad 23), .ref (ad 32), .int (zI B_ready)]))]) X (jrunV X (c_Values_ofInteger (ad := ad) q80) jF0_k (fun _ _ _ _ => trivial) (jgV own_Builtins_onIntegers (by decide +kernel)) rfl rfl rfl pd_Values_ofInteger (by decide) [0, 1, 2, 3, 4] rfl (by decide) 0 4 rfl rfl rfl rfl (Nat.le_of_ble_eq_true rfl) d_Builtins_onIntegers_219 (by decide)) [0, 1, 2, 3, 4] [5] [1, 2, 3, 4, 5, 0] rfl rfl (by decide) (by decide) rfl (by decide) ?_
                  refine J_goto (tgt := 226) X d_Builtins_onIntegers_222 (by decide) ?_
                  cases h
                  exact J_ret E ⟨_, rfl, rfl⟩ d_Builtins_onIntegers_226 (Nat.le_refl _) (Nat.le_refl _) rfl
              · rcases wk_c h with ⟨c81, h⟩ | ⟨c81, h⟩
                · refine J_tsIn (tgt := 227) X 7 c81 g1 d_Builtins_onIntegers_1 (by decide) (by decide) rfl (by decide) ?_
                  refine J_aload_n X d_Builtins_onIntegers_227 rfl 0 rfl ?_
                  refine J_get X (j_in in_Builtins) 5 rfl rfl 0 (by decide) (j_m own_Builtins_onIntegers (by decide +kernel)) rfl d_Builtins_onIntegers_228 ?_
                  refine J_lload_n X d_Builtins_onIntegers_231 rfl 2 rfl ?_
                  refine J_lload X d_Builtins_onIntegers_232 3 rfl ?_
                  refine J_lc_ne (tgt := 242) X d_Builtins_onIntegers_234 d_Builtins_onIntegers_235 (by decide) h (fun c82 h => ?_) (fun c82 h => ?_)
                  · refine J_iconst X d_Builtins_onIntegers_242 ?_
                    obtain ⟨r83, V_top_84, V_kinds_85, V_numbers_86, V_parts_87, V_links_88, q89, h⟩ := wk_b6 h
                    refine J_afterI0 (ws' := [(ad 9, .inr (4, [.ref (ad 14), .ref (ad 16), .ref (ad 10), .ref (ad 11), .ref (ad 12), .ref (ad 13), .int (zI V_top_84)])), (ad 10, .inl (cI, 3201, .inl (zA V_kinds_85))), (ad 11, .inl (cL, 3201, .inr (.inl (zB V_numbers_86)))), (ad 12, .inl (cI, 3201, .inl (zA V_parts_87))), (ad 13, .inl (cI, 3201, .inl (zA V_links_88))), (ad 31, .inr (9, [.ref (ad 9), .ref (ad 23), .ref (ad 32), .int (zI B_ready)]))]) X (jrunV X (c_Values_ofTruth (ad := ad) q89) jF0_k (fun _ _ _ _ => trivial) (jgV own_Builtins_onIntegers (by decide +kernel)) rfl rfl rfl pd_Values_ofTruth (by decide) [0, 1, 2, 3, 4] rfl (by decide) 0 4 rfl rfl rfl rfl (Nat.le_of_ble_eq_true rfl) d_Builtins_onIntegers_243 (by decide)) [0, 1, 2, 3, 4] [5] [1, 2, 3, 4, 5, 0] rfl rfl (by decide) (by decide) rfl (by decide) ?_
                    cases h
                    exact J_ret E ⟨_, rfl, rfl⟩ d_Builtins_onIntegers_246 (Nat.le_refl _) (Nat.le_refl _) rfl
                  · refine J_iconst X d_Builtins_onIntegers_238 ?_
                    refine J_goto (tgt := 243) X d_Builtins_onIntegers_239 (by decide) ?_
                    obtain ⟨r90, V_top_91, V_kinds_92, V_numbers_93, V_parts_94, V_links_95, q96, h⟩ := wk_b6 h
                    refine J_afterI0 (ws' := [(ad 9, .inr (4, [.ref (ad 14), .ref (ad 16), .ref (ad 10), .ref (ad 11), .ref (ad 12), .ref (ad 13), .int (zI V_top_91)])), (ad 10, .inl (cI, 3201, .inl (zA V_kinds_92))), (ad 11, .inl (cL, 3201, .inr (.inl (zB V_numbers_93)))), (ad 12, .inl (cI, 3201, .inl (zA V_parts_94))), (ad 13, .inl (cI, 3201, .inl (zA V_links_95))), (ad 31, .inr (9, [.ref (ad 9), .ref (ad 23), .ref (ad 32), .int (zI B_ready)]))]) X (jrunV X (c_Values_ofTruth (ad := ad) q96) jF0_k (fun _ _ _ _ => trivial) (jgV own_Builtins_onIntegers (by decide +kernel)) rfl rfl rfl pd_Values_ofTruth (by decide) [0, 1, 2, 3, 4] rfl (by decide) 0 4 rfl rfl rfl rfl (Nat.le_of_ble_eq_true rfl) d_Builtins_onIntegers_243 (by decide)) [0, 1, 2, 3, 4] [5] [1, 2, 3, 4, 5, 0] rfl rfl (by decide) (by decide) rfl (by decide) ?_
                    cases h
                    exact J_ret E ⟨_, rfl, rfl⟩ d_Builtins_onIntegers_246 (Nat.le_refl _) (Nat.le_refl _) rfl
                · rcases wk_c h with ⟨c97, h⟩ | ⟨c97, h⟩
                  · refine J_tsIn (tgt := 247) X 8 c97 g1 d_Builtins_onIntegers_1 (by decide) (by decide) rfl (by decide) ?_
                    refine J_aload_n X d_Builtins_onIntegers_247 rfl 0 rfl ?_
                    refine J_get X (j_in in_Builtins) 5 rfl rfl 0 (by decide) (j_m own_Builtins_onIntegers (by decide +kernel)) rfl d_Builtins_onIntegers_248 ?_
                    refine J_lload_n X d_Builtins_onIntegers_251 rfl 2 rfl ?_
                    refine J_lload X d_Builtins_onIntegers_252 3 rfl ?_
                    refine J_lc_ge (tgt := 262) X d_Builtins_onIntegers_254 d_Builtins_onIntegers_255 (by decide) h (fun c98 h => ?_) (fun c98 h => ?_)
                    · refine J_iconst X d_Builtins_onIntegers_262 ?_
                      obtain ⟨r99, V_top_100, V_kinds_101, V_numbers_102, V_parts_103, V_links_104, q105, h⟩ := wk_b6 h
                      refine J_afterI0 (ws' := [(ad 9, .inr (4, [.ref (ad 14), .ref (ad 16), .ref (ad 10), .ref (ad 11), .ref (ad 12), .ref (ad 13), .int (zI V_top_100)])), (ad 10, .inl (cI, 3201, .inl (zA V_kinds_101))), (ad 11, .inl (cL, 3201, .inr (.inl (zB V_numbers_102)))), (ad 12, .inl (cI, 3201, .inl (zA V_parts_103))), (ad 13, .inl (cI, 3201, .inl (zA V_links_104))), (ad 31, .inr (9, [.ref (ad 9), .ref (ad 23), .ref (ad 32), .int (zI B_ready)]))]) X (jrunV X (c_Values_ofTruth (ad := ad) q105) jF0_k (fun _ _ _ _ => trivial) (jgV own_Builtins_onIntegers (by decide +kernel)) rfl rfl rfl pd_Values_ofTruth (by decide) [0, 1, 2, 3, 4] rfl (by decide) 0 4 rfl rfl rfl rfl (Nat.le_of_ble_eq_true rfl) d_Builtins_onIntegers_263 (by decide)) [0, 1, 2, 3, 4] [5] [1, 2, 3, 4, 5, 0] rfl rfl (by decide) (by decide) rfl (by decide) ?_
                      cases h
                      exact J_ret E ⟨_, rfl, rfl⟩ d_Builtins_onIntegers_266 (Nat.le_refl _) (Nat.le_refl _) rfl
                    · refine J_iconst X d_Builtins_onIntegers_258 ?_
                      refine J_goto (tgt := 263) X d_Builtins_onIntegers_259 (by decide) ?_
                      obtain ⟨r106, V_top_107, V_kinds_108, V_numbers_109, V_parts_110, V_links_111, q112, h⟩ := wk_b6 h
                      refine J_afterI0 (ws' := [(ad 9, .inr (4, [.ref (ad 14), .ref (ad 16), .ref (ad 10), .ref (ad 11), .ref (ad 12), .ref (ad 13), .int (zI V_top_107)])), (ad 10, .inl (cI, 3201, .inl (zA V_kinds_108))), (ad 11, .inl (cL, 3201, .inr (.inl (zB V_numbers_109)))), (ad 12, .inl (cI, 3201, .inl (zA V_parts_110))), (ad 13, .inl (cI, 3201, .inl (zA V_links_111))), (ad 31, .inr (9, [.ref (ad 9), .ref (ad 23), .ref (ad 32), .int (zI B_ready)]))]) X (jrunV X (c_Values_ofTruth (ad := ad) q112) jF0_k (fun _ _ _ _ => trivial) (jgV own_Builtins_onIntegers (by decide +kernel)) rfl rfl rfl pd_Values_ofTruth (by decide) [0, 1, 2, 3, 4] rfl (by decide) 0 4 rfl rfl rfl rfl (Nat.le_of_ble_eq_true rfl) d_Builtins_onIntegers_263 (by decide)) [0, 1, 2, 3, 4] [5] [1, 2, 3, 4, 5, 0] rfl rfl (by decide) (by decide) rfl (by decide) ?_
                      cases h
                      exact J_ret E ⟨_, rfl, rfl⟩ d_Builtins_onIntegers_266 (Nat.le_refl _) (Nat.le_refl _) rfl
                  · refine J_tsOut (tgt := 267) X g1 d_Builtins_onIntegers_1 (by omega) (by decide) ?_
                    refine J_aload_n X d_Builtins_onIntegers_267 rfl 0 rfl ?_
                    refine J_get X (j_in in_Builtins) 5 rfl rfl 0 (by decide) (j_m own_Builtins_onIntegers (by decide +kernel)) rfl d_Builtins_onIntegers_268 ?_
                    refine J_lload_n X d_Builtins_onIntegers_271 rfl 2 rfl ?_
                    refine J_lload X d_Builtins_onIntegers_272 3 rfl ?_
                    refine J_lc_gt (tgt := 282) X d_Builtins_onIntegers_274 d_Builtins_onIntegers_275 (by decide) h (fun c113 h => ?_) (fun c113 h => ?_)
                    · refine J_iconst X d_Builtins_onIntegers_282 ?_
                      obtain ⟨r114, V_top_115, V_kinds_116, V_numbers_117, V_parts_118, V_links_119, q120, h⟩ := wk_b6 h
                      refine J_afterI0 (ws' := [(ad 9, .inr (4, [.ref (ad 14), .ref (ad 16), .ref (ad 10), .ref (ad 11), .ref (ad 12), .ref (ad 13), .int (zI V_top_115)])), (ad 10, .inl (cI, 3201, .inl (zA V_kinds_116))), (ad 11, .inl (cL, 3201, .inr (.inl (zB V_numbers_117)))), (ad 12, .inl (cI, 3201, .inl (zA V_parts_118))), (ad 13, .inl (cI, 3201, .inl (zA V_links_119))), (ad 31, .inr (9, [.ref (ad 9), .ref (ad 23), .ref (ad 32), .int (zI B_ready)]))]) X (jrunV X (c_Values_ofTruth (ad := ad) q120) jF0_k (fun _ _ _ _ => trivial) (jgV own_Builtins_onIntegers (by decide +kernel)) rfl rfl rfl pd_Values_ofTruth (by decide) [0, 1, 2, 3, 4] rfl (by decide) 0 4 rfl rfl rfl rfl (Nat.le_of_ble_eq_true rfl) d_Builtins_onIntegers_283 (by decide)) [0, 1, 2, 3, 4] [5] [1, 2, 3, 4, 5, 0] rfl rfl (by decide) (by decide) rfl (by decide) ?_
                      cases h
                      exact J_ret E ⟨_, rfl, rfl⟩ d_Builtins_onIntegers_286 (Nat.le_refl _) (Nat.le_refl _) rfl
                    · refine J_iconst X d_Builtins_onIntegers_278 ?_
                      refine J_goto (tgt := 283) X d_Builtins_onIntegers_279 (by decide) ?_
                      obtain ⟨r121, V_top_122, V_kinds_123, V_numbers_124, V_parts_125, V_links_126, q127, h⟩ := wk_b6 h
                      refine J_afterI0 (ws' := [(ad 9, .inr (4, [.ref (ad 14), .ref (ad 16), .ref (ad 10), .ref (ad 11), .ref (ad 12), .ref (ad 13), .int (zI V_top_122)])), (ad 10, .inl (cI, 3201, .inl (zA V_kinds_123))), (ad 11, .inl (cL, 3201, .inr (.inl (zB V_numbers_124)))), (ad 12, .inl (cI, 3201, .inl (zA V_parts_125))), (ad 13, .inl (cI, 3201, .inl (zA V_links_126))), (ad 31, .inr (9, [.ref (ad 9), .ref (ad 23), .ref (ad 32), .int (zI B_ready)]))]) X (jrunV X (c_Values_ofTruth (ad := ad) q127) jF0_k (fun _ _ _ _ => trivial) (jgV own_Builtins_onIntegers (by decide +kernel)) rfl rfl rfl pd_Values_ofTruth (by decide) [0, 1, 2, 3, 4] rfl (by decide) 0 4 rfl rfl rfl rfl (Nat.le_of_ble_eq_true rfl) d_Builtins_onIntegers_283 (by decide)) [0, 1, 2, 3, 4] [5] [1, 2, 3, 4, 5, 0] rfl rfl (by decide) (by decide) rfl (by decide) ?_
                      cases h
                      exact J_ret E ⟨_, rfl, rfl⟩ d_Builtins_onIntegers_286 (Nat.le_refl _) (Nat.le_refl _) rfl

theorem d_Builtins_join_0 : decode b_Builtins_join 0 = .ok (.aload_n 0, 1) := by decide +kernel
theorem d_Builtins_join_1 : decode b_Builtins_join 1 = .ok (.getfield 19, 3) := by decide +kernel
theorem d_Builtins_join_4 : decode b_Builtins_join 4 = .ok (.iload_n 1, 1) := by decide +kernel
theorem d_Builtins_join_5 : decode b_Builtins_join 5 = .ok (.invokevirtual 156, 3) := by decide +kernel
theorem d_Builtins_join_8 : decode b_Builtins_join 8 = .ok (.aload_n 0, 1) := by decide +kernel
theorem d_Builtins_join_9 : decode b_Builtins_join 9 = .ok (.getfield 19, 3) := by decide +kernel
theorem d_Builtins_join_12 : decode b_Builtins_join 12 = .ok (.iload_n 2, 1) := by decide +kernel
theorem d_Builtins_join_13 : decode b_Builtins_join 13 = .ok (.invokevirtual 156, 3) := by decide +kernel
theorem d_Builtins_join_16 : decode b_Builtins_join 16 = .ok (.iadd, 1) := by decide +kernel
theorem d_Builtins_join_17 : decode b_Builtins_join 17 = .ok (.istore_n 3, 1) := by decide +kernel
theorem d_Builtins_join_18 : decode b_Builtins_join 18 = .ok (.iload_n 3, 1) := by decide +kernel
theorem d_Builtins_join_19 : decode b_Builtins_join 19 = .ok (.bipush 64, 2) := by decide +kernel
theorem d_Builtins_join_21 : decode b_Builtins_join 21 = .ok (.if_icmp .le 5, 3) := by decide +kernel
theorem d_Builtins_join_24 : decode b_Builtins_join 24 = .ok (.iconst (-1), 1) := by decide +kernel
theorem d_Builtins_join_25 : decode b_Builtins_join 25 = .ok (.ireturn, 1) := by decide +kernel
theorem d_Builtins_join_26 : decode b_Builtins_join 26 = .ok (.aload_n 0, 1) := by decide +kernel
theorem d_Builtins_join_27 : decode b_Builtins_join 27 = .ok (.getfield 19, 3) := by decide +kernel
theorem d_Builtins_join_30 : decode b_Builtins_join 30 = .ok (.getfield 170, 3) := by decide +kernel
theorem d_Builtins_join_33 : decode b_Builtins_join 33 = .ok (.invokevirtual 174, 3) := by decide +kernel
theorem d_Builtins_join_36 : decode b_Builtins_join 36 = .ok (.istore 4, 2) := by decide +kernel
theorem d_Builtins_join_38 : decode b_Builtins_join 38 = .ok (.aload_n 0, 1) := by decide +kernel
theorem d_Builtins_join_39 : decode b_Builtins_join 39 = .ok (.getfield 19, 3) := by decide +kernel
theorem d_Builtins_join_42 : decode b_Builtins_join 42 = .ok (.getfield 170, 3) := by decide +kernel
theorem d_Builtins_join_45 : decode b_Builtins_join 45 = .ok (.aload_n 0, 1) := by decide +kernel
theorem d_Builtins_join_46 : decode b_Builtins_join 46 = .ok (.getfield 19, 3) := by decide +kernel
theorem d_Builtins_join_49 : decode b_Builtins_join 49 = .ok (.iload_n 1, 1) := by decide +kernel
theorem d_Builtins_join_50 : decode b_Builtins_join 50 = .ok (.invokevirtual 180, 3) := by decide +kernel
theorem d_Builtins_join_53 : decode b_Builtins_join 53 = .ok (.aload_n 0, 1) := by decide +kernel
theorem d_Builtins_join_54 : decode b_Builtins_join 54 = .ok (.getfield 19, 3) := by decide +kernel
theorem d_Builtins_join_57 : decode b_Builtins_join 57 = .ok (.iload_n 1, 1) := by decide +kernel
theorem d_Builtins_join_58 : decode b_Builtins_join 58 = .ok (.invokevirtual 156, 3) := by decide +kernel
theorem d_Builtins_join_61 : decode b_Builtins_join 61 = .ok (.invokevirtual 183, 3) := by decide +kernel
theorem d_Builtins_join_64 : decode b_Builtins_join 64 = .ok (.aload_n 0, 1) := by decide +kernel
theorem d_Builtins_join_65 : decode b_Builtins_join 65 = .ok (.getfield 19, 3) := by decide +kernel
theorem d_Builtins_join_68 : decode b_Builtins_join 68 = .ok (.getfield 170, 3) := by decide +kernel
theorem d_Builtins_join_71 : decode b_Builtins_join 71 = .ok (.aload_n 0, 1) := by decide +kernel
theorem d_Builtins_join_72 : decode b_Builtins_join 72 = .ok (.getfield 19, 3) := by decide +kernel
theorem d_Builtins_join_75 : decode b_Builtins_join 75 = .ok (.iload_n 2, 1) := by decide +kernel
theorem d_Builtins_join_76 : decode b_Builtins_join 76 = .ok (.invokevirtual 180, 3) := by decide +kernel
theorem d_Builtins_join_79 : decode b_Builtins_join 79 = .ok (.aload_n 0, 1) := by decide +kernel
theorem d_Builtins_join_80 : decode b_Builtins_join 80 = .ok (.getfield 19, 3) := by decide +kernel
theorem d_Builtins_join_83 : decode b_Builtins_join 83 = .ok (.iload_n 2, 1) := by decide +kernel
theorem d_Builtins_join_84 : decode b_Builtins_join 84 = .ok (.invokevirtual 156, 3) := by decide +kernel
theorem d_Builtins_join_87 : decode b_Builtins_join 87 = .ok (.invokevirtual 183, 3) := by decide +kernel
theorem d_Builtins_join_90 : decode b_Builtins_join 90 = .ok (.aload_n 0, 1) := by decide +kernel
theorem d_Builtins_join_91 : decode b_Builtins_join 91 = .ok (.getfield 19, 3) := by decide +kernel
theorem d_Builtins_join_94 : decode b_Builtins_join 94 = .ok (.iload 4, 2) := by decide +kernel
theorem d_Builtins_join_96 : decode b_Builtins_join 96 = .ok (.iload_n 3, 1) := by decide +kernel
theorem d_Builtins_join_97 : decode b_Builtins_join 97 = .ok (.invokevirtual 187, 3) := by decide +kernel
theorem d_Builtins_join_100 : decode b_Builtins_join 100 = .ok (.ireturn, 1) := by decide +kernel
def f_Builtins_join (N : Nat) (V_top : Int) (V_kinds : Int → Int) (V_numbers : Int → Int) (V_parts : Int → Int) (V_links : Int → Int) (VB_top : Int) (VB_row : Int → Int) (p1 : Int) (p2 : Int) : Option (Int × Int × (Int → Int) × (Int → Int) × (Int → Int) × (Int → Int) × Int × (Int → Int)) :=
  Option.bind (f_Values_lengthOf V_top V_links p1) (fun r1 =>
   Option.bind (f_Values_lengthOf V_top V_links p2) (fun r3 =>
    if jr2 (r1 + r3) 64 = true then (if (r1 + r3) ≤ 64 then (
     Option.bind (f_ByteRow_end 36864 VB_top) (fun r6 =>
      Option.bind (f_Values_startOf V_top V_parts p1) (fun r8 =>
       Option.bind (f_Values_lengthOf V_top V_links p1) (fun r10 =>
        ob2 (f_ByteRow_append N 36864 VB_top VB_row r8 r10) (fun VB_top_12 VB_row_13 =>
         Option.bind (f_Values_startOf V_top V_parts p2) (fun r15 =>
          Option.bind (f_Values_lengthOf V_top V_links p2) (fun r17 =>
           ob2 (f_ByteRow_append N 36864 VB_top_12 VB_row_13 r15 r17) (fun VB_top_19 VB_row_20 =>
            ob6 (f_Values_ofBytes V_top V_kinds V_numbers V_parts V_links r6 (r1 + r3)) (fun r22 V_top_23 V_kinds_24 V_numbers_25 V_parts_26 V_links_27 =>
             some (r22, V_top_23, V_kinds_24, V_numbers_25, V_parts_26, V_links_27, VB_top_19, VB_row_20)))))))))) else (
     some ((-1), V_top, V_kinds, V_numbers, V_parts, V_links, VB_top, VB_row))) else none))
set_option maxHeartbeats 4000000 in
set_option maxRecDepth 100000 in
theorem c_Builtins_join {l : Launch} {D : va_G} {cI cL cB : ClassId} {ad : Nat → Nat} {N : Nat} {V_top : Int} {V_kinds : Int → Int} {V_numbers : Int → Int} {V_parts : Int → Int} {V_links : Int → Int} {VB_top : Int} {VB_row : Int → Int} {B_ready : Int} {p1 : Int} {p2 : Int} {out : Int × Int × (Int → Int) × (Int → Int) × (Int → Int) × (Int → Int) × Int × (Int → Int)} (h : f_Builtins_join N V_top V_kinds V_numbers V_parts V_links VB_top VB_row p1 p2 = some out) : CT jF0 false l D [(cI, .int), (cL, .long), (cB, .byte)] y_Builtins_join w_Builtins_join ({ frames := 3, cells := 0, slots := 0, locals := 74 } : Room) [.ref (ad 31), .int (zI p1), .int (zI p2)] [(ad 9, .inr (4, [.ref (ad 14), .ref (ad 16), .ref (ad 10), .ref (ad 11), .ref (ad 12), .ref (ad 13), .int (zI V_top)])), (ad 10, .inl (cI, 3201, .inl (zA V_kinds))), (ad 11, .inl (cL, 3201, .inr (.inl (zB V_numbers)))), (ad 12, .inl (cI, 3201, .inl (zA V_parts))), (ad 13, .inl (cI, 3201, .inl (zA V_links))), (ad 14, .inr (2, [.ref (ad 15), .int (zI VB_top)])), (ad 15, .inl (cB, 36864, .inl (zA VB_row))), (ad 31, .inr (9, [.ref (ad 9), .ref (ad 23), .ref (ad 32), .int (zI B_ready)]))] (some (.int (zI out.1))) [(ad 9, .inr (4, [.ref (ad 14), .ref (ad 16), .ref (ad 10), .ref (ad 11), .ref (ad 12), .ref (ad 13), .int (zI (out.2.1))])), (ad 10, .inl (cI, 3201, .inl (zA (out.2.2.1)))), (ad 11, .inl (cL, 3201, .inr (.inl (zB (out.2.2.2.1))))), (ad 12, .inl (cI, 3201, .inl (zA (out.2.2.2.2.1)))), (ad 13, .inl (cI, 3201, .inl (zA (out.2.2.2.2.2.1)))), (ad 14, .inr (2, [.ref (ad 15), .int (zI (out.2.2.2.2.2.2.1))])), (ad 15, .inl (cB, 36864, .inl (zA (out.2.2.2.2.2.2.2)))), (ad 31, .inr (9, [.ref (ad 9), .ref (ad 23), .ref (ad 32), .int (zI B_ready)]))] 0 0 := by
  refine CT_of_J (cc := b_Builtins_join) (maxL := 5) (ret := (some .int)) jF0_k (plainFor_of_name (by decide)) rfl (Nat.le_of_ble_eq_true rfl) ?_
  intro K hKl hKD X E
  subst hKl; subst hKD
  unfold f_Builtins_join at h
  refine J_aload_n X d_Builtins_join_0 rfl 0 rfl ?_
  refine J_get X (j_in in_Builtins) 7 rfl rfl 0 (by decide) (j_m own_Builtins_join (by decide +kernel)) rfl d_Builtins_join_1 ?_
  refine J_iload_n X d_Builtins_join_4 rfl 1 rfl ?_
  obtain ⟨r1, q2, h⟩ := wk_b h
  refine J_afterP (jrunV X (c_Values_lengthOf (ad := ad) q2) jF0_k (fun _ _ _ _ => trivial) (jgV own_Builtins_join (by decide +kernel)) rfl rfl rfl pd_Values_lengthOf (by decide) [0, 4] rfl (by decide) 0 4 rfl rfl rfl rfl (Nat.le_of_ble_eq_true rfl) d_Builtins_join_5 (by decide)) ?_
  refine J_aload_n X d_Builtins_join_8 rfl 0 rfl ?_
  refine J_get X (j_in in_Builtins) 7 rfl rfl 0 (by decide) (j_m own_Builtins_join (by decide +kernel)) rfl d_Builtins_join_9 ?_
  refine J_iload_n X d_Builtins_join_12 rfl 2 rfl ?_
  obtain ⟨r3, q4, h⟩ := wk_b h
  refine J_afterP (jrunV X (c_Values_lengthOf (ad := ad) q4) jF0_k (fun _ _ _ _ => trivial) (jgV own_Builtins_join (by decide +kernel)) rfl rfl rfl pd_Values_lengthOf (by decide) [0, 4] rfl (by decide) 0 4 rfl rfl rfl rfl (Nat.le_of_ble_eq_true rfl) d_Builtins_join_13 (by decide)) ?_
  refine J_iadd X d_Builtins_join_16 ?_
  refine J_istore_n (lv' := [(3, .int (zI (r1 + r3))), (0, .ref (ad 31)), (1, .int (zI p1)), (2, .int (zI p2))]) X d_Builtins_join_17 rfl (by decide) rfl ?_
  refine J_iload_n X d_Builtins_join_18 rfl 0 rfl ?_
  refine J_bipush X d_Builtins_join_19 (by decide) ?_
  refine J_icmp_le (tgt := 26) X d_Builtins_join_21 (by decide) h (fun c5 h => ?_) (fun c5 h => ?_)
  · refine J_aload_n X d_Builtins_join_26 rfl 1 rfl ?_
    refine J_get X (j_in in_Builtins) 7 rfl rfl 0 (by decide) (j_m own_Builtins_join (by decide +kernel)) rfl d_Builtins_join_27 ?_
    refine J_get X (j_in in_Values) 0 rfl rfl 0 (by decide) (j_m own_Builtins_join (by decide +kernel)) rfl d_Builtins_join_30 ?_
    obtain ⟨r6, q7, h⟩ := wk_b h
    refine J_afterP (jrunV X (c_ByteRow_end (xa := ad 14) (xb := ad 15) q7) jF0_k (fun _ _ _ _ => trivial) (jgV own_Builtins_join (by decide +kernel)) rfl rfl rfl pd_ByteRow_end (by decide) [5] rfl (by decide) 0 2 rfl rfl rfl rfl (Nat.le_of_ble_eq_true rfl) d_Builtins_join_33 (by decide)) ?_
    refine J_istore (lv' := [(4, .int (zI r6)), (3, .int (zI (r1 + r3))), (0, .ref (ad 31)), (1, .int (zI p1)), (2, .int (zI p2))]) X d_Builtins_join_36 (by decide) rfl ?_
    refine J_aload_n X d_Builtins_join_38 rfl 2 rfl ?_
    refine J_get X (j_in in_Builtins) 7 rfl rfl 0 (by decide) (j_m own_Builtins_join (by decide +kernel)) rfl d_Builtins_join_39 ?_
    refine J_get X (j_in in_Values) 0 rfl rfl 0 (by decide) (j_m own_Builtins_join (by decide +kernel)) rfl d_Builtins_join_42 ?_
    refine J_aload_n X d_Builtins_join_45 rfl 2 rfl ?_
    refine J_get X (j_in in_Builtins) 7 rfl rfl 0 (by decide) (j_m own_Builtins_join (by decide +kernel)) rfl d_Builtins_join_46 ?_
    refine J_iload_n X d_Builtins_join_49 rfl 3 rfl ?_
    obtain ⟨r8, q9, h⟩ := wk_b h
    refine J_afterP (jrunV X (c_Values_startOf (ad := ad) q9) jF0_k (fun _ _ _ _ => trivial) (jgV own_Builtins_join (by decide +kernel)) rfl rfl rfl pd_Values_startOf (by decide) [0, 3] rfl (by decide) 0 4 rfl rfl rfl rfl (Nat.le_of_ble_eq_true rfl) d_Builtins_join_50 (by decide)) ?_
    refine J_aload_n X d_Builtins_join_53 rfl 2 rfl ?_
    refine J_get X (j_in in_Builtins) 7 rfl rfl 0 (by decide) (j_m own_Builtins_join (by decide +kernel)) rfl d_Builtins_join_54 ?_
    refine J_iload_n X d_Builtins_join_57 rfl 3 rfl ?_
    obtain ⟨r10, q11, h⟩ := wk_b h
    refine J_afterP (jrunV X (c_Values_lengthOf (ad := ad) q11) jF0_k (fun _ _ _ _ => trivial) (jgV own_Builtins_join (by decide +kernel)) rfl rfl rfl pd_Values_lengthOf (by decide) [0, 4] rfl (by decide) 0 4 rfl rfl rfl rfl (Nat.le_of_ble_eq_true rfl) d_Builtins_join_58 (by decide)) ?_
    obtain ⟨VB_top_12, VB_row_13, q14, h⟩ := wk_b2 h
    refine J_afterI0 (ws' := [(ad 9, .inr (4, [.ref (ad 14), .ref (ad 16), .ref (ad 10), .ref (ad 11), .ref (ad 12), .ref (ad 13), .int (zI V_top)])), (ad 10, .inl (cI, 3201, .inl (zA V_kinds))), (ad 11, .inl (cL, 3201, .inr (.inl (zB V_numbers)))), (ad 12, .inl (cI, 3201, .inl (zA V_parts))), (ad 13, .inl (cI, 3201, .inl (zA V_links))), (ad 14, .inr (2, [.ref (ad 15), .int (zI VB_top_12)])), (ad 15, .inl (cB, 36864, .inl (zA VB_row_13))), (ad 31, .inr (9, [.ref (ad 9), .ref (ad 23), .ref (ad 32), .int (zI B_ready)]))]) X (jrunV X (c_ByteRow_append (xa := ad 14) (xb := ad 15) q14) jF0_k (fun _ _ _ _ => trivial) (jgV own_Builtins_join (by decide +kernel)) rfl rfl rfl pd_ByteRow_append (by decide) [5, 6] rfl (by decide) 0 2 rfl rfl rfl rfl (Nat.le_of_ble_eq_true rfl) d_Builtins_join_61 (by decide)) [5, 6] [0, 1, 2, 3, 4, 7] [0, 1, 2, 3, 4, 6, 7, 5] rfl rfl (by decide) (by decide) rfl (by decide) ?_
    refine J_aload_n X d_Builtins_join_64 rfl 2 rfl ?_
    refine J_get X (j_in in_Builtins) 7 rfl rfl 0 (by decide) (j_m own_Builtins_join (by decide +kernel)) rfl d_Builtins_join_65 ?_
    refine J_get X (j_in in_Values) 0 rfl rfl 0 (by decide) (j_m own_Builtins_join (by decide +kernel)) rfl d_Builtins_join_68 ?_
    refine J_aload_n X d_Builtins_join_71 rfl 2 rfl ?_
    refine J_get X (j_in in_Builtins) 7 rfl rfl 0 (by decide) (j_m own_Builtins_join (by decide +kernel)) rfl d_Builtins_join_72 ?_
    refine J_iload_n X d_Builtins_join_75 rfl 4 rfl ?_
    obtain ⟨r15, q16, h⟩ := wk_b h
    refine J_afterP (jrunV X (c_Values_startOf (ad := ad) q16) jF0_k (fun _ _ _ _ => trivial) (jgV own_Builtins_join (by decide +kernel)) rfl rfl rfl pd_Values_startOf (by decide) [0, 3] rfl (by decide) 0 4 rfl rfl rfl rfl (Nat.le_of_ble_eq_true rfl) d_Builtins_join_76 (by decide)) ?_
    refine J_aload_n X d_Builtins_join_79 rfl 2 rfl ?_
    refine J_get X (j_in in_Builtins) 7 rfl rfl 0 (by decide) (j_m own_Builtins_join (by decide +kernel)) rfl d_Builtins_join_80 ?_
    refine J_iload_n X d_Builtins_join_83 rfl 4 rfl ?_
    obtain ⟨r17, q18, h⟩ := wk_b h
    refine J_afterP (jrunV X (c_Values_lengthOf (ad := ad) q18) jF0_k (fun _ _ _ _ => trivial) (jgV own_Builtins_join (by decide +kernel)) rfl rfl rfl pd_Values_lengthOf (by decide) [0, 4] rfl (by decide) 0 4 rfl rfl rfl rfl (Nat.le_of_ble_eq_true rfl) d_Builtins_join_84 (by decide)) ?_
    obtain ⟨VB_top_19, VB_row_20, q21, h⟩ := wk_b2 h
    refine J_afterI0 (ws' := [(ad 9, .inr (4, [.ref (ad 14), .ref (ad 16), .ref (ad 10), .ref (ad 11), .ref (ad 12), .ref (ad 13), .int (zI V_top)])), (ad 10, .inl (cI, 3201, .inl (zA V_kinds))), (ad 11, .inl (cL, 3201, .inr (.inl (zB V_numbers)))), (ad 12, .inl (cI, 3201, .inl (zA V_parts))), (ad 13, .inl (cI, 3201, .inl (zA V_links))), (ad 14, .inr (2, [.ref (ad 15), .int (zI VB_top_19)])), (ad 15, .inl (cB, 36864, .inl (zA VB_row_20))), (ad 31, .inr (9, [.ref (ad 9), .ref (ad 23), .ref (ad 32), .int (zI B_ready)]))]) X (jrunV X (c_ByteRow_append (xa := ad 14) (xb := ad 15) q21) jF0_k (fun _ _ _ _ => trivial) (jgV own_Builtins_join (by decide +kernel)) rfl rfl rfl pd_ByteRow_append (by decide) [5, 6] rfl (by decide) 0 2 rfl rfl rfl rfl (Nat.le_of_ble_eq_true rfl) d_Builtins_join_87 (by decide)) [5, 6] [0, 1, 2, 3, 4, 7] [0, 1, 2, 3, 4, 6, 7, 5] rfl rfl (by decide) (by decide) rfl (by decide) ?_
    refine J_aload_n X d_Builtins_join_90 rfl 2 rfl ?_
    refine J_get X (j_in in_Builtins) 7 rfl rfl 0 (by decide) (j_m own_Builtins_join (by decide +kernel)) rfl d_Builtins_join_91 ?_
    refine J_iload X d_Builtins_join_94 0 rfl ?_
    refine J_iload_n X d_Builtins_join_96 rfl 1 rfl ?_
    obtain ⟨r22, V_top_23, V_kinds_24, V_numbers_25, V_parts_26, V_links_27, q28, h⟩ := wk_b6 h
    refine J_afterI0 (ws' := [(ad 9, .inr (4, [.ref (ad 14), .ref (ad 16), .ref (ad 10), .ref (ad 11), .ref (ad 12), .ref (ad 13), .int (zI V_top_23)])), (ad 10, .inl (cI, 3201, .inl (zA V_kinds_24))), (ad 11, .inl (cL, 3201, .inr (.inl (zB V_numbers_25)))), (ad 12, .inl (cI, 3201, .inl (zA V_parts_26))), (ad 13, .inl (cI, 3201, .inl (zA V_links_27))), (ad 14, .inr (2, [.ref (ad 15), .int (zI VB_top_19)])), (ad 15, .inl (cB, 36864, .inl (zA VB_row_20))), (ad 31, .inr (9, [.ref (ad 9), .ref (ad 23), .ref (ad 32), .int (zI B_ready)]))]) X (jrunV X (c_Values_ofBytes (ad := ad) q28) jF0_k (fun _ _ _ _ => trivial) (jgV own_Builtins_join (by decide +kernel)) rfl rfl rfl pd_Values_ofBytes (by decide) [0, 1, 2, 3, 4] rfl (by decide) 0 4 rfl rfl rfl rfl (Nat.le_of_ble_eq_true rfl) d_Builtins_join_97 (by decide)) [0, 1, 2, 3, 4] [5, 6, 7] [3, 4, 5, 6, 7, 0, 1, 2] rfl rfl (by decide) (by decide) rfl (by decide) ?_
    cases h
    exact J_ret E ⟨_, rfl, rfl⟩ d_Builtins_join_100 (Nat.le_refl _) (Nat.le_refl _) rfl
  · refine J_iconst X d_Builtins_join_24 ?_
    cases h
    exact J_ret E ⟨_, rfl, rfl⟩ d_Builtins_join_25 (Nat.le_refl _) (Nat.le_refl _) rfl

theorem d_Builtins_compareBytes_0 : decode b_Builtins_compareBytes 0 = .ok (.aload_n 0, 1) := by decide +kernel
theorem d_Builtins_compareBytes_1 : decode b_Builtins_compareBytes 1 = .ok (.getfield 19, 3) := by decide +kernel
theorem d_Builtins_compareBytes_4 : decode b_Builtins_compareBytes 4 = .ok (.getfield 170, 3) := by decide +kernel
theorem d_Builtins_compareBytes_7 : decode b_Builtins_compareBytes 7 = .ok (.aload_n 0, 1) := by decide +kernel
theorem d_Builtins_compareBytes_8 : decode b_Builtins_compareBytes 8 = .ok (.getfield 19, 3) := by decide +kernel
theorem d_Builtins_compareBytes_11 : decode b_Builtins_compareBytes 11 = .ok (.iload_n 1, 1) := by decide +kernel
theorem d_Builtins_compareBytes_12 : decode b_Builtins_compareBytes 12 = .ok (.invokevirtual 180, 3) := by decide +kernel
theorem d_Builtins_compareBytes_15 : decode b_Builtins_compareBytes 15 = .ok (.aload_n 0, 1) := by decide +kernel
theorem d_Builtins_compareBytes_16 : decode b_Builtins_compareBytes 16 = .ok (.getfield 19, 3) := by decide +kernel
theorem d_Builtins_compareBytes_19 : decode b_Builtins_compareBytes 19 = .ok (.iload_n 1, 1) := by decide +kernel
theorem d_Builtins_compareBytes_20 : decode b_Builtins_compareBytes 20 = .ok (.invokevirtual 156, 3) := by decide +kernel
theorem d_Builtins_compareBytes_23 : decode b_Builtins_compareBytes 23 = .ok (.aload_n 0, 1) := by decide +kernel
theorem d_Builtins_compareBytes_24 : decode b_Builtins_compareBytes 24 = .ok (.getfield 19, 3) := by decide +kernel
theorem d_Builtins_compareBytes_27 : decode b_Builtins_compareBytes 27 = .ok (.iload_n 2, 1) := by decide +kernel
theorem d_Builtins_compareBytes_28 : decode b_Builtins_compareBytes 28 = .ok (.invokevirtual 180, 3) := by decide +kernel
theorem d_Builtins_compareBytes_31 : decode b_Builtins_compareBytes 31 = .ok (.aload_n 0, 1) := by decide +kernel
theorem d_Builtins_compareBytes_32 : decode b_Builtins_compareBytes 32 = .ok (.getfield 19, 3) := by decide +kernel
theorem d_Builtins_compareBytes_35 : decode b_Builtins_compareBytes 35 = .ok (.iload_n 2, 1) := by decide +kernel
theorem d_Builtins_compareBytes_36 : decode b_Builtins_compareBytes 36 = .ok (.invokevirtual 156, 3) := by decide +kernel
theorem d_Builtins_compareBytes_39 : decode b_Builtins_compareBytes 39 = .ok (.invokevirtual 198, 3) := by decide +kernel
theorem d_Builtins_compareBytes_42 : decode b_Builtins_compareBytes 42 = .ok (.ireturn, 1) := by decide +kernel
def f_Builtins_compareBytes (N : Nat) (V_top : Int) (V_parts : Int → Int) (V_links : Int → Int) (VB_row : Int → Int) (p1 : Int) (p2 : Int) : Option (Int) :=
  Option.bind (f_Values_startOf V_top V_parts p1) (fun r1 =>
   Option.bind (f_Values_lengthOf V_top V_links p1) (fun r3 =>
    Option.bind (f_Values_startOf V_top V_parts p2) (fun r5 =>
     Option.bind (f_Values_lengthOf V_top V_links p2) (fun r7 =>
      Option.bind (f_ByteRow_compare N 36864 VB_row r1 r3 r5 r7) (fun r9 =>
       some r9)))))
set_option maxHeartbeats 4000000 in
set_option maxRecDepth 100000 in
theorem c_Builtins_compareBytes {l : Launch} {D : va_G} {cI cL cB : ClassId} {ad : Nat → Nat} {N : Nat} {V_top : Int} {V_parts : Int → Int} {V_links : Int → Int} {VB_top : Int} {VB_row : Int → Int} {B_ready : Int} {p1 : Int} {p2 : Int} {out : Int} (h : f_Builtins_compareBytes N V_top V_parts V_links VB_row p1 p2 = some out) : CT jF0 true l D [(cI, .int), (cL, .long), (cB, .byte)] y_Builtins_compareBytes w_Builtins_compareBytes ({ frames := 2, cells := 0, slots := 0, locals := 50 } : Room) [.ref (ad 31), .int (zI p1), .int (zI p2)] [(ad 9, .inr (4, [.ref (ad 14), .ref (ad 16), .ref (ad 10), .ref (ad 11), .ref (ad 12), .ref (ad 13), .int (zI V_top)])), (ad 12, .inl (cI, 3201, .inl (zA V_parts))), (ad 13, .inl (cI, 3201, .inl (zA V_links))), (ad 14, .inr (2, [.ref (ad 15), .int (zI VB_top)])), (ad 15, .inl (cB, 36864, .inl (zA VB_row))), (ad 31, .inr (9, [.ref (ad 9), .ref (ad 23), .ref (ad 32), .int (zI B_ready)]))] (some (.int (zI out))) [(ad 9, .inr (4, [.ref (ad 14), .ref (ad 16), .ref (ad 10), .ref (ad 11), .ref (ad 12), .ref (ad 13), .int (zI V_top)])), (ad 12, .inl (cI, 3201, .inl (zA V_parts))), (ad 13, .inl (cI, 3201, .inl (zA V_links))), (ad 14, .inr (2, [.ref (ad 15), .int (zI VB_top)])), (ad 15, .inl (cB, 36864, .inl (zA VB_row))), (ad 31, .inr (9, [.ref (ad 9), .ref (ad 23), .ref (ad 32), .int (zI B_ready)]))] 0 0 := by
  refine CT_of_J (cc := b_Builtins_compareBytes) (maxL := 3) (ret := (some .int)) jF0_k (plainFor_of_name (by decide)) rfl (Nat.le_of_ble_eq_true rfl) ?_
  intro K hKl hKD X E
  subst hKl; subst hKD
  unfold f_Builtins_compareBytes at h
  refine J_aload_n X d_Builtins_compareBytes_0 rfl 0 rfl ?_
  refine J_get X (j_in in_Builtins) 5 rfl rfl 0 (by decide) (j_m own_Builtins_compareBytes (by decide +kernel)) rfl d_Builtins_compareBytes_1 ?_
  refine J_get X (j_in in_Values) 0 rfl rfl 0 (by decide) (j_m own_Builtins_compareBytes (by decide +kernel)) rfl d_Builtins_compareBytes_4 ?_
  refine J_aload_n X d_Builtins_compareBytes_7 rfl 0 rfl ?_
  refine J_get X (j_in in_Builtins) 5 rfl rfl 0 (by decide) (j_m own_Builtins_compareBytes (by decide +kernel)) rfl d_Builtins_compareBytes_8 ?_
  refine J_iload_n X d_Builtins_compareBytes_11 rfl 1 rfl ?_
  obtain ⟨r1, q2, h⟩ := wk_b h
  refine J_afterP (jrunV X (c_Values_startOf (ad := ad) q2) jF0_k (fun _ _ _ _ => trivial) (jgV own_Builtins_compareBytes (by decide +kernel)) rfl rfl rfl pd_Values_startOf (by decide) [0, 1] rfl (by decide) 0 4 rfl rfl rfl rfl (Nat.le_of_ble_eq_true rfl) d_Builtins_compareBytes_12 (by decide)) ?_
  refine J_aload_n X d_Builtins_compareBytes_15 rfl 0 rfl ?_
  refine J_get X (j_in in_Builtins) 5 rfl rfl 0 (by decide) (j_m own_Builtins_compareBytes (by decide +kernel)) rfl d_Builtins_compareBytes_16 ?_
  refine J_iload_n X d_Builtins_compareBytes_19 rfl 1 rfl ?_
  obtain ⟨r3, q4, h⟩ := wk_b h
  refine J_afterP (jrunV X (c_Values_lengthOf (ad := ad) q4) jF0_k (fun _ _ _ _ => trivial) (jgV own_Builtins_compareBytes (by decide +kernel)) rfl rfl rfl pd_Values_lengthOf (by decide) [0, 2] rfl (by decide) 0 4 rfl rfl rfl rfl (Nat.le_of_ble_eq_true rfl) d_Builtins_compareBytes_20 (by decide)) ?_
  refine J_aload_n X d_Builtins_compareBytes_23 rfl 0 rfl ?_
  refine J_get X (j_in in_Builtins) 5 rfl rfl 0 (by decide) (j_m own_Builtins_compareBytes (by decide +kernel)) rfl d_Builtins_compareBytes_24 ?_
  refine J_iload_n X d_Builtins_compareBytes_27 rfl 2 rfl ?_
  obtain ⟨r5, q6, h⟩ := wk_b h
  refine J_afterP (jrunV X (c_Values_startOf (ad := ad) q6) jF0_k (fun _ _ _ _ => trivial) (jgV own_Builtins_compareBytes (by decide +kernel)) rfl rfl rfl pd_Values_startOf (by decide) [0, 1] rfl (by decide) 0 4 rfl rfl rfl rfl (Nat.le_of_ble_eq_true rfl) d_Builtins_compareBytes_28 (by decide)) ?_
  refine J_aload_n X d_Builtins_compareBytes_31 rfl 0 rfl ?_
  refine J_get X (j_in in_Builtins) 5 rfl rfl 0 (by decide) (j_m own_Builtins_compareBytes (by decide +kernel)) rfl d_Builtins_compareBytes_32 ?_
  refine J_iload_n X d_Builtins_compareBytes_35 rfl 2 rfl ?_
  obtain ⟨r7, q8, h⟩ := wk_b h
  refine J_afterP (jrunV X (c_Values_lengthOf (ad := ad) q8) jF0_k (fun _ _ _ _ => trivial) (jgV own_Builtins_compareBytes (by decide +kernel)) rfl rfl rfl pd_Values_lengthOf (by decide) [0, 2] rfl (by decide) 0 4 rfl rfl rfl rfl (Nat.le_of_ble_eq_true rfl) d_Builtins_compareBytes_36 (by decide)) ?_
  obtain ⟨r9, q10, h⟩ := wk_b h
  refine J_afterP (jrunV X (c_ByteRow_compare (xa := ad 14) (xb := ad 15) q10) jF0_k (fun _ _ _ _ => trivial) (jgV own_Builtins_compareBytes (by decide +kernel)) rfl rfl rfl pd_ByteRow_compare (by decide) [3, 4] rfl (by decide) 0 2 rfl rfl rfl rfl (Nat.le_of_ble_eq_true rfl) d_Builtins_compareBytes_39 (by decide)) ?_
  cases h
  exact J_ret E ⟨_, rfl, rfl⟩ d_Builtins_compareBytes_42 (Nat.le_refl _) (Nat.le_refl _) rfl

theorem d_Builtins_slice_0 : decode b_Builtins_slice 0 = .ok (.lconst 0, 1) := by decide +kernel
theorem d_Builtins_slice_1 : decode b_Builtins_slice 1 = .ok (.lload_n 1, 1) := by decide +kernel
theorem d_Builtins_slice_2 : decode b_Builtins_slice 2 = .ok (.invokestatic 193, 3) := by decide +kernel
theorem d_Builtins_slice_5 : decode b_Builtins_slice 5 = .ok (.aload_n 0, 1) := by decide +kernel
theorem d_Builtins_slice_6 : decode b_Builtins_slice 6 = .ok (.getfield 19, 3) := by decide +kernel
theorem d_Builtins_slice_9 : decode b_Builtins_slice 9 = .ok (.iload 5, 2) := by decide +kernel
theorem d_Builtins_slice_11 : decode b_Builtins_slice 11 = .ok (.invokevirtual 156, 3) := by decide +kernel
theorem d_Builtins_slice_14 : decode b_Builtins_slice 14 = .ok (.i2l, 1) := by decide +kernel
theorem d_Builtins_slice_15 : decode b_Builtins_slice 15 = .ok (.invokestatic 196, 3) := by decide +kernel
theorem d_Builtins_slice_18 : decode b_Builtins_slice 18 = .ok (.lstore 6, 2) := by decide +kernel
theorem d_Builtins_slice_20 : decode b_Builtins_slice 20 = .ok (.lconst 0, 1) := by decide +kernel
theorem d_Builtins_slice_21 : decode b_Builtins_slice 21 = .ok (.lload_n 3, 1) := by decide +kernel
theorem d_Builtins_slice_22 : decode b_Builtins_slice 22 = .ok (.invokestatic 193, 3) := by decide +kernel
theorem d_Builtins_slice_25 : decode b_Builtins_slice 25 = .ok (.aload_n 0, 1) := by decide +kernel
theorem d_Builtins_slice_26 : decode b_Builtins_slice 26 = .ok (.getfield 19, 3) := by decide +kernel
theorem d_Builtins_slice_29 : decode b_Builtins_slice 29 = .ok (.iload 5, 2) := by decide +kernel
theorem d_Builtins_slice_31 : decode b_Builtins_slice 31 = .ok (.invokevirtual 156, 3) := by decide +kernel
theorem d_Builtins_slice_34 : decode b_Builtins_slice 34 = .ok (.i2l, 1) := by decide +kernel
theorem d_Builtins_slice_35 : decode b_Builtins_slice 35 = .ok (.lload 6, 2) := by decide +kernel
theorem d_Builtins_slice_37 : decode b_Builtins_slice 37 = .ok (.lsub, 1) := by decide +kernel
theorem d_Builtins_slice_38 : decode b_Builtins_slice 38 = .ok (.invokestatic 196, 3) := by decide +kernel
theorem d_Builtins_slice_41 : decode b_Builtins_slice 41 = .ok (.lstore 8, 2) := by decide +kernel
theorem d_Builtins_slice_43 : decode b_Builtins_slice 43 = .ok (.aload_n 0, 1) := by decide +kernel
theorem d_Builtins_slice_44 : decode b_Builtins_slice 44 = .ok (.getfield 19, 3) := by decide +kernel
theorem d_Builtins_slice_47 : decode b_Builtins_slice 47 = .ok (.aload_n 0, 1) := by decide +kernel
theorem d_Builtins_slice_48 : decode b_Builtins_slice 48 = .ok (.getfield 19, 3) := by decide +kernel
theorem d_Builtins_slice_51 : decode b_Builtins_slice 51 = .ok (.iload 5, 2) := by decide +kernel
theorem d_Builtins_slice_53 : decode b_Builtins_slice 53 = .ok (.invokevirtual 180, 3) := by decide +kernel
theorem d_Builtins_slice_56 : decode b_Builtins_slice 56 = .ok (.lload 6, 2) := by decide +kernel
theorem d_Builtins_slice_58 : decode b_Builtins_slice 58 = .ok (.l2i, 1) := by decide +kernel
theorem d_Builtins_slice_59 : decode b_Builtins_slice 59 = .ok (.iadd, 1) := by decide +kernel
theorem d_Builtins_slice_60 : decode b_Builtins_slice 60 = .ok (.lload 8, 2) := by decide +kernel
theorem d_Builtins_slice_62 : decode b_Builtins_slice 62 = .ok (.l2i, 1) := by decide +kernel
theorem d_Builtins_slice_63 : decode b_Builtins_slice 63 = .ok (.invokevirtual 187, 3) := by decide +kernel
theorem d_Builtins_slice_66 : decode b_Builtins_slice 66 = .ok (.ireturn, 1) := by decide +kernel
def f_Builtins_slice (V_top : Int) (V_kinds : Int → Int) (V_numbers : Int → Int) (V_parts : Int → Int) (V_links : Int → Int) (p1 : Int) (p3 : Int) (p5 : Int) : Option (Int × Int × (Int → Int) × (Int → Int) × (Int → Int) × (Int → Int)) :=
  if jl2 0 p1 = true then (
   Option.bind (f_Values_lengthOf V_top V_links p5) (fun r2 =>
    if rI r2 = true then (
     if jl2 (max 0 p1) r2 = true then (
      if jl2 0 p3 = true then (
       Option.bind (f_Values_lengthOf V_top V_links p5) (fun r7 =>
        if rI r7 = true then (
         if jl2 (max 0 p3) (r7 - (min (max 0 p1) r2)) = true then (
          Option.bind (f_Values_startOf V_top V_parts p5) (fun r11 =>
           ob6 (f_Values_ofBytes V_top V_kinds V_numbers V_parts V_links (r11 + (min (max 0 p1) r2)) (min (max 0 p3) (r7 - (min (max 0 p1) r2)))) (fun r13 V_top_14 V_kinds_15 V_numbers_16 V_parts_17 V_links_18 =>
            some (r13, V_top_14, V_kinds_15, V_numbers_16, V_parts_17, V_links_18)))) else none) else none)) else none) else none) else none)) else none
set_option maxHeartbeats 4000000 in
set_option maxRecDepth 100000 in
theorem c_Builtins_slice {l : Launch} {D : va_G} {cI cL cB : ClassId} {ad : Nat → Nat} {V_top : Int} {V_kinds : Int → Int} {V_numbers : Int → Int} {V_parts : Int → Int} {V_links : Int → Int} {B_ready : Int} {p1 : Int} {p3 : Int} {p5 : Int} {out : Int × Int × (Int → Int) × (Int → Int) × (Int → Int) × (Int → Int)} (h : f_Builtins_slice V_top V_kinds V_numbers V_parts V_links p1 p3 p5 = some out) : CT jF0 false l D [(cI, .int), (cL, .long), (cB, .byte)] y_Builtins_slice w_Builtins_slice ({ frames := 3, cells := 0, slots := 0, locals := 74 } : Room) [.ref (ad 31), .long (zL p1), .long (zL p3), .int (zI p5)] [(ad 9, .inr (4, [.ref (ad 14), .ref (ad 16), .ref (ad 10), .ref (ad 11), .ref (ad 12), .ref (ad 13), .int (zI V_top)])), (ad 10, .inl (cI, 3201, .inl (zA V_kinds))), (ad 11, .inl (cL, 3201, .inr (.inl (zB V_numbers)))), (ad 12, .inl (cI, 3201, .inl (zA V_parts))), (ad 13, .inl (cI, 3201, .inl (zA V_links))), (ad 31, .inr (9, [.ref (ad 9), .ref (ad 23), .ref (ad 32), .int (zI B_ready)]))] (some (.int (zI out.1))) [(ad 9, .inr (4, [.ref (ad 14), .ref (ad 16), .ref (ad 10), .ref (ad 11), .ref (ad 12), .ref (ad 13), .int (zI (out.2.1))])), (ad 10, .inl (cI, 3201, .inl (zA (out.2.2.1)))), (ad 11, .inl (cL, 3201, .inr (.inl (zB (out.2.2.2.1))))), (ad 12, .inl (cI, 3201, .inl (zA (out.2.2.2.2.1)))), (ad 13, .inl (cI, 3201, .inl (zA (out.2.2.2.2.2)))), (ad 31, .inr (9, [.ref (ad 9), .ref (ad 23), .ref (ad 32), .int (zI B_ready)]))] 0 0 := by
  refine CT_of_J (cc := b_Builtins_slice) (maxL := 10) (ret := (some .int)) jF0_k (plainFor_of_name (by decide)) rfl (Nat.le_of_ble_eq_true rfl) ?_
  intro K hKl hKD X E
  subst hKl; subst hKD
  unfold f_Builtins_slice at h
  refine J_lconst (v := 0) X d_Builtins_slice_0 (by decide) ?_
  refine J_lload_n X d_Builtins_slice_1 rfl 1 rfl ?_
  obtain ⟨g1, h⟩ := wk_g h
  refine J_mmaxl X g1 (j_m own_Builtins_slice (by decide +kernel)) (j_m own_Builtins_slice (by decide +kernel)) (j_m own_Builtins_slice (by decide +kernel)) (j_m own_Builtins_slice (by decide +kernel)) (by decide) (Nat.le_of_ble_eq_true rfl) (by decide) (by decide) d_Builtins_slice_2 ?_
  refine J_aload_n X d_Builtins_slice_5 rfl 0 rfl ?_
  refine J_get X (j_in in_Builtins) 5 rfl rfl 0 (by decide) (j_m own_Builtins_slice (by decide +kernel)) rfl d_Builtins_slice_6 ?_
  refine J_iload X d_Builtins_slice_9 3 rfl ?_
  obtain ⟨r2, q3, h⟩ := wk_b h
  refine J_afterP (jrunV X (c_Values_lengthOf (ad := ad) q3) jF0_k (fun _ _ _ _ => trivial) (jgV own_Builtins_slice (by decide +kernel)) rfl rfl rfl pd_Values_lengthOf (by decide) [0, 4] rfl (by decide) 0 4 rfl rfl rfl rfl (Nat.le_of_ble_eq_true rfl) d_Builtins_slice_11 (by decide)) ?_
  obtain ⟨g4, h⟩ := wk_g h
  refine J_i2l X g4 d_Builtins_slice_14 ?_
  obtain ⟨g5, h⟩ := wk_g h
  refine J_mminl X g5 (j_m own_Builtins_slice (by decide +kernel)) (j_m own_Builtins_slice (by decide +kernel)) (j_m own_Builtins_slice (by decide +kernel)) (j_m own_Builtins_slice (by decide +kernel)) (by decide) (Nat.le_of_ble_eq_true rfl) (by decide) (by decide) d_Builtins_slice_15 ?_
  refine J_lstore (lv' := [(6, .long (zL (min (max 0 p1) r2))), (0, .ref (ad 31)), (1, .long (zL p1)), (3, .long (zL p3)), (5, .int (zI p5))]) X d_Builtins_slice_18 (by decide) rfl ?_
  refine J_lconst (v := 0) X d_Builtins_slice_20 (by decide) ?_
  refine J_lload_n X d_Builtins_slice_21 rfl 3 rfl ?_
  obtain ⟨g6, h⟩ := wk_g h
  refine J_mmaxl X g6 (j_m own_Builtins_slice (by decide +kernel)) (j_m own_Builtins_slice (by decide +kernel)) (j_m own_Builtins_slice (by decide +kernel)) (j_m own_Builtins_slice (by decide +kernel)) (by decide) (Nat.le_of_ble_eq_true rfl) (by decide) (by decide) d_Builtins_slice_22 ?_
  refine J_aload_n X d_Builtins_slice_25 rfl 1 rfl ?_
  refine J_get X (j_in in_Builtins) 5 rfl rfl 0 (by decide) (j_m own_Builtins_slice (by decide +kernel)) rfl d_Builtins_slice_26 ?_
  refine J_iload X d_Builtins_slice_29 4 rfl ?_
  obtain ⟨r7, q8, h⟩ := wk_b h
  refine J_afterP (jrunV X (c_Values_lengthOf (ad := ad) q8) jF0_k (fun _ _ _ _ => trivial) (jgV own_Builtins_slice (by decide +kernel)) rfl rfl rfl pd_Values_lengthOf (by decide) [0, 4] rfl (by decide) 0 4 rfl rfl rfl rfl (Nat.le_of_ble_eq_true rfl) d_Builtins_slice_31 (by decide)) ?_
  obtain ⟨g9, h⟩ := wk_g h
  refine J_i2l X g9 d_Builtins_slice_34 ?_
  refine J_lload X d_Builtins_slice_35 0 rfl ?_
  refine J_lsub X d_Builtins_slice_37 ?_
  obtain ⟨g10, h⟩ := wk_g h
  refine J_mminl X g10 (j_m own_Builtins_slice (by decide +kernel)) (j_m own_Builtins_slice (by decide +kernel)) (j_m own_Builtins_slice (by decide +kernel)) (j_m own_Builtins_slice (by decide +kernel)) (by decide) (Nat.le_of_ble_eq_true rfl) (by decide) (by decide) d_Builtins_slice_38 ?_
  refine J_lstore (lv' := [(8, .long (zL (min (max 0 p3) (r7 - (min (max 0 p1) r2))))), (6, .long (zL (min (max 0 p1) r2))), (0, .ref (ad 31)), (1, .long (zL p1)), (3, .long (zL p3)), (5, .int (zI p5))]) X d_Builtins_slice_41 (by decide) rfl ?_
  refine J_aload_n X d_Builtins_slice_43 rfl 2 rfl ?_
  refine J_get X (j_in in_Builtins) 5 rfl rfl 0 (by decide) (j_m own_Builtins_slice (by decide +kernel)) rfl d_Builtins_slice_44 ?_
  refine J_aload_n X d_Builtins_slice_47 rfl 2 rfl ?_
  refine J_get X (j_in in_Builtins) 5 rfl rfl 0 (by decide) (j_m own_Builtins_slice (by decide +kernel)) rfl d_Builtins_slice_48 ?_
  refine J_iload X d_Builtins_slice_51 5 rfl ?_
  obtain ⟨r11, q12, h⟩ := wk_b h
  refine J_afterP (jrunV X (c_Values_startOf (ad := ad) q12) jF0_k (fun _ _ _ _ => trivial) (jgV own_Builtins_slice (by decide +kernel)) rfl rfl rfl pd_Values_startOf (by decide) [0, 3] rfl (by decide) 0 4 rfl rfl rfl rfl (Nat.le_of_ble_eq_true rfl) d_Builtins_slice_53 (by decide)) ?_
  refine J_lload X d_Builtins_slice_56 1 rfl ?_
  refine J_l2i X d_Builtins_slice_58 ?_
  refine J_iadd X d_Builtins_slice_59 ?_
  refine J_lload X d_Builtins_slice_60 0 rfl ?_
  refine J_l2i X d_Builtins_slice_62 ?_
  obtain ⟨r13, V_top_14, V_kinds_15, V_numbers_16, V_parts_17, V_links_18, q19, h⟩ := wk_b6 h
  refine J_afterI0 (ws' := [(ad 9, .inr (4, [.ref (ad 14), .ref (ad 16), .ref (ad 10), .ref (ad 11), .ref (ad 12), .ref (ad 13), .int (zI V_top_14)])), (ad 10, .inl (cI, 3201, .inl (zA V_kinds_15))), (ad 11, .inl (cL, 3201, .inr (.inl (zB V_numbers_16)))), (ad 12, .inl (cI, 3201, .inl (zA V_parts_17))), (ad 13, .inl (cI, 3201, .inl (zA V_links_18))), (ad 31, .inr (9, [.ref (ad 9), .ref (ad 23), .ref (ad 32), .int (zI B_ready)]))]) X (jrunV X (c_Values_ofBytes (ad := ad) q19) jF0_k (fun _ _ _ _ => trivial) (jgV own_Builtins_slice (by decide +kernel)) rfl rfl rfl pd_Values_ofBytes (by decide) [0, 1, 2, 3, 4] rfl (by decide) 0 4 rfl rfl rfl rfl (Nat.le_of_ble_eq_true rfl) d_Builtins_slice_63 (by decide)) [0, 1, 2, 3, 4] [5] [1, 2, 3, 4, 5, 0] rfl rfl (by decide) (by decide) rfl (by decide) ?_
  cases h
  exact J_ret E ⟨_, rfl, rfl⟩ d_Builtins_slice_66 (Nat.le_refl _) (Nat.le_refl _) rfl

theorem d_Builtins_byteOf_0 : decode b_Builtins_byteOf 0 = .ok (.lload_n 2, 1) := by decide +kernel
theorem d_Builtins_byteOf_1 : decode b_Builtins_byteOf 1 = .ok (.lconst 0, 1) := by decide +kernel
theorem d_Builtins_byteOf_2 : decode b_Builtins_byteOf 2 = .ok (.lcmp, 1) := by decide +kernel
theorem d_Builtins_byteOf_3 : decode b_Builtins_byteOf 3 = .ok (.ifCond .lt 17, 3) := by decide +kernel
theorem d_Builtins_byteOf_6 : decode b_Builtins_byteOf 6 = .ok (.lload_n 2, 1) := by decide +kernel
theorem d_Builtins_byteOf_7 : decode b_Builtins_byteOf 7 = .ok (.aload_n 0, 1) := by decide +kernel
theorem d_Builtins_byteOf_8 : decode b_Builtins_byteOf 8 = .ok (.getfield 19, 3) := by decide +kernel
theorem d_Builtins_byteOf_11 : decode b_Builtins_byteOf 11 = .ok (.iload_n 1, 1) := by decide +kernel
theorem d_Builtins_byteOf_12 : decode b_Builtins_byteOf 12 = .ok (.invokevirtual 156, 3) := by decide +kernel
theorem d_Builtins_byteOf_15 : decode b_Builtins_byteOf 15 = .ok (.i2l, 1) := by decide +kernel
theorem d_Builtins_byteOf_16 : decode b_Builtins_byteOf 16 = .ok (.lcmp, 1) := by decide +kernel
theorem d_Builtins_byteOf_17 : decode b_Builtins_byteOf 17 = .ok (.ifCond .lt 5, 3) := by decide +kernel
theorem d_Builtins_byteOf_20 : decode b_Builtins_byteOf 20 = .ok (.iconst (-1), 1) := by decide +kernel
theorem d_Builtins_byteOf_21 : decode b_Builtins_byteOf 21 = .ok (.ireturn, 1) := by decide +kernel
theorem d_Builtins_byteOf_22 : decode b_Builtins_byteOf 22 = .ok (.aload_n 0, 1) := by decide +kernel
theorem d_Builtins_byteOf_23 : decode b_Builtins_byteOf 23 = .ok (.getfield 19, 3) := by decide +kernel
theorem d_Builtins_byteOf_26 : decode b_Builtins_byteOf 26 = .ok (.aload_n 0, 1) := by decide +kernel
theorem d_Builtins_byteOf_27 : decode b_Builtins_byteOf 27 = .ok (.getfield 19, 3) := by decide +kernel
theorem d_Builtins_byteOf_30 : decode b_Builtins_byteOf 30 = .ok (.getfield 170, 3) := by decide +kernel
theorem d_Builtins_byteOf_33 : decode b_Builtins_byteOf 33 = .ok (.aload_n 0, 1) := by decide +kernel
theorem d_Builtins_byteOf_34 : decode b_Builtins_byteOf 34 = .ok (.getfield 19, 3) := by decide +kernel
theorem d_Builtins_byteOf_37 : decode b_Builtins_byteOf 37 = .ok (.iload_n 1, 1) := by decide +kernel
theorem d_Builtins_byteOf_38 : decode b_Builtins_byteOf 38 = .ok (.invokevirtual 180, 3) := by decide +kernel
theorem d_Builtins_byteOf_41 : decode b_Builtins_byteOf 41 = .ok (.lload_n 2, 1) := by decide +kernel
theorem d_Builtins_byteOf_42 : decode b_Builtins_byteOf 42 = .ok (.l2i, 1) := by decide +kernel
theorem d_Builtins_byteOf_43 : decode b_Builtins_byteOf 43 = .ok (.iadd, 1) := by decide +kernel
theorem d_Builtins_byteOf_44 : decode b_Builtins_byteOf 44 = .ok (.invokevirtual 190, 3) := by decide +kernel
theorem d_Builtins_byteOf_47 : decode b_Builtins_byteOf 47 = .ok (.i2l, 1) := by decide +kernel
theorem d_Builtins_byteOf_48 : decode b_Builtins_byteOf 48 = .ok (.invokevirtual 121, 3) := by decide +kernel
theorem d_Builtins_byteOf_51 : decode b_Builtins_byteOf 51 = .ok (.ireturn, 1) := by decide +kernel
def f_Builtins_byteOf (V_top : Int) (V_kinds : Int → Int) (V_numbers : Int → Int) (V_parts : Int → Int) (V_links : Int → Int) (VB_row : Int → Int) (p1 : Int) (p2 : Int) : Option (Int × Int × (Int → Int) × (Int → Int) × (Int → Int) × (Int → Int)) :=
  if jl2 p2 0 = true then (if p2 < 0 then (
   some ((-1), V_top, V_kinds, V_numbers, V_parts, V_links)) else (
   Option.bind (f_Values_lengthOf V_top V_links p1) (fun r2 =>
    if rI r2 = true then (
     if jl2 p2 r2 = true then (if p2 < r2 then (
      Option.bind (f_Values_startOf V_top V_parts p1) (fun r6 =>
       Option.bind (f_ByteRow_at 36864 VB_row (r6 + p2)) (fun r8 =>
        if rI r8 = true then (
         ob6 (f_Values_ofInteger V_top V_kinds V_numbers V_parts V_links r8) (fun r11 V_top_12 V_kinds_13 V_numbers_14 V_parts_15 V_links_16 =>
          some (r11, V_top_12, V_kinds_13, V_numbers_14, V_parts_15, V_links_16))) else none))) else (
      some ((-1), V_top, V_kinds, V_numbers, V_parts, V_links))) else none) else none))) else none
set_option maxHeartbeats 4000000 in
set_option maxRecDepth 100000 in
theorem c_Builtins_byteOf {l : Launch} {D : va_G} {cI cL cB : ClassId} {ad : Nat → Nat} {V_top : Int} {V_kinds : Int → Int} {V_numbers : Int → Int} {V_parts : Int → Int} {V_links : Int → Int} {VB_top : Int} {VB_row : Int → Int} {B_ready : Int} {p1 : Int} {p2 : Int} {out : Int × Int × (Int → Int) × (Int → Int) × (Int → Int) × (Int → Int)} (h : f_Builtins_byteOf V_top V_kinds V_numbers V_parts V_links VB_row p1 p2 = some out) : CT jF0 false l D [(cI, .int), (cL, .long), (cB, .byte)] y_Builtins_byteOf w_Builtins_byteOf ({ frames := 3, cells := 0, slots := 0, locals := 74 } : Room) [.ref (ad 31), .int (zI p1), .long (zL p2)] [(ad 9, .inr (4, [.ref (ad 14), .ref (ad 16), .ref (ad 10), .ref (ad 11), .ref (ad 12), .ref (ad 13), .int (zI V_top)])), (ad 10, .inl (cI, 3201, .inl (zA V_kinds))), (ad 11, .inl (cL, 3201, .inr (.inl (zB V_numbers)))), (ad 12, .inl (cI, 3201, .inl (zA V_parts))), (ad 13, .inl (cI, 3201, .inl (zA V_links))), (ad 14, .inr (2, [.ref (ad 15), .int (zI VB_top)])), (ad 15, .inl (cB, 36864, .inl (zA VB_row))), (ad 31, .inr (9, [.ref (ad 9), .ref (ad 23), .ref (ad 32), .int (zI B_ready)]))] (some (.int (zI out.1))) [(ad 9, .inr (4, [.ref (ad 14), .ref (ad 16), .ref (ad 10), .ref (ad 11), .ref (ad 12), .ref (ad 13), .int (zI (out.2.1))])), (ad 10, .inl (cI, 3201, .inl (zA (out.2.2.1)))), (ad 11, .inl (cL, 3201, .inr (.inl (zB (out.2.2.2.1))))), (ad 12, .inl (cI, 3201, .inl (zA (out.2.2.2.2.1)))), (ad 13, .inl (cI, 3201, .inl (zA (out.2.2.2.2.2)))), (ad 14, .inr (2, [.ref (ad 15), .int (zI VB_top)])), (ad 15, .inl (cB, 36864, .inl (zA VB_row))), (ad 31, .inr (9, [.ref (ad 9), .ref (ad 23), .ref (ad 32), .int (zI B_ready)]))] 0 0 := by
  refine CT_of_J (cc := b_Builtins_byteOf) (maxL := 4) (ret := (some .int)) jF0_k (plainFor_of_name (by decide)) rfl (Nat.le_of_ble_eq_true rfl) ?_
  intro K hKl hKD X E
  subst hKl; subst hKD
  unfold f_Builtins_byteOf at h
  refine J_lload_n X d_Builtins_byteOf_0 rfl 2 rfl ?_
  refine J_lconst (v := 0) X d_Builtins_byteOf_1 (by decide) ?_
  refine J_lc_lt (tgt := 20) X d_Builtins_byteOf_2 d_Builtins_byteOf_3 (by decide) h (fun c1 h => ?_) (fun c1 h => ?_)
  · refine J_iconst X d_Builtins_byteOf_20 ?_
    cases h
    exact J_ret E ⟨_, rfl, rfl⟩ d_Builtins_byteOf_21 (Nat.le_refl _) (Nat.le_refl _) rfl
  · refine J_lload_n X d_Builtins_byteOf_6 rfl 2 rfl ?_
    refine J_aload_n X d_Builtins_byteOf_7 rfl 0 rfl ?_
    refine J_get X (j_in in_Builtins) 7 rfl rfl 0 (by decide) (j_m own_Builtins_byteOf (by decide +kernel)) rfl d_Builtins_byteOf_8 ?_
    refine J_iload_n X d_Builtins_byteOf_11 rfl 1 rfl ?_
    obtain ⟨r2, q3, h⟩ := wk_b h
    refine J_afterP (jrunV X (c_Values_lengthOf (ad := ad) q3) jF0_k (fun _ _ _ _ => trivial) (jgV own_Builtins_byteOf (by decide +kernel)) rfl rfl rfl pd_Values_lengthOf (by decide) [0, 4] rfl (by decide) 0 4 rfl rfl rfl rfl (Nat.le_of_ble_eq_true rfl) d_Builtins_byteOf_12 (by decide)) ?_
    obtain ⟨g4, h⟩ := wk_g h
    refine J_i2l X g4 d_Builtins_byteOf_15 ?_
    refine J_lc_lt (tgt := 22) X d_Builtins_byteOf_16 d_Builtins_byteOf_17 (by decide) h (fun c5 h => ?_) (fun c5 h => ?_)
    · refine J_aload_n X d_Builtins_byteOf_22 rfl 0 rfl ?_
      refine J_get X (j_in in_Builtins) 7 rfl rfl 0 (by decide) (j_m own_Builtins_byteOf (by decide +kernel)) rfl d_Builtins_byteOf_23 ?_
      refine J_aload_n X d_Builtins_byteOf_26 rfl 0 rfl ?_
      refine J_get X (j_in in_Builtins) 7 rfl rfl 0 (by decide) (j_m own_Builtins_byteOf (by decide +kernel)) rfl d_Builtins_byteOf_27 ?_
      refine J_get X (j_in in_Values) 0 rfl rfl 0 (by decide) (j_m own_Builtins_byteOf (by decide +kernel)) rfl d_Builtins_byteOf_30 ?_
      refine J_aload_n X d_Builtins_byteOf_33 rfl 0 rfl ?_
      refine J_get X (j_in in_Builtins) 7 rfl rfl 0 (by decide) (j_m own_Builtins_byteOf (by decide +kernel)) rfl d_Builtins_byteOf_34 ?_
      refine J_iload_n X d_Builtins_byteOf_37 rfl 1 rfl ?_
      obtain ⟨r6, q7, h⟩ := wk_b h
      refine J_afterP (jrunV X (c_Values_startOf (ad := ad) q7) jF0_k (fun _ _ _ _ => trivial) (jgV own_Builtins_byteOf (by decide +kernel)) rfl rfl rfl pd_Values_startOf (by decide) [0, 3] rfl (by decide) 0 4 rfl rfl rfl rfl (Nat.le_of_ble_eq_true rfl) d_Builtins_byteOf_38 (by decide)) ?_
      refine J_lload_n X d_Builtins_byteOf_41 rfl 2 rfl ?_
      refine J_l2i X d_Builtins_byteOf_42 ?_
      refine J_iadd X d_Builtins_byteOf_43 ?_
      obtain ⟨r8, q9, h⟩ := wk_b h
      refine J_afterP (jrunV X (c_ByteRow_at (xa := ad 14) (xb := ad 15) q9) jF0_k (fun _ _ _ _ => trivial) (jgV own_Builtins_byteOf (by decide +kernel)) rfl rfl rfl pd_ByteRow_at (by decide) [5, 6] rfl (by decide) 0 2 rfl rfl rfl rfl (Nat.le_of_ble_eq_true rfl) d_Builtins_byteOf_44 (by decide)) ?_
      obtain ⟨g10, h⟩ := wk_g h
      refine J_i2l X g10 d_Builtins_byteOf_47 ?_
      obtain ⟨r11, V_top_12, V_kinds_13, V_numbers_14, V_parts_15, V_links_16, q17, h⟩ := wk_b6 h
      refine J_afterI0 (ws' := [(ad 9, .inr (4, [.ref (ad 14), .ref (ad 16), .ref (ad 10), .ref (ad 11), .ref (ad 12), .ref (ad 13), .int (zI V_top_12)])), (ad 10, .inl (cI, 3201, .inl (zA V_kinds_13))), (ad 11, .inl (cL, 3201, .inr (.inl (zB V_numbers_14)))), (ad 12, .inl (cI, 3201, .inl (zA V_parts_15))), (ad 13, .inl (cI, 3201, .inl (zA V_links_16))), (ad 14, .inr (2, [.ref (ad 15), .int (zI VB_top)])), (ad 15, .inl (cB, 36864, .inl (zA VB_row))), (ad 31, .inr (9, [.ref (ad 9), .ref (ad 23), .ref (ad 32), .int (zI B_ready)]))]) X (jrunV X (c_Values_ofInteger (ad := ad) q17) jF0_k (fun _ _ _ _ => trivial) (jgV own_Builtins_byteOf (by decide +kernel)) rfl rfl rfl pd_Values_ofInteger (by decide) [0, 1, 2, 3, 4] rfl (by decide) 0 4 rfl rfl rfl rfl (Nat.le_of_ble_eq_true rfl) d_Builtins_byteOf_48 (by decide)) [0, 1, 2, 3, 4] [5, 6, 7] [3, 4, 5, 6, 7, 0, 1, 2] rfl rfl (by decide) (by decide) rfl (by decide) ?_
      cases h
      exact J_ret E ⟨_, rfl, rfl⟩ d_Builtins_byteOf_51 (Nat.le_refl _) (Nat.le_refl _) rfl
    · refine J_iconst X d_Builtins_byteOf_20 ?_
      cases h
      exact J_ret E ⟨_, rfl, rfl⟩ d_Builtins_byteOf_21 (Nat.le_refl _) (Nat.le_refl _) rfl

theorem d_Builtins_onBytes_0 : decode b_Builtins_onBytes 0 = .ok (.iload_n 1, 1) := by decide +kernel
theorem d_Builtins_onBytes_1 : decode b_Builtins_onBytes 1 = .ok (.tableswitch 167 10 14 #[35, 52, 74, 98, 135], 35) := by decide +kernel
theorem d_Builtins_onBytes_36 : decode b_Builtins_onBytes 36 = .ok (.aload_n 0, 1) := by decide +kernel
theorem d_Builtins_onBytes_37 : decode b_Builtins_onBytes 37 = .ok (.aload_n 0, 1) := by decide +kernel
theorem d_Builtins_onBytes_38 : decode b_Builtins_onBytes 38 = .ok (.getfield 11, 3) := by decide +kernel
theorem d_Builtins_onBytes_41 : decode b_Builtins_onBytes 41 = .ok (.iconst 0, 1) := by decide +kernel
theorem d_Builtins_onBytes_42 : decode b_Builtins_onBytes 42 = .ok (.iaload, 1) := by decide +kernel
theorem d_Builtins_onBytes_43 : decode b_Builtins_onBytes 43 = .ok (.aload_n 0, 1) := by decide +kernel
theorem d_Builtins_onBytes_44 : decode b_Builtins_onBytes 44 = .ok (.getfield 11, 3) := by decide +kernel
theorem d_Builtins_onBytes_47 : decode b_Builtins_onBytes 47 = .ok (.iconst 1, 1) := by decide +kernel
theorem d_Builtins_onBytes_48 : decode b_Builtins_onBytes 48 = .ok (.iaload, 1) := by decide +kernel
theorem d_Builtins_onBytes_49 : decode b_Builtins_onBytes 49 = .ok (.invokevirtual 153, 3) := by decide +kernel
theorem d_Builtins_onBytes_52 : decode b_Builtins_onBytes 52 = .ok (.ireturn, 1) := by decide +kernel
theorem d_Builtins_onBytes_53 : decode b_Builtins_onBytes 53 = .ok (.aload_n 0, 1) := by decide +kernel
theorem d_Builtins_onBytes_54 : decode b_Builtins_onBytes 54 = .ok (.getfield 19, 3) := by decide +kernel
theorem d_Builtins_onBytes_57 : decode b_Builtins_onBytes 57 = .ok (.aload_n 0, 1) := by decide +kernel
theorem d_Builtins_onBytes_58 : decode b_Builtins_onBytes 58 = .ok (.getfield 19, 3) := by decide +kernel
theorem d_Builtins_onBytes_61 : decode b_Builtins_onBytes 61 = .ok (.aload_n 0, 1) := by decide +kernel
theorem d_Builtins_onBytes_62 : decode b_Builtins_onBytes 62 = .ok (.getfield 11, 3) := by decide +kernel
theorem d_Builtins_onBytes_65 : decode b_Builtins_onBytes 65 = .ok (.iconst 0, 1) := by decide +kernel
theorem d_Builtins_onBytes_66 : decode b_Builtins_onBytes 66 = .ok (.iaload, 1) := by decide +kernel
theorem d_Builtins_onBytes_67 : decode b_Builtins_onBytes 67 = .ok (.invokevirtual 156, 3) := by decide +kernel
theorem d_Builtins_onBytes_70 : decode b_Builtins_onBytes 70 = .ok (.i2l, 1) := by decide +kernel
theorem d_Builtins_onBytes_71 : decode b_Builtins_onBytes 71 = .ok (.invokevirtual 121, 3) := by decide +kernel
theorem d_Builtins_onBytes_74 : decode b_Builtins_onBytes 74 = .ok (.ireturn, 1) := by decide +kernel
theorem d_Builtins_onBytes_75 : decode b_Builtins_onBytes 75 = .ok (.aload_n 0, 1) := by decide +kernel
theorem d_Builtins_onBytes_76 : decode b_Builtins_onBytes 76 = .ok (.aload_n 0, 1) := by decide +kernel
theorem d_Builtins_onBytes_77 : decode b_Builtins_onBytes 77 = .ok (.getfield 11, 3) := by decide +kernel
theorem d_Builtins_onBytes_80 : decode b_Builtins_onBytes 80 = .ok (.iconst 0, 1) := by decide +kernel
theorem d_Builtins_onBytes_81 : decode b_Builtins_onBytes 81 = .ok (.iaload, 1) := by decide +kernel
theorem d_Builtins_onBytes_82 : decode b_Builtins_onBytes 82 = .ok (.aload_n 0, 1) := by decide +kernel
theorem d_Builtins_onBytes_83 : decode b_Builtins_onBytes 83 = .ok (.getfield 19, 3) := by decide +kernel
theorem d_Builtins_onBytes_86 : decode b_Builtins_onBytes 86 = .ok (.aload_n 0, 1) := by decide +kernel
theorem d_Builtins_onBytes_87 : decode b_Builtins_onBytes 87 = .ok (.getfield 11, 3) := by decide +kernel
theorem d_Builtins_onBytes_90 : decode b_Builtins_onBytes 90 = .ok (.iconst 1, 1) := by decide +kernel
theorem d_Builtins_onBytes_91 : decode b_Builtins_onBytes 91 = .ok (.iaload, 1) := by decide +kernel
theorem d_Builtins_onBytes_92 : decode b_Builtins_onBytes 92 = .ok (.invokevirtual 30, 3) := by decide +kernel
theorem d_Builtins_onBytes_95 : decode b_Builtins_onBytes 95 = .ok (.invokevirtual 159, 3) := by decide +kernel
theorem d_Builtins_onBytes_98 : decode b_Builtins_onBytes 98 = .ok (.ireturn, 1) := by decide +kernel
theorem d_Builtins_onBytes_99 : decode b_Builtins_onBytes 99 = .ok (.aload_n 0, 1) := by decide +kernel
theorem d_Builtins_onBytes_100 : decode b_Builtins_onBytes 100 = .ok (.aload_n 0, 1) := by decide +kernel
theorem d_Builtins_onBytes_101 : decode b_Builtins_onBytes 101 = .ok (.getfield 19, 3) := by decide +kernel
theorem d_Builtins_onBytes_104 : decode b_Builtins_onBytes 104 = .ok (.aload_n 0, 1) := by decide +kernel
theorem d_Builtins_onBytes_105 : decode b_Builtins_onBytes 105 = .ok (.getfield 11, 3) := by decide +kernel
theorem d_Builtins_onBytes_108 : decode b_Builtins_onBytes 108 = .ok (.iconst 0, 1) := by decide +kernel
theorem d_Builtins_onBytes_109 : decode b_Builtins_onBytes 109 = .ok (.iaload, 1) := by decide +kernel
theorem d_Builtins_onBytes_110 : decode b_Builtins_onBytes 110 = .ok (.invokevirtual 30, 3) := by decide +kernel
theorem d_Builtins_onBytes_113 : decode b_Builtins_onBytes 113 = .ok (.aload_n 0, 1) := by decide +kernel
theorem d_Builtins_onBytes_114 : decode b_Builtins_onBytes 114 = .ok (.getfield 19, 3) := by decide +kernel
theorem d_Builtins_onBytes_117 : decode b_Builtins_onBytes 117 = .ok (.aload_n 0, 1) := by decide +kernel
theorem d_Builtins_onBytes_118 : decode b_Builtins_onBytes 118 = .ok (.getfield 11, 3) := by decide +kernel
theorem d_Builtins_onBytes_121 : decode b_Builtins_onBytes 121 = .ok (.iconst 1, 1) := by decide +kernel
theorem d_Builtins_onBytes_122 : decode b_Builtins_onBytes 122 = .ok (.iaload, 1) := by decide +kernel
theorem d_Builtins_onBytes_123 : decode b_Builtins_onBytes 123 = .ok (.invokevirtual 30, 3) := by decide +kernel
theorem d_Builtins_onBytes_126 : decode b_Builtins_onBytes 126 = .ok (.aload_n 0, 1) := by decide +kernel
theorem d_Builtins_onBytes_127 : decode b_Builtins_onBytes 127 = .ok (.getfield 11, 3) := by decide +kernel
theorem d_Builtins_onBytes_130 : decode b_Builtins_onBytes 130 = .ok (.iconst 2, 1) := by decide +kernel
theorem d_Builtins_onBytes_131 : decode b_Builtins_onBytes 131 = .ok (.iaload, 1) := by decide +kernel
theorem d_Builtins_onBytes_132 : decode b_Builtins_onBytes 132 = .ok (.invokevirtual 163, 3) := by decide +kernel
theorem d_Builtins_onBytes_135 : decode b_Builtins_onBytes 135 = .ok (.ireturn, 1) := by decide +kernel
theorem d_Builtins_onBytes_136 : decode b_Builtins_onBytes 136 = .ok (.aload_n 0, 1) := by decide +kernel
theorem d_Builtins_onBytes_137 : decode b_Builtins_onBytes 137 = .ok (.getfield 19, 3) := by decide +kernel
theorem d_Builtins_onBytes_140 : decode b_Builtins_onBytes 140 = .ok (.aload_n 0, 1) := by decide +kernel
theorem d_Builtins_onBytes_141 : decode b_Builtins_onBytes 141 = .ok (.aload_n 0, 1) := by decide +kernel
theorem d_Builtins_onBytes_142 : decode b_Builtins_onBytes 142 = .ok (.getfield 11, 3) := by decide +kernel
theorem d_Builtins_onBytes_145 : decode b_Builtins_onBytes 145 = .ok (.iconst 0, 1) := by decide +kernel
theorem d_Builtins_onBytes_146 : decode b_Builtins_onBytes 146 = .ok (.iaload, 1) := by decide +kernel
theorem d_Builtins_onBytes_147 : decode b_Builtins_onBytes 147 = .ok (.aload_n 0, 1) := by decide +kernel
theorem d_Builtins_onBytes_148 : decode b_Builtins_onBytes 148 = .ok (.getfield 11, 3) := by decide +kernel
theorem d_Builtins_onBytes_151 : decode b_Builtins_onBytes 151 = .ok (.iconst 1, 1) := by decide +kernel
theorem d_Builtins_onBytes_152 : decode b_Builtins_onBytes 152 = .ok (.iaload, 1) := by decide +kernel
theorem d_Builtins_onBytes_153 : decode b_Builtins_onBytes 153 = .ok (.invokevirtual 167, 3) := by decide +kernel
theorem d_Builtins_onBytes_156 : decode b_Builtins_onBytes 156 = .ok (.ifCond .ne 7, 3) := by decide +kernel
theorem d_Builtins_onBytes_159 : decode b_Builtins_onBytes 159 = .ok (.iconst 1, 1) := by decide +kernel
theorem d_Builtins_onBytes_160 : decode b_Builtins_onBytes 160 = .ok (.goto 4, 3) := by decide +kernel
theorem d_Builtins_onBytes_163 : decode b_Builtins_onBytes 163 = .ok (.iconst 0, 1) := by decide +kernel
theorem d_Builtins_onBytes_164 : decode b_Builtins_onBytes 164 = .ok (.invokevirtual 141, 3) := by decide +kernel
theorem d_Builtins_onBytes_167 : decode b_Builtins_onBytes 167 = .ok (.ireturn, 1) := by decide +kernel
theorem d_Builtins_onBytes_168 : decode b_Builtins_onBytes 168 = .ok (.aload_n 0, 1) := by decide +kernel
theorem d_Builtins_onBytes_169 : decode b_Builtins_onBytes 169 = .ok (.getfield 19, 3) := by decide +kernel
theorem d_Builtins_onBytes_172 : decode b_Builtins_onBytes 172 = .ok (.aload_n 0, 1) := by decide +kernel
theorem d_Builtins_onBytes_173 : decode b_Builtins_onBytes 173 = .ok (.aload_n 0, 1) := by decide +kernel
theorem d_Builtins_onBytes_174 : decode b_Builtins_onBytes 174 = .ok (.getfield 11, 3) := by decide +kernel
theorem d_Builtins_onBytes_177 : decode b_Builtins_onBytes 177 = .ok (.iconst 0, 1) := by decide +kernel
theorem d_Builtins_onBytes_178 : decode b_Builtins_onBytes 178 = .ok (.iaload, 1) := by decide +kernel
theorem d_Builtins_onBytes_179 : decode b_Builtins_onBytes 179 = .ok (.aload_n 0, 1) := by decide +kernel
theorem d_Builtins_onBytes_180 : decode b_Builtins_onBytes 180 = .ok (.getfield 11, 3) := by decide +kernel
theorem d_Builtins_onBytes_183 : decode b_Builtins_onBytes 183 = .ok (.iconst 1, 1) := by decide +kernel
theorem d_Builtins_onBytes_184 : decode b_Builtins_onBytes 184 = .ok (.iaload, 1) := by decide +kernel
theorem d_Builtins_onBytes_185 : decode b_Builtins_onBytes 185 = .ok (.invokevirtual 167, 3) := by decide +kernel
theorem d_Builtins_onBytes_188 : decode b_Builtins_onBytes 188 = .ok (.ifCond .ge 7, 3) := by decide +kernel
theorem d_Builtins_onBytes_191 : decode b_Builtins_onBytes 191 = .ok (.iconst 1, 1) := by decide +kernel
theorem d_Builtins_onBytes_192 : decode b_Builtins_onBytes 192 = .ok (.goto 4, 3) := by decide +kernel
theorem d_Builtins_onBytes_195 : decode b_Builtins_onBytes 195 = .ok (.iconst 0, 1) := by decide +kernel
theorem d_Builtins_onBytes_196 : decode b_Builtins_onBytes 196 = .ok (.invokevirtual 141, 3) := by decide +kernel
theorem d_Builtins_onBytes_199 : decode b_Builtins_onBytes 199 = .ok (.ireturn, 1) := by decide +kernel
def f_Builtins_onBytes (N : Nat) (V_top : Int) (V_kinds : Int → Int) (V_numbers : Int → Int) (V_parts : Int → Int) (V_links : Int → Int) (VB_top : Int) (VB_row : Int → Int) (B_given : Int → Int) (p1 : Int) : Option (Int × Int × (Int → Int) × (Int → Int) × (Int → Int) × (Int → Int) × Int × (Int → Int)) :=
  if rI p1 = true then (
   if p1 = 10 then (
    if jix 0 3 = true then (
     if jix 1 3 = true then (
      ob8 (f_Builtins_join N V_top V_kinds V_numbers V_parts V_links VB_top VB_row (B_given 0) (B_given 1)) (fun r5 V_top_6 V_kinds_7 V_numbers_8 V_parts_9 V_links_10 VB_top_11 VB_row_12 =>
       some (r5, V_top_6, V_kinds_7, V_numbers_8, V_parts_9, V_links_10, VB_top_11, VB_row_12))) else none) else none) else (
    if p1 = 11 then (
     if jix 0 3 = true then (
      Option.bind (f_Values_lengthOf V_top V_links (B_given 0)) (fun r16 =>
       if rI r16 = true then (
        ob6 (f_Values_ofInteger V_top V_kinds V_numbers V_parts V_links r16) (fun r19 V_top_20 V_kinds_21 V_numbers_22 V_parts_23 V_links_24 =>
         some (r19, V_top_20, V_kinds_21, V_numbers_22, V_parts_23, V_links_24, VB_top, VB_row))) else none)) else none) else (
     if p1 = 12 then (
      if jix 0 3 = true then (
       if jix 1 3 = true then (
        Option.bind (f_Values_numberOf V_top V_numbers (B_given 1)) (fun r29 =>
         ob6 (f_Builtins_byteOf V_top V_kinds V_numbers V_parts V_links VB_row (B_given 0) r29) (fun r31 V_top_32 V_kinds_33 V_numbers_34 V_parts_35 V_links_36 =>
          some (r31, V_top_32, V_kinds_33, V_numbers_34, V_parts_35, V_links_36, VB_top, VB_row)))) else none) else none) else (
      if p1 = 13 then (
       if jix 0 3 = true then (
        Option.bind (f_Values_numberOf V_top V_numbers (B_given 0)) (fun r40 =>
         if jix 1 3 = true then (
          Option.bind (f_Values_numberOf V_top V_numbers (B_given 1)) (fun r43 =>
           if jix 2 3 = true then (
            ob6 (f_Builtins_slice V_top V_kinds V_numbers V_parts V_links r40 r43 (B_given 2)) (fun r46 V_top_47 V_kinds_48 V_numbers_49 V_parts_50 V_links_51 =>
             some (r46, V_top_47, V_kinds_48, V_numbers_49, V_parts_50, V_links_51, VB_top, VB_row))) else none)) else none)) else none) else (
       if p1 = 14 then (
        if jix 0 3 = true then (
         if jix 1 3 = true then (
          Option.bind (f_Builtins_compareBytes N V_top V_parts V_links VB_row (B_given 0) (B_given 1)) (fun r56 =>
           if rI r56 = true then (if r56 = 0 then (
            ob6 (f_Values_ofTruth V_top V_kinds V_numbers V_parts V_links 1) (fun r66 V_top_67 V_kinds_68 V_numbers_69 V_parts_70 V_links_71 =>
             some (r66, V_top_67, V_kinds_68, V_numbers_69, V_parts_70, V_links_71, VB_top, VB_row))) else (
            ob6 (f_Values_ofTruth V_top V_kinds V_numbers V_parts V_links 0) (fun r59 V_top_60 V_kinds_61 V_numbers_62 V_parts_63 V_links_64 =>
             some (r59, V_top_60, V_kinds_61, V_numbers_62, V_parts_63, V_links_64, VB_top, VB_row)))) else none)) else none) else none) else (
        if jix 0 3 = true then (
         if jix 1 3 = true then (
          Option.bind (f_Builtins_compareBytes N V_top V_parts V_links VB_row (B_given 0) (B_given 1)) (fun r75 =>
           if rI r75 = true then (if 0 ≤ r75 then (
            ob6 (f_Values_ofTruth V_top V_kinds V_numbers V_parts V_links 0) (fun r78 V_top_79 V_kinds_80 V_numbers_81 V_parts_82 V_links_83 =>
             some (r78, V_top_79, V_kinds_80, V_numbers_81, V_parts_82, V_links_83, VB_top, VB_row))) else (
            ob6 (f_Values_ofTruth V_top V_kinds V_numbers V_parts V_links 1) (fun r85 V_top_86 V_kinds_87 V_numbers_88 V_parts_89 V_links_90 =>
             some (r85, V_top_86, V_kinds_87, V_numbers_88, V_parts_89, V_links_90, VB_top, VB_row)))) else none)) else none) else none)))))) else none
set_option maxHeartbeats 4000000 in
set_option maxRecDepth 100000 in
theorem c_Builtins_onBytes {l : Launch} {D : va_G} {cI cL cB : ClassId} {ad : Nat → Nat} {N : Nat} {V_top : Int} {V_kinds : Int → Int} {V_numbers : Int → Int} {V_parts : Int → Int} {V_links : Int → Int} {VB_top : Int} {VB_row : Int → Int} {B_ready : Int} {B_given : Int → Int} {p1 : Int} {out : Int × Int × (Int → Int) × (Int → Int) × (Int → Int) × (Int → Int) × Int × (Int → Int)} (h : f_Builtins_onBytes N V_top V_kinds V_numbers V_parts V_links VB_top VB_row B_given p1 = some out) : CT jF0 false l D [(cI, .int), (cL, .long), (cB, .byte)] y_Builtins_onBytes w_Builtins_onBytes ({ frames := 4, cells := 0, slots := 0, locals := 103 } : Room) [.ref (ad 31), .int (zI p1)] [(ad 9, .inr (4, [.ref (ad 14), .ref (ad 16), .ref (ad 10), .ref (ad 11), .ref (ad 12), .ref (ad 13), .int (zI V_top)])), (ad 10, .inl (cI, 3201, .inl (zA V_kinds))), (ad 11, .inl (cL, 3201, .inr (.inl (zB V_numbers)))), (ad 12, .inl (cI, 3201, .inl (zA V_parts))), (ad 13, .inl (cI, 3201, .inl (zA V_links))), (ad 14, .inr (2, [.ref (ad 15), .int (zI VB_top)])), (ad 15, .inl (cB, 36864, .inl (zA VB_row))), (ad 31, .inr (9, [.ref (ad 9), .ref (ad 23), .ref (ad 32), .int (zI B_ready)])), (ad 32, .inl (cI, 3, .inl (zA B_given)))] (some (.int (zI out.1))) [(ad 9, .inr (4, [.ref (ad 14), .ref (ad 16), .ref (ad 10), .ref (ad 11), .ref (ad 12), .ref (ad 13), .int (zI (out.2.1))])), (ad 10, .inl (cI, 3201, .inl (zA (out.2.2.1)))), (ad 11, .inl (cL, 3201, .inr (.inl (zB (out.2.2.2.1))))), (ad 12, .inl (cI, 3201, .inl (zA (out.2.2.2.2.1)))), (ad 13, .inl (cI, 3201, .inl (zA (out.2.2.2.2.2.1)))), (ad 14, .inr (2, [.ref (ad 15), .int (zI (out.2.2.2.2.2.2.1))])), (ad 15, .inl (cB, 36864, .inl (zA (out.2.2.2.2.2.2.2)))), (ad 31, .inr (9, [.ref (ad 9), .ref (ad 23), .ref (ad 32), .int (zI B_ready)])), (ad 32, .inl (cI, 3, .inl (zA B_given)))] 0 0 := by
  refine CT_of_J (cc := b_Builtins_onBytes) (maxL := 2) (ret := (some .int)) jF0_k (plainFor_of_name (by decide)) rfl (Nat.le_of_ble_eq_true rfl) ?_
  intro K hKl hKD X E
  subst hKl; subst hKD
  unfold f_Builtins_onBytes at h
  refine J_iload_n X d_Builtins_onBytes_0 rfl 1 rfl ?_
  obtain ⟨g1, h⟩ := wk_g h
  rcases wk_c h with ⟨c2, h⟩ | ⟨c2, h⟩
  · refine J_tsIn (tgt := 36) X 10 c2 g1 d_Builtins_onBytes_1 (by decide) (by decide) rfl (by decide) ?_
    refine J_aload_n X d_Builtins_onBytes_36 rfl 0 rfl ?_
    refine J_aload_n X d_Builtins_onBytes_37 rfl 0 rfl ?_
    refine J_get X (j_in in_Builtins) 7 rfl rfl 2 (by decide) (j_m own_Builtins_onBytes (by decide +kernel)) rfl d_Builtins_onBytes_38 ?_
    refine J_iconst X d_Builtins_onBytes_41 ?_
    obtain ⟨g3, h⟩ := wk_g h
    refine J_iald X 8 0 rfl rfl g3 d_Builtins_onBytes_42 ?_
    refine J_aload_n X d_Builtins_onBytes_43 rfl 0 rfl ?_
    refine J_get X (j_in in_Builtins) 7 rfl rfl 2 (by decide) (j_m own_Builtins_onBytes (by decide +kernel)) rfl d_Builtins_onBytes_44 ?_
    refine J_iconst X d_Builtins_onBytes_47 ?_
    obtain ⟨g4, h⟩ := wk_g h
    refine J_iald X 8 0 rfl rfl g4 d_Builtins_onBytes_48 ?_
    obtain ⟨r5, V_top_6, V_kinds_7, V_numbers_8, V_parts_9, V_links_10, VB_top_11, VB_row_12, q13, h⟩ := wk_b8 h
    refine J_afterI0 (ws' := [(ad 9, .inr (4, [.ref (ad 14), .ref (ad 16), .ref (ad 10), .ref (ad 11), .ref (ad 12), .ref (ad 13), .int (zI V_top_6)])), (ad 10, .inl (cI, 3201, .inl (zA V_kinds_7))), (ad 11, .inl (cL, 3201, .inr (.inl (zB V_numbers_8)))), (ad 12, .inl (cI, 3201, .inl (zA V_parts_9))), (ad 13, .inl (cI, 3201, .inl (zA V_links_10))), (ad 14, .inr (2, [.ref (ad 15), .int (zI VB_top_11)])), (ad 15, .inl (cB, 36864, .inl (zA VB_row_12))), (ad 31, .inr (9, [.ref (ad 9), .ref (ad 23), .ref (ad 32), .int (zI B_ready)])), (ad 32, .inl (cI, 3, .inl (zA B_given)))]) X (jrunV X (c_Builtins_join (ad := ad) q13) jF0_k (fun _ _ _ _ => trivial) (jgV own_Builtins_onBytes (by decide +kernel)) rfl rfl rfl pd_Builtins_join (by decide) [0, 1, 2, 3, 4, 5, 6, 7] rfl (by decide) 7 9 rfl rfl rfl rfl (Nat.le_of_ble_eq_true rfl) d_Builtins_onBytes_49 (by decide)) [0, 1, 2, 3, 4, 5, 6, 7] [8] [1, 2, 3, 4, 5, 6, 7, 8, 0] rfl rfl (by decide) (by decide) rfl (by decide) ?_
    cases h
    exact J_ret E ⟨_, rfl, rfl⟩ d_Builtins_onBytes_52 (Nat.le_refl _) (Nat.le_refl _) rfl
  · rcases wk_c h with ⟨c14, h⟩ | ⟨c14, h⟩
    · refine J_tsIn (tgt := 53) X 11 c14 g1 d_Builtins_onBytes_1 (by decide) (by decide) rfl (by decide) ?_
      refine J_aload_n X d_Builtins_onBytes_53 rfl 0 rfl ?_
      refine J_get X (j_in in_Builtins) 7 rfl rfl 0 (by decide) (j_m own_Builtins_onBytes (by decide +kernel)) rfl d_Builtins_onBytes_54 ?_
      refine J_aload_n X d_Builtins_onBytes_57 rfl 0 rfl ?_
      refine J_get X (j_in in_Builtins) 7 rfl rfl 0 (by decide) (j_m own_Builtins_onBytes (by decide +kernel)) rfl d_Builtins_onBytes_58 ?_
      refine J_aload_n X d_Builtins_onBytes_61 rfl 0 rfl ?_
      refine J_get X (j_in in_Builtins) 7 rfl rfl 2 (by decide) (j_m own_Builtins_onBytes (by decide +kernel)) rfl d_Builtins_onBytes_62 ?_
      refine J_iconst X d_Builtins_onBytes_65 ?_
      obtain ⟨g15, h⟩ := wk_g h
      refine J_iald X 8 0 rfl rfl g15 d_Builtins_onBytes_66 ?_
      obtain ⟨r16, q17, h⟩ := wk_b h
      refine J_afterP (jrunV X (c_Values_lengthOf (ad := ad) q17) jF0_k (fun _ _ _ _ => trivial) (jgV own_Builtins_onBytes (by decide +kernel)) rfl rfl rfl pd_Values_lengthOf (by decide) [0, 4] rfl (by decide) 0 4 rfl rfl rfl rfl (Nat.le_of_ble_eq_true rfl) d_Builtins_onBytes_67 (by decide)) ?_
      obtain ⟨g18, h⟩ := wk_g h
      refine J_i2l X g18 d_Builtins_onBytes_70 ?_
      obtain ⟨r19, V_top_20, V_kinds_21, V_numbers_22, V_parts_23, V_links_24, q25, h⟩ := wk_b6 h
      refine J_afterI0 (ws' := [(ad 9, .inr (4, [.ref (ad 14), .ref (ad 16), .ref (ad 10), .ref (ad 11), .ref (ad 12), .ref (ad 13), .int (zI V_top_20)])), (ad 10, .inl (cI, 3201, .inl (zA V_kinds_21))), (ad 11, .inl (cL, 3201, .inr (.inl (zB V_numbers_22)))), (ad 12, .inl (cI, 3201, .inl (zA V_parts_23))), (ad 13, .inl (cI, 3201, .inl (zA V_links_24))), (ad 14, .inr (2, [.ref (ad 15), .int (zI VB_top)])), (ad 15, .inl (cB, 36864, .inl (zA VB_row))), (ad 31, .inr (9, [.ref (ad 9), .ref (ad 23), .ref (ad 32), .int (zI B_ready)])), (ad 32, .inl (cI, 3, .inl (zA B_given)))]) X (jrunV X (c_Values_ofInteger (ad := ad) q25) jF0_k (fun _ _ _ _ => trivial) (jgV own_Builtins_onBytes (by decide +kernel)) rfl rfl rfl pd_Values_ofInteger (by decide) [0, 1, 2, 3, 4] rfl (by decide) 0 4 rfl rfl rfl rfl (Nat.le_of_ble_eq_true rfl) d_Builtins_onBytes_71 (by decide)) [0, 1, 2, 3, 4] [5, 6, 7, 8] [4, 5, 6, 7, 8, 0, 1, 2, 3] rfl rfl (by decide) (by decide) rfl (by decide) ?_
      cases h
      exact J_ret E ⟨_, rfl, rfl⟩ d_Builtins_onBytes_74 (Nat.le_refl _) (Nat.le_refl _) rfl
    · rcases wk_c h with ⟨c26, h⟩ | ⟨c26, h⟩
      · refine J_tsIn (tgt := 75) X 12 c26 g1 d_Builtins_onBytes_1 (by decide) (by decide) rfl (by decide) ?_
        refine J_aload_n X d_Builtins_onBytes_75 rfl 0 rfl ?_
        refine J_aload_n X d_Builtins_onBytes_76 rfl 0 rfl ?_
        refine J_get X (j_in in_Builtins) 7 rfl rfl 2 (by decide) (j_m own_Builtins_onBytes (by decide +kernel)) rfl d_Builtins_onBytes_77 ?_
        refine J_iconst X d_Builtins_onBytes_80 ?_
        obtain ⟨g27, h⟩ := wk_g h
        refine J_iald X 8 0 rfl rfl g27 d_Builtins_onBytes_81 ?_
        refine J_aload_n X d_Builtins_onBytes_82 rfl 0 rfl ?_
        refine J_get X (j_in in_Builtins) 7 rfl rfl 0 (by decide) (j_m own_Builtins_onBytes (by decide +kernel)) rfl d_Builtins_onBytes_83 ?_
        refine J_aload_n X d_Builtins_onBytes_86 rfl 0 rfl ?_
        refine J_get X (j_in in_Builtins) 7 rfl rfl 2 (by decide) (j_m own_Builtins_onBytes (by decide +kernel)) rfl d_Builtins_onBytes_87 ?_
        refine J_iconst X d_Builtins_onBytes_90 ?_
        obtain ⟨g28, h⟩ := wk_g h
        refine J_iald X 8 0 rfl rfl g28 d_Builtins_onBytes_91 ?_
        obtain ⟨r29, q30, h⟩ := wk_b h
        refine J_afterP (jrunV X (c_Values_numberOf (ad := ad) q30) jF0_k (fun _ _ _ _ => trivial) (jgV own_Builtins_onBytes (by decide +kernel)) rfl rfl rfl pd_Values_numberOf (by decide) [0, 2] rfl (by decide) 0 4 rfl rfl rfl rfl (Nat.le_of_ble_eq_true rfl) d_Builtins_onBytes_92 (by decide)) ?_
        obtain ⟨r31, V_top_32, V_kinds_33, V_numbers_34, V_parts_35, V_links_36, q37, h⟩ := wk_b6 h
        refine J_afterI0 (ws' := [(ad 9, .inr (4, [.ref (ad 14), .ref (ad 16), .ref (ad 10), .ref (ad 11), .ref (ad 12), .ref (ad 13), .int (zI V_top_32)])), (ad 10, .inl (cI, 3201, .inl (zA V_kinds_33))), (ad 11, .inl (cL, 3201, .inr (.inl (zB V_numbers_34)))), (ad 12, .inl (cI, 3201, .inl (zA V_parts_35))), (ad 13, .inl (cI, 3201, .inl (zA V_links_36))), (ad 14, .inr (2, [.ref (ad 15), .int (zI VB_top)])), (ad 15, .inl (cB, 36864, .inl (zA VB_row))), (ad 31, .inr (9, [.ref (ad 9), .ref (ad 23), .ref (ad 32), .int (zI B_ready)])), (ad 32, .inl (cI, 3, .inl (zA B_given)))]) X (jrunV X (c_Builtins_byteOf (ad := ad) q37) jF0_k (fun _ _ _ _ => trivial) (jgV own_Builtins_onBytes (by decide +kernel)) rfl rfl rfl pd_Builtins_byteOf (by decide) [0, 1, 2, 3, 4, 5, 6, 7] rfl (by decide) 7 9 rfl rfl rfl rfl (Nat.le_of_ble_eq_true rfl) d_Builtins_onBytes_95 (by decide)) [0, 1, 2, 3, 4, 5, 6, 7] [8] [1, 2, 3, 4, 5, 6, 7, 8, 0] rfl rfl (by decide) (by decide) rfl (by decide) ?_
        cases h
        exact J_ret E ⟨_, rfl, rfl⟩ d_Builtins_onBytes_98 (Nat.le_refl _) (Nat.le_refl _) rfl
      · rcases wk_c h with ⟨c38, h⟩ | ⟨c38, h⟩
        · refine J_tsIn (tgt := 99) X 13 c38 g1 d_Builtins_onBytes_1 (by decide) (by decide) rfl (by decide) ?_
          refine J_aload_n X d_Builtins_onBytes_99 rfl 0 rfl ?_
          refine J_aload_n X d_Builtins_onBytes_100 rfl 0 rfl ?_
          refine J_get X (j_in in_Builtins) 7 rfl rfl 0 (by decide) (j_m own_Builtins_onBytes (by decide +kernel)) rfl d_Builtins_onBytes_101 ?_
          refine J_aload_n X d_Builtins_onBytes_104 rfl 0 rfl ?_
          refine J_get X (j_in in_Builtins) 7 rfl rfl 2 (by decide) (j_m own_Builtins_onBytes (by decide +kernel)) rfl d_Builtins_onBytes_105 ?_
          refine J_iconst X d_Builtins_onBytes_108 ?_
          obtain ⟨g39, h⟩ := wk_g h
          refine J_iald X 8 0 rfl rfl g39 d_Builtins_onBytes_109 ?_
          obtain ⟨r40, q41, h⟩ := wk_b h
          refine J_afterP (jrunV X (c_Values_numberOf (ad := ad) q41) jF0_k (fun _ _ _ _ => trivial) (jgV own_Builtins_onBytes (by decide +kernel)) rfl rfl rfl pd_Values_numberOf (by decide) [0, 2] rfl (by decide) 0 4 rfl rfl rfl rfl (Nat.le_of_ble_eq_true rfl) d_Builtins_onBytes_110 (by decide)) ?_
          refine J_aload_n X d_Builtins_onBytes_113 rfl 0 rfl ?_
          refine J_get X (j_in in_Builtins) 7 rfl rfl 0 (by decide) (j_m own_Builtins_onBytes (by decide +kernel)) rfl d_Builtins_onBytes_114 ?_
          refine J_aload_n X d_Builtins_onBytes_117 rfl 0 rfl ?_
          refine J_get X (j_in in_Builtins) 7 rfl rfl 2 (by decide) (j_m own_Builtins_onBytes (by decide +kernel)) rfl d_Builtins_onBytes_118 ?_
          refine J_iconst X d_Builtins_onBytes_121 ?_
          obtain ⟨g42, h⟩ := wk_g h
          refine J_iald X 8 0 rfl rfl g42 d_Builtins_onBytes_122 ?_
          obtain ⟨r43, q44, h⟩ := wk_b h
          refine J_afterP (jrunV X (c_Values_numberOf (ad := ad) q44) jF0_k (fun _ _ _ _ => trivial) (jgV own_Builtins_onBytes (by decide +kernel)) rfl rfl rfl pd_Values_numberOf (by decide) [0, 2] rfl (by decide) 0 4 rfl rfl rfl rfl (Nat.le_of_ble_eq_true rfl) d_Builtins_onBytes_123 (by decide)) ?_
          refine J_aload_n X d_Builtins_onBytes_126 rfl 0 rfl ?_
          refine J_get X (j_in in_Builtins) 7 rfl rfl 2 (by decide) (j_m own_Builtins_onBytes (by decide +kernel)) rfl d_Builtins_onBytes_127 ?_
          refine J_iconst X d_Builtins_onBytes_130 ?_
          obtain ⟨g45, h⟩ := wk_g h
          refine J_iald X 8 0 rfl rfl g45 d_Builtins_onBytes_131 ?_
          obtain ⟨r46, V_top_47, V_kinds_48, V_numbers_49, V_parts_50, V_links_51, q52, h⟩ := wk_b6 h
          refine J_afterI0 (ws' := [(ad 9, .inr (4, [.ref (ad 14), .ref (ad 16), .ref (ad 10), .ref (ad 11), .ref (ad 12), .ref (ad 13), .int (zI V_top_47)])), (ad 10, .inl (cI, 3201, .inl (zA V_kinds_48))), (ad 11, .inl (cL, 3201, .inr (.inl (zB V_numbers_49)))), (ad 12, .inl (cI, 3201, .inl (zA V_parts_50))), (ad 13, .inl (cI, 3201, .inl (zA V_links_51))), (ad 14, .inr (2, [.ref (ad 15), .int (zI VB_top)])), (ad 15, .inl (cB, 36864, .inl (zA VB_row))), (ad 31, .inr (9, [.ref (ad 9), .ref (ad 23), .ref (ad 32), .int (zI B_ready)])), (ad 32, .inl (cI, 3, .inl (zA B_given)))]) X (jrunV X (c_Builtins_slice (ad := ad) q52) jF0_k (fun _ _ _ _ => trivial) (jgV own_Builtins_onBytes (by decide +kernel)) rfl rfl rfl pd_Builtins_slice (by decide) [0, 1, 2, 3, 4, 7] rfl (by decide) 5 9 rfl rfl rfl rfl (Nat.le_of_ble_eq_true rfl) d_Builtins_onBytes_132 (by decide)) [0, 1, 2, 3, 4, 7] [5, 6, 8] [3, 4, 5, 6, 7, 0, 1, 8, 2] rfl rfl (by decide) (by decide) rfl (by decide) ?_
          cases h
          exact J_ret E ⟨_, rfl, rfl⟩ d_Builtins_onBytes_135 (Nat.le_refl _) (Nat.le_refl _) rfl
        · rcases wk_c h with ⟨c53, h⟩ | ⟨c53, h⟩
          · refine J_tsIn (tgt := 136) X 14 c53 g1 d_Builtins_onBytes_1 (by decide) (by decide) rfl (by decide) ?_
            refine J_aload_n X d_Builtins_onBytes_136 rfl 0 rfl ?_
            refine J_get X (j_in in_Builtins) 7 rfl rfl 0 (by decide) (j_m own_Builtins_onBytes (by decide +kernel)) rfl d_Builtins_onBytes_137 ?_
            refine J_aload_n X d_Builtins_onBytes_140 rfl 0 rfl ?_
            refine J_aload_n X d_Builtins_onBytes_141 rfl 0 rfl ?_
            refine J_get X (j_in in_Builtins) 7 rfl rfl 2 (by decide) (j_m own_Builtins_onBytes (by decide +kernel)) rfl d_Builtins_onBytes_142 ?_
            refine J_iconst X d_Builtins_onBytes_145 ?_
            obtain ⟨g54, h⟩ := wk_g h
            refine J_iald X 8 0 rfl rfl g54 d_Builtins_onBytes_146 ?_
            refine J_aload_n X d_Builtins_onBytes_147 rfl 0 rfl ?_
            refine J_get X (j_in in_Builtins) 7 rfl rfl 2 (by decide) (j_m own_Builtins_onBytes (by decide +kernel)) rfl d_Builtins_onBytes_148 ?_
            refine J_iconst X d_Builtins_onBytes_151 ?_
            obtain ⟨g55, h⟩ := wk_g h
            refine J_iald X 8 0 rfl rfl g55 d_Builtins_onBytes_152 ?_
            obtain ⟨r56, q57, h⟩ := wk_b h
            refine J_afterP (jrunV X (c_Builtins_compareBytes (ad := ad) q57) jF0_k (fun _ _ _ _ => trivial) (jgV own_Builtins_onBytes (by decide +kernel)) rfl rfl rfl pd_Builtins_compareBytes (by decide) [0, 3, 4, 5, 6, 7] rfl (by decide) 5 9 rfl rfl rfl rfl (Nat.le_of_ble_eq_true rfl) d_Builtins_onBytes_153 (by decide)) ?_
            refine J_if_ne (tgt := 163) X d_Builtins_onBytes_156 (by decide) h (fun c58 h => ?_) (fun c58 h => ?_)
            · refine J_iconst X d_Builtins_onBytes_163 ?_
              obtain ⟨r59, V_top_60, V_kinds_61, V_numbers_62, V_parts_63, V_links_64, q65, h⟩ := wk_b6 h
              refine J_afterI0 (ws' := [(ad 9, .inr (4, [.ref (ad 14), .ref (ad 16), .ref (ad 10), .ref (ad 11), .ref (ad 12), .ref (ad 13), .int (zI V_top_60)])), (ad 10, .inl (cI, 3201, .inl (zA V_kinds_61))), (ad 11, .inl (cL, 3201, .inr (.inl (zB V_numbers_62)))), (ad 12, .inl (cI, 3201, .inl (zA V_parts_63))), (ad 13, .inl (cI, 3201, .inl (zA V_links_64))), (ad 14, .inr (2, [.ref (ad 15), .int (zI VB_top)])), (ad 15, .inl (cB, 36864, .inl (zA VB_row))), (ad 31, .inr (9, [.ref (ad 9), .ref (ad 23), .ref (ad 32), .int (zI B_ready)])), (ad 32, .inl (cI, 3, .inl (zA B_given)))]) X (jrunV X (c_Values_ofTruth (ad := ad) q65) jF0_k (fun _ _ _ _ => trivial) (jgV own_Builtins_onBytes (by decide +kernel)) rfl rfl rfl pd_Values_ofTruth (by decide) [0, 1, 2, 3, 4] rfl (by decide) 0 4 rfl rfl rfl rfl (Nat.le_of_ble_eq_true rfl) d_Builtins_onBytes_164 (by decide)) [0, 1, 2, 3, 4] [5, 6, 7, 8] [4, 5, 6, 7, 8, 0, 1, 2, 3] rfl rfl (by decide) (by decide) rfl (by decide) ?_
              cases h
              exact J_ret E ⟨_, rfl, rfl⟩ d_Builtins_onBytes_167 (Nat.le_refl _) (Nat.le_refl _) rfl
            · refine J_iconst X d_Builtins_onBytes_159 ?_
              refine J_goto (tgt := 164) X d_Builtins_onBytes_160 (by decide) ?_
              obtain ⟨r66, V_top_67, V_kinds_68, V_numbers_69, V_parts_70, V_links_71, q72, h⟩ := wk_b6 h
              refine J_afterI0 (ws' := [(ad 9, .inr (4, [.ref (ad 14), .ref (ad 16), .ref (ad 10), .ref (ad 11), .ref (ad 12), .ref (ad 13), .int (zI V_top_67)])), (ad 10, .inl (cI, 3201, .inl (zA V_kinds_68))), (ad 11, .inl (cL, 3201, .inr (.inl (zB V_numbers_69)))), (ad 12, .inl (cI, 3201, .inl (zA V_parts_70))), (ad 13, .inl (cI, 3201, .inl (zA V_links_71))), (ad 14, .inr (2, [.ref (ad 15), .int (zI VB_top)])), (ad 15, .inl (cB, 36864, .inl (zA VB_row))), (ad 31, .inr (9, [.ref (ad 9), .ref (ad 23), .ref (ad 32), .int (zI B_ready)])), (ad 32, .inl (cI, 3, .inl (zA B_given)))]) X (jrunV X (c_Values_ofTruth (ad := ad) q72) jF0_k (fun _ _ _ _ => trivial) (jgV own_Builtins_onBytes (by decide +kernel)) rfl rfl rfl pd_Values_ofTruth (by decide) [0, 1, 2, 3, 4] rfl (by decide) 0 4 rfl rfl rfl rfl (Nat.le_of_ble_eq_true rfl) d_Builtins_onBytes_164 (by decide)) [0, 1, 2, 3, 4] [5, 6, 7, 8] [4, 5, 6, 7, 8, 0, 1, 2, 3] rfl rfl (by decide) (by decide) rfl (by decide) ?_
              cases h
              exact J_ret E ⟨_, rfl, rfl⟩ d_Builtins_onBytes_167 (Nat.le_refl _) (Nat.le_refl _) rfl
          · refine J_tsOut (tgt := 168) X g1 d_Builtins_onBytes_1 (by omega) (by decide) ?_
            refine J_aload_n X d_Builtins_onBytes_168 rfl 0 rfl ?_
            refine J_get X (j_in in_Builtins) 7 rfl rfl 0 (by decide) (j_m own_Builtins_onBytes (by decide +kernel)) rfl d_Builtins_onBytes_169 ?_
            refine J_aload_n X d_Builtins_onBytes_172 rfl 0 rfl ?_
            refine J_aload_n X d_Builtins_onBytes_173 rfl 0 rfl ?_
            refine J_get X (j_in in_Builtins) 7 rfl rfl 2 (by decide) (j_m own_Builtins_onBytes (by decide +kernel)) rfl d_Builtins_onBytes_174 ?_
            refine J_iconst X d_Builtins_onBytes_177 ?_
            obtain ⟨g73, h⟩ := wk_g h
            refine J_iald X 8 0 rfl rfl g73 d_Builtins_onBytes_178 ?_
            refine J_aload_n X d_Builtins_onBytes_179 rfl 0 rfl ?_
            refine J_get X (j_in in_Builtins) 7 rfl rfl 2 (by decide) (j_m own_Builtins_onBytes (by decide +kernel)) rfl d_Builtins_onBytes_180 ?_
            refine J_iconst X d_Builtins_onBytes_183 ?_
            obtain ⟨g74, h⟩ := wk_g h
            refine J_iald X 8 0 rfl rfl g74 d_Builtins_onBytes_184 ?_
            obtain ⟨r75, q76, h⟩ := wk_b h
            refine J_afterP (jrunV X (c_Builtins_compareBytes (ad := ad) q76) jF0_k (fun _ _ _ _ => trivial) (jgV own_Builtins_onBytes (by decide +kernel)) rfl rfl rfl pd_Builtins_compareBytes (by decide) [0, 3, 4, 5, 6, 7] rfl (by decide) 5 9 rfl rfl rfl rfl (Nat.le_of_ble_eq_true rfl) d_Builtins_onBytes_185 (by decide)) ?_
            refine J_if_ge (tgt := 195) X d_Builtins_onBytes_188 (by decide) h (fun c77 h => ?_) (fun c77 h => ?_)
            · refine J_iconst X d_Builtins_onBytes_195 ?_
              obtain ⟨r78, V_top_79, V_kinds_80, V_numbers_81, V_parts_82, V_links_83, q84, h⟩ := wk_b6 h
              refine J_afterI0 (ws' := [(ad 9, .inr (4, [.ref (ad 14), .ref (ad 16), .ref (ad 10), .ref (ad 11), .ref (ad 12), .ref (ad 13), .int (zI V_top_79)])), (ad 10, .inl (cI, 3201, .inl (zA V_kinds_80))), (ad 11, .inl (cL, 3201, .inr (.inl (zB V_numbers_81)))), (ad 12, .inl (cI, 3201, .inl (zA V_parts_82))), (ad 13, .inl (cI, 3201, .inl (zA V_links_83))), (ad 14, .inr (2, [.ref (ad 15), .int (zI VB_top)])), (ad 15, .inl (cB, 36864, .inl (zA VB_row))), (ad 31, .inr (9, [.ref (ad 9), .ref (ad 23), .ref (ad 32), .int (zI B_ready)])), (ad 32, .inl (cI, 3, .inl (zA B_given)))]) X (jrunV X (c_Values_ofTruth (ad := ad) q84) jF0_k (fun _ _ _ _ => trivial) (jgV own_Builtins_onBytes (by decide +kernel)) rfl rfl rfl pd_Values_ofTruth (by decide) [0, 1, 2, 3, 4] rfl (by decide) 0 4 rfl rfl rfl rfl (Nat.le_of_ble_eq_true rfl) d_Builtins_onBytes_196 (by decide)) [0, 1, 2, 3, 4] [5, 6, 7, 8] [4, 5, 6, 7, 8, 0, 1, 2, 3] rfl rfl (by decide) (by decide) rfl (by decide) ?_
              cases h
              exact J_ret E ⟨_, rfl, rfl⟩ d_Builtins_onBytes_199 (Nat.le_refl _) (Nat.le_refl _) rfl
            · refine J_iconst X d_Builtins_onBytes_191 ?_
              refine J_goto (tgt := 196) X d_Builtins_onBytes_192 (by decide) ?_
              obtain ⟨r85, V_top_86, V_kinds_87, V_numbers_88, V_parts_89, V_links_90, q91, h⟩ := wk_b6 h
              refine J_afterI0 (ws' := [(ad 9, .inr (4, [.ref (ad 14), .ref (ad 16), .ref (ad 10), .ref (ad 11), .ref (ad 12), .ref (ad 13), .int (zI V_top_86)])), (ad 10, .inl (cI, 3201, .inl (zA V_kinds_87))), (ad 11, .inl (cL, 3201, .inr (.inl (zB V_numbers_88)))), (ad 12, .inl (cI, 3201, .inl (zA V_parts_89))), (ad 13, .inl (cI, 3201, .inl (zA V_links_90))), (ad 14, .inr (2, [.ref (ad 15), .int (zI VB_top)])), (ad 15, .inl (cB, 36864, .inl (zA VB_row))), (ad 31, .inr (9, [.ref (ad 9), .ref (ad 23), .ref (ad 32), .int (zI B_ready)])), (ad 32, .inl (cI, 3, .inl (zA B_given)))]) X (jrunV X (c_Values_ofTruth (ad := ad) q91) jF0_k (fun _ _ _ _ => trivial) (jgV own_Builtins_onBytes (by decide +kernel)) rfl rfl rfl pd_Values_ofTruth (by decide) [0, 1, 2, 3, 4] rfl (by decide) 0 4 rfl rfl rfl rfl (Nat.le_of_ble_eq_true rfl) d_Builtins_onBytes_196 (by decide)) [0, 1, 2, 3, 4] [5, 6, 7, 8] [4, 5, 6, 7, 8, 0, 1, 2, 3] rfl rfl (by decide) (by decide) rfl (by decide) ?_
              cases h
              exact J_ret E ⟨_, rfl, rfl⟩ d_Builtins_onBytes_199 (Nat.le_refl _) (Nat.le_refl _) rfl

theorem d_Builtins_sameNode_0 : decode b_Builtins_sameNode 0 = .ok (.aload_n 0, 1) := by decide +kernel
theorem d_Builtins_sameNode_1 : decode b_Builtins_sameNode 1 = .ok (.getfield 19, 3) := by decide +kernel
theorem d_Builtins_sameNode_4 : decode b_Builtins_sameNode 4 = .ok (.getfield 105, 3) := by decide +kernel
theorem d_Builtins_sameNode_7 : decode b_Builtins_sameNode 7 = .ok (.astore_n 3, 1) := by decide +kernel
theorem d_Builtins_sameNode_8 : decode b_Builtins_sameNode 8 = .ok (.aload_n 3, 1) := by decide +kernel
theorem d_Builtins_sameNode_9 : decode b_Builtins_sameNode 9 = .ok (.iload_n 1, 1) := by decide +kernel
theorem d_Builtins_sameNode_10 : decode b_Builtins_sameNode 10 = .ok (.invokevirtual 206, 3) := by decide +kernel
theorem d_Builtins_sameNode_13 : decode b_Builtins_sameNode 13 = .ok (.istore 4, 2) := by decide +kernel
theorem d_Builtins_sameNode_15 : decode b_Builtins_sameNode 15 = .ok (.aload_n 3, 1) := by decide +kernel
theorem d_Builtins_sameNode_16 : decode b_Builtins_sameNode 16 = .ok (.iload_n 1, 1) := by decide +kernel
theorem d_Builtins_sameNode_17 : decode b_Builtins_sameNode 17 = .ok (.invokevirtual 112, 3) := by decide +kernel
theorem d_Builtins_sameNode_20 : decode b_Builtins_sameNode 20 = .ok (.aload_n 3, 1) := by decide +kernel
theorem d_Builtins_sameNode_21 : decode b_Builtins_sameNode 21 = .ok (.iload_n 2, 1) := by decide +kernel
theorem d_Builtins_sameNode_22 : decode b_Builtins_sameNode 22 = .ok (.invokevirtual 112, 3) := by decide +kernel
theorem d_Builtins_sameNode_25 : decode b_Builtins_sameNode 25 = .ok (.if_icmp .ne 13, 3) := by decide +kernel
theorem d_Builtins_sameNode_28 : decode b_Builtins_sameNode 28 = .ok (.iload 4, 2) := by decide +kernel
theorem d_Builtins_sameNode_30 : decode b_Builtins_sameNode 30 = .ok (.aload_n 3, 1) := by decide +kernel
theorem d_Builtins_sameNode_31 : decode b_Builtins_sameNode 31 = .ok (.iload_n 2, 1) := by decide +kernel
theorem d_Builtins_sameNode_32 : decode b_Builtins_sameNode 32 = .ok (.invokevirtual 206, 3) := by decide +kernel
theorem d_Builtins_sameNode_35 : decode b_Builtins_sameNode 35 = .ok (.if_icmp .eq 5, 3) := by decide +kernel
theorem d_Builtins_sameNode_38 : decode b_Builtins_sameNode 38 = .ok (.iconst 0, 1) := by decide +kernel
theorem d_Builtins_sameNode_39 : decode b_Builtins_sameNode 39 = .ok (.ireturn, 1) := by decide +kernel
theorem d_Builtins_sameNode_40 : decode b_Builtins_sameNode 40 = .ok (.aload_n 3, 1) := by decide +kernel
theorem d_Builtins_sameNode_41 : decode b_Builtins_sameNode 41 = .ok (.iload_n 1, 1) := by decide +kernel
theorem d_Builtins_sameNode_42 : decode b_Builtins_sameNode 42 = .ok (.invokevirtual 112, 3) := by decide +kernel
theorem d_Builtins_sameNode_45 : decode b_Builtins_sameNode 45 = .ok (.iconst 4, 1) := by decide +kernel
theorem d_Builtins_sameNode_46 : decode b_Builtins_sameNode 46 = .ok (.if_icmp .ne 46, 3) := by decide +kernel
theorem d_Builtins_sameNode_49 : decode b_Builtins_sameNode 49 = .ok (.aload_n 3, 1) := by decide +kernel
theorem d_Builtins_sameNode_50 : decode b_Builtins_sameNode 50 = .ok (.iload_n 1, 1) := by decide +kernel
theorem d_Builtins_sameNode_51 : decode b_Builtins_sameNode 51 = .ok (.invokevirtual 205, 3) := by decide +kernel
theorem d_Builtins_sameNode_54 : decode b_Builtins_sameNode 54 = .ok (.l2i, 1) := by decide +kernel
theorem d_Builtins_sameNode_55 : decode b_Builtins_sameNode 55 = .ok (.istore 5, 2) := by decide +kernel
theorem d_Builtins_sameNode_57 : decode b_Builtins_sameNode 57 = .ok (.aload_n 3, 1) := by decide +kernel
theorem d_Builtins_sameNode_58 : decode b_Builtins_sameNode 58 = .ok (.iload_n 2, 1) := by decide +kernel
theorem d_Builtins_sameNode_59 : decode b_Builtins_sameNode 59 = .ok (.invokevirtual 205, 3) := by decide +kernel
theorem d_Builtins_sameNode_62 : decode b_Builtins_sameNode 62 = .ok (.l2i, 1) := by decide +kernel
theorem d_Builtins_sameNode_63 : decode b_Builtins_sameNode 63 = .ok (.istore 6, 2) := by decide +kernel
theorem d_Builtins_sameNode_65 : decode b_Builtins_sameNode 65 = .ok (.aload_n 0, 1) := by decide +kernel
theorem d_Builtins_sameNode_66 : decode b_Builtins_sameNode 66 = .ok (.getfield 19, 3) := by decide +kernel
theorem d_Builtins_sameNode_69 : decode b_Builtins_sameNode 69 = .ok (.getfield 170, 3) := by decide +kernel
theorem d_Builtins_sameNode_72 : decode b_Builtins_sameNode 72 = .ok (.iload 5, 2) := by decide +kernel
theorem d_Builtins_sameNode_74 : decode b_Builtins_sameNode 74 = .ok (.iload 4, 2) := by decide +kernel
theorem d_Builtins_sameNode_76 : decode b_Builtins_sameNode 76 = .ok (.iload 6, 2) := by decide +kernel
theorem d_Builtins_sameNode_78 : decode b_Builtins_sameNode 78 = .ok (.iload 4, 2) := by decide +kernel
theorem d_Builtins_sameNode_80 : decode b_Builtins_sameNode 80 = .ok (.invokevirtual 198, 3) := by decide +kernel
theorem d_Builtins_sameNode_83 : decode b_Builtins_sameNode 83 = .ok (.ifCond .ne 7, 3) := by decide +kernel
theorem d_Builtins_sameNode_86 : decode b_Builtins_sameNode 86 = .ok (.iconst 1, 1) := by decide +kernel
theorem d_Builtins_sameNode_87 : decode b_Builtins_sameNode 87 = .ok (.goto 4, 3) := by decide +kernel
theorem d_Builtins_sameNode_90 : decode b_Builtins_sameNode 90 = .ok (.iconst 0, 1) := by decide +kernel
theorem d_Builtins_sameNode_91 : decode b_Builtins_sameNode 91 = .ok (.ireturn, 1) := by decide +kernel
theorem d_Builtins_sameNode_92 : decode b_Builtins_sameNode 92 = .ok (.aload_n 3, 1) := by decide +kernel
theorem d_Builtins_sameNode_93 : decode b_Builtins_sameNode 93 = .ok (.iload_n 1, 1) := by decide +kernel
theorem d_Builtins_sameNode_94 : decode b_Builtins_sameNode 94 = .ok (.invokevirtual 205, 3) := by decide +kernel
theorem d_Builtins_sameNode_97 : decode b_Builtins_sameNode 97 = .ok (.aload_n 3, 1) := by decide +kernel
theorem d_Builtins_sameNode_98 : decode b_Builtins_sameNode 98 = .ok (.iload_n 2, 1) := by decide +kernel
theorem d_Builtins_sameNode_99 : decode b_Builtins_sameNode 99 = .ok (.invokevirtual 205, 3) := by decide +kernel
theorem d_Builtins_sameNode_102 : decode b_Builtins_sameNode 102 = .ok (.lcmp, 1) := by decide +kernel
theorem d_Builtins_sameNode_103 : decode b_Builtins_sameNode 103 = .ok (.ifCond .ne 7, 3) := by decide +kernel
theorem d_Builtins_sameNode_106 : decode b_Builtins_sameNode 106 = .ok (.iconst 1, 1) := by decide +kernel
theorem d_Builtins_sameNode_107 : decode b_Builtins_sameNode 107 = .ok (.goto 4, 3) := by decide +kernel
theorem d_Builtins_sameNode_110 : decode b_Builtins_sameNode 110 = .ok (.iconst 0, 1) := by decide +kernel
theorem d_Builtins_sameNode_111 : decode b_Builtins_sameNode 111 = .ok (.ireturn, 1) := by decide +kernel
def f_Builtins_sameNode (N : Nat) (VB_row : Int → Int) (D_top : Int) (D_forms : Int → Int) (D_counts : Int → Int) (D_numbers : Int → Int) (p1 : Int) (p2 : Int) : Option (Int) :=
  Option.bind (f_DataRow_countOf D_top D_counts p1) (fun r1 =>
   Option.bind (f_DataRow_formOf D_top D_forms p1) (fun r3 =>
    Option.bind (f_DataRow_formOf D_top D_forms p2) (fun r5 =>
     if jr2 r3 r5 = true then (if r3 = r5 then (
      Option.bind (f_DataRow_countOf D_top D_counts p2) (fun r8 =>
       if jr2 r1 r8 = true then (if r1 = r8 then (
        Option.bind (f_DataRow_formOf D_top D_forms p1) (fun r11 =>
         if jr2 r11 4 = true then (if r11 = 4 then (
          Option.bind (f_DataRow_numberOf D_top D_numbers p1) (fun r19 =>
           Option.bind (f_DataRow_numberOf D_top D_numbers p2) (fun r21 =>
            Option.bind (f_ByteRow_compare N 36864 VB_row r19 r1 r21 r1) (fun r23 =>
             if rI r23 = true then (if r23 = 0 then (
              some 1) else (
              some 0)) else none)))) else (
          Option.bind (f_DataRow_numberOf D_top D_numbers p1) (fun r14 =>
           Option.bind (f_DataRow_numberOf D_top D_numbers p2) (fun r16 =>
            if jl2 r14 r16 = true then (if r14 = r16 then (
             some 1) else (
             some 0)) else none)))) else none)) else (
        some 0)) else none)) else (
      some 0)) else none)))
set_option maxHeartbeats 4000000 in
set_option maxRecDepth 100000 in
theorem c_Builtins_sameNode {l : Launch} {D : va_G} {cI cL cB : ClassId} {ad : Nat → Nat} {N : Nat} {V_top : Int} {VB_top : Int} {VB_row : Int → Int} {D_top : Int} {D_forms : Int → Int} {D_counts : Int → Int} {D_numbers : Int → Int} {B_ready : Int} {p1 : Int} {p2 : Int} {out : Int} (h : f_Builtins_sameNode N VB_row D_top D_forms D_counts D_numbers p1 p2 = some out) : CT jF0 true l D [(cI, .int), (cL, .long), (cB, .byte)] y_Builtins_sameNode w_Builtins_sameNode ({ frames := 2, cells := 0, slots := 0, locals := 50 } : Room) [.ref (ad 31), .int (zI p1), .int (zI p2)] [(ad 9, .inr (4, [.ref (ad 14), .ref (ad 16), .ref (ad 10), .ref (ad 11), .ref (ad 12), .ref (ad 13), .int (zI V_top)])), (ad 14, .inr (2, [.ref (ad 15), .int (zI VB_top)])), (ad 15, .inl (cB, 36864, .inl (zA VB_row))), (ad 16, .inr (5, [.ref (ad 17), .ref (ad 18), .ref (ad 19), .ref (ad 20), .ref (ad 21), .ref (ad 22), .int (zI D_top)])), (ad 17, .inl (cI, 3201, .inl (zA D_forms))), (ad 18, .inl (cI, 3201, .inl (zA D_counts))), (ad 19, .inl (cL, 3201, .inr (.inl (zB D_numbers)))), (ad 31, .inr (9, [.ref (ad 9), .ref (ad 23), .ref (ad 32), .int (zI B_ready)]))] (some (.int (zI out))) [(ad 9, .inr (4, [.ref (ad 14), .ref (ad 16), .ref (ad 10), .ref (ad 11), .ref (ad 12), .ref (ad 13), .int (zI V_top)])), (ad 14, .inr (2, [.ref (ad 15), .int (zI VB_top)])), (ad 15, .inl (cB, 36864, .inl (zA VB_row))), (ad 16, .inr (5, [.ref (ad 17), .ref (ad 18), .ref (ad 19), .ref (ad 20), .ref (ad 21), .ref (ad 22), .int (zI D_top)])), (ad 17, .inl (cI, 3201, .inl (zA D_forms))), (ad 18, .inl (cI, 3201, .inl (zA D_counts))), (ad 19, .inl (cL, 3201, .inr (.inl (zB D_numbers)))), (ad 31, .inr (9, [.ref (ad 9), .ref (ad 23), .ref (ad 32), .int (zI B_ready)]))] 0 0 := by
  refine CT_of_J (cc := b_Builtins_sameNode) (maxL := 7) (ret := (some .boolean)) jF0_k (plainFor_of_name (by decide)) rfl (Nat.le_of_ble_eq_true rfl) ?_
  intro K hKl hKD X E
  subst hKl; subst hKD
  unfold f_Builtins_sameNode at h
  refine J_aload_n X d_Builtins_sameNode_0 rfl 0 rfl ?_
  refine J_get X (j_in in_Builtins) 7 rfl rfl 0 (by decide) (j_m own_Builtins_sameNode (by decide +kernel)) rfl d_Builtins_sameNode_1 ?_
  refine J_get X (j_in in_Values) 0 rfl rfl 1 (by decide) (j_m own_Builtins_sameNode (by decide +kernel)) rfl d_Builtins_sameNode_4 ?_
  refine J_astore_n (lv' := [(3, .ref (ad 16)), (0, .ref (ad 31)), (1, .int (zI p1)), (2, .int (zI p2))]) X d_Builtins_sameNode_7 rfl (by decide) rfl ?_
  refine J_aload_n X d_Builtins_sameNode_8 rfl 0 rfl ?_
  refine J_iload_n X d_Builtins_sameNode_9 rfl 2 rfl ?_
  obtain ⟨r1, q2, h⟩ := wk_b h
  refine J_afterP (jrunV X (c_DataRow_countOf (ad := ad) q2) jF0_k (fun _ _ _ _ => trivial) (jgV own_Builtins_sameNode (by decide +kernel)) rfl rfl rfl pd_DataRow_countOf (by decide) [3, 5] rfl (by decide) 0 5 rfl rfl rfl rfl (Nat.le_of_ble_eq_true rfl) d_Builtins_sameNode_10 (by decide)) ?_
  refine J_istore (lv' := [(4, .int (zI r1)), (3, .ref (ad 16)), (0, .ref (ad 31)), (1, .int (zI p1)), (2, .int (zI p2))]) X d_Builtins_sameNode_13 (by decide) rfl ?_
  refine J_aload_n X d_Builtins_sameNode_15 rfl 1 rfl ?_
  refine J_iload_n X d_Builtins_sameNode_16 rfl 3 rfl ?_
  obtain ⟨r3, q4, h⟩ := wk_b h
  refine J_afterP (jrunV X (c_DataRow_formOf (ad := ad) q4) jF0_k (fun _ _ _ _ => trivial) (jgV own_Builtins_sameNode (by decide +kernel)) rfl rfl rfl pd_DataRow_formOf (by decide) [3, 4] rfl (by decide) 0 5 rfl rfl rfl rfl (Nat.le_of_ble_eq_true rfl) d_Builtins_sameNode_17 (by decide)) ?_
  refine J_aload_n X d_Builtins_sameNode_20 rfl 1 rfl ?_
  refine J_iload_n X d_Builtins_sameNode_21 rfl 4 rfl ?_
  obtain ⟨r5, q6, h⟩ := wk_b h
  refine J_afterP (jrunV X (c_DataRow_formOf (ad := ad) q6) jF0_k (fun _ _ _ _ => trivial) (jgV own_Builtins_sameNode (by decide +kernel)) rfl rfl rfl pd_DataRow_formOf (by decide) [3, 4] rfl (by decide) 0 5 rfl rfl rfl rfl (Nat.le_of_ble_eq_true rfl) d_Builtins_sameNode_22 (by decide)) ?_
  refine J_icmp_ne (tgt := 38) X d_Builtins_sameNode_25 (by decide) h (fun c7 h => ?_) (fun c7 h => ?_)
  · refine J_iconst X d_Builtins_sameNode_38 ?_
    cases h
    exact J_ret E ⟨_, rfl, j_bool (Or.inl rfl)⟩ d_Builtins_sameNode_39 (Nat.le_refl _) (Nat.le_refl _) rfl
  · refine J_iload X d_Builtins_sameNode_28 0 rfl ?_
    refine J_aload_n X d_Builtins_sameNode_30 rfl 1 rfl ?_
    refine J_iload_n X d_Builtins_sameNode_31 rfl 4 rfl ?_
    obtain ⟨r8, q9, h⟩ := wk_b h
    refine J_afterP (jrunV X (c_DataRow_countOf (ad := ad) q9) jF0_k (fun _ _ _ _ => trivial) (jgV own_Builtins_sameNode (by decide +kernel)) rfl rfl rfl pd_DataRow_countOf (by decide) [3, 5] rfl (by decide) 0 5 rfl rfl rfl rfl (Nat.le_of_ble_eq_true rfl) d_Builtins_sameNode_32 (by decide)) ?_
    refine J_icmp_eq (tgt := 40) X d_Builtins_sameNode_35 (by decide) h (fun c10 h => ?_) (fun c10 h => ?_)
    · refine J_aload_n X d_Builtins_sameNode_40 rfl 1 rfl ?_
      refine J_iload_n X d_Builtins_sameNode_41 rfl 3 rfl ?_
      obtain ⟨r11, q12, h⟩ := wk_b h
      refine J_afterP (jrunV X (c_DataRow_formOf (ad := ad) q12) jF0_k (fun _ _ _ _ => trivial) (jgV own_Builtins_sameNode (by decide +kernel)) rfl rfl rfl pd_DataRow_formOf (by decide) [3, 4] rfl (by decide) 0 5 rfl rfl rfl rfl (Nat.le_of_ble_eq_true rfl) d_Builtins_sameNode_42 (by decide)) ?_
      refine J_iconst X d_Builtins_sameNode_45 ?_
      refine J_icmp_ne (tgt := 92) X d_Builtins_sameNode_46 (by decide) h (fun c13 h => ?_) (fun c13 h => ?_)
      · refine J_aload_n X d_Builtins_sameNode_92 rfl 1 rfl ?_
        refine J_iload_n X d_Builtins_sameNode_93 rfl 3 rfl ?_
        obtain ⟨r14, q15, h⟩ := wk_b h
        refine J_afterP (jrunV X (c_DataRow_numberOf (ad := ad) q15) jF0_k (fun _ _ _ _ => trivial) (jgV own_Builtins_sameNode (by decide +kernel)) rfl rfl rfl pd_DataRow_numberOf (by decide) [3, 6] rfl (by decide) 0 5 rfl rfl rfl rfl (Nat.le_of_ble_eq_true rfl) d_Builtins_sameNode_94 (by decide)) ?_
        refine J_aload_n X d_Builtins_sameNode_97 rfl 1 rfl ?_
        refine J_iload_n X d_Builtins_sameNode_98 rfl 4 rfl ?_
        obtain ⟨r16, q17, h⟩ := wk_b h
        refine J_afterP (jrunV X (c_DataRow_numberOf (ad := ad) q17) jF0_k (fun _ _ _ _ => trivial) (jgV own_Builtins_sameNode (by decide +kernel)) rfl rfl rfl pd_DataRow_numberOf (by decide) [3, 6] rfl (by decide) 0 5 rfl rfl rfl rfl (Nat.le_of_ble_eq_true rfl) d_Builtins_sameNode_99 (by decide)) ?_
        refine J_lc_ne (tgt := 110) X d_Builtins_sameNode_102 d_Builtins_sameNode_103 (by decide) h (fun c18 h => ?_) (fun c18 h => ?_)
        · refine J_iconst X d_Builtins_sameNode_110 ?_
          cases h
          exact J_ret E ⟨_, rfl, j_bool (Or.inl rfl)⟩ d_Builtins_sameNode_111 (Nat.le_refl _) (Nat.le_refl _) rfl
        · refine J_iconst X d_Builtins_sameNode_106 ?_
          refine J_goto (tgt := 111) X d_Builtins_sameNode_107 (by decide) ?_
          cases h
          exact J_ret E ⟨_, rfl, j_bool (Or.inr rfl)⟩ d_Builtins_sameNode_111 (Nat.le_refl _) (Nat.le_refl _) rfl
      · refine J_aload_n X d_Builtins_sameNode_49 rfl 1 rfl ?_
        refine J_iload_n X d_Builtins_sameNode_50 rfl 3 rfl ?_
        obtain ⟨r19, q20, h⟩ := wk_b h
        refine J_afterP (jrunV X (c_DataRow_numberOf (ad := ad) q20) jF0_k (fun _ _ _ _ => trivial) (jgV own_Builtins_sameNode (by decide +kernel)) rfl rfl rfl pd_DataRow_numberOf (by decide) [3, 6] rfl (by decide) 0 5 rfl rfl rfl rfl (Nat.le_of_ble_eq_true rfl) d_Builtins_sameNode_51 (by decide)) ?_
        refine J_l2i X d_Builtins_sameNode_54 ?_
        refine J_istore (lv' := [(5, .int (zI r19)), (4, .int (zI r1)), (3, .ref (ad 16)), (0, .ref (ad 31)), (1, .int (zI p1)), (2, .int (zI p2))]) X d_Builtins_sameNode_55 (by decide) rfl ?_
        refine J_aload_n X d_Builtins_sameNode_57 rfl 2 rfl ?_
        refine J_iload_n X d_Builtins_sameNode_58 rfl 5 rfl ?_
        obtain ⟨r21, q22, h⟩ := wk_b h
        refine J_afterP (jrunV X (c_DataRow_numberOf (ad := ad) q22) jF0_k (fun _ _ _ _ => trivial) (jgV own_Builtins_sameNode (by decide +kernel)) rfl rfl rfl pd_DataRow_numberOf (by decide) [3, 6] rfl (by decide) 0 5 rfl rfl rfl rfl (Nat.le_of_ble_eq_true rfl) d_Builtins_sameNode_59 (by decide)) ?_
        refine J_l2i X d_Builtins_sameNode_62 ?_
        refine J_istore (lv' := [(6, .int (zI r21)), (5, .int (zI r19)), (4, .int (zI r1)), (3, .ref (ad 16)), (0, .ref (ad 31)), (1, .int (zI p1)), (2, .int (zI p2))]) X d_Builtins_sameNode_63 (by decide) rfl ?_
        refine J_aload_n X d_Builtins_sameNode_65 rfl 4 rfl ?_
        refine J_get X (j_in in_Builtins) 7 rfl rfl 0 (by decide) (j_m own_Builtins_sameNode (by decide +kernel)) rfl d_Builtins_sameNode_66 ?_
        refine J_get X (j_in in_Values) 0 rfl rfl 0 (by decide) (j_m own_Builtins_sameNode (by decide +kernel)) rfl d_Builtins_sameNode_69 ?_
        refine J_iload X d_Builtins_sameNode_72 1 rfl ?_
        refine J_iload X d_Builtins_sameNode_74 2 rfl ?_
        refine J_iload X d_Builtins_sameNode_76 0 rfl ?_
        refine J_iload X d_Builtins_sameNode_78 2 rfl ?_
        obtain ⟨r23, q24, h⟩ := wk_b h
        refine J_afterP (jrunV X (c_ByteRow_compare (xa := ad 14) (xb := ad 15) q24) jF0_k (fun _ _ _ _ => trivial) (jgV own_Builtins_sameNode (by decide +kernel)) rfl rfl rfl pd_ByteRow_compare (by decide) [1, 2] rfl (by decide) 0 2 rfl rfl rfl rfl (Nat.le_of_ble_eq_true rfl) d_Builtins_sameNode_80 (by decide)) ?_
        refine J_if_ne (tgt := 90) X d_Builtins_sameNode_83 (by decide) h (fun c25 h => ?_) (fun c25 h => ?_)
        · refine J_iconst X d_Builtins_sameNode_90 ?_
          cases h
          exact J_ret E ⟨_, rfl, j_bool (Or.inl rfl)⟩ d_Builtins_sameNode_91 (Nat.le_refl _) (Nat.le_refl _) rfl
        · refine J_iconst X d_Builtins_sameNode_86 ?_
          refine J_goto (tgt := 91) X d_Builtins_sameNode_87 (by decide) ?_
          cases h
          exact J_ret E ⟨_, rfl, j_bool (Or.inr rfl)⟩ d_Builtins_sameNode_91 (Nat.le_refl _) (Nat.le_refl _) rfl
    · refine J_iconst X d_Builtins_sameNode_38 ?_
      cases h
      exact J_ret E ⟨_, rfl, j_bool (Or.inl rfl)⟩ d_Builtins_sameNode_39 (Nat.le_refl _) (Nat.le_refl _) rfl

theorem d_Builtins_sameData_0 : decode b_Builtins_sameData 0 = .ok (.aload_n 0, 1) := by decide +kernel
theorem d_Builtins_sameData_1 : decode b_Builtins_sameData 1 = .ok (.getfield 19, 3) := by decide +kernel
theorem d_Builtins_sameData_4 : decode b_Builtins_sameData 4 = .ok (.getfield 105, 3) := by decide +kernel
theorem d_Builtins_sameData_7 : decode b_Builtins_sameData 7 = .ok (.iload_n 1, 1) := by decide +kernel
theorem d_Builtins_sameData_8 : decode b_Builtins_sameData 8 = .ok (.invokevirtual 232, 3) := by decide +kernel
theorem d_Builtins_sameData_11 : decode b_Builtins_sameData 11 = .ok (.istore_n 3, 1) := by decide +kernel
theorem d_Builtins_sameData_12 : decode b_Builtins_sameData 12 = .ok (.iload_n 3, 1) := by decide +kernel
theorem d_Builtins_sameData_13 : decode b_Builtins_sameData 13 = .ok (.aload_n 0, 1) := by decide +kernel
theorem d_Builtins_sameData_14 : decode b_Builtins_sameData 14 = .ok (.getfield 19, 3) := by decide +kernel
theorem d_Builtins_sameData_17 : decode b_Builtins_sameData 17 = .ok (.getfield 105, 3) := by decide +kernel
theorem d_Builtins_sameData_20 : decode b_Builtins_sameData 20 = .ok (.iload_n 2, 1) := by decide +kernel
theorem d_Builtins_sameData_21 : decode b_Builtins_sameData 21 = .ok (.invokevirtual 232, 3) := by decide +kernel
theorem d_Builtins_sameData_24 : decode b_Builtins_sameData 24 = .ok (.if_icmp .eq 5, 3) := by decide +kernel
theorem d_Builtins_sameData_27 : decode b_Builtins_sameData 27 = .ok (.iconst 0, 1) := by decide +kernel
theorem d_Builtins_sameData_28 : decode b_Builtins_sameData 28 = .ok (.ireturn, 1) := by decide +kernel
theorem d_Builtins_sameData_29 : decode b_Builtins_sameData 29 = .ok (.iconst 0, 1) := by decide +kernel
theorem d_Builtins_sameData_30 : decode b_Builtins_sameData 30 = .ok (.istore 4, 2) := by decide +kernel
theorem d_Builtins_sameData_32 : decode b_Builtins_sameData 32 = .ok (.iload 4, 2) := by decide +kernel
theorem d_Builtins_sameData_34 : decode b_Builtins_sameData 34 = .ok (.iload_n 3, 1) := by decide +kernel
theorem d_Builtins_sameData_35 : decode b_Builtins_sameData 35 = .ok (.if_icmp .ge 26, 3) := by decide +kernel
theorem d_Builtins_sameData_38 : decode b_Builtins_sameData 38 = .ok (.aload_n 0, 1) := by decide +kernel
theorem d_Builtins_sameData_39 : decode b_Builtins_sameData 39 = .ok (.iload_n 1, 1) := by decide +kernel
theorem d_Builtins_sameData_40 : decode b_Builtins_sameData 40 = .ok (.iload 4, 2) := by decide +kernel
theorem d_Builtins_sameData_42 : decode b_Builtins_sameData 42 = .ok (.iadd, 1) := by decide +kernel
theorem d_Builtins_sameData_43 : decode b_Builtins_sameData 43 = .ok (.iload_n 2, 1) := by decide +kernel
theorem d_Builtins_sameData_44 : decode b_Builtins_sameData 44 = .ok (.iload 4, 2) := by decide +kernel
theorem d_Builtins_sameData_46 : decode b_Builtins_sameData 46 = .ok (.iadd, 1) := by decide +kernel
theorem d_Builtins_sameData_47 : decode b_Builtins_sameData 47 = .ok (.invokevirtual 235, 3) := by decide +kernel
theorem d_Builtins_sameData_50 : decode b_Builtins_sameData 50 = .ok (.ifCond .ne 5, 3) := by decide +kernel
theorem d_Builtins_sameData_53 : decode b_Builtins_sameData 53 = .ok (.iconst 0, 1) := by decide +kernel
theorem d_Builtins_sameData_54 : decode b_Builtins_sameData 54 = .ok (.ireturn, 1) := by decide +kernel
theorem d_Builtins_sameData_55 : decode b_Builtins_sameData 55 = .ok (.iinc 4 1, 3) := by decide +kernel
theorem d_Builtins_sameData_58 : decode b_Builtins_sameData 58 = .ok (.goto (-26), 3) := by decide +kernel
theorem d_Builtins_sameData_61 : decode b_Builtins_sameData 61 = .ok (.iconst 1, 1) := by decide +kernel
theorem d_Builtins_sameData_62 : decode b_Builtins_sameData 62 = .ok (.ireturn, 1) := by decide +kernel
def f_Builtins_sameData_L32 (N : Nat) (VB_row : Int → Int) (D_top : Int) (D_forms : Int → Int) (D_counts : Int → Int) (D_numbers : Int → Int) (D_nodes : Int → Int) : Nat → Int → Int → Int → Int → Option (Int)
  | 0, _, _, _, _ => none
  | n + 1, x1, x2, x3, x4 =>
    if jr2 x4 x3 = true then (if x3 ≤ x4 then (
     some 1) else (
     Option.bind (f_Builtins_sameNode N VB_row D_top D_forms D_counts D_numbers (x1 + x4) (x2 + x4)) (fun r7 =>
      if rI r7 = true then (if r7 = 0 then (
       some 0) else (
       f_Builtins_sameData_L32 N VB_row D_top D_forms D_counts D_numbers D_nodes n x1 x2 x3 (x4 + 1))) else none))) else none
def f_Builtins_sameData (N : Nat) (VB_row : Int → Int) (D_top : Int) (D_forms : Int → Int) (D_counts : Int → Int) (D_numbers : Int → Int) (D_nodes : Int → Int) (p1 : Int) (p2 : Int) : Option (Int) :=
  Option.bind (f_DataRow_nodesOf D_top D_nodes p1) (fun r1 =>
   Option.bind (f_DataRow_nodesOf D_top D_nodes p2) (fun r3 =>
    if jr2 r1 r3 = true then (if r1 = r3 then (
     f_Builtins_sameData_L32 N VB_row D_top D_forms D_counts D_numbers D_nodes N p1 p2 r1 0) else (
     some 0)) else none))
set_option maxHeartbeats 4000000 in
set_option maxRecDepth 100000 in
theorem k_Builtins_sameData_L32 {K : jK} {cI cL cB : ClassId} {ad : Nat → Nat} {N : Nat} {VB_row : Int → Int} {D_top : Int} {D_forms : Int → Int} {D_counts : Int → Int} {D_numbers : Int → Int} {D_nodes : Int → Int} {V_top : Int} {VB_top : Int} {B_ready : Int} {out : Int} (X : jX jF0 K 5 b_Builtins_sameData w_Builtins_sameData R_Builtins [(cI, .int), (cL, .long), (cB, .byte)]) (E : jE K b_Builtins_sameData (some .boolean) ({ frames := 3, cells := 0, slots := 0, locals := 76 } : Room) true 0 0 (some (.int (zI out))) [(ad 9, .inr (4, [.ref (ad 14), .ref (ad 16), .ref (ad 10), .ref (ad 11), .ref (ad 12), .ref (ad 13), .int (zI V_top)])), (ad 14, .inr (2, [.ref (ad 15), .int (zI VB_top)])), (ad 15, .inl (cB, 36864, .inl (zA VB_row))), (ad 16, .inr (5, [.ref (ad 17), .ref (ad 18), .ref (ad 19), .ref (ad 20), .ref (ad 21), .ref (ad 22), .int (zI D_top)])), (ad 17, .inl (cI, 3201, .inl (zA D_forms))), (ad 18, .inl (cI, 3201, .inl (zA D_counts))), (ad 19, .inl (cL, 3201, .inr (.inl (zB D_numbers)))), (ad 20, .inl (cI, 3201, .inl (zA D_nodes))), (ad 31, .inr (9, [.ref (ad 9), .ref (ad 23), .ref (ad 32), .int (zI B_ready)]))]) : ∀ (n : Nat) (x1 : Int) (x2 : Int) (x3 : Int) (x4 : Int), f_Builtins_sameData_L32 N VB_row D_top D_forms D_counts D_numbers D_nodes n x1 x2 x3 x4 = some out → J K 5 ({ frames := 3, cells := 0, slots := 0, locals := 76 } : Room) true 0 0 [(ad 9, .inr (4, [.ref (ad 14), .ref (ad 16), .ref (ad 10), .ref (ad 11), .ref (ad 12), .ref (ad 13), .int (zI V_top)])), (ad 14, .inr (2, [.ref (ad 15), .int (zI VB_top)])), (ad 15, .inl (cB, 36864, .inl (zA VB_row))), (ad 16, .inr (5, [.ref (ad 17), .ref (ad 18), .ref (ad 19), .ref (ad 20), .ref (ad 21), .ref (ad 22), .int (zI D_top)])), (ad 17, .inl (cI, 3201, .inl (zA D_forms))), (ad 18, .inl (cI, 3201, .inl (zA D_counts))), (ad 19, .inl (cL, 3201, .inr (.inl (zB D_numbers)))), (ad 20, .inl (cI, 3201, .inl (zA D_nodes))), (ad 31, .inr (9, [.ref (ad 9), .ref (ad 23), .ref (ad 32), .int (zI B_ready)]))] [(0, .ref (ad 31)), (1, .int (zI x1)), (2, .int (zI x2)), (3, .int (zI x3)), (4, .int (zI x4))] [] 32 := by
  intro n
  induction n with
  | zero =>
    intro x1 x2 x3 x4 h
    cases h
  | succ n ih =>
    intro x1 x2 x3 x4 h
    unfold f_Builtins_sameData_L32 at h
    refine J_iload X d_Builtins_sameData_32 4 rfl ?_
    refine J_iload_n X d_Builtins_sameData_34 rfl 3 rfl ?_
    refine J_icmp_ge (tgt := 61) X d_Builtins_sameData_35 (by decide) h (fun c6 h => ?_) (fun c6 h => ?_)
    · refine J_iconst X d_Builtins_sameData_61 ?_
      cases h
      exact J_ret E ⟨_, rfl, j_bool (Or.inr rfl)⟩ d_Builtins_sameData_62 (Nat.le_refl _) (Nat.le_refl _) rfl
    · refine J_aload_n X d_Builtins_sameData_38 rfl 0 rfl ?_
      refine J_iload_n X d_Builtins_sameData_39 rfl 1 rfl ?_
      refine J_iload X d_Builtins_sameData_40 4 rfl ?_
      refine J_iadd X d_Builtins_sameData_42 ?_
      refine J_iload_n X d_Builtins_sameData_43 rfl 2 rfl ?_
      refine J_iload X d_Builtins_sameData_44 4 rfl ?_
      refine J_iadd X d_Builtins_sameData_46 ?_
      obtain ⟨r7, q8, h⟩ := wk_b h
      refine J_afterP (jrunV X (c_Builtins_sameNode (ad := ad) q8) jF0_k (fun _ _ _ _ => trivial) (jgV own_Builtins_sameData (by decide +kernel)) rfl rfl rfl pd_Builtins_sameNode (by decide) [0, 1, 2, 3, 4, 5, 6, 8] rfl (by decide) 7 9 rfl rfl rfl rfl (Nat.le_of_ble_eq_true rfl) d_Builtins_sameData_47 (by decide)) ?_
      refine J_if_ne (tgt := 55) X d_Builtins_sameData_50 (by decide) h (fun c9 h => ?_) (fun c9 h => ?_)
      · refine J_iinc (lv' := [(4, .int (zI (x4 + 1))), (0, .ref (ad 31)), (1, .int (zI x1)), (2, .int (zI x2)), (3, .int (zI x3))]) X d_Builtins_sameData_55 4 rfl (by decide) rfl ?_
        refine J_goto (tgt := 32) X d_Builtins_sameData_58 (by decide) ?_
        refine J_lv (lv' := [(0, .ref (ad 31)), (1, .int (zI x1)), (2, .int (zI x2)), (3, .int (zI x3)), (4, .int (zI (x4 + 1)))]) [1, 2, 3, 4, 0] rfl ?_
        exact ih _ _ _ _ h
      · refine J_iconst X d_Builtins_sameData_53 ?_
        cases h
        exact J_ret E ⟨_, rfl, j_bool (Or.inl rfl)⟩ d_Builtins_sameData_54 (Nat.le_refl _) (Nat.le_refl _) rfl
set_option maxHeartbeats 4000000 in
set_option maxRecDepth 100000 in
theorem c_Builtins_sameData {l : Launch} {D : va_G} {cI cL cB : ClassId} {ad : Nat → Nat} {N : Nat} {V_top : Int} {VB_top : Int} {VB_row : Int → Int} {D_top : Int} {D_forms : Int → Int} {D_counts : Int → Int} {D_numbers : Int → Int} {D_nodes : Int → Int} {B_ready : Int} {p1 : Int} {p2 : Int} {out : Int} (h : f_Builtins_sameData N VB_row D_top D_forms D_counts D_numbers D_nodes p1 p2 = some out) : CT jF0 true l D [(cI, .int), (cL, .long), (cB, .byte)] y_Builtins_sameData w_Builtins_sameData ({ frames := 3, cells := 0, slots := 0, locals := 76 } : Room) [.ref (ad 31), .int (zI p1), .int (zI p2)] [(ad 9, .inr (4, [.ref (ad 14), .ref (ad 16), .ref (ad 10), .ref (ad 11), .ref (ad 12), .ref (ad 13), .int (zI V_top)])), (ad 14, .inr (2, [.ref (ad 15), .int (zI VB_top)])), (ad 15, .inl (cB, 36864, .inl (zA VB_row))), (ad 16, .inr (5, [.ref (ad 17), .ref (ad 18), .ref (ad 19), .ref (ad 20), .ref (ad 21), .ref (ad 22), .int (zI D_top)])), (ad 17, .inl (cI, 3201, .inl (zA D_forms))), (ad 18, .inl (cI, 3201, .inl (zA D_counts))), (ad 19, .inl (cL, 3201, .inr (.inl (zB D_numbers)))), (ad 20, .inl (cI, 3201, .inl (zA D_nodes))), (ad 31, .inr (9, [.ref (ad 9), .ref (ad 23), .ref (ad 32), .int (zI B_ready)]))] (some (.int (zI out))) [(ad 9, .inr (4, [.ref (ad 14), .ref (ad 16), .ref (ad 10), .ref (ad 11), .ref (ad 12), .ref (ad 13), .int (zI V_top)])), (ad 14, .inr (2, [.ref (ad 15), .int (zI VB_top)])), (ad 15, .inl (cB, 36864, .inl (zA VB_row))), (ad 16, .inr (5, [.ref (ad 17), .ref (ad 18), .ref (ad 19), .ref (ad 20), .ref (ad 21), .ref (ad 22), .int (zI D_top)])), (ad 17, .inl (cI, 3201, .inl (zA D_forms))), (ad 18, .inl (cI, 3201, .inl (zA D_counts))), (ad 19, .inl (cL, 3201, .inr (.inl (zB D_numbers)))), (ad 20, .inl (cI, 3201, .inl (zA D_nodes))), (ad 31, .inr (9, [.ref (ad 9), .ref (ad 23), .ref (ad 32), .int (zI B_ready)]))] 0 0 := by
  refine CT_of_J (cc := b_Builtins_sameData) (maxL := 5) (ret := (some .boolean)) jF0_k (plainFor_of_name (by decide)) rfl (Nat.le_of_ble_eq_true rfl) ?_
  intro K hKl hKD X E
  subst hKl; subst hKD
  unfold f_Builtins_sameData at h
  refine J_aload_n X d_Builtins_sameData_0 rfl 0 rfl ?_
  refine J_get X (j_in in_Builtins) 8 rfl rfl 0 (by decide) (j_m own_Builtins_sameData (by decide +kernel)) rfl d_Builtins_sameData_1 ?_
  refine J_get X (j_in in_Values) 0 rfl rfl 1 (by decide) (j_m own_Builtins_sameData (by decide +kernel)) rfl d_Builtins_sameData_4 ?_
  refine J_iload_n X d_Builtins_sameData_7 rfl 1 rfl ?_
  obtain ⟨r1, q2, h⟩ := wk_b h
  refine J_afterP (jrunV X (c_DataRow_nodesOf (ad := ad) q2) jF0_k (fun _ _ _ _ => trivial) (jgV own_Builtins_sameData (by decide +kernel)) rfl rfl rfl pd_DataRow_nodesOf (by decide) [3, 7] rfl (by decide) 0 5 rfl rfl rfl rfl (Nat.le_of_ble_eq_true rfl) d_Builtins_sameData_8 (by decide)) ?_
  refine J_istore_n (lv' := [(3, .int (zI r1)), (0, .ref (ad 31)), (1, .int (zI p1)), (2, .int (zI p2))]) X d_Builtins_sameData_11 rfl (by decide) rfl ?_
  refine J_iload_n X d_Builtins_sameData_12 rfl 0 rfl ?_
  refine J_aload_n X d_Builtins_sameData_13 rfl 1 rfl ?_
  refine J_get X (j_in in_Builtins) 8 rfl rfl 0 (by decide) (j_m own_Builtins_sameData (by decide +kernel)) rfl d_Builtins_sameData_14 ?_
  refine J_get X (j_in in_Values) 0 rfl rfl 1 (by decide) (j_m own_Builtins_sameData (by decide +kernel)) rfl d_Builtins_sameData_17 ?_
  refine J_iload_n X d_Builtins_sameData_20 rfl 3 rfl ?_
  obtain ⟨r3, q4, h⟩ := wk_b h
  refine J_afterP (jrunV X (c_DataRow_nodesOf (ad := ad) q4) jF0_k (fun _ _ _ _ => trivial) (jgV own_Builtins_sameData (by decide +kernel)) rfl rfl rfl pd_DataRow_nodesOf (by decide) [3, 7] rfl (by decide) 0 5 rfl rfl rfl rfl (Nat.le_of_ble_eq_true rfl) d_Builtins_sameData_21 (by decide)) ?_
  refine J_icmp_eq (tgt := 29) X d_Builtins_sameData_24 (by decide) h (fun c5 h => ?_) (fun c5 h => ?_)
  · refine J_iconst X d_Builtins_sameData_29 ?_
    refine J_istore (lv' := [(4, .int (zI 0)), (3, .int (zI r1)), (0, .ref (ad 31)), (1, .int (zI p1)), (2, .int (zI p2))]) X d_Builtins_sameData_30 (by decide) rfl ?_
    refine J_lv (lv' := [(0, .ref (ad 31)), (1, .int (zI p1)), (2, .int (zI p2)), (3, .int (zI r1)), (4, .int (zI 0))]) [2, 3, 4, 1, 0] rfl ?_
    exact k_Builtins_sameData_L32 X E _ _ _ _ _ h
  · refine J_iconst X d_Builtins_sameData_27 ?_
    cases h
    exact J_ret E ⟨_, rfl, j_bool (Or.inl rfl)⟩ d_Builtins_sameData_28 (Nat.le_refl _) (Nat.le_refl _) rfl

theorem d_Builtins_toConstructor_0 : decode b_Builtins_toConstructor 0 = .ok (.lload_n 1, 1) := by decide +kernel
theorem d_Builtins_toConstructor_1 : decode b_Builtins_toConstructor 1 = .ok (.lconst 0, 1) := by decide +kernel
theorem d_Builtins_toConstructor_2 : decode b_Builtins_toConstructor 2 = .ok (.lcmp, 1) := by decide +kernel
theorem d_Builtins_toConstructor_3 : decode b_Builtins_toConstructor 3 = .ok (.ifCond .lt 11, 3) := by decide +kernel
theorem d_Builtins_toConstructor_6 : decode b_Builtins_toConstructor 6 = .ok (.lload_n 1, 1) := by decide +kernel
theorem d_Builtins_toConstructor_7 : decode b_Builtins_toConstructor 7 = .ok (.ldc2_w 224, 3) := by decide +kernel
theorem d_Builtins_toConstructor_10 : decode b_Builtins_toConstructor 10 = .ok (.lcmp, 1) := by decide +kernel
theorem d_Builtins_toConstructor_11 : decode b_Builtins_toConstructor 11 = .ok (.ifCond .le 5, 3) := by decide +kernel
theorem d_Builtins_toConstructor_14 : decode b_Builtins_toConstructor 14 = .ok (.iconst (-1), 1) := by decide +kernel
theorem d_Builtins_toConstructor_15 : decode b_Builtins_toConstructor 15 = .ok (.ireturn, 1) := by decide +kernel
theorem d_Builtins_toConstructor_16 : decode b_Builtins_toConstructor 16 = .ok (.aload_n 0, 1) := by decide +kernel
theorem d_Builtins_toConstructor_17 : decode b_Builtins_toConstructor 17 = .ok (.getfield 19, 3) := by decide +kernel
theorem d_Builtins_toConstructor_20 : decode b_Builtins_toConstructor 20 = .ok (.getfield 105, 3) := by decide +kernel
theorem d_Builtins_toConstructor_23 : decode b_Builtins_toConstructor 23 = .ok (.astore 4, 2) := by decide +kernel
theorem d_Builtins_toConstructor_25 : decode b_Builtins_toConstructor 25 = .ok (.aload_n 0, 1) := by decide +kernel
theorem d_Builtins_toConstructor_26 : decode b_Builtins_toConstructor 26 = .ok (.getfield 19, 3) := by decide +kernel
theorem d_Builtins_toConstructor_29 : decode b_Builtins_toConstructor 29 = .ok (.aload 4, 2) := by decide +kernel
theorem d_Builtins_toConstructor_31 : decode b_Builtins_toConstructor 31 = .ok (.iload_n 3, 1) := by decide +kernel
theorem d_Builtins_toConstructor_32 : decode b_Builtins_toConstructor 32 = .ok (.iconst 0, 1) := by decide +kernel
theorem d_Builtins_toConstructor_33 : decode b_Builtins_toConstructor 33 = .ok (.lload_n 1, 1) := by decide +kernel
theorem d_Builtins_toConstructor_34 : decode b_Builtins_toConstructor 34 = .ok (.aload 4, 2) := by decide +kernel
theorem d_Builtins_toConstructor_36 : decode b_Builtins_toConstructor 36 = .ok (.iload_n 3, 1) := by decide +kernel
theorem d_Builtins_toConstructor_37 : decode b_Builtins_toConstructor 37 = .ok (.invokevirtual 206, 3) := by decide +kernel
theorem d_Builtins_toConstructor_40 : decode b_Builtins_toConstructor 40 = .ok (.invokevirtual 209, 3) := by decide +kernel
theorem d_Builtins_toConstructor_43 : decode b_Builtins_toConstructor 43 = .ok (.invokevirtual 213, 3) := by decide +kernel
theorem d_Builtins_toConstructor_46 : decode b_Builtins_toConstructor 46 = .ok (.ireturn, 1) := by decide +kernel
def f_Builtins_toConstructor (V_top : Int) (V_kinds : Int → Int) (V_numbers : Int → Int) (V_parts : Int → Int) (V_links : Int → Int) (D_top : Int) (D_forms : Int → Int) (D_counts : Int → Int) (D_numbers : Int → Int) (D_nodes : Int → Int) (D_depths : Int → Int) (D_weights : Int → Int) (p1 : Int) (p3 : Int) : Option (Int × Int × (Int → Int) × (Int → Int) × (Int → Int) × (Int → Int) × Int × (Int → Int) × (Int → Int) × (Int → Int) × (Int → Int) × (Int → Int) × (Int → Int)) :=
  if jl2 p1 0 = true then (if p1 < 0 then (
   some ((-1), V_top, V_kinds, V_numbers, V_parts, V_links, D_top, D_forms, D_counts, D_numbers, D_nodes, D_depths, D_weights)) else (
   if jl2 p1 127 = true then (if p1 ≤ 127 then (
    Option.bind (f_DataRow_countOf D_top D_counts p3) (fun r3 =>
     ob8 (f_DataRow_recast D_top D_forms D_counts D_numbers D_nodes D_depths D_weights p3 0 p1 r3) (fun r5 D_top_6 D_forms_7 D_counts_8 D_numbers_9 D_nodes_10 D_depths_11 D_weights_12 =>
      ob6 (f_Values_ofData V_top V_kinds V_numbers V_parts V_links r5) (fun r14 V_top_15 V_kinds_16 V_numbers_17 V_parts_18 V_links_19 =>
       some (r14, V_top_15, V_kinds_16, V_numbers_17, V_parts_18, V_links_19, D_top_6, D_forms_7, D_counts_8, D_numbers_9, D_nodes_10, D_depths_11, D_weights_12))))) else (
    some ((-1), V_top, V_kinds, V_numbers, V_parts, V_links, D_top, D_forms, D_counts, D_numbers, D_nodes, D_depths, D_weights))) else none)) else none
set_option maxHeartbeats 4000000 in
set_option maxRecDepth 100000 in
theorem c_Builtins_toConstructor {l : Launch} {D : va_G} {cI cL cB : ClassId} {ad : Nat → Nat} {V_top : Int} {V_kinds : Int → Int} {V_numbers : Int → Int} {V_parts : Int → Int} {V_links : Int → Int} {D_top : Int} {D_forms : Int → Int} {D_counts : Int → Int} {D_numbers : Int → Int} {D_nodes : Int → Int} {D_depths : Int → Int} {D_weights : Int → Int} {B_ready : Int} {p1 : Int} {p3 : Int} {out : Int × Int × (Int → Int) × (Int → Int) × (Int → Int) × (Int → Int) × Int × (Int → Int) × (Int → Int) × (Int → Int) × (Int → Int) × (Int → Int) × (Int → Int)} (h : f_Builtins_toConstructor V_top V_kinds V_numbers V_parts V_links D_top D_forms D_counts D_numbers D_nodes D_depths D_weights p1 p3 = some out) : CT jF0 false l D [(cI, .int), (cL, .long), (cB, .byte)] y_Builtins_toConstructor w_Builtins_toConstructor ({ frames := 3, cells := 0, slots := 0, locals := 108 } : Room) [.ref (ad 31), .long (zL p1), .int (zI p3)] [(ad 9, .inr (4, [.ref (ad 14), .ref (ad 16), .ref (ad 10), .ref (ad 11), .ref (ad 12), .ref (ad 13), .int (zI V_top)])), (ad 10, .inl (cI, 3201, .inl (zA V_kinds))), (ad 11, .inl (cL, 3201, .inr (.inl (zB V_numbers)))), (ad 12, .inl (cI, 3201, .inl (zA V_parts))), (ad 13, .inl (cI, 3201, .inl (zA V_links))), (ad 16, .inr (5, [.ref (ad 17), .ref (ad 18), .ref (ad 19), .ref (ad 20), .ref (ad 21), .ref (ad 22), .int (zI D_top)])), (ad 17, .inl (cI, 3201, .inl (zA D_forms))), (ad 18, .inl (cI, 3201, .inl (zA D_counts))), (ad 19, .inl (cL, 3201, .inr (.inl (zB D_numbers)))), (ad 20, .inl (cI, 3201, .inl (zA D_nodes))), (ad 21, .inl (cI, 3201, .inl (zA D_depths))), (ad 22, .inl (cI, 3201, .inl (zA D_weights))), (ad 31, .inr (9, [.ref (ad 9), .ref (ad 23), .ref (ad 32), .int (zI B_ready)]))] (some (.int (zI out.1))) [(ad 9, .inr (4, [.ref (ad 14), .ref (ad 16), .ref (ad 10), .ref (ad 11), .ref (ad 12), .ref (ad 13), .int (zI (out.2.1))])), (ad 10, .inl (cI, 3201, .inl (zA (out.2.2.1)))), (ad 11, .inl (cL, 3201, .inr (.inl (zB (out.2.2.2.1))))), (ad 12, .inl (cI, 3201, .inl (zA (out.2.2.2.2.1)))), (ad 13, .inl (cI, 3201, .inl (zA (out.2.2.2.2.2.1)))), (ad 16, .inr (5, [.ref (ad 17), .ref (ad 18), .ref (ad 19), .ref (ad 20), .ref (ad 21), .ref (ad 22), .int (zI (out.2.2.2.2.2.2.1))])), (ad 17, .inl (cI, 3201, .inl (zA (out.2.2.2.2.2.2.2.1)))), (ad 18, .inl (cI, 3201, .inl (zA (out.2.2.2.2.2.2.2.2.1)))), (ad 19, .inl (cL, 3201, .inr (.inl (zB (out.2.2.2.2.2.2.2.2.2.1))))), (ad 20, .inl (cI, 3201, .inl (zA (out.2.2.2.2.2.2.2.2.2.2.1)))), (ad 21, .inl (cI, 3201, .inl (zA (out.2.2.2.2.2.2.2.2.2.2.2.1)))), (ad 22, .inl (cI, 3201, .inl (zA (out.2.2.2.2.2.2.2.2.2.2.2.2)))), (ad 31, .inr (9, [.ref (ad 9), .ref (ad 23), .ref (ad 32), .int (zI B_ready)]))] 0 0 := by
  refine CT_of_J (cc := b_Builtins_toConstructor) (maxL := 5) (ret := (some .int)) jF0_k (plainFor_of_name (by decide)) rfl (Nat.le_of_ble_eq_true rfl) ?_
  intro K hKl hKD X E
  subst hKl; subst hKD
  unfold f_Builtins_toConstructor at h
  refine J_lload_n X d_Builtins_toConstructor_0 rfl 1 rfl ?_
  refine J_lconst (v := 0) X d_Builtins_toConstructor_1 (by decide) ?_
  refine J_lc_lt (tgt := 14) X d_Builtins_toConstructor_2 d_Builtins_toConstructor_3 (by decide) h (fun c1 h => ?_) (fun c1 h => ?_)
  · refine J_iconst X d_Builtins_toConstructor_14 ?_
    cases h
    exact J_ret E ⟨_, rfl, rfl⟩ d_Builtins_toConstructor_15 (Nat.le_refl _) (Nat.le_refl _) rfl
  · refine J_lload_n X d_Builtins_toConstructor_6 rfl 1 rfl ?_
    refine J_ldc2 (v := 127) (n := 127) X (j_m own_Builtins_toConstructor (by decide +kernel)) (by decide) d_Builtins_toConstructor_7 ?_
    refine J_lc_le (tgt := 16) X d_Builtins_toConstructor_10 d_Builtins_toConstructor_11 (by decide) h (fun c2 h => ?_) (fun c2 h => ?_)
    · refine J_aload_n X d_Builtins_toConstructor_16 rfl 0 rfl ?_
      refine J_get X (j_in in_Builtins) 12 rfl rfl 0 (by decide) (j_m own_Builtins_toConstructor (by decide +kernel)) rfl d_Builtins_toConstructor_17 ?_
      refine J_get X (j_in in_Values) 0 rfl rfl 1 (by decide) (j_m own_Builtins_toConstructor (by decide +kernel)) rfl d_Builtins_toConstructor_20 ?_
      refine J_astore (lv' := [(4, .ref (ad 16)), (0, .ref (ad 31)), (1, .long (zL p1)), (3, .int (zI p3))]) X d_Builtins_toConstructor_23 (by decide) rfl ?_
      refine J_aload_n X d_Builtins_toConstructor_25 rfl 1 rfl ?_
      refine J_get X (j_in in_Builtins) 12 rfl rfl 0 (by decide) (j_m own_Builtins_toConstructor (by decide +kernel)) rfl d_Builtins_toConstructor_26 ?_
      refine J_aload X d_Builtins_toConstructor_29 0 rfl ?_
      refine J_iload_n X d_Builtins_toConstructor_31 rfl 3 rfl ?_
      refine J_iconst X d_Builtins_toConstructor_32 ?_
      refine J_lload_n X d_Builtins_toConstructor_33 rfl 2 rfl ?_
      refine J_aload X d_Builtins_toConstructor_34 0 rfl ?_
      refine J_iload_n X d_Builtins_toConstructor_36 rfl 3 rfl ?_
      obtain ⟨r3, q4, h⟩ := wk_b h
      refine J_afterP (jrunV X (c_DataRow_countOf (ad := ad) q4) jF0_k (fun _ _ _ _ => trivial) (jgV own_Builtins_toConstructor (by decide +kernel)) rfl rfl rfl pd_DataRow_countOf (by decide) [5, 7] rfl (by decide) 0 5 rfl rfl rfl rfl (Nat.le_of_ble_eq_true rfl) d_Builtins_toConstructor_37 (by decide)) ?_
      obtain ⟨r5, D_top_6, D_forms_7, D_counts_8, D_numbers_9, D_nodes_10, D_depths_11, D_weights_12, q13, h⟩ := wk_b8 h
      refine J_afterI0 (ws' := [(ad 9, .inr (4, [.ref (ad 14), .ref (ad 16), .ref (ad 10), .ref (ad 11), .ref (ad 12), .ref (ad 13), .int (zI V_top)])), (ad 10, .inl (cI, 3201, .inl (zA V_kinds))), (ad 11, .inl (cL, 3201, .inr (.inl (zB V_numbers)))), (ad 12, .inl (cI, 3201, .inl (zA V_parts))), (ad 13, .inl (cI, 3201, .inl (zA V_links))), (ad 16, .inr (5, [.ref (ad 17), .ref (ad 18), .ref (ad 19), .ref (ad 20), .ref (ad 21), .ref (ad 22), .int (zI D_top_6)])), (ad 17, .inl (cI, 3201, .inl (zA D_forms_7))), (ad 18, .inl (cI, 3201, .inl (zA D_counts_8))), (ad 19, .inl (cL, 3201, .inr (.inl (zB D_numbers_9)))), (ad 20, .inl (cI, 3201, .inl (zA D_nodes_10))), (ad 21, .inl (cI, 3201, .inl (zA D_depths_11))), (ad 22, .inl (cI, 3201, .inl (zA D_weights_12))), (ad 31, .inr (9, [.ref (ad 9), .ref (ad 23), .ref (ad 32), .int (zI B_ready)]))]) X (jrunV X (c_DataRow_recast (ad := ad) q13) jF0_k (fun _ _ _ _ => trivial) (jgV own_Builtins_toConstructor (by decide +kernel)) rfl rfl rfl pd_DataRow_recast (by decide) [5, 6, 7, 8, 9, 10, 11] rfl (by decide) 0 5 rfl rfl rfl rfl (Nat.le_of_ble_eq_true rfl) d_Builtins_toConstructor_40 (by decide)) [5, 6, 7, 8, 9, 10, 11] [0, 1, 2, 3, 4, 12] [0, 1, 2, 3, 4, 6, 7, 8, 9, 10, 11, 12, 5] rfl rfl (by decide) (by decide) rfl (by decide) ?_
      obtain ⟨r14, V_top_15, V_kinds_16, V_numbers_17, V_parts_18, V_links_19, q20, h⟩ := wk_b6 h
      refine J_afterI0 (ws' := [(ad 9, .inr (4, [.ref (ad 14), .ref (ad 16), .ref (ad 10), .ref (ad 11), .ref (ad 12), .ref (ad 13), .int (zI V_top_15)])), (ad 10, .inl (cI, 3201, .inl (zA V_kinds_16))), (ad 11, .inl (cL, 3201, .inr (.inl (zB V_numbers_17)))), (ad 12, .inl (cI, 3201, .inl (zA V_parts_18))), (ad 13, .inl (cI, 3201, .inl (zA V_links_19))), (ad 16, .inr (5, [.ref (ad 17), .ref (ad 18), .ref (ad 19), .ref (ad 20), .ref (ad 21), .ref (ad 22), .int (zI D_top_6)])), (ad 17, .inl (cI, 3201, .inl (zA D_forms_7))), (ad 18, .inl (cI, 3201, .inl (zA D_counts_8))), (ad 19, .inl (cL, 3201, .inr (.inl (zB D_numbers_9)))), (ad 20, .inl (cI, 3201, .inl (zA D_nodes_10))), (ad 21, .inl (cI, 3201, .inl (zA D_depths_11))), (ad 22, .inl (cI, 3201, .inl (zA D_weights_12))), (ad 31, .inr (9, [.ref (ad 9), .ref (ad 23), .ref (ad 32), .int (zI B_ready)]))]) X (jrunV X (c_Values_ofData (ad := ad) q20) jF0_k (fun _ _ _ _ => trivial) (jgV own_Builtins_toConstructor (by decide +kernel)) rfl rfl rfl pd_Values_ofData (by decide) [0, 1, 2, 3, 4] rfl (by decide) 0 4 rfl rfl rfl rfl (Nat.le_of_ble_eq_true rfl) d_Builtins_toConstructor_43 (by decide)) [0, 1, 2, 3, 4] [5, 6, 7, 8, 9, 10, 11, 12] [8, 9, 10, 11, 12, 0, 1, 2, 3, 4, 5, 6, 7] rfl rfl (by decide) (by decide) rfl (by decide) ?_
      cases h
      exact J_ret E ⟨_, rfl, rfl⟩ d_Builtins_toConstructor_46 (Nat.le_refl _) (Nat.le_refl _) rfl
    · refine J_iconst X d_Builtins_toConstructor_14 ?_
      cases h
      exact J_ret E ⟨_, rfl, rfl⟩ d_Builtins_toConstructor_15 (Nat.le_refl _) (Nat.le_refl _) rfl

theorem d_Builtins_onData_0 : decode b_Builtins_onData 0 = .ok (.aload_n 0, 1) := by decide +kernel
theorem d_Builtins_onData_1 : decode b_Builtins_onData 1 = .ok (.getfield 19, 3) := by decide +kernel
theorem d_Builtins_onData_4 : decode b_Builtins_onData 4 = .ok (.getfield 105, 3) := by decide +kernel
theorem d_Builtins_onData_7 : decode b_Builtins_onData 7 = .ok (.astore_n 2, 1) := by decide +kernel
theorem d_Builtins_onData_8 : decode b_Builtins_onData 8 = .ok (.aload_n 0, 1) := by decide +kernel
theorem d_Builtins_onData_9 : decode b_Builtins_onData 9 = .ok (.getfield 19, 3) := by decide +kernel
theorem d_Builtins_onData_12 : decode b_Builtins_onData 12 = .ok (.aload_n 0, 1) := by decide +kernel
theorem d_Builtins_onData_13 : decode b_Builtins_onData 13 = .ok (.getfield 11, 3) := by decide +kernel
theorem d_Builtins_onData_16 : decode b_Builtins_onData 16 = .ok (.iconst 0, 1) := by decide +kernel
theorem d_Builtins_onData_17 : decode b_Builtins_onData 17 = .ok (.iaload, 1) := by decide +kernel
theorem d_Builtins_onData_18 : decode b_Builtins_onData 18 = .ok (.invokevirtual 109, 3) := by decide +kernel
theorem d_Builtins_onData_21 : decode b_Builtins_onData 21 = .ok (.istore_n 3, 1) := by decide +kernel
theorem d_Builtins_onData_22 : decode b_Builtins_onData 22 = .ok (.iload_n 1, 1) := by decide +kernel
theorem d_Builtins_onData_23 : decode b_Builtins_onData 23 = .ok (.tableswitch 239 17 25 #[49, 75, 89, 102, 122, 153, 180, 89, 220], 49) := by decide +kernel
theorem d_Builtins_onData_72 : decode b_Builtins_onData 72 = .ok (.aload_n 0, 1) := by decide +kernel
theorem d_Builtins_onData_73 : decode b_Builtins_onData 73 = .ok (.getfield 19, 3) := by decide +kernel
theorem d_Builtins_onData_76 : decode b_Builtins_onData 76 = .ok (.aload_n 0, 1) := by decide +kernel
theorem d_Builtins_onData_77 : decode b_Builtins_onData 77 = .ok (.iload_n 3, 1) := by decide +kernel
theorem d_Builtins_onData_78 : decode b_Builtins_onData 78 = .ok (.aload_n 0, 1) := by decide +kernel
theorem d_Builtins_onData_79 : decode b_Builtins_onData 79 = .ok (.getfield 19, 3) := by decide +kernel
theorem d_Builtins_onData_82 : decode b_Builtins_onData 82 = .ok (.aload_n 0, 1) := by decide +kernel
theorem d_Builtins_onData_83 : decode b_Builtins_onData 83 = .ok (.getfield 11, 3) := by decide +kernel
theorem d_Builtins_onData_86 : decode b_Builtins_onData 86 = .ok (.iconst 1, 1) := by decide +kernel
theorem d_Builtins_onData_87 : decode b_Builtins_onData 87 = .ok (.iaload, 1) := by decide +kernel
theorem d_Builtins_onData_88 : decode b_Builtins_onData 88 = .ok (.invokevirtual 109, 3) := by decide +kernel
theorem d_Builtins_onData_91 : decode b_Builtins_onData 91 = .ok (.invokevirtual 202, 3) := by decide +kernel
theorem d_Builtins_onData_94 : decode b_Builtins_onData 94 = .ok (.invokevirtual 141, 3) := by decide +kernel
theorem d_Builtins_onData_97 : decode b_Builtins_onData 97 = .ok (.ireturn, 1) := by decide +kernel
theorem d_Builtins_onData_98 : decode b_Builtins_onData 98 = .ok (.aload_n 0, 1) := by decide +kernel
theorem d_Builtins_onData_99 : decode b_Builtins_onData 99 = .ok (.getfield 19, 3) := by decide +kernel
theorem d_Builtins_onData_102 : decode b_Builtins_onData 102 = .ok (.aload_n 2, 1) := by decide +kernel
theorem d_Builtins_onData_103 : decode b_Builtins_onData 103 = .ok (.iload_n 3, 1) := by decide +kernel
theorem d_Builtins_onData_104 : decode b_Builtins_onData 104 = .ok (.invokevirtual 112, 3) := by decide +kernel
theorem d_Builtins_onData_107 : decode b_Builtins_onData 107 = .ok (.i2l, 1) := by decide +kernel
theorem d_Builtins_onData_108 : decode b_Builtins_onData 108 = .ok (.invokevirtual 121, 3) := by decide +kernel
theorem d_Builtins_onData_111 : decode b_Builtins_onData 111 = .ok (.ireturn, 1) := by decide +kernel
theorem d_Builtins_onData_112 : decode b_Builtins_onData 112 = .ok (.aload_n 0, 1) := by decide +kernel
theorem d_Builtins_onData_113 : decode b_Builtins_onData 113 = .ok (.getfield 19, 3) := by decide +kernel
theorem d_Builtins_onData_116 : decode b_Builtins_onData 116 = .ok (.aload_n 2, 1) := by decide +kernel
theorem d_Builtins_onData_117 : decode b_Builtins_onData 117 = .ok (.iload_n 3, 1) := by decide +kernel
theorem d_Builtins_onData_118 : decode b_Builtins_onData 118 = .ok (.invokevirtual 205, 3) := by decide +kernel
theorem d_Builtins_onData_121 : decode b_Builtins_onData 121 = .ok (.invokevirtual 121, 3) := by decide +kernel
theorem d_Builtins_onData_124 : decode b_Builtins_onData 124 = .ok (.ireturn, 1) := by decide +kernel
theorem d_Builtins_onData_125 : decode b_Builtins_onData 125 = .ok (.aload_n 0, 1) := by decide +kernel
theorem d_Builtins_onData_126 : decode b_Builtins_onData 126 = .ok (.getfield 19, 3) := by decide +kernel
theorem d_Builtins_onData_129 : decode b_Builtins_onData 129 = .ok (.aload_n 2, 1) := by decide +kernel
theorem d_Builtins_onData_130 : decode b_Builtins_onData 130 = .ok (.iload_n 3, 1) := by decide +kernel
theorem d_Builtins_onData_131 : decode b_Builtins_onData 131 = .ok (.iconst 2, 1) := by decide +kernel
theorem d_Builtins_onData_132 : decode b_Builtins_onData 132 = .ok (.lconst 0, 1) := by decide +kernel
theorem d_Builtins_onData_133 : decode b_Builtins_onData 133 = .ok (.aload_n 2, 1) := by decide +kernel
theorem d_Builtins_onData_134 : decode b_Builtins_onData 134 = .ok (.iload_n 3, 1) := by decide +kernel
theorem d_Builtins_onData_135 : decode b_Builtins_onData 135 = .ok (.invokevirtual 206, 3) := by decide +kernel
theorem d_Builtins_onData_138 : decode b_Builtins_onData 138 = .ok (.invokevirtual 209, 3) := by decide +kernel
theorem d_Builtins_onData_141 : decode b_Builtins_onData 141 = .ok (.invokevirtual 213, 3) := by decide +kernel
theorem d_Builtins_onData_144 : decode b_Builtins_onData 144 = .ok (.ireturn, 1) := by decide +kernel
theorem d_Builtins_onData_145 : decode b_Builtins_onData 145 = .ok (.aload_n 0, 1) := by decide +kernel
theorem d_Builtins_onData_146 : decode b_Builtins_onData 146 = .ok (.aload_n 0, 1) := by decide +kernel
theorem d_Builtins_onData_147 : decode b_Builtins_onData 147 = .ok (.getfield 19, 3) := by decide +kernel
theorem d_Builtins_onData_150 : decode b_Builtins_onData 150 = .ok (.aload_n 0, 1) := by decide +kernel
theorem d_Builtins_onData_151 : decode b_Builtins_onData 151 = .ok (.getfield 11, 3) := by decide +kernel
theorem d_Builtins_onData_154 : decode b_Builtins_onData 154 = .ok (.iconst 0, 1) := by decide +kernel
theorem d_Builtins_onData_155 : decode b_Builtins_onData 155 = .ok (.iaload, 1) := by decide +kernel
theorem d_Builtins_onData_156 : decode b_Builtins_onData 156 = .ok (.invokevirtual 30, 3) := by decide +kernel
theorem d_Builtins_onData_159 : decode b_Builtins_onData 159 = .ok (.aload_n 0, 1) := by decide +kernel
theorem d_Builtins_onData_160 : decode b_Builtins_onData 160 = .ok (.getfield 19, 3) := by decide +kernel
theorem d_Builtins_onData_163 : decode b_Builtins_onData 163 = .ok (.aload_n 0, 1) := by decide +kernel
theorem d_Builtins_onData_164 : decode b_Builtins_onData 164 = .ok (.getfield 11, 3) := by decide +kernel
theorem d_Builtins_onData_167 : decode b_Builtins_onData 167 = .ok (.iconst 1, 1) := by decide +kernel
theorem d_Builtins_onData_168 : decode b_Builtins_onData 168 = .ok (.iaload, 1) := by decide +kernel
theorem d_Builtins_onData_169 : decode b_Builtins_onData 169 = .ok (.invokevirtual 109, 3) := by decide +kernel
theorem d_Builtins_onData_172 : decode b_Builtins_onData 172 = .ok (.invokevirtual 216, 3) := by decide +kernel
theorem d_Builtins_onData_175 : decode b_Builtins_onData 175 = .ok (.ireturn, 1) := by decide +kernel
theorem d_Builtins_onData_176 : decode b_Builtins_onData 176 = .ok (.aload_n 0, 1) := by decide +kernel
theorem d_Builtins_onData_177 : decode b_Builtins_onData 177 = .ok (.getfield 19, 3) := by decide +kernel
theorem d_Builtins_onData_180 : decode b_Builtins_onData 180 = .ok (.aload_n 2, 1) := by decide +kernel
theorem d_Builtins_onData_181 : decode b_Builtins_onData 181 = .ok (.iconst 3, 1) := by decide +kernel
theorem d_Builtins_onData_182 : decode b_Builtins_onData 182 = .ok (.aload_n 0, 1) := by decide +kernel
theorem d_Builtins_onData_183 : decode b_Builtins_onData 183 = .ok (.getfield 19, 3) := by decide +kernel
theorem d_Builtins_onData_186 : decode b_Builtins_onData 186 = .ok (.aload_n 0, 1) := by decide +kernel
theorem d_Builtins_onData_187 : decode b_Builtins_onData 187 = .ok (.getfield 11, 3) := by decide +kernel
theorem d_Builtins_onData_190 : decode b_Builtins_onData 190 = .ok (.iconst 0, 1) := by decide +kernel
theorem d_Builtins_onData_191 : decode b_Builtins_onData 191 = .ok (.iaload, 1) := by decide +kernel
theorem d_Builtins_onData_192 : decode b_Builtins_onData 192 = .ok (.invokevirtual 30, 3) := by decide +kernel
theorem d_Builtins_onData_195 : decode b_Builtins_onData 195 = .ok (.iconst 0, 1) := by decide +kernel
theorem d_Builtins_onData_196 : decode b_Builtins_onData 196 = .ok (.invokevirtual 220, 3) := by decide +kernel
theorem d_Builtins_onData_199 : decode b_Builtins_onData 199 = .ok (.invokevirtual 213, 3) := by decide +kernel
theorem d_Builtins_onData_202 : decode b_Builtins_onData 202 = .ok (.ireturn, 1) := by decide +kernel
theorem d_Builtins_onData_203 : decode b_Builtins_onData 203 = .ok (.aload_n 0, 1) := by decide +kernel
theorem d_Builtins_onData_204 : decode b_Builtins_onData 204 = .ok (.getfield 19, 3) := by decide +kernel
theorem d_Builtins_onData_207 : decode b_Builtins_onData 207 = .ok (.aload_n 2, 1) := by decide +kernel
theorem d_Builtins_onData_208 : decode b_Builtins_onData 208 = .ok (.iconst 4, 1) := by decide +kernel
theorem d_Builtins_onData_209 : decode b_Builtins_onData 209 = .ok (.aload_n 0, 1) := by decide +kernel
theorem d_Builtins_onData_210 : decode b_Builtins_onData 210 = .ok (.getfield 19, 3) := by decide +kernel
theorem d_Builtins_onData_213 : decode b_Builtins_onData 213 = .ok (.aload_n 0, 1) := by decide +kernel
theorem d_Builtins_onData_214 : decode b_Builtins_onData 214 = .ok (.getfield 11, 3) := by decide +kernel
theorem d_Builtins_onData_217 : decode b_Builtins_onData 217 = .ok (.iconst 0, 1) := by decide +kernel
theorem d_Builtins_onData_218 : decode b_Builtins_onData 218 = .ok (.iaload, 1) := by decide +kernel
theorem d_Builtins_onData_219 : decode b_Builtins_onData 219 = .ok (.invokevirtual 180, 3) := by decide +kernel
theorem d_Builtins_onData_222 : decode b_Builtins_onData 222 = .ok (.i2l, 1) := by decide +kernel
theorem d_Builtins_onData_223 : decode b_Builtins_onData 223 = .ok (.aload_n 0, 1) := by decide +kernel
theorem d_Builtins_onData_224 : decode b_Builtins_onData 224 = .ok (.getfield 19, 3) := by decide +kernel
theorem d_Builtins_onData_227 : decode b_Builtins_onData 227 = .ok (.aload_n 0, 1) := by decide +kernel
theorem d_Builtins_onData_228 : decode b_Builtins_onData 228 = .ok (.getfield 11, 3) := by decide +kernel
theorem d_Builtins_onData_231 : decode b_Builtins_onData 231 = .ok (.iconst 0, 1) := by decide +kernel
theorem d_Builtins_onData_232 : decode b_Builtins_onData 232 = .ok (.iaload, 1) := by decide +kernel
theorem d_Builtins_onData_233 : decode b_Builtins_onData 233 = .ok (.invokevirtual 156, 3) := by decide +kernel
theorem d_Builtins_onData_236 : decode b_Builtins_onData 236 = .ok (.invokevirtual 220, 3) := by decide +kernel
theorem d_Builtins_onData_239 : decode b_Builtins_onData 239 = .ok (.invokevirtual 213, 3) := by decide +kernel
theorem d_Builtins_onData_242 : decode b_Builtins_onData 242 = .ok (.ireturn, 1) := by decide +kernel
theorem d_Builtins_onData_243 : decode b_Builtins_onData 243 = .ok (.aload_n 0, 1) := by decide +kernel
theorem d_Builtins_onData_244 : decode b_Builtins_onData 244 = .ok (.getfield 19, 3) := by decide +kernel
theorem d_Builtins_onData_247 : decode b_Builtins_onData 247 = .ok (.aload_n 2, 1) := by decide +kernel
theorem d_Builtins_onData_248 : decode b_Builtins_onData 248 = .ok (.iload_n 3, 1) := by decide +kernel
theorem d_Builtins_onData_249 : decode b_Builtins_onData 249 = .ok (.invokevirtual 205, 3) := by decide +kernel
theorem d_Builtins_onData_252 : decode b_Builtins_onData 252 = .ok (.l2i, 1) := by decide +kernel
theorem d_Builtins_onData_253 : decode b_Builtins_onData 253 = .ok (.aload_n 2, 1) := by decide +kernel
theorem d_Builtins_onData_254 : decode b_Builtins_onData 254 = .ok (.iload_n 3, 1) := by decide +kernel
theorem d_Builtins_onData_255 : decode b_Builtins_onData 255 = .ok (.invokevirtual 206, 3) := by decide +kernel
theorem d_Builtins_onData_258 : decode b_Builtins_onData 258 = .ok (.invokevirtual 187, 3) := by decide +kernel
theorem d_Builtins_onData_261 : decode b_Builtins_onData 261 = .ok (.ireturn, 1) := by decide +kernel
theorem d_Builtins_onData_262 : decode b_Builtins_onData 262 = .ok (.iconst (-1), 1) := by decide +kernel
theorem d_Builtins_onData_263 : decode b_Builtins_onData 263 = .ok (.ireturn, 1) := by decide +kernel
def f_Builtins_onData (N : Nat) (V_top : Int) (V_kinds : Int → Int) (V_numbers : Int → Int) (V_parts : Int → Int) (V_links : Int → Int) (VB_row : Int → Int) (D_top : Int) (D_forms : Int → Int) (D_counts : Int → Int) (D_numbers : Int → Int) (D_nodes : Int → Int) (D_depths : Int → Int) (D_weights : Int → Int) (B_given : Int → Int) (p1 : Int) : Option (Int × Int × (Int → Int) × (Int → Int) × (Int → Int) × (Int → Int) × Int × (Int → Int) × (Int → Int) × (Int → Int) × (Int → Int) × (Int → Int) × (Int → Int)) :=
  if jix 0 3 = true then (
   Option.bind (f_Values_rootOf V_top V_parts (B_given 0)) (fun r2 =>
    if rI p1 = true then (
     if p1 = 17 then (
      if jix 1 3 = true then (
       Option.bind (f_Values_rootOf V_top V_parts (B_given 1)) (fun r7 =>
        Option.bind (f_Builtins_sameData N VB_row D_top D_forms D_counts D_numbers D_nodes r2 r7) (fun r9 =>
         ob6 (f_Values_ofTruth V_top V_kinds V_numbers V_parts V_links r9) (fun r11 V_top_12 V_kinds_13 V_numbers_14 V_parts_15 V_links_16 =>
          some (r11, V_top_12, V_kinds_13, V_numbers_14, V_parts_15, V_links_16, D_top, D_forms, D_counts, D_numbers, D_nodes, D_depths, D_weights))))) else none) else (
      if p1 = 18 then (
       Option.bind (f_DataRow_formOf D_top D_forms r2) (fun r19 =>
        if rI r19 = true then (
         ob6 (f_Values_ofInteger V_top V_kinds V_numbers V_parts V_links r19) (fun r22 V_top_23 V_kinds_24 V_numbers_25 V_parts_26 V_links_27 =>
          some (r22, V_top_23, V_kinds_24, V_numbers_25, V_parts_26, V_links_27, D_top, D_forms, D_counts, D_numbers, D_nodes, D_depths, D_weights))) else none)) else (
       if p1 = 19 then (
        Option.bind (f_DataRow_numberOf D_top D_numbers r2) (fun r30 =>
         ob6 (f_Values_ofInteger V_top V_kinds V_numbers V_parts V_links r30) (fun r32 V_top_33 V_kinds_34 V_numbers_35 V_parts_36 V_links_37 =>
          some (r32, V_top_33, V_kinds_34, V_numbers_35, V_parts_36, V_links_37, D_top, D_forms, D_counts, D_numbers, D_nodes, D_depths, D_weights)))) else (
        if p1 = 20 then (
         Option.bind (f_DataRow_countOf D_top D_counts r2) (fun r40 =>
          ob8 (f_DataRow_recast D_top D_forms D_counts D_numbers D_nodes D_depths D_weights r2 2 0 r40) (fun r42 D_top_43 D_forms_44 D_counts_45 D_numbers_46 D_nodes_47 D_depths_48 D_weights_49 =>
           ob6 (f_Values_ofData V_top V_kinds V_numbers V_parts V_links r42) (fun r51 V_top_52 V_kinds_53 V_numbers_54 V_parts_55 V_links_56 =>
            some (r51, V_top_52, V_kinds_53, V_numbers_54, V_parts_55, V_links_56, D_top_43, D_forms_44, D_counts_45, D_numbers_46, D_nodes_47, D_depths_48, D_weights_49))))) else (
         if p1 = 21 then (
          if jix 0 3 = true then (
           Option.bind (f_Values_numberOf V_top V_numbers (B_given 0)) (fun r60 =>
            if jix 1 3 = true then (
             Option.bind (f_Values_rootOf V_top V_parts (B_given 1)) (fun r63 =>
              ob13 (f_Builtins_toConstructor V_top V_kinds V_numbers V_parts V_links D_top D_forms D_counts D_numbers D_nodes D_depths D_weights r60 r63) (fun r65 V_top_66 V_kinds_67 V_numbers_68 V_parts_69 V_links_70 D_top_71 D_forms_72 D_counts_73 D_numbers_74 D_nodes_75 D_depths_76 D_weights_77 =>
               some (r65, V_top_66, V_kinds_67, V_numbers_68, V_parts_69, V_links_70, D_top_71, D_forms_72, D_counts_73, D_numbers_74, D_nodes_75, D_depths_76, D_weights_77)))) else none)) else none) else (
          if p1 = 22 then (
           if jix 0 3 = true then (
            Option.bind (f_Values_numberOf V_top V_numbers (B_given 0)) (fun r81 =>
             ob8 (f_DataRow_leaf D_top D_forms D_counts D_numbers D_nodes D_depths D_weights 3 r81 0) (fun r83 D_top_84 D_forms_85 D_counts_86 D_numbers_87 D_nodes_88 D_depths_89 D_weights_90 =>
              ob6 (f_Values_ofData V_top V_kinds V_numbers V_parts V_links r83) (fun r92 V_top_93 V_kinds_94 V_numbers_95 V_parts_96 V_links_97 =>
               some (r92, V_top_93, V_kinds_94, V_numbers_95, V_parts_96, V_links_97, D_top_84, D_forms_85, D_counts_86, D_numbers_87, D_nodes_88, D_depths_89, D_weights_90))))) else none) else (
           if p1 = 23 then (
            if jix 0 3 = true then (
             Option.bind (f_Values_startOf V_top V_parts (B_given 0)) (fun r101 =>
              if rI r101 = true then (
               if jix 0 3 = true then (
                Option.bind (f_Values_lengthOf V_top V_links (B_given 0)) (fun r105 =>
                 ob8 (f_DataRow_leaf D_top D_forms D_counts D_numbers D_nodes D_depths D_weights 4 r101 r105) (fun r107 D_top_108 D_forms_109 D_counts_110 D_numbers_111 D_nodes_112 D_depths_113 D_weights_114 =>
                  ob6 (f_Values_ofData V_top V_kinds V_numbers V_parts V_links r107) (fun r116 V_top_117 V_kinds_118 V_numbers_119 V_parts_120 V_links_121 =>
                   some (r116, V_top_117, V_kinds_118, V_numbers_119, V_parts_120, V_links_121, D_top_108, D_forms_109, D_counts_110, D_numbers_111, D_nodes_112, D_depths_113, D_weights_114))))) else none) else none)) else none) else (
            if p1 = 24 then (
             Option.bind (f_DataRow_numberOf D_top D_numbers r2) (fun r124 =>
              ob6 (f_Values_ofInteger V_top V_kinds V_numbers V_parts V_links r124) (fun r126 V_top_127 V_kinds_128 V_numbers_129 V_parts_130 V_links_131 =>
               some (r126, V_top_127, V_kinds_128, V_numbers_129, V_parts_130, V_links_131, D_top, D_forms, D_counts, D_numbers, D_nodes, D_depths, D_weights)))) else (
             if p1 = 25 then (
              Option.bind (f_DataRow_numberOf D_top D_numbers r2) (fun r134 =>
               Option.bind (f_DataRow_countOf D_top D_counts r2) (fun r136 =>
                ob6 (f_Values_ofBytes V_top V_kinds V_numbers V_parts V_links r134 r136) (fun r138 V_top_139 V_kinds_140 V_numbers_141 V_parts_142 V_links_143 =>
                 some (r138, V_top_139, V_kinds_140, V_numbers_141, V_parts_142, V_links_143, D_top, D_forms, D_counts, D_numbers, D_nodes, D_depths, D_weights))))) else (
              some ((-1), V_top, V_kinds, V_numbers, V_parts, V_links, D_top, D_forms, D_counts, D_numbers, D_nodes, D_depths, D_weights))))))))))) else none)) else none
set_option maxHeartbeats 4000000 in
set_option maxRecDepth 100000 in
theorem c_Builtins_onData {l : Launch} {D : va_G} {cI cL cB : ClassId} {ad : Nat → Nat} {N : Nat} {V_top : Int} {V_kinds : Int → Int} {V_numbers : Int → Int} {V_parts : Int → Int} {V_links : Int → Int} {VB_top : Int} {VB_row : Int → Int} {D_top : Int} {D_forms : Int → Int} {D_counts : Int → Int} {D_numbers : Int → Int} {D_nodes : Int → Int} {D_depths : Int → Int} {D_weights : Int → Int} {B_ready : Int} {B_given : Int → Int} {p1 : Int} {out : Int × Int × (Int → Int) × (Int → Int) × (Int → Int) × (Int → Int) × Int × (Int → Int) × (Int → Int) × (Int → Int) × (Int → Int) × (Int → Int) × (Int → Int)} (h : f_Builtins_onData N V_top V_kinds V_numbers V_parts V_links VB_row D_top D_forms D_counts D_numbers D_nodes D_depths D_weights B_given p1 = some out) : CT jF0 false l D [(cI, .int), (cL, .long), (cB, .byte)] y_Builtins_onData w_Builtins_onData ({ frames := 4, cells := 0, slots := 0, locals := 132 } : Room) [.ref (ad 31), .int (zI p1)] [(ad 9, .inr (4, [.ref (ad 14), .ref (ad 16), .ref (ad 10), .ref (ad 11), .ref (ad 12), .ref (ad 13), .int (zI V_top)])), (ad 10, .inl (cI, 3201, .inl (zA V_kinds))), (ad 11, .inl (cL, 3201, .inr (.inl (zB V_numbers)))), (ad 12, .inl (cI, 3201, .inl (zA V_parts))), (ad 13, .inl (cI, 3201, .inl (zA V_links))), (ad 14, .inr (2, [.ref (ad 15), .int (zI VB_top)])), (ad 15, .inl (cB, 36864, .inl (zA VB_row))), (ad 16, .inr (5, [.ref (ad 17), .ref (ad 18), .ref (ad 19), .ref (ad 20), .ref (ad 21), .ref (ad 22), .int (zI D_top)])), (ad 17, .inl (cI, 3201, .inl (zA D_forms))), (ad 18, .inl (cI, 3201, .inl (zA D_counts))), (ad 19, .inl (cL, 3201, .inr (.inl (zB D_numbers)))), (ad 20, .inl (cI, 3201, .inl (zA D_nodes))), (ad 21, .inl (cI, 3201, .inl (zA D_depths))), (ad 22, .inl (cI, 3201, .inl (zA D_weights))), (ad 31, .inr (9, [.ref (ad 9), .ref (ad 23), .ref (ad 32), .int (zI B_ready)])), (ad 32, .inl (cI, 3, .inl (zA B_given)))] (some (.int (zI out.1))) [(ad 9, .inr (4, [.ref (ad 14), .ref (ad 16), .ref (ad 10), .ref (ad 11), .ref (ad 12), .ref (ad 13), .int (zI (out.2.1))])), (ad 10, .inl (cI, 3201, .inl (zA (out.2.2.1)))), (ad 11, .inl (cL, 3201, .inr (.inl (zB (out.2.2.2.1))))), (ad 12, .inl (cI, 3201, .inl (zA (out.2.2.2.2.1)))), (ad 13, .inl (cI, 3201, .inl (zA (out.2.2.2.2.2.1)))), (ad 14, .inr (2, [.ref (ad 15), .int (zI VB_top)])), (ad 15, .inl (cB, 36864, .inl (zA VB_row))), (ad 16, .inr (5, [.ref (ad 17), .ref (ad 18), .ref (ad 19), .ref (ad 20), .ref (ad 21), .ref (ad 22), .int (zI (out.2.2.2.2.2.2.1))])), (ad 17, .inl (cI, 3201, .inl (zA (out.2.2.2.2.2.2.2.1)))), (ad 18, .inl (cI, 3201, .inl (zA (out.2.2.2.2.2.2.2.2.1)))), (ad 19, .inl (cL, 3201, .inr (.inl (zB (out.2.2.2.2.2.2.2.2.2.1))))), (ad 20, .inl (cI, 3201, .inl (zA (out.2.2.2.2.2.2.2.2.2.2.1)))), (ad 21, .inl (cI, 3201, .inl (zA (out.2.2.2.2.2.2.2.2.2.2.2.1)))), (ad 22, .inl (cI, 3201, .inl (zA (out.2.2.2.2.2.2.2.2.2.2.2.2)))), (ad 31, .inr (9, [.ref (ad 9), .ref (ad 23), .ref (ad 32), .int (zI B_ready)])), (ad 32, .inl (cI, 3, .inl (zA B_given)))] 0 0 := by
  refine CT_of_J (cc := b_Builtins_onData) (maxL := 4) (ret := (some .int)) jF0_k (plainFor_of_name (by decide)) rfl (Nat.le_of_ble_eq_true rfl) ?_
  intro K hKl hKD X E
  subst hKl; subst hKD
  unfold f_Builtins_onData at h
  refine J_aload_n X d_Builtins_onData_0 rfl 0 rfl ?_
  refine J_get X (j_in in_Builtins) 14 rfl rfl 0 (by decide) (j_m own_Builtins_onData (by decide +kernel)) rfl d_Builtins_onData_1 ?_
  refine J_get X (j_in in_Values) 0 rfl rfl 1 (by decide) (j_m own_Builtins_onData (by decide +kernel)) rfl d_Builtins_onData_4 ?_
  refine J_astore_n (lv' := [(2, .ref (ad 16)), (0, .ref (ad 31)), (1, .int (zI p1))]) X d_Builtins_onData_7 rfl (by decide) rfl ?_
  refine J_aload_n X d_Builtins_onData_8 rfl 1 rfl ?_
  refine J_get X (j_in in_Builtins) 14 rfl rfl 0 (by decide) (j_m own_Builtins_onData (by decide +kernel)) rfl d_Builtins_onData_9 ?_
  refine J_aload_n X d_Builtins_onData_12 rfl 1 rfl ?_
  refine J_get X (j_in in_Builtins) 14 rfl rfl 2 (by decide) (j_m own_Builtins_onData (by decide +kernel)) rfl d_Builtins_onData_13 ?_
  refine J_iconst X d_Builtins_onData_16 ?_
  obtain ⟨g1, h⟩ := wk_g h
  refine J_iald X 15 0 rfl rfl g1 d_Builtins_onData_17 ?_
  obtain ⟨r2, q3, h⟩ := wk_b h
  refine J_afterP (jrunV X (c_Values_rootOf (ad := ad) q3) jF0_k (fun _ _ _ _ => trivial) (jgV own_Builtins_onData (by decide +kernel)) rfl rfl rfl pd_Values_rootOf (by decide) [0, 3] rfl (by decide) 0 4 rfl rfl rfl rfl (Nat.le_of_ble_eq_true rfl) d_Builtins_onData_18 (by decide)) ?_
  refine J_istore_n (lv' := [(3, .int (zI r2)), (2, .ref (ad 16)), (0, .ref (ad 31)), (1, .int (zI p1))]) X d_Builtins_onData_21 rfl (by decide) rfl ?_
  refine J_iload_n X d_Builtins_onData_22 rfl 3 rfl ?_
  obtain ⟨g4, h⟩ := wk_g h
  rcases wk_c h with ⟨c5, h⟩ | ⟨c5, h⟩
  · refine J_tsIn (tgt := 72) X 17 c5 g4 d_Builtins_onData_23 (by decide) (by decide) rfl (by decide) ?_
    refine J_aload_n X d_Builtins_onData_72 rfl 2 rfl ?_
    refine J_get X (j_in in_Builtins) 14 rfl rfl 0 (by decide) (j_m own_Builtins_onData (by decide +kernel)) rfl d_Builtins_onData_73 ?_
    refine J_aload_n X d_Builtins_onData_76 rfl 2 rfl ?_
    refine J_iload_n X d_Builtins_onData_77 rfl 0 rfl ?_
    refine J_aload_n X d_Builtins_onData_78 rfl 2 rfl ?_
    refine J_get X (j_in in_Builtins) 14 rfl rfl 0 (by decide) (j_m own_Builtins_onData (by decide +kernel)) rfl d_Builtins_onData_79 ?_
    refine J_aload_n X d_Builtins_onData_82 rfl 2 rfl ?_
    refine J_get X (j_in in_Builtins) 14 rfl rfl 2 (by decide) (j_m own_Builtins_onData (by decide +kernel)) rfl d_Builtins_onData_83 ?_
    refine J_iconst X d_Builtins_onData_86 ?_
    obtain ⟨g6, h⟩ := wk_g h
    refine J_iald X 15 0 rfl rfl g6 d_Builtins_onData_87 ?_
    obtain ⟨r7, q8, h⟩ := wk_b h
    refine J_afterP (jrunV X (c_Values_rootOf (ad := ad) q8) jF0_k (fun _ _ _ _ => trivial) (jgV own_Builtins_onData (by decide +kernel)) rfl rfl rfl pd_Values_rootOf (by decide) [0, 3] rfl (by decide) 0 4 rfl rfl rfl rfl (Nat.le_of_ble_eq_true rfl) d_Builtins_onData_88 (by decide)) ?_
    obtain ⟨r9, q10, h⟩ := wk_b h
    refine J_afterP (jrunV X (c_Builtins_sameData (ad := ad) q10) jF0_k (fun _ _ _ _ => trivial) (jgV own_Builtins_onData (by decide +kernel)) rfl rfl rfl pd_Builtins_sameData (by decide) [0, 5, 6, 7, 8, 9, 10, 11, 14] rfl (by decide) 8 9 rfl rfl rfl rfl (Nat.le_of_ble_eq_true rfl) d_Builtins_onData_91 (by decide)) ?_
    obtain ⟨r11, V_top_12, V_kinds_13, V_numbers_14, V_parts_15, V_links_16, q17, h⟩ := wk_b6 h
    refine J_afterI0 (ws' := [(ad 9, .inr (4, [.ref (ad 14), .ref (ad 16), .ref (ad 10), .ref (ad 11), .ref (ad 12), .ref (ad 13), .int (zI V_top_12)])), (ad 10, .inl (cI, 3201, .inl (zA V_kinds_13))), (ad 11, .inl (cL, 3201, .inr (.inl (zB V_numbers_14)))), (ad 12, .inl (cI, 3201, .inl (zA V_parts_15))), (ad 13, .inl (cI, 3201, .inl (zA V_links_16))), (ad 14, .inr (2, [.ref (ad 15), .int (zI VB_top)])), (ad 15, .inl (cB, 36864, .inl (zA VB_row))), (ad 16, .inr (5, [.ref (ad 17), .ref (ad 18), .ref (ad 19), .ref (ad 20), .ref (ad 21), .ref (ad 22), .int (zI D_top)])), (ad 17, .inl (cI, 3201, .inl (zA D_forms))), (ad 18, .inl (cI, 3201, .inl (zA D_counts))), (ad 19, .inl (cL, 3201, .inr (.inl (zB D_numbers)))), (ad 20, .inl (cI, 3201, .inl (zA D_nodes))), (ad 21, .inl (cI, 3201, .inl (zA D_depths))), (ad 22, .inl (cI, 3201, .inl (zA D_weights))), (ad 31, .inr (9, [.ref (ad 9), .ref (ad 23), .ref (ad 32), .int (zI B_ready)])), (ad 32, .inl (cI, 3, .inl (zA B_given)))]) X (jrunV X (c_Values_ofTruth (ad := ad) q17) jF0_k (fun _ _ _ _ => trivial) (jgV own_Builtins_onData (by decide +kernel)) rfl rfl rfl pd_Values_ofTruth (by decide) [0, 1, 2, 3, 4] rfl (by decide) 0 4 rfl rfl rfl rfl (Nat.le_of_ble_eq_true rfl) d_Builtins_onData_94 (by decide)) [0, 1, 2, 3, 4] [5, 6, 7, 8, 9, 10, 11, 12, 13, 14, 15] [11, 12, 13, 14, 15, 0, 1, 2, 3, 4, 5, 6, 7, 8, 9, 10] rfl rfl (by decide) (by decide) rfl (by decide) ?_
    cases h
    exact J_ret E ⟨_, rfl, rfl⟩ d_Builtins_onData_97 (Nat.le_refl _) (Nat.le_refl _) rfl
  · rcases wk_c h with ⟨c18, h⟩ | ⟨c18, h⟩
    · refine J_tsIn (tgt := 98) X 18 c18 g4 d_Builtins_onData_23 (by decide) (by decide) rfl (by decide) ?_
      refine J_aload_n X d_Builtins_onData_98 rfl 2 rfl ?_
      refine J_get X (j_in in_Builtins) 14 rfl rfl 0 (by decide) (j_m own_Builtins_onData (by decide +kernel)) rfl d_Builtins_onData_99 ?_
      refine J_aload_n X d_Builtins_onData_102 rfl 1 rfl ?_
      refine J_iload_n X d_Builtins_onData_103 rfl 0 rfl ?_
      obtain ⟨r19, q20, h⟩ := wk_b h
      refine J_afterP (jrunV X (c_DataRow_formOf (ad := ad) q20) jF0_k (fun _ _ _ _ => trivial) (jgV own_Builtins_onData (by decide +kernel)) rfl rfl rfl pd_DataRow_formOf (by decide) [7, 8] rfl (by decide) 0 5 rfl rfl rfl rfl (Nat.le_of_ble_eq_true rfl) d_Builtins_onData_104 (by decide)) ?_
      obtain ⟨g21, h⟩ := wk_g h
      refine J_i2l X g21 d_Builtins_onData_107 ?_
      obtain ⟨r22, V_top_23, V_kinds_24, V_numbers_25, V_parts_26, V_links_27, q28, h⟩ := wk_b6 h
      refine J_afterI0 (ws' := [(ad 9, .inr (4, [.ref (ad 14), .ref (ad 16), .ref (ad 10), .ref (ad 11), .ref (ad 12), .ref (ad 13), .int (zI V_top_23)])), (ad 10, .inl (cI, 3201, .inl (zA V_kinds_24))), (ad 11, .inl (cL, 3201, .inr (.inl (zB V_numbers_25)))), (ad 12, .inl (cI, 3201, .inl (zA V_parts_26))), (ad 13, .inl (cI, 3201, .inl (zA V_links_27))), (ad 14, .inr (2, [.ref (ad 15), .int (zI VB_top)])), (ad 15, .inl (cB, 36864, .inl (zA VB_row))), (ad 16, .inr (5, [.ref (ad 17), .ref (ad 18), .ref (ad 19), .ref (ad 20), .ref (ad 21), .ref (ad 22), .int (zI D_top)])), (ad 17, .inl (cI, 3201, .inl (zA D_forms))), (ad 18, .inl (cI, 3201, .inl (zA D_counts))), (ad 19, .inl (cL, 3201, .inr (.inl (zB D_numbers)))), (ad 20, .inl (cI, 3201, .inl (zA D_nodes))), (ad 21, .inl (cI, 3201, .inl (zA D_depths))), (ad 22, .inl (cI, 3201, .inl (zA D_weights))), (ad 31, .inr (9, [.ref (ad 9), .ref (ad 23), .ref (ad 32), .int (zI B_ready)])), (ad 32, .inl (cI, 3, .inl (zA B_given)))]) X (jrunV X (c_Values_ofInteger (ad := ad) q28) jF0_k (fun _ _ _ _ => trivial) (jgV own_Builtins_onData (by decide +kernel)) rfl rfl rfl pd_Values_ofInteger (by decide) [0, 1, 2, 3, 4] rfl (by decide) 0 4 rfl rfl rfl rfl (Nat.le_of_ble_eq_true rfl) d_Builtins_onData_108 (by decide)) [0, 1, 2, 3, 4] [5, 6, 7, 8, 9, 10, 11, 12, 13, 14, 15] [11, 12, 13, 14, 15, 0, 1, 2, 3, 4, 5, 6, 7, 8, 9, 10] rfl rfl (by decide) (by decide) rfl (by decide) ?_
      cases h
      exact J_ret E ⟨_, rfl, rfl⟩ d_Builtins_onData_111 (Nat.le_refl _) (Nat.le_refl _) rfl
    · rcases wk_c h with ⟨c29, h⟩ | ⟨c29, h⟩
      · refine J_tsIn (tgt := 112) X 19 c29 g4 d_Builtins_onData_23 (by decide) (by decide) rfl (by decide) ?_
        refine J_aload_n X d_Builtins_onData_112 rfl 2 rfl ?_
        refine J_get X (j_in in_Builtins) 14 rfl rfl 0 (by decide) (j_m own_Builtins_onData (by decide +kernel)) rfl d_Builtins_onData_113 ?_
        refine J_aload_n X d_Builtins_onData_116 rfl 1 rfl ?_
        refine J_iload_n X d_Builtins_onData_117 rfl 0 rfl ?_
        obtain ⟨r30, q31, h⟩ := wk_b h
        refine J_afterP (jrunV X (c_DataRow_numberOf (ad := ad) q31) jF0_k (fun _ _ _ _ => trivial) (jgV own_Builtins_onData (by decide +kernel)) rfl rfl rfl pd_DataRow_numberOf (by decide) [7, 10] rfl (by decide) 0 5 rfl rfl rfl rfl (Nat.le_of_ble_eq_true rfl) d_Builtins_onData_118 (by decide)) ?_
        obtain ⟨r32, V_top_33, V_kinds_34, V_numbers_35, V_parts_36, V_links_37, q38, h⟩ := wk_b6 h
        refine J_afterI0 (ws' := [(ad 9, .inr (4, [.ref (ad 14), .ref (ad 16), .ref (ad 10), .ref (ad 11), .ref (ad 12), .ref (ad 13), .int (zI V_top_33)])), (ad 10, .inl (cI, 3201, .inl (zA V_kinds_34))), (ad 11, .inl (cL, 3201, .inr (.inl (zB V_numbers_35)))), (ad 12, .inl (cI, 3201, .inl (zA V_parts_36))), (ad 13, .inl (cI, 3201, .inl (zA V_links_37))), (ad 14, .inr (2, [.ref (ad 15), .int (zI VB_top)])), (ad 15, .inl (cB, 36864, .inl (zA VB_row))), (ad 16, .inr (5, [.ref (ad 17), .ref (ad 18), .ref (ad 19), .ref (ad 20), .ref (ad 21), .ref (ad 22), .int (zI D_top)])), (ad 17, .inl (cI, 3201, .inl (zA D_forms))), (ad 18, .inl (cI, 3201, .inl (zA D_counts))), (ad 19, .inl (cL, 3201, .inr (.inl (zB D_numbers)))), (ad 20, .inl (cI, 3201, .inl (zA D_nodes))), (ad 21, .inl (cI, 3201, .inl (zA D_depths))), (ad 22, .inl (cI, 3201, .inl (zA D_weights))), (ad 31, .inr (9, [.ref (ad 9), .ref (ad 23), .ref (ad 32), .int (zI B_ready)])), (ad 32, .inl (cI, 3, .inl (zA B_given)))]) X (jrunV X (c_Values_ofInteger (ad := ad) q38) jF0_k (fun _ _ _ _ => trivial) (jgV own_Builtins_onData (by decide +kernel)) rfl rfl rfl pd_Values_ofInteger (by decide) [0, 1, 2, 3, 4] rfl (by decide) 0 4 rfl rfl rfl rfl (Nat.le_of_ble_eq_true rfl) d_Builtins_onData_121 (by decide)) [0, 1, 2, 3, 4] [5, 6, 7, 8, 9, 10, 11, 12, 13, 14, 15] [11, 12, 13, 14, 15, 0, 1, 2, 3, 4, 5, 6, 7, 8, 9, 10] rfl rfl (by decide) (by decide) rfl (by decide) ?_
        cases h
        exact J_ret E ⟨_, rfl, rfl⟩ d_Builtins_onData_124 (Nat.le_refl _) (Nat.le_refl _) rfl
      · rcases wk_c h with ⟨c39, h⟩ | ⟨c39, h⟩
        · refine J_tsIn (tgt := 125) X 20 c39 g4 d_Builtins_onData_23 (by decide) (by decide) rfl (by decide) ?_
          refine J_aload_n X d_Builtins_onData_125 rfl 2 rfl ?_
          refine J_get X (j_in in_Builtins) 14 rfl rfl 0 (by decide) (j_m own_Builtins_onData (by decide +kernel)) rfl d_Builtins_onData_126 ?_
          refine J_aload_n X d_Builtins_onData_129 rfl 1 rfl ?_
          refine J_iload_n X d_Builtins_onData_130 rfl 0 rfl ?_
          refine J_iconst X d_Builtins_onData_131 ?_
          refine J_lconst (v := 0) X d_Builtins_onData_132 (by decide) ?_
          refine J_aload_n X d_Builtins_onData_133 rfl 1 rfl ?_
          refine J_iload_n X d_Builtins_onData_134 rfl 0 rfl ?_
          obtain ⟨r40, q41, h⟩ := wk_b h
          refine J_afterP (jrunV X (c_DataRow_countOf (ad := ad) q41) jF0_k (fun _ _ _ _ => trivial) (jgV own_Builtins_onData (by decide +kernel)) rfl rfl rfl pd_DataRow_countOf (by decide) [7, 9] rfl (by decide) 0 5 rfl rfl rfl rfl (Nat.le_of_ble_eq_true rfl) d_Builtins_onData_135 (by decide)) ?_
          obtain ⟨r42, D_top_43, D_forms_44, D_counts_45, D_numbers_46, D_nodes_47, D_depths_48, D_weights_49, q50, h⟩ := wk_b8 h
          refine J_afterI0 (ws' := [(ad 9, .inr (4, [.ref (ad 14), .ref (ad 16), .ref (ad 10), .ref (ad 11), .ref (ad 12), .ref (ad 13), .int (zI V_top)])), (ad 10, .inl (cI, 3201, .inl (zA V_kinds))), (ad 11, .inl (cL, 3201, .inr (.inl (zB V_numbers)))), (ad 12, .inl (cI, 3201, .inl (zA V_parts))), (ad 13, .inl (cI, 3201, .inl (zA V_links))), (ad 14, .inr (2, [.ref (ad 15), .int (zI VB_top)])), (ad 15, .inl (cB, 36864, .inl (zA VB_row))), (ad 16, .inr (5, [.ref (ad 17), .ref (ad 18), .ref (ad 19), .ref (ad 20), .ref (ad 21), .ref (ad 22), .int (zI D_top_43)])), (ad 17, .inl (cI, 3201, .inl (zA D_forms_44))), (ad 18, .inl (cI, 3201, .inl (zA D_counts_45))), (ad 19, .inl (cL, 3201, .inr (.inl (zB D_numbers_46)))), (ad 20, .inl (cI, 3201, .inl (zA D_nodes_47))), (ad 21, .inl (cI, 3201, .inl (zA D_depths_48))), (ad 22, .inl (cI, 3201, .inl (zA D_weights_49))), (ad 31, .inr (9, [.ref (ad 9), .ref (ad 23), .ref (ad 32), .int (zI B_ready)])), (ad 32, .inl (cI, 3, .inl (zA B_given)))]) X (jrunV X (c_DataRow_recast (ad := ad) q50) jF0_k (fun _ _ _ _ => trivial) (jgV own_Builtins_onData (by decide +kernel)) rfl rfl rfl pd_DataRow_recast (by decide) [7, 8, 9, 10, 11, 12, 13] rfl (by decide) 0 5 rfl rfl rfl rfl (Nat.le_of_ble_eq_true rfl) d_Builtins_onData_138 (by decide)) [7, 8, 9, 10, 11, 12, 13] [0, 1, 2, 3, 4, 5, 6, 14, 15] [0, 1, 2, 3, 4, 5, 6, 9, 10, 11, 12, 13, 14, 15, 7, 8] rfl rfl (by decide) (by decide) rfl (by decide) ?_
          obtain ⟨r51, V_top_52, V_kinds_53, V_numbers_54, V_parts_55, V_links_56, q57, h⟩ := wk_b6 h
          refine J_afterI0 (ws' := [(ad 9, .inr (4, [.ref (ad 14), .ref (ad 16), .ref (ad 10), .ref (ad 11), .ref (ad 12), .ref (ad 13), .int (zI V_top_52)])), (ad 10, .inl (cI, 3201, .inl (zA V_kinds_53))), (ad 11, .inl (cL, 3201, .inr (.inl (zB V_numbers_54)))), (ad 12, .inl (cI, 3201, .inl (zA V_parts_55))), (ad 13, .inl (cI, 3201, .inl (zA V_links_56))), (ad 14, .inr (2, [.ref (ad 15), .int (zI VB_top)])), (ad 15, .inl (cB, 36864, .inl (zA VB_row))), (ad 16, .inr (5, [.ref (ad 17), .ref (ad 18), .ref (ad 19), .ref (ad 20), .ref (ad 21), .ref (ad 22), .int (zI D_top_43)])), (ad 17, .inl (cI, 3201, .inl (zA D_forms_44))), (ad 18, .inl (cI, 3201, .inl (zA D_counts_45))), (ad 19, .inl (cL, 3201, .inr (.inl (zB D_numbers_46)))), (ad 20, .inl (cI, 3201, .inl (zA D_nodes_47))), (ad 21, .inl (cI, 3201, .inl (zA D_depths_48))), (ad 22, .inl (cI, 3201, .inl (zA D_weights_49))), (ad 31, .inr (9, [.ref (ad 9), .ref (ad 23), .ref (ad 32), .int (zI B_ready)])), (ad 32, .inl (cI, 3, .inl (zA B_given)))]) X (jrunV X (c_Values_ofData (ad := ad) q57) jF0_k (fun _ _ _ _ => trivial) (jgV own_Builtins_onData (by decide +kernel)) rfl rfl rfl pd_Values_ofData (by decide) [0, 1, 2, 3, 4] rfl (by decide) 0 4 rfl rfl rfl rfl (Nat.le_of_ble_eq_true rfl) d_Builtins_onData_141 (by decide)) [0, 1, 2, 3, 4] [5, 6, 7, 8, 9, 10, 11, 12, 13, 14, 15] [11, 12, 13, 14, 15, 0, 1, 2, 3, 4, 5, 6, 7, 8, 9, 10] rfl rfl (by decide) (by decide) rfl (by decide) ?_
          cases h
          exact J_ret E ⟨_, rfl, rfl⟩ d_Builtins_onData_144 (Nat.le_refl _) (Nat.le_refl _) rfl
        · rcases wk_c h with ⟨c58, h⟩ | ⟨c58, h⟩
          · refine J_tsIn (tgt := 145) X 21 c58 g4 d_Builtins_onData_23 (by decide) (by decide) rfl (by decide) ?_
            refine J_aload_n X d_Builtins_onData_145 rfl 2 rfl ?_
            refine J_aload_n X d_Builtins_onData_146 rfl 2 rfl ?_
            refine J_get X (j_in in_Builtins) 14 rfl rfl 0 (by decide) (j_m own_Builtins_onData (by decide +kernel)) rfl d_Builtins_onData_147 ?_
            refine J_aload_n X d_Builtins_onData_150 rfl 2 rfl ?_
            refine J_get X (j_in in_Builtins) 14 rfl rfl 2 (by decide) (j_m own_Builtins_onData (by decide +kernel)) rfl d_Builtins_onData_151 ?_
            refine J_iconst X d_Builtins_onData_154 ?_
            obtain ⟨g59, h⟩ := wk_g h
            refine J_iald X 15 0 rfl rfl g59 d_Builtins_onData_155 ?_
            obtain ⟨r60, q61, h⟩ := wk_b h
            refine J_afterP (jrunV X (c_Values_numberOf (ad := ad) q61) jF0_k (fun _ _ _ _ => trivial) (jgV own_Builtins_onData (by decide +kernel)) rfl rfl rfl pd_Values_numberOf (by decide) [0, 2] rfl (by decide) 0 4 rfl rfl rfl rfl (Nat.le_of_ble_eq_true rfl) d_Builtins_onData_156 (by decide)) ?_
            refine J_aload_n X d_Builtins_onData_159 rfl 2 rfl ?_
            refine J_get X (j_in in_Builtins) 14 rfl rfl 0 (by decide) (j_m own_Builtins_onData (by decide +kernel)) rfl d_Builtins_onData_160 ?_
            refine J_aload_n X d_Builtins_onData_163 rfl 2 rfl ?_
            refine J_get X (j_in in_Builtins) 14 rfl rfl 2 (by decide) (j_m own_Builtins_onData (by decide +kernel)) rfl d_Builtins_onData_164 ?_
            refine J_iconst X d_Builtins_onData_167 ?_
            obtain ⟨g62, h⟩ := wk_g h
            refine J_iald X 15 0 rfl rfl g62 d_Builtins_onData_168 ?_
            obtain ⟨r63, q64, h⟩ := wk_b h
            refine J_afterP (jrunV X (c_Values_rootOf (ad := ad) q64) jF0_k (fun _ _ _ _ => trivial) (jgV own_Builtins_onData (by decide +kernel)) rfl rfl rfl pd_Values_rootOf (by decide) [0, 3] rfl (by decide) 0 4 rfl rfl rfl rfl (Nat.le_of_ble_eq_true rfl) d_Builtins_onData_169 (by decide)) ?_
            obtain ⟨r65, V_top_66, V_kinds_67, V_numbers_68, V_parts_69, V_links_70, D_top_71, D_forms_72, D_counts_73, D_numbers_74, D_nodes_75, D_depths_76, D_weights_77, q78, h⟩ := wk_b13 h
            refine J_afterI0 (ws' := [(ad 9, .inr (4, [.ref (ad 14), .ref (ad 16), .ref (ad 10), .ref (ad 11), .ref (ad 12), .ref (ad 13), .int (zI V_top_66)])), (ad 10, .inl (cI, 3201, .inl (zA V_kinds_67))), (ad 11, .inl (cL, 3201, .inr (.inl (zB V_numbers_68)))), (ad 12, .inl (cI, 3201, .inl (zA V_parts_69))), (ad 13, .inl (cI, 3201, .inl (zA V_links_70))), (ad 14, .inr (2, [.ref (ad 15), .int (zI VB_top)])), (ad 15, .inl (cB, 36864, .inl (zA VB_row))), (ad 16, .inr (5, [.ref (ad 17), .ref (ad 18), .ref (ad 19), .ref (ad 20), .ref (ad 21), .ref (ad 22), .int (zI D_top_71)])), (ad 17, .inl (cI, 3201, .inl (zA D_forms_72))), (ad 18, .inl (cI, 3201, .inl (zA D_counts_73))), (ad 19, .inl (cL, 3201, .inr (.inl (zB D_numbers_74)))), (ad 20, .inl (cI, 3201, .inl (zA D_nodes_75))), (ad 21, .inl (cI, 3201, .inl (zA D_depths_76))), (ad 22, .inl (cI, 3201, .inl (zA D_weights_77))), (ad 31, .inr (9, [.ref (ad 9), .ref (ad 23), .ref (ad 32), .int (zI B_ready)])), (ad 32, .inl (cI, 3, .inl (zA B_given)))]) X (jrunV X (c_Builtins_toConstructor (ad := ad) q78) jF0_k (fun _ _ _ _ => trivial) (jgV own_Builtins_onData (by decide +kernel)) rfl rfl rfl pd_Builtins_toConstructor (by decide) [0, 1, 2, 3, 4, 7, 8, 9, 10, 11, 12, 13, 14] rfl (by decide) 12 9 rfl rfl rfl rfl (Nat.le_of_ble_eq_true rfl) d_Builtins_onData_172 (by decide)) [0, 1, 2, 3, 4, 7, 8, 9, 10, 11, 12, 13, 14] [5, 6, 15] [3, 4, 5, 6, 7, 0, 1, 8, 9, 10, 11, 12, 13, 14, 15, 2] rfl rfl (by decide) (by decide) rfl (by decide) ?_
            cases h
            exact J_ret E ⟨_, rfl, rfl⟩ d_Builtins_onData_175 (Nat.le_refl _) (Nat.le_refl _) rfl
          · rcases wk_c h with ⟨c79, h⟩ | ⟨c79, h⟩
            · refine J_tsIn (tgt := 176) X 22 c79 g4 d_Builtins_onData_23 (by decide) (by decide) rfl (by decide) ?_
              refine J_aload_n X d_Builtins_onData_176 rfl 2 rfl ?_
              refine J_get X (j_in in_Builtins) 14 rfl rfl 0 (by decide) (j_m own_Builtins_onData (by decide +kernel)) rfl d_Builtins_onData_177 ?_
              refine J_aload_n X d_Builtins_onData_180 rfl 1 rfl ?_
              refine J_iconst X d_Builtins_onData_181 ?_
              refine J_aload_n X d_Builtins_onData_182 rfl 2 rfl ?_
              refine J_get X (j_in in_Builtins) 14 rfl rfl 0 (by decide) (j_m own_Builtins_onData (by decide +kernel)) rfl d_Builtins_onData_183 ?_
              refine J_aload_n X d_Builtins_onData_186 rfl 2 rfl ?_
              refine J_get X (j_in in_Builtins) 14 rfl rfl 2 (by decide) (j_m own_Builtins_onData (by decide +kernel)) rfl d_Builtins_onData_187 ?_
              refine J_iconst X d_Builtins_onData_190 ?_
              obtain ⟨g80, h⟩ := wk_g h
              refine J_iald X 15 0 rfl rfl g80 d_Builtins_onData_191 ?_
              obtain ⟨r81, q82, h⟩ := wk_b h
              refine J_afterP (jrunV X (c_Values_numberOf (ad := ad) q82) jF0_k (fun _ _ _ _ => trivial) (jgV own_Builtins_onData (by decide +kernel)) rfl rfl rfl pd_Values_numberOf (by decide) [0, 2] rfl (by decide) 0 4 rfl rfl rfl rfl (Nat.le_of_ble_eq_true rfl) d_Builtins_onData_192 (by decide)) ?_
              refine J_iconst X d_Builtins_onData_195 ?_
              obtain ⟨r83, D_top_84, D_forms_85, D_counts_86, D_numbers_87, D_nodes_88, D_depths_89, D_weights_90, q91, h⟩ := wk_b8 h
              refine J_afterI0 (ws' := [(ad 9, .inr (4, [.ref (ad 14), .ref (ad 16), .ref (ad 10), .ref (ad 11), .ref (ad 12), .ref (ad 13), .int (zI V_top)])), (ad 10, .inl (cI, 3201, .inl (zA V_kinds))), (ad 11, .inl (cL, 3201, .inr (.inl (zB V_numbers)))), (ad 12, .inl (cI, 3201, .inl (zA V_parts))), (ad 13, .inl (cI, 3201, .inl (zA V_links))), (ad 14, .inr (2, [.ref (ad 15), .int (zI VB_top)])), (ad 15, .inl (cB, 36864, .inl (zA VB_row))), (ad 16, .inr (5, [.ref (ad 17), .ref (ad 18), .ref (ad 19), .ref (ad 20), .ref (ad 21), .ref (ad 22), .int (zI D_top_84)])), (ad 17, .inl (cI, 3201, .inl (zA D_forms_85))), (ad 18, .inl (cI, 3201, .inl (zA D_counts_86))), (ad 19, .inl (cL, 3201, .inr (.inl (zB D_numbers_87)))), (ad 20, .inl (cI, 3201, .inl (zA D_nodes_88))), (ad 21, .inl (cI, 3201, .inl (zA D_depths_89))), (ad 22, .inl (cI, 3201, .inl (zA D_weights_90))), (ad 31, .inr (9, [.ref (ad 9), .ref (ad 23), .ref (ad 32), .int (zI B_ready)])), (ad 32, .inl (cI, 3, .inl (zA B_given)))]) X (jrunV X (c_DataRow_leaf (ad := ad) q91) jF0_k (fun _ _ _ _ => trivial) (jgV own_Builtins_onData (by decide +kernel)) rfl rfl rfl pd_DataRow_leaf (by decide) [7, 8, 9, 10, 11, 12, 13] rfl (by decide) 0 5 rfl rfl rfl rfl (Nat.le_of_ble_eq_true rfl) d_Builtins_onData_196 (by decide)) [7, 8, 9, 10, 11, 12, 13] [0, 1, 2, 3, 4, 5, 6, 14, 15] [0, 1, 2, 3, 4, 5, 6, 9, 10, 11, 12, 13, 14, 15, 7, 8] rfl rfl (by decide) (by decide) rfl (by decide) ?_
              obtain ⟨r92, V_top_93, V_kinds_94, V_numbers_95, V_parts_96, V_links_97, q98, h⟩ := wk_b6 h
              refine J_afterI0 (ws' := [(ad 9, .inr (4, [.ref (ad 14), .ref (ad 16), .ref (ad 10), .ref (ad 11), .ref (ad 12), .ref (ad 13), .int (zI V_top_93)])), (ad 10, .inl (cI, 3201, .inl (zA V_kinds_94))), (ad 11, .inl (cL, 3201, .inr (.inl (zB V_numbers_95)))), (ad 12, .inl (cI, 3201, .inl (zA V_parts_96))), (ad 13, .inl (cI, 3201, .inl (zA V_links_97))), (ad 14, .inr (2, [.ref (ad 15), .int (zI VB_top)])), (ad 15, .inl (cB, 36864, .inl (zA VB_row))), (ad 16, .inr (5, [.ref (ad 17), .ref (ad 18), .ref (ad 19), .ref (ad 20), .ref (ad 21), .ref (ad 22), .int (zI D_top_84)])), (ad 17, .inl (cI, 3201, .inl (zA D_forms_85))), (ad 18, .inl (cI, 3201, .inl (zA D_counts_86))), (ad 19, .inl (cL, 3201, .inr (.inl (zB D_numbers_87)))), (ad 20, .inl (cI, 3201, .inl (zA D_nodes_88))), (ad 21, .inl (cI, 3201, .inl (zA D_depths_89))), (ad 22, .inl (cI, 3201, .inl (zA D_weights_90))), (ad 31, .inr (9, [.ref (ad 9), .ref (ad 23), .ref (ad 32), .int (zI B_ready)])), (ad 32, .inl (cI, 3, .inl (zA B_given)))]) X (jrunV X (c_Values_ofData (ad := ad) q98) jF0_k (fun _ _ _ _ => trivial) (jgV own_Builtins_onData (by decide +kernel)) rfl rfl rfl pd_Values_ofData (by decide) [0, 1, 2, 3, 4] rfl (by decide) 0 4 rfl rfl rfl rfl (Nat.le_of_ble_eq_true rfl) d_Builtins_onData_199 (by decide)) [0, 1, 2, 3, 4] [5, 6, 7, 8, 9, 10, 11, 12, 13, 14, 15] [11, 12, 13, 14, 15, 0, 1, 2, 3, 4, 5, 6, 7, 8, 9, 10] rfl rfl (by decide) (by decide) rfl (by decide) ?_
              cases h
              exact J_ret E ⟨_, rfl, rfl⟩ d_Builtins_onData_202 (Nat.le_refl _) (Nat.le_refl _) rfl
            · rcases wk_c h with ⟨c99, h⟩ | ⟨c99, h⟩
              · refine J_tsIn (tgt := 203) X 23 c99 g4 d_Builtins_onData_23 (by decide) (by decide) rfl (by decide) ?_
                refine J_aload_n X d_Builtins_onData_203 rfl 2 rfl ?_
                refine J_get X (j_in in_Builtins) 14 rfl rfl 0 (by decide) (j_m own_Builtins_onData (by decide +kernel)) rfl d_Builtins_onData_204 ?_
                refine J_aload_n X d_Builtins_onData_207 rfl 1 rfl ?_
                refine J_iconst X d_Builtins_onData_208 ?_
                refine J_aload_n X d_Builtins_onData_209 rfl 2 rfl ?_
                refine J_get X (j_in in_Builtins) 14 rfl rfl 0 (by decide) (j_m own_Builtins_onData (by decide +kernel)) rfl d_Builtins_onData_210 ?_
                refine J_aload_n X d_Builtins_onData_213 rfl 2 rfl ?_
                refine J_get X (j_in in_Builtins) 14 rfl rfl 2 (by decide) (j_m own_Builtins_onData (by decide +kernel)) rfl d_Builtins_onData_214 ?_
                refine J_iconst X d_Builtins_onData_217 ?_
                obtain ⟨g100, h⟩ := wk_g h
                refine J_iald X 15 0 rfl rfl g100 d_Builtins_onData_218 ?_
                obtain ⟨r101, q102, h⟩ := wk_b h
                refine J_afterP (jrunV X (c_Values_startOf (ad := ad) q102) jF0_k (fun _ _ _ _ => trivial) (jgV own_Builtins_onData (by decide +kernel)) rfl rfl rfl pd_Values_startOf (by decide) [0, 3] rfl (by decide) 0 4 rfl rfl rfl rfl (Nat.le_of_ble_eq_true rfl) d_Builtins_onData_219 (by decide)) ?_
                obtain ⟨g103, h⟩ := wk_g h
                refine J_i2l X g103 d_Builtins_onData_222 ?_
                refine J_aload_n X d_Builtins_onData_223 rfl 2 rfl ?_
                refine J_get X (j_in in_Builtins) 14 rfl rfl 0 (by decide) (j_m own_Builtins_onData (by decide +kernel)) rfl d_Builtins_onData_224 ?_
                refine J_aload_n X d_Builtins_onData_227 rfl 2 rfl ?_
                refine J_get X (j_in in_Builtins) 14 rfl rfl 2 (by decide) (j_m own_Builtins_onData (by decide +kernel)) rfl d_Builtins_onData_228 ?_
                refine J_iconst X d_Builtins_onData_231 ?_
                obtain ⟨g104, h⟩ := wk_g h
                refine J_iald X 15 0 rfl rfl g104 d_Builtins_onData_232 ?_
                obtain ⟨r105, q106, h⟩ := wk_b h
                refine J_afterP (jrunV X (c_Values_lengthOf (ad := ad) q106) jF0_k (fun _ _ _ _ => trivial) (jgV own_Builtins_onData (by decide +kernel)) rfl rfl rfl pd_Values_lengthOf (by decide) [0, 4] rfl (by decide) 0 4 rfl rfl rfl rfl (Nat.le_of_ble_eq_true rfl) d_Builtins_onData_233 (by decide)) ?_
                obtain ⟨r107, D_top_108, D_forms_109, D_counts_110, D_numbers_111, D_nodes_112, D_depths_113, D_weights_114, q115, h⟩ := wk_b8 h
                refine J_afterI0 (ws' := [(ad 9, .inr (4, [.ref (ad 14), .ref (ad 16), .ref (ad 10), .ref (ad 11), .ref (ad 12), .ref (ad 13), .int (zI V_top)])), (ad 10, .inl (cI, 3201, .inl (zA V_kinds))), (ad 11, .inl (cL, 3201, .inr (.inl (zB V_numbers)))), (ad 12, .inl (cI, 3201, .inl (zA V_parts))), (ad 13, .inl (cI, 3201, .inl (zA V_links))), (ad 14, .inr (2, [.ref (ad 15), .int (zI VB_top)])), (ad 15, .inl (cB, 36864, .inl (zA VB_row))), (ad 16, .inr (5, [.ref (ad 17), .ref (ad 18), .ref (ad 19), .ref (ad 20), .ref (ad 21), .ref (ad 22), .int (zI D_top_108)])), (ad 17, .inl (cI, 3201, .inl (zA D_forms_109))), (ad 18, .inl (cI, 3201, .inl (zA D_counts_110))), (ad 19, .inl (cL, 3201, .inr (.inl (zB D_numbers_111)))), (ad 20, .inl (cI, 3201, .inl (zA D_nodes_112))), (ad 21, .inl (cI, 3201, .inl (zA D_depths_113))), (ad 22, .inl (cI, 3201, .inl (zA D_weights_114))), (ad 31, .inr (9, [.ref (ad 9), .ref (ad 23), .ref (ad 32), .int (zI B_ready)])), (ad 32, .inl (cI, 3, .inl (zA B_given)))]) X (jrunV X (c_DataRow_leaf (ad := ad) q115) jF0_k (fun _ _ _ _ => trivial) (jgV own_Builtins_onData (by decide +kernel)) rfl rfl rfl pd_DataRow_leaf (by decide) [7, 8, 9, 10, 11, 12, 13] rfl (by decide) 0 5 rfl rfl rfl rfl (Nat.le_of_ble_eq_true rfl) d_Builtins_onData_236 (by decide)) [7, 8, 9, 10, 11, 12, 13] [0, 1, 2, 3, 4, 5, 6, 14, 15] [0, 1, 2, 3, 4, 5, 6, 9, 10, 11, 12, 13, 14, 15, 7, 8] rfl rfl (by decide) (by decide) rfl (by decide) ?_
                obtain ⟨r116, V_top_117, V_kinds_118, V_numbers_119, V_parts_120, V_links_121, q122, h⟩ := wk_b6 h
                refine J_afterI0 (ws' := [(ad 9, .inr (4, [.ref (ad 14), .ref (ad 16), .ref (ad 10), .ref (ad 11), .ref (ad 12), .ref (ad 13), .int (zI V_top_117)])), (ad 10, .inl (cI, 3201, .inl (zA V_kinds_118))), (ad 11, .inl (cL, 3201, .inr (.inl (zB V_numbers_119)))), (ad 12, .inl (cI, 3201, .inl (zA V_parts_120))), (ad 13, .inl (cI, 3201, .inl (zA V_links_121))), (ad 14, .inr (2, [.ref (ad 15), .int (zI VB_top)])), (ad 15, .inl (cB, 36864, .inl (zA VB_row))), (ad 16, .inr (5, [.ref (ad 17), .ref (ad 18), .ref (ad 19), .ref (ad 20), .ref (ad 21), .ref (ad 22), .int (zI D_top_108)])), (ad 17, .inl (cI, 3201, .inl (zA D_forms_109))), (ad 18, .inl (cI, 3201, .inl (zA D_counts_110))), (ad 19, .inl (cL, 3201, .inr (.inl (zB D_numbers_111)))), (ad 20, .inl (cI, 3201, .inl (zA D_nodes_112))), (ad 21, .inl (cI, 3201, .inl (zA D_depths_113))), (ad 22, .inl (cI, 3201, .inl (zA D_weights_114))), (ad 31, .inr (9, [.ref (ad 9), .ref (ad 23), .ref (ad 32), .int (zI B_ready)])), (ad 32, .inl (cI, 3, .inl (zA B_given)))]) X (jrunV X (c_Values_ofData (ad := ad) q122) jF0_k (fun _ _ _ _ => trivial) (jgV own_Builtins_onData (by decide +kernel)) rfl rfl rfl pd_Values_ofData (by decide) [0, 1, 2, 3, 4] rfl (by decide) 0 4 rfl rfl rfl rfl (Nat.le_of_ble_eq_true rfl) d_Builtins_onData_239 (by decide)) [0, 1, 2, 3, 4] [5, 6, 7, 8, 9, 10, 11, 12, 13, 14, 15] [11, 12, 13, 14, 15, 0, 1, 2, 3, 4, 5, 6, 7, 8, 9, 10] rfl rfl (by decide) (by decide) rfl (by decide) ?_
                cases h
                exact J_ret E ⟨_, rfl, rfl⟩ d_Builtins_onData_242 (Nat.le_refl _) (Nat.le_refl _) rfl
              · rcases wk_c h with ⟨c123, h⟩ | ⟨c123, h⟩
                · refine J_tsIn (tgt := 112) X 24 c123 g4 d_Builtins_onData_23 (by decide) (by decide) rfl (by decide) ?_
                  refine J_aload_n X d_Builtins_onData_112 rfl 2 rfl ?_
                  refine J_get X (j_in in_Builtins) 14 rfl rfl 0 (by decide) (j_m own_Builtins_onData (by decide +kernel)) rfl d_Builtins_onData_113 ?_
                  refine J_aload_n X d_Builtins_onData_116 rfl 1 rfl ?_
                  refine J_iload_n X d_Builtins_onData_117 rfl 0 rfl ?_
                  obtain ⟨r124, q125, h⟩ := wk_b h
                  refine J_afterP (jrunV X (c_DataRow_numberOf (ad := ad) q125) jF0_k (fun _ _ _ _ => trivial) (jgV own_Builtins_onData (by decide +kernel)) rfl rfl rfl pd_DataRow_numberOf (by decide) [7, 10] rfl (by decide) 0 5 rfl rfl rfl rfl (Nat.le_of_ble_eq_true rfl) d_Builtins_onData_118 (by decide)) ?_
                  obtain ⟨r126, V_top_127, V_kinds_128, V_numbers_129, V_parts_130, V_links_131, q132, h⟩ := wk_b6 h
                  refine J_afterI0 (ws' := [(ad 9, .inr (4, [.ref (ad 14), .ref (ad 16), .ref (ad 10), .ref (ad 11), .ref (ad 12), .ref (ad 13), .int (zI V_top_127)])), (ad 10, .inl (cI, 3201, .inl (zA V_kinds_128))), (ad 11, .inl (cL, 3201, .inr (.inl (zB V_numbers_129)))), (ad 12, .inl (cI, 3201, .inl (zA V_parts_130))), (ad 13, .inl (cI, 3201, .inl (zA V_links_131))), (ad 14, .inr (2, [.ref (ad 15), .int (zI VB_top)])), (ad 15, .inl (cB, 36864, .inl (zA VB_row))), (ad 16, .inr (5, [.ref (ad 17), .ref (ad 18), .ref (ad 19), .ref (ad 20), .ref (ad 21), .ref (ad 22), .int (zI D_top)])), (ad 17, .inl (cI, 3201, .inl (zA D_forms))), (ad 18, .inl (cI, 3201, .inl (zA D_counts))), (ad 19, .inl (cL, 3201, .inr (.inl (zB D_numbers)))), (ad 20, .inl (cI, 3201, .inl (zA D_nodes))), (ad 21, .inl (cI, 3201, .inl (zA D_depths))), (ad 22, .inl (cI, 3201, .inl (zA D_weights))), (ad 31, .inr (9, [.ref (ad 9), .ref (ad 23), .ref (ad 32), .int (zI B_ready)])), (ad 32, .inl (cI, 3, .inl (zA B_given)))]) X (jrunV X (c_Values_ofInteger (ad := ad) q132) jF0_k (fun _ _ _ _ => trivial) (jgV own_Builtins_onData (by decide +kernel)) rfl rfl rfl pd_Values_ofInteger (by decide) [0, 1, 2, 3, 4] rfl (by decide) 0 4 rfl rfl rfl rfl (Nat.le_of_ble_eq_true rfl) d_Builtins_onData_121 (by decide)) [0, 1, 2, 3, 4] [5, 6, 7, 8, 9, 10, 11, 12, 13, 14, 15] [11, 12, 13, 14, 15, 0, 1, 2, 3, 4, 5, 6, 7, 8, 9, 10] rfl rfl (by decide) (by decide) rfl (by decide) ?_
                  cases h
                  exact J_ret E ⟨_, rfl, rfl⟩ d_Builtins_onData_124 (Nat.le_refl _) (Nat.le_refl _) rfl
                · rcases wk_c h with ⟨c133, h⟩ | ⟨c133, h⟩
                  · refine J_tsIn (tgt := 243) X 25 c133 g4 d_Builtins_onData_23 (by decide) (by decide) rfl (by decide) ?_
                    refine J_aload_n X d_Builtins_onData_243 rfl 2 rfl ?_
                    refine J_get X (j_in in_Builtins) 14 rfl rfl 0 (by decide) (j_m own_Builtins_onData (by decide +kernel)) rfl d_Builtins_onData_244 ?_
                    refine J_aload_n X d_Builtins_onData_247 rfl 1 rfl ?_
                    refine J_iload_n X d_Builtins_onData_248 rfl 0 rfl ?_
                    obtain ⟨r134, q135, h⟩ := wk_b h
                    refine J_afterP (jrunV X (c_DataRow_numberOf (ad := ad) q135) jF0_k (fun _ _ _ _ => trivial) (jgV own_Builtins_onData (by decide +kernel)) rfl rfl rfl pd_DataRow_numberOf (by decide) [7, 10] rfl (by decide) 0 5 rfl rfl rfl rfl (Nat.le_of_ble_eq_true rfl) d_Builtins_onData_249 (by decide)) ?_
                    refine J_l2i X d_Builtins_onData_252 ?_
                    refine J_aload_n X d_Builtins_onData_253 rfl 1 rfl ?_
                    refine J_iload_n X d_Builtins_onData_254 rfl 0 rfl ?_
                    obtain ⟨r136, q137, h⟩ := wk_b h
                    refine J_afterP (jrunV X (c_DataRow_countOf (ad := ad) q137) jF0_k (fun _ _ _ _ => trivial) (jgV own_Builtins_onData (by decide +kernel)) rfl rfl rfl pd_DataRow_countOf (by decide) [7, 9] rfl (by decide) 0 5 rfl rfl rfl rfl (Nat.le_of_ble_eq_true rfl) d_Builtins_onData_255 (by decide)) ?_
                    obtain ⟨r138, V_top_139, V_kinds_140, V_numbers_141, V_parts_142, V_links_143, q144, h⟩ := wk_b6 h
                    refine J_afterI0 (ws' := [(ad 9, .inr (4, [.ref (ad 14), .ref (ad 16), .ref (ad 10), .ref (ad 11), .ref (ad 12), .ref (ad 13), .int (zI V_top_139)])), (ad 10, .inl (cI, 3201, .inl (zA V_kinds_140))), (ad 11, .inl (cL, 3201, .inr (.inl (zB V_numbers_141)))), (ad 12, .inl (cI, 3201, .inl (zA V_parts_142))), (ad 13, .inl (cI, 3201, .inl (zA V_links_143))), (ad 14, .inr (2, [.ref (ad 15), .int (zI VB_top)])), (ad 15, .inl (cB, 36864, .inl (zA VB_row))), (ad 16, .inr (5, [.ref (ad 17), .ref (ad 18), .ref (ad 19), .ref (ad 20), .ref (ad 21), .ref (ad 22), .int (zI D_top)])), (ad 17, .inl (cI, 3201, .inl (zA D_forms))), (ad 18, .inl (cI, 3201, .inl (zA D_counts))), (ad 19, .inl (cL, 3201, .inr (.inl (zB D_numbers)))), (ad 20, .inl (cI, 3201, .inl (zA D_nodes))), (ad 21, .inl (cI, 3201, .inl (zA D_depths))), (ad 22, .inl (cI, 3201, .inl (zA D_weights))), (ad 31, .inr (9, [.ref (ad 9), .ref (ad 23), .ref (ad 32), .int (zI B_ready)])), (ad 32, .inl (cI, 3, .inl (zA B_given)))]) X (jrunV X (c_Values_ofBytes (ad := ad) q144) jF0_k (fun _ _ _ _ => trivial) (jgV own_Builtins_onData (by decide +kernel)) rfl rfl rfl pd_Values_ofBytes (by decide) [0, 1, 2, 3, 4] rfl (by decide) 0 4 rfl rfl rfl rfl (Nat.le_of_ble_eq_true rfl) d_Builtins_onData_258 (by decide)) [0, 1, 2, 3, 4] [5, 6, 7, 8, 9, 10, 11, 12, 13, 14, 15] [11, 12, 13, 14, 15, 0, 1, 2, 3, 4, 5, 6, 7, 8, 9, 10] rfl rfl (by decide) (by decide) rfl (by decide) ?_
                    cases h
                    exact J_ret E ⟨_, rfl, rfl⟩ d_Builtins_onData_261 (Nat.le_refl _) (Nat.le_refl _) rfl
                  · refine J_tsOut (tgt := 262) X g4 d_Builtins_onData_23 (by omega) (by decide) ?_
                    refine J_iconst X d_Builtins_onData_262 ?_
                    cases h
                    exact J_ret E ⟨_, rfl, rfl⟩ d_Builtins_onData_263 (Nat.le_refl _) (Nat.le_refl _) rfl

theorem d_Builtins_onLists_0 : decode b_Builtins_onLists 0 = .ok (.aload_n 0, 1) := by decide +kernel
theorem d_Builtins_onLists_1 : decode b_Builtins_onLists 1 = .ok (.getfield 19, 3) := by decide +kernel
theorem d_Builtins_onLists_4 : decode b_Builtins_onLists 4 = .ok (.getfield 105, 3) := by decide +kernel
theorem d_Builtins_onLists_7 : decode b_Builtins_onLists 7 = .ok (.astore_n 2, 1) := by decide +kernel
theorem d_Builtins_onLists_8 : decode b_Builtins_onLists 8 = .ok (.aload_n 0, 1) := by decide +kernel
theorem d_Builtins_onLists_9 : decode b_Builtins_onLists 9 = .ok (.getfield 19, 3) := by decide +kernel
theorem d_Builtins_onLists_12 : decode b_Builtins_onLists 12 = .ok (.aload_n 0, 1) := by decide +kernel
theorem d_Builtins_onLists_13 : decode b_Builtins_onLists 13 = .ok (.getfield 11, 3) := by decide +kernel
theorem d_Builtins_onLists_16 : decode b_Builtins_onLists 16 = .ok (.iconst 0, 1) := by decide +kernel
theorem d_Builtins_onLists_17 : decode b_Builtins_onLists 17 = .ok (.iaload, 1) := by decide +kernel
theorem d_Builtins_onLists_18 : decode b_Builtins_onLists 18 = .ok (.invokevirtual 109, 3) := by decide +kernel
theorem d_Builtins_onLists_21 : decode b_Builtins_onLists 21 = .ok (.istore_n 3, 1) := by decide +kernel
theorem d_Builtins_onLists_22 : decode b_Builtins_onLists 22 = .ok (.aload_n 2, 1) := by decide +kernel
theorem d_Builtins_onLists_23 : decode b_Builtins_onLists 23 = .ok (.iload_n 3, 1) := by decide +kernel
theorem d_Builtins_onLists_24 : decode b_Builtins_onLists 24 = .ok (.invokevirtual 206, 3) := by decide +kernel
theorem d_Builtins_onLists_27 : decode b_Builtins_onLists 27 = .ok (.istore 4, 2) := by decide +kernel
theorem d_Builtins_onLists_29 : decode b_Builtins_onLists 29 = .ok (.iload_n 1, 1) := by decide +kernel
theorem d_Builtins_onLists_30 : decode b_Builtins_onLists 30 = .ok (.tableswitch 164 26 31 #[38, 58, 71, 97, 115, 145], 38) := by decide +kernel
theorem d_Builtins_onLists_68 : decode b_Builtins_onLists 68 = .ok (.iload 4, 2) := by decide +kernel
theorem d_Builtins_onLists_70 : decode b_Builtins_onLists 70 = .ok (.ifCond .le 16, 3) := by decide +kernel
theorem d_Builtins_onLists_73 : decode b_Builtins_onLists 73 = .ok (.aload_n 0, 1) := by decide +kernel
theorem d_Builtins_onLists_74 : decode b_Builtins_onLists 74 = .ok (.getfield 19, 3) := by decide +kernel
theorem d_Builtins_onLists_77 : decode b_Builtins_onLists 77 = .ok (.iload_n 3, 1) := by decide +kernel
theorem d_Builtins_onLists_78 : decode b_Builtins_onLists 78 = .ok (.iconst 1, 1) := by decide +kernel
theorem d_Builtins_onLists_79 : decode b_Builtins_onLists 79 = .ok (.iadd, 1) := by decide +kernel
theorem d_Builtins_onLists_80 : decode b_Builtins_onLists 80 = .ok (.invokevirtual 213, 3) := by decide +kernel
theorem d_Builtins_onLists_83 : decode b_Builtins_onLists 83 = .ok (.goto 4, 3) := by decide +kernel
theorem d_Builtins_onLists_86 : decode b_Builtins_onLists 86 = .ok (.iconst (-1), 1) := by decide +kernel
theorem d_Builtins_onLists_87 : decode b_Builtins_onLists 87 = .ok (.ireturn, 1) := by decide +kernel
theorem d_Builtins_onLists_88 : decode b_Builtins_onLists 88 = .ok (.aload_n 0, 1) := by decide +kernel
theorem d_Builtins_onLists_89 : decode b_Builtins_onLists 89 = .ok (.getfield 19, 3) := by decide +kernel
theorem d_Builtins_onLists_92 : decode b_Builtins_onLists 92 = .ok (.aload_n 2, 1) := by decide +kernel
theorem d_Builtins_onLists_93 : decode b_Builtins_onLists 93 = .ok (.iload_n 3, 1) := by decide +kernel
theorem d_Builtins_onLists_94 : decode b_Builtins_onLists 94 = .ok (.invokevirtual 226, 3) := by decide +kernel
theorem d_Builtins_onLists_97 : decode b_Builtins_onLists 97 = .ok (.invokevirtual 213, 3) := by decide +kernel
theorem d_Builtins_onLists_100 : decode b_Builtins_onLists 100 = .ok (.ireturn, 1) := by decide +kernel
theorem d_Builtins_onLists_101 : decode b_Builtins_onLists 101 = .ok (.aload_n 0, 1) := by decide +kernel
theorem d_Builtins_onLists_102 : decode b_Builtins_onLists 102 = .ok (.getfield 19, 3) := by decide +kernel
theorem d_Builtins_onLists_105 : decode b_Builtins_onLists 105 = .ok (.aload_n 2, 1) := by decide +kernel
theorem d_Builtins_onLists_106 : decode b_Builtins_onLists 106 = .ok (.iload_n 3, 1) := by decide +kernel
theorem d_Builtins_onLists_107 : decode b_Builtins_onLists 107 = .ok (.aload_n 0, 1) := by decide +kernel
theorem d_Builtins_onLists_108 : decode b_Builtins_onLists 108 = .ok (.getfield 19, 3) := by decide +kernel
theorem d_Builtins_onLists_111 : decode b_Builtins_onLists 111 = .ok (.aload_n 0, 1) := by decide +kernel
theorem d_Builtins_onLists_112 : decode b_Builtins_onLists 112 = .ok (.getfield 11, 3) := by decide +kernel
theorem d_Builtins_onLists_115 : decode b_Builtins_onLists 115 = .ok (.iconst 1, 1) := by decide +kernel
theorem d_Builtins_onLists_116 : decode b_Builtins_onLists 116 = .ok (.iaload, 1) := by decide +kernel
theorem d_Builtins_onLists_117 : decode b_Builtins_onLists 117 = .ok (.invokevirtual 109, 3) := by decide +kernel
theorem d_Builtins_onLists_120 : decode b_Builtins_onLists 120 = .ok (.invokevirtual 229, 3) := by decide +kernel
theorem d_Builtins_onLists_123 : decode b_Builtins_onLists 123 = .ok (.invokevirtual 213, 3) := by decide +kernel
theorem d_Builtins_onLists_126 : decode b_Builtins_onLists 126 = .ok (.ireturn, 1) := by decide +kernel
theorem d_Builtins_onLists_127 : decode b_Builtins_onLists 127 = .ok (.aload_n 0, 1) := by decide +kernel
theorem d_Builtins_onLists_128 : decode b_Builtins_onLists 128 = .ok (.getfield 19, 3) := by decide +kernel
theorem d_Builtins_onLists_131 : decode b_Builtins_onLists 131 = .ok (.iload 4, 2) := by decide +kernel
theorem d_Builtins_onLists_133 : decode b_Builtins_onLists 133 = .ok (.ifCond .ne 7, 3) := by decide +kernel
theorem d_Builtins_onLists_136 : decode b_Builtins_onLists 136 = .ok (.iconst 1, 1) := by decide +kernel
theorem d_Builtins_onLists_137 : decode b_Builtins_onLists 137 = .ok (.goto 4, 3) := by decide +kernel
theorem d_Builtins_onLists_140 : decode b_Builtins_onLists 140 = .ok (.iconst 0, 1) := by decide +kernel
theorem d_Builtins_onLists_141 : decode b_Builtins_onLists 141 = .ok (.invokevirtual 141, 3) := by decide +kernel
theorem d_Builtins_onLists_144 : decode b_Builtins_onLists 144 = .ok (.ireturn, 1) := by decide +kernel
theorem d_Builtins_onLists_145 : decode b_Builtins_onLists 145 = .ok (.iload 4, 2) := by decide +kernel
theorem d_Builtins_onLists_147 : decode b_Builtins_onLists 147 = .ok (.iconst 2, 1) := by decide +kernel
theorem d_Builtins_onLists_148 : decode b_Builtins_onLists 148 = .ok (.irem, 1) := by decide +kernel
theorem d_Builtins_onLists_149 : decode b_Builtins_onLists 149 = .ok (.ifCond .ne 24, 3) := by decide +kernel
theorem d_Builtins_onLists_152 : decode b_Builtins_onLists 152 = .ok (.aload_n 0, 1) := by decide +kernel
theorem d_Builtins_onLists_153 : decode b_Builtins_onLists 153 = .ok (.getfield 19, 3) := by decide +kernel
theorem d_Builtins_onLists_156 : decode b_Builtins_onLists 156 = .ok (.aload_n 2, 1) := by decide +kernel
theorem d_Builtins_onLists_157 : decode b_Builtins_onLists 157 = .ok (.iload_n 3, 1) := by decide +kernel
theorem d_Builtins_onLists_158 : decode b_Builtins_onLists 158 = .ok (.iconst 1, 1) := by decide +kernel
theorem d_Builtins_onLists_159 : decode b_Builtins_onLists 159 = .ok (.lconst 0, 1) := by decide +kernel
theorem d_Builtins_onLists_160 : decode b_Builtins_onLists 160 = .ok (.iload 4, 2) := by decide +kernel
theorem d_Builtins_onLists_162 : decode b_Builtins_onLists 162 = .ok (.iconst 2, 1) := by decide +kernel
theorem d_Builtins_onLists_163 : decode b_Builtins_onLists 163 = .ok (.idiv, 1) := by decide +kernel
theorem d_Builtins_onLists_164 : decode b_Builtins_onLists 164 = .ok (.invokevirtual 209, 3) := by decide +kernel
theorem d_Builtins_onLists_167 : decode b_Builtins_onLists 167 = .ok (.invokevirtual 213, 3) := by decide +kernel
theorem d_Builtins_onLists_170 : decode b_Builtins_onLists 170 = .ok (.goto 4, 3) := by decide +kernel
theorem d_Builtins_onLists_173 : decode b_Builtins_onLists 173 = .ok (.iconst (-1), 1) := by decide +kernel
theorem d_Builtins_onLists_174 : decode b_Builtins_onLists 174 = .ok (.ireturn, 1) := by decide +kernel
theorem d_Builtins_onLists_175 : decode b_Builtins_onLists 175 = .ok (.aload_n 0, 1) := by decide +kernel
theorem d_Builtins_onLists_176 : decode b_Builtins_onLists 176 = .ok (.getfield 19, 3) := by decide +kernel
theorem d_Builtins_onLists_179 : decode b_Builtins_onLists 179 = .ok (.aload_n 2, 1) := by decide +kernel
theorem d_Builtins_onLists_180 : decode b_Builtins_onLists 180 = .ok (.iload_n 3, 1) := by decide +kernel
theorem d_Builtins_onLists_181 : decode b_Builtins_onLists 181 = .ok (.iconst 2, 1) := by decide +kernel
theorem d_Builtins_onLists_182 : decode b_Builtins_onLists 182 = .ok (.lconst 0, 1) := by decide +kernel
theorem d_Builtins_onLists_183 : decode b_Builtins_onLists 183 = .ok (.iload 4, 2) := by decide +kernel
theorem d_Builtins_onLists_185 : decode b_Builtins_onLists 185 = .ok (.iconst 2, 1) := by decide +kernel
theorem d_Builtins_onLists_186 : decode b_Builtins_onLists 186 = .ok (.imul, 1) := by decide +kernel
theorem d_Builtins_onLists_187 : decode b_Builtins_onLists 187 = .ok (.invokevirtual 209, 3) := by decide +kernel
theorem d_Builtins_onLists_190 : decode b_Builtins_onLists 190 = .ok (.invokevirtual 213, 3) := by decide +kernel
theorem d_Builtins_onLists_193 : decode b_Builtins_onLists 193 = .ok (.ireturn, 1) := by decide +kernel
theorem d_Builtins_onLists_194 : decode b_Builtins_onLists 194 = .ok (.iconst (-1), 1) := by decide +kernel
theorem d_Builtins_onLists_195 : decode b_Builtins_onLists 195 = .ok (.ireturn, 1) := by decide +kernel
def f_Builtins_onLists (N : Nat) (V_top : Int) (V_kinds : Int → Int) (V_numbers : Int → Int) (V_parts : Int → Int) (V_links : Int → Int) (D_top : Int) (D_forms : Int → Int) (D_counts : Int → Int) (D_numbers : Int → Int) (D_nodes : Int → Int) (D_depths : Int → Int) (D_weights : Int → Int) (B_given : Int → Int) (p1 : Int) : Option (Int × Int × (Int → Int) × (Int → Int) × (Int → Int) × (Int → Int) × Int × (Int → Int) × (Int → Int) × (Int → Int) × (Int → Int) × (Int → Int) × (Int → Int)) :=
  if jix 0 3 = true then (
   Option.bind (f_Values_rootOf V_top V_parts (B_given 0)) (fun r2 =>
    Option.bind (f_DataRow_countOf D_top D_counts r2) (fun r4 =>
     if rI p1 = true then (
      if p1 = 26 then (
       if rI r4 = true then (if r4 ≤ 0 then (
        some ((-1), V_top, V_kinds, V_numbers, V_parts, V_links, D_top, D_forms, D_counts, D_numbers, D_nodes, D_depths, D_weights)) else (
        ob6 (f_Values_ofData V_top V_kinds V_numbers V_parts V_links (r2 + 1)) (fun r9 V_top_10 V_kinds_11 V_numbers_12 V_parts_13 V_links_14 =>
         some (r9, V_top_10, V_kinds_11, V_numbers_12, V_parts_13, V_links_14, D_top, D_forms, D_counts, D_numbers, D_nodes, D_depths, D_weights)))) else none) else (
       if p1 = 27 then (
        ob8 (f_DataRow_rest N D_top D_forms D_counts D_numbers D_nodes D_depths D_weights r2) (fun r17 D_top_18 D_forms_19 D_counts_20 D_numbers_21 D_nodes_22 D_depths_23 D_weights_24 =>
         ob6 (f_Values_ofData V_top V_kinds V_numbers V_parts V_links r17) (fun r26 V_top_27 V_kinds_28 V_numbers_29 V_parts_30 V_links_31 =>
          some (r26, V_top_27, V_kinds_28, V_numbers_29, V_parts_30, V_links_31, D_top_18, D_forms_19, D_counts_20, D_numbers_21, D_nodes_22, D_depths_23, D_weights_24)))) else (
        if p1 = 28 then (
         if jix 1 3 = true then (
          Option.bind (f_Values_rootOf V_top V_parts (B_given 1)) (fun r35 =>
           ob8 (f_DataRow_prepend N D_top D_forms D_counts D_numbers D_nodes D_depths D_weights r2 r35) (fun r37 D_top_38 D_forms_39 D_counts_40 D_numbers_41 D_nodes_42 D_depths_43 D_weights_44 =>
            ob6 (f_Values_ofData V_top V_kinds V_numbers V_parts V_links r37) (fun r46 V_top_47 V_kinds_48 V_numbers_49 V_parts_50 V_links_51 =>
             some (r46, V_top_47, V_kinds_48, V_numbers_49, V_parts_50, V_links_51, D_top_38, D_forms_39, D_counts_40, D_numbers_41, D_nodes_42, D_depths_43, D_weights_44))))) else none) else (
         if p1 = 29 then (
          if rI r4 = true then (if r4 = 0 then (
           ob6 (f_Values_ofTruth V_top V_kinds V_numbers V_parts V_links 1) (fun r62 V_top_63 V_kinds_64 V_numbers_65 V_parts_66 V_links_67 =>
            some (r62, V_top_63, V_kinds_64, V_numbers_65, V_parts_66, V_links_67, D_top, D_forms, D_counts, D_numbers, D_nodes, D_depths, D_weights))) else (
           ob6 (f_Values_ofTruth V_top V_kinds V_numbers V_parts V_links 0) (fun r55 V_top_56 V_kinds_57 V_numbers_58 V_parts_59 V_links_60 =>
            some (r55, V_top_56, V_kinds_57, V_numbers_58, V_parts_59, V_links_60, D_top, D_forms, D_counts, D_numbers, D_nodes, D_depths, D_weights)))) else none) else (
          if p1 = 30 then (
           if jdv r4 2 = true then (
            if rI (r4 - (Int.tdiv r4 2) * 2) = true then (if (r4 - (Int.tdiv r4 2) * 2) = 0 then (
             if jdv r4 2 = true then (
              ob8 (f_DataRow_recast D_top D_forms D_counts D_numbers D_nodes D_depths D_weights r2 1 0 (Int.tdiv r4 2)) (fun r73 D_top_74 D_forms_75 D_counts_76 D_numbers_77 D_nodes_78 D_depths_79 D_weights_80 =>
               ob6 (f_Values_ofData V_top V_kinds V_numbers V_parts V_links r73) (fun r82 V_top_83 V_kinds_84 V_numbers_85 V_parts_86 V_links_87 =>
                some (r82, V_top_83, V_kinds_84, V_numbers_85, V_parts_86, V_links_87, D_top_74, D_forms_75, D_counts_76, D_numbers_77, D_nodes_78, D_depths_79, D_weights_80)))) else none) else (
             some ((-1), V_top, V_kinds, V_numbers, V_parts, V_links, D_top, D_forms, D_counts, D_numbers, D_nodes, D_depths, D_weights))) else none) else none) else (
           if p1 = 31 then (
            ob8 (f_DataRow_recast D_top D_forms D_counts D_numbers D_nodes D_depths D_weights r2 2 0 (r4 * 2)) (fun r90 D_top_91 D_forms_92 D_counts_93 D_numbers_94 D_nodes_95 D_depths_96 D_weights_97 =>
             ob6 (f_Values_ofData V_top V_kinds V_numbers V_parts V_links r90) (fun r99 V_top_100 V_kinds_101 V_numbers_102 V_parts_103 V_links_104 =>
              some (r99, V_top_100, V_kinds_101, V_numbers_102, V_parts_103, V_links_104, D_top_91, D_forms_92, D_counts_93, D_numbers_94, D_nodes_95, D_depths_96, D_weights_97)))) else (
            some ((-1), V_top, V_kinds, V_numbers, V_parts, V_links, D_top, D_forms, D_counts, D_numbers, D_nodes, D_depths, D_weights)))))))) else none))) else none
set_option maxHeartbeats 4000000 in
set_option maxRecDepth 100000 in
theorem c_Builtins_onLists {l : Launch} {D : va_G} {cI cL cB : ClassId} {ad : Nat → Nat} {N : Nat} {V_top : Int} {V_kinds : Int → Int} {V_numbers : Int → Int} {V_parts : Int → Int} {V_links : Int → Int} {D_top : Int} {D_forms : Int → Int} {D_counts : Int → Int} {D_numbers : Int → Int} {D_nodes : Int → Int} {D_depths : Int → Int} {D_weights : Int → Int} {B_ready : Int} {B_given : Int → Int} {p1 : Int} {out : Int × Int × (Int → Int) × (Int → Int) × (Int → Int) × (Int → Int) × Int × (Int → Int) × (Int → Int) × (Int → Int) × (Int → Int) × (Int → Int) × (Int → Int)} (h : f_Builtins_onLists N V_top V_kinds V_numbers V_parts V_links D_top D_forms D_counts D_numbers D_nodes D_depths D_weights B_given p1 = some out) : CT jF0 false l D [(cI, .int), (cL, .long), (cB, .byte)] y_Builtins_onLists w_Builtins_onLists ({ frames := 3, cells := 0, slots := 0, locals := 108 } : Room) [.ref (ad 31), .int (zI p1)] [(ad 9, .inr (4, [.ref (ad 14), .ref (ad 16), .ref (ad 10), .ref (ad 11), .ref (ad 12), .ref (ad 13), .int (zI V_top)])), (ad 10, .inl (cI, 3201, .inl (zA V_kinds))), (ad 11, .inl (cL, 3201, .inr (.inl (zB V_numbers)))), (ad 12, .inl (cI, 3201, .inl (zA V_parts))), (ad 13, .inl (cI, 3201, .inl (zA V_links))), (ad 16, .inr (5, [.ref (ad 17), .ref (ad 18), .ref (ad 19), .ref (ad 20), .ref (ad 21), .ref (ad 22), .int (zI D_top)])), (ad 17, .inl (cI, 3201, .inl (zA D_forms))), (ad 18, .inl (cI, 3201, .inl (zA D_counts))), (ad 19, .inl (cL, 3201, .inr (.inl (zB D_numbers)))), (ad 20, .inl (cI, 3201, .inl (zA D_nodes))), (ad 21, .inl (cI, 3201, .inl (zA D_depths))), (ad 22, .inl (cI, 3201, .inl (zA D_weights))), (ad 31, .inr (9, [.ref (ad 9), .ref (ad 23), .ref (ad 32), .int (zI B_ready)])), (ad 32, .inl (cI, 3, .inl (zA B_given)))] (some (.int (zI out.1))) [(ad 9, .inr (4, [.ref (ad 14), .ref (ad 16), .ref (ad 10), .ref (ad 11), .ref (ad 12), .ref (ad 13), .int (zI (out.2.1))])), (ad 10, .inl (cI, 3201, .inl (zA (out.2.2.1)))), (ad 11, .inl (cL, 3201, .inr (.inl (zB (out.2.2.2.1))))), (ad 12, .inl (cI, 3201, .inl (zA (out.2.2.2.2.1)))), (ad 13, .inl (cI, 3201, .inl (zA (out.2.2.2.2.2.1)))), (ad 16, .inr (5, [.ref (ad 17), .ref (ad 18), .ref (ad 19), .ref (ad 20), .ref (ad 21), .ref (ad 22), .int (zI (out.2.2.2.2.2.2.1))])), (ad 17, .inl (cI, 3201, .inl (zA (out.2.2.2.2.2.2.2.1)))), (ad 18, .inl (cI, 3201, .inl (zA (out.2.2.2.2.2.2.2.2.1)))), (ad 19, .inl (cL, 3201, .inr (.inl (zB (out.2.2.2.2.2.2.2.2.2.1))))), (ad 20, .inl (cI, 3201, .inl (zA (out.2.2.2.2.2.2.2.2.2.2.1)))), (ad 21, .inl (cI, 3201, .inl (zA (out.2.2.2.2.2.2.2.2.2.2.2.1)))), (ad 22, .inl (cI, 3201, .inl (zA (out.2.2.2.2.2.2.2.2.2.2.2.2)))), (ad 31, .inr (9, [.ref (ad 9), .ref (ad 23), .ref (ad 32), .int (zI B_ready)])), (ad 32, .inl (cI, 3, .inl (zA B_given)))] 0 0 := by
  refine CT_of_J (cc := b_Builtins_onLists) (maxL := 5) (ret := (some .int)) jF0_k (plainFor_of_name (by decide)) rfl (Nat.le_of_ble_eq_true rfl) ?_
  intro K hKl hKD X E
  subst hKl; subst hKD
  unfold f_Builtins_onLists at h
  refine J_aload_n X d_Builtins_onLists_0 rfl 0 rfl ?_
  refine J_get X (j_in in_Builtins) 12 rfl rfl 0 (by decide) (j_m own_Builtins_onLists (by decide +kernel)) rfl d_Builtins_onLists_1 ?_
  refine J_get X (j_in in_Values) 0 rfl rfl 1 (by decide) (j_m own_Builtins_onLists (by decide +kernel)) rfl d_Builtins_onLists_4 ?_
  refine J_astore_n (lv' := [(2, .ref (ad 16)), (0, .ref (ad 31)), (1, .int (zI p1))]) X d_Builtins_onLists_7 rfl (by decide) rfl ?_
  refine J_aload_n X d_Builtins_onLists_8 rfl 1 rfl ?_
  refine J_get X (j_in in_Builtins) 12 rfl rfl 0 (by decide) (j_m own_Builtins_onLists (by decide +kernel)) rfl d_Builtins_onLists_9 ?_
  refine J_aload_n X d_Builtins_onLists_12 rfl 1 rfl ?_
  refine J_get X (j_in in_Builtins) 12 rfl rfl 2 (by decide) (j_m own_Builtins_onLists (by decide +kernel)) rfl d_Builtins_onLists_13 ?_
  refine J_iconst X d_Builtins_onLists_16 ?_
  obtain ⟨g1, h⟩ := wk_g h
  refine J_iald X 13 0 rfl rfl g1 d_Builtins_onLists_17 ?_
  obtain ⟨r2, q3, h⟩ := wk_b h
  refine J_afterP (jrunV X (c_Values_rootOf (ad := ad) q3) jF0_k (fun _ _ _ _ => trivial) (jgV own_Builtins_onLists (by decide +kernel)) rfl rfl rfl pd_Values_rootOf (by decide) [0, 3] rfl (by decide) 0 4 rfl rfl rfl rfl (Nat.le_of_ble_eq_true rfl) d_Builtins_onLists_18 (by decide)) ?_
  refine J_istore_n (lv' := [(3, .int (zI r2)), (2, .ref (ad 16)), (0, .ref (ad 31)), (1, .int (zI p1))]) X d_Builtins_onLists_21 rfl (by decide) rfl ?_
  refine J_aload_n X d_Builtins_onLists_22 rfl 1 rfl ?_
  refine J_iload_n X d_Builtins_onLists_23 rfl 0 rfl ?_
  obtain ⟨r4, q5, h⟩ := wk_b h
  refine J_afterP (jrunV X (c_DataRow_countOf (ad := ad) q5) jF0_k (fun _ _ _ _ => trivial) (jgV own_Builtins_onLists (by decide +kernel)) rfl rfl rfl pd_DataRow_countOf (by decide) [5, 7] rfl (by decide) 0 5 rfl rfl rfl rfl (Nat.le_of_ble_eq_true rfl) d_Builtins_onLists_24 (by decide)) ?_
  refine J_istore (lv' := [(4, .int (zI r4)), (3, .int (zI r2)), (2, .ref (ad 16)), (0, .ref (ad 31)), (1, .int (zI p1))]) X d_Builtins_onLists_27 (by decide) rfl ?_
  refine J_iload_n X d_Builtins_onLists_29 rfl 4 rfl ?_
  obtain ⟨g6, h⟩ := wk_g h
  rcases wk_c h with ⟨c7, h⟩ | ⟨c7, h⟩
  · refine J_tsIn (tgt := 68) X 26 c7 g6 d_Builtins_onLists_30 (by decide) (by decide) rfl (by decide) ?_
    refine J_iload X d_Builtins_onLists_68 0 rfl ?_
    refine J_if_le (tgt := 86) X d_Builtins_onLists_70 (by decide) h (fun c8 h => ?_) (fun c8 h => ?_)
    · refine J_iconst X d_Builtins_onLists_86 ?_
      cases h
      exact J_ret E ⟨_, rfl, rfl⟩ d_Builtins_onLists_87 (Nat.le_refl _) (Nat.le_refl _) rfl
    · refine J_aload_n X d_Builtins_onLists_73 rfl 3 rfl ?_
      refine J_get X (j_in in_Builtins) 12 rfl rfl 0 (by decide) (j_m own_Builtins_onLists (by decide +kernel)) rfl d_Builtins_onLists_74 ?_
      refine J_iload_n X d_Builtins_onLists_77 rfl 1 rfl ?_
      refine J_iconst X d_Builtins_onLists_78 ?_
      refine J_iadd X d_Builtins_onLists_79 ?_
      obtain ⟨r9, V_top_10, V_kinds_11, V_numbers_12, V_parts_13, V_links_14, q15, h⟩ := wk_b6 h
      refine J_afterI0 (ws' := [(ad 9, .inr (4, [.ref (ad 14), .ref (ad 16), .ref (ad 10), .ref (ad 11), .ref (ad 12), .ref (ad 13), .int (zI V_top_10)])), (ad 10, .inl (cI, 3201, .inl (zA V_kinds_11))), (ad 11, .inl (cL, 3201, .inr (.inl (zB V_numbers_12)))), (ad 12, .inl (cI, 3201, .inl (zA V_parts_13))), (ad 13, .inl (cI, 3201, .inl (zA V_links_14))), (ad 16, .inr (5, [.ref (ad 17), .ref (ad 18), .ref (ad 19), .ref (ad 20), .ref (ad 21), .ref (ad 22), .int (zI D_top)])), (ad 17, .inl (cI, 3201, .inl (zA D_forms))), (ad 18, .inl (cI, 3201, .inl (zA D_counts))), (ad 19, .inl (cL, 3201, .inr (.inl (zB D_numbers)))), (ad 20, .inl (cI, 3201, .inl (zA D_nodes))), (ad 21, .inl (cI, 3201, .inl (zA D_depths))), (ad 22, .inl (cI, 3201, .inl (zA D_weights))), (ad 31, .inr (9, [.ref (ad 9), .ref (ad 23), .ref (ad 32), .int (zI B_ready)])), (ad 32, .inl (cI, 3, .inl (zA B_given)))]) X (jrunV X (c_Values_ofData (ad := ad) q15) jF0_k (fun _ _ _ _ => trivial) (jgV own_Builtins_onLists (by decide +kernel)) rfl rfl rfl pd_Values_ofData (by decide) [0, 1, 2, 3, 4] rfl (by decide) 0 4 rfl rfl rfl rfl (Nat.le_of_ble_eq_true rfl) d_Builtins_onLists_80 (by decide)) [0, 1, 2, 3, 4] [5, 6, 7, 8, 9, 10, 11, 12, 13] [9, 10, 11, 12, 13, 0, 1, 2, 3, 4, 5, 6, 7, 8] rfl rfl (by decide) (by decide) rfl (by decide) ?_
      refine J_goto (tgt := 87) X d_Builtins_onLists_83 (by decide) ?_
      cases h
      exact J_ret E ⟨_, rfl, rfl⟩ d_Builtins_onLists_87 (Nat.le_refl _) (Nat.le_refl _) rfl
  · rcases wk_c h with ⟨c16, h⟩ | ⟨c16, h⟩
    · refine J_tsIn (tgt := 88) X 27 c16 g6 d_Builtins_onLists_30 (by decide) (by decide) rfl (by decide) ?_
      refine J_aload_n X d_Builtins_onLists_88 rfl 3 rfl ?_
      refine J_get X (j_in in_Builtins) 12 rfl rfl 0 (by decide) (j_m own_Builtins_onLists (by decide +kernel)) rfl d_Builtins_onLists_89 ?_
      refine J_aload_n X d_Builtins_onLists_92 rfl 2 rfl ?_
      refine J_iload_n X d_Builtins_onLists_93 rfl 1 rfl ?_
      obtain ⟨r17, D_top_18, D_forms_19, D_counts_20, D_numbers_21, D_nodes_22, D_depths_23, D_weights_24, q25, h⟩ := wk_b8 h
      refine J_afterI0 (ws' := [(ad 9, .inr (4, [.ref (ad 14), .ref (ad 16), .ref (ad 10), .ref (ad 11), .ref (ad 12), .ref (ad 13), .int (zI V_top)])), (ad 10, .inl (cI, 3201, .inl (zA V_kinds))), (ad 11, .inl (cL, 3201, .inr (.inl (zB V_numbers)))), (ad 12, .inl (cI, 3201, .inl (zA V_parts))), (ad 13, .inl (cI, 3201, .inl (zA V_links))), (ad 16, .inr (5, [.ref (ad 17), .ref (ad 18), .ref (ad 19), .ref (ad 20), .ref (ad 21), .ref (ad 22), .int (zI D_top_18)])), (ad 17, .inl (cI, 3201, .inl (zA D_forms_19))), (ad 18, .inl (cI, 3201, .inl (zA D_counts_20))), (ad 19, .inl (cL, 3201, .inr (.inl (zB D_numbers_21)))), (ad 20, .inl (cI, 3201, .inl (zA D_nodes_22))), (ad 21, .inl (cI, 3201, .inl (zA D_depths_23))), (ad 22, .inl (cI, 3201, .inl (zA D_weights_24))), (ad 31, .inr (9, [.ref (ad 9), .ref (ad 23), .ref (ad 32), .int (zI B_ready)])), (ad 32, .inl (cI, 3, .inl (zA B_given)))]) X (jrunV X (c_DataRow_rest (ad := ad) q25) jF0_k (fun _ _ _ _ => trivial) (jgV own_Builtins_onLists (by decide +kernel)) rfl rfl rfl pd_DataRow_rest (by decide) [5, 6, 7, 8, 9, 10, 11] rfl (by decide) 0 5 rfl rfl rfl rfl (Nat.le_of_ble_eq_true rfl) d_Builtins_onLists_94 (by decide)) [5, 6, 7, 8, 9, 10, 11] [0, 1, 2, 3, 4, 12, 13] [0, 1, 2, 3, 4, 7, 8, 9, 10, 11, 12, 13, 5, 6] rfl rfl (by decide) (by decide) rfl (by decide) ?_
      obtain ⟨r26, V_top_27, V_kinds_28, V_numbers_29, V_parts_30, V_links_31, q32, h⟩ := wk_b6 h
      refine J_afterI0 (ws' := [(ad 9, .inr (4, [.ref (ad 14), .ref (ad 16), .ref (ad 10), .ref (ad 11), .ref (ad 12), .ref (ad 13), .int (zI V_top_27)])), (ad 10, .inl (cI, 3201, .inl (zA V_kinds_28))), (ad 11, .inl (cL, 3201, .inr (.inl (zB V_numbers_29)))), (ad 12, .inl (cI, 3201, .inl (zA V_parts_30))), (ad 13, .inl (cI, 3201, .inl (zA V_links_31))), (ad 16, .inr (5, [.ref (ad 17), .ref (ad 18), .ref (ad 19), .ref (ad 20), .ref (ad 21), .ref (ad 22), .int (zI D_top_18)])), (ad 17, .inl (cI, 3201, .inl (zA D_forms_19))), (ad 18, .inl (cI, 3201, .inl (zA D_counts_20))), (ad 19, .inl (cL, 3201, .inr (.inl (zB D_numbers_21)))), (ad 20, .inl (cI, 3201, .inl (zA D_nodes_22))), (ad 21, .inl (cI, 3201, .inl (zA D_depths_23))), (ad 22, .inl (cI, 3201, .inl (zA D_weights_24))), (ad 31, .inr (9, [.ref (ad 9), .ref (ad 23), .ref (ad 32), .int (zI B_ready)])), (ad 32, .inl (cI, 3, .inl (zA B_given)))]) X (jrunV X (c_Values_ofData (ad := ad) q32) jF0_k (fun _ _ _ _ => trivial) (jgV own_Builtins_onLists (by decide +kernel)) rfl rfl rfl pd_Values_ofData (by decide) [0, 1, 2, 3, 4] rfl (by decide) 0 4 rfl rfl rfl rfl (Nat.le_of_ble_eq_true rfl) d_Builtins_onLists_97 (by decide)) [0, 1, 2, 3, 4] [5, 6, 7, 8, 9, 10, 11, 12, 13] [9, 10, 11, 12, 13, 0, 1, 2, 3, 4, 5, 6, 7, 8] rfl rfl (by decide) (by decide) rfl (by decide) ?_
      cases h
      exact J_ret E ⟨_, rfl, rfl⟩ d_Builtins_onLists_100 (Nat.le_refl _) (Nat.le_refl _) rfl
    · rcases wk_c h with ⟨c33, h⟩ | ⟨c33, h⟩
      · refine J_tsIn (tgt := 101) X 28 c33 g6 d_Builtins_onLists_30 (by decide) (by decide) rfl (by decide) ?_
        refine J_aload_n X d_Builtins_onLists_101 rfl 3 rfl ?_
        refine J_get X (j_in in_Builtins) 12 rfl rfl 0 (by decide) (j_m own_Builtins_onLists (by decide +kernel)) rfl d_Builtins_onLists_102 ?_
        refine J_aload_n X d_Builtins_onLists_105 rfl 2 rfl ?_
        refine J_iload_n X d_Builtins_onLists_106 rfl 1 rfl ?_
        refine J_aload_n X d_Builtins_onLists_107 rfl 3 rfl ?_
        refine J_get X (j_in in_Builtins) 12 rfl rfl 0 (by decide) (j_m own_Builtins_onLists (by decide +kernel)) rfl d_Builtins_onLists_108 ?_
        refine J_aload_n X d_Builtins_onLists_111 rfl 3 rfl ?_
        refine J_get X (j_in in_Builtins) 12 rfl rfl 2 (by decide) (j_m own_Builtins_onLists (by decide +kernel)) rfl d_Builtins_onLists_112 ?_
        refine J_iconst X d_Builtins_onLists_115 ?_
        obtain ⟨g34, h⟩ := wk_g h
        refine J_iald X 13 0 rfl rfl g34 d_Builtins_onLists_116 ?_
        obtain ⟨r35, q36, h⟩ := wk_b h
        refine J_afterP (jrunV X (c_Values_rootOf (ad := ad) q36) jF0_k (fun _ _ _ _ => trivial) (jgV own_Builtins_onLists (by decide +kernel)) rfl rfl rfl pd_Values_rootOf (by decide) [0, 3] rfl (by decide) 0 4 rfl rfl rfl rfl (Nat.le_of_ble_eq_true rfl) d_Builtins_onLists_117 (by decide)) ?_
        obtain ⟨r37, D_top_38, D_forms_39, D_counts_40, D_numbers_41, D_nodes_42, D_depths_43, D_weights_44, q45, h⟩ := wk_b8 h
        refine J_afterI0 (ws' := [(ad 9, .inr (4, [.ref (ad 14), .ref (ad 16), .ref (ad 10), .ref (ad 11), .ref (ad 12), .ref (ad 13), .int (zI V_top)])), (ad 10, .inl (cI, 3201, .inl (zA V_kinds))), (ad 11, .inl (cL, 3201, .inr (.inl (zB V_numbers)))), (ad 12, .inl (cI, 3201, .inl (zA V_parts))), (ad 13, .inl (cI, 3201, .inl (zA V_links))), (ad 16, .inr (5, [.ref (ad 17), .ref (ad 18), .ref (ad 19), .ref (ad 20), .ref (ad 21), .ref (ad 22), .int (zI D_top_38)])), (ad 17, .inl (cI, 3201, .inl (zA D_forms_39))), (ad 18, .inl (cI, 3201, .inl (zA D_counts_40))), (ad 19, .inl (cL, 3201, .inr (.inl (zB D_numbers_41)))), (ad 20, .inl (cI, 3201, .inl (zA D_nodes_42))), (ad 21, .inl (cI, 3201, .inl (zA D_depths_43))), (ad 22, .inl (cI, 3201, .inl (zA D_weights_44))), (ad 31, .inr (9, [.ref (ad 9), .ref (ad 23), .ref (ad 32), .int (zI B_ready)])), (ad 32, .inl (cI, 3, .inl (zA B_given)))]) X (jrunV X (c_DataRow_prepend (ad := ad) q45) jF0_k (fun _ _ _ _ => trivial) (jgV own_Builtins_onLists (by decide +kernel)) rfl rfl rfl pd_DataRow_prepend (by decide) [5, 6, 7, 8, 9, 10, 11] rfl (by decide) 0 5 rfl rfl rfl rfl (Nat.le_of_ble_eq_true rfl) d_Builtins_onLists_120 (by decide)) [5, 6, 7, 8, 9, 10, 11] [0, 1, 2, 3, 4, 12, 13] [0, 1, 2, 3, 4, 7, 8, 9, 10, 11, 12, 13, 5, 6] rfl rfl (by decide) (by decide) rfl (by decide) ?_
        obtain ⟨r46, V_top_47, V_kinds_48, V_numbers_49, V_parts_50, V_links_51, q52, h⟩ := wk_b6 h
        refine J_afterI0 (ws' := [(ad 9, .inr (4, [.ref (ad 14), .ref (ad 16), .ref (ad 10), .ref (ad 11), .ref (ad 12), .ref (ad 13), .int (zI V_top_47)])), (ad 10, .inl (cI, 3201, .inl (zA V_kinds_48))), (ad 11, .inl (cL, 3201, .inr (.inl (zB V_numbers_49)))), (ad 12, .inl (cI, 3201, .inl (zA V_parts_50))), (ad 13, .inl (cI, 3201, .inl (zA V_links_51))), (ad 16, .inr (5, [.ref (ad 17), .ref (ad 18), .ref (ad 19), .ref (ad 20), .ref (ad 21), .ref (ad 22), .int (zI D_top_38)])), (ad 17, .inl (cI, 3201, .inl (zA D_forms_39))), (ad 18, .inl (cI, 3201, .inl (zA D_counts_40))), (ad 19, .inl (cL, 3201, .inr (.inl (zB D_numbers_41)))), (ad 20, .inl (cI, 3201, .inl (zA D_nodes_42))), (ad 21, .inl (cI, 3201, .inl (zA D_depths_43))), (ad 22, .inl (cI, 3201, .inl (zA D_weights_44))), (ad 31, .inr (9, [.ref (ad 9), .ref (ad 23), .ref (ad 32), .int (zI B_ready)])), (ad 32, .inl (cI, 3, .inl (zA B_given)))]) X (jrunV X (c_Values_ofData (ad := ad) q52) jF0_k (fun _ _ _ _ => trivial) (jgV own_Builtins_onLists (by decide +kernel)) rfl rfl rfl pd_Values_ofData (by decide) [0, 1, 2, 3, 4] rfl (by decide) 0 4 rfl rfl rfl rfl (Nat.le_of_ble_eq_true rfl) d_Builtins_onLists_123 (by decide)) [0, 1, 2, 3, 4] [5, 6, 7, 8, 9, 10, 11, 12, 13] [9, 10, 11, 12, 13, 0, 1, 2, 3, 4, 5, 6, 7, 8] rfl rfl (by decide) (by decide) rfl (by decide) ?_
        cases h
        exact J_ret E ⟨_, rfl, rfl⟩ d_Builtins_onLists_126 (Nat.le_refl _) (Nat.le_refl _) rfl
      · rcases wk_c h with ⟨c53, h⟩ | ⟨c53, h⟩
        · refine J_tsIn (tgt := 127) X 29 c53 g6 d_Builtins_onLists_30 (by decide) (by decide) rfl (by decide) ?_
          refine J_aload_n X d_Builtins_onLists_127 rfl 3 rfl ?_
          refine J_get X (j_in in_Builtins) 12 rfl rfl 0 (by decide) (j_m own_Builtins_onLists (by decide +kernel)) rfl d_Builtins_onLists_128 ?_
          refine J_iload X d_Builtins_onLists_131 0 rfl ?_
          refine J_if_ne (tgt := 140) X d_Builtins_onLists_133 (by decide) h (fun c54 h => ?_) (fun c54 h => ?_)
          · refine J_iconst X d_Builtins_onLists_140 ?_
            obtain ⟨r55, V_top_56, V_kinds_57, V_numbers_58, V_parts_59, V_links_60, q61, h⟩ := wk_b6 h
            refine J_afterI0 (ws' := [(ad 9, .inr (4, [.ref (ad 14), .ref (ad 16), .ref (ad 10), .ref (ad 11), .ref (ad 12), .ref (ad 13), .int (zI V_top_56)])), (ad 10, .inl (cI, 3201, .inl (zA V_kinds_57))), (ad 11, .inl (cL, 3201, .inr (.inl (zB V_numbers_58)))), (ad 12, .inl (cI, 3201, .inl (zA V_parts_59))), (ad 13, .inl (cI, 3201, .inl (zA V_links_60))), (ad 16, .inr (5, [.ref (ad 17), .ref (ad 18), .ref (ad 19), .ref (ad 20), .ref (ad 21), .ref (ad 22), .int (zI D_top)])), (ad 17, .inl (cI, 3201, .inl (zA D_forms))), (ad 18, .inl (cI, 3201, .inl (zA D_counts))), (ad 19, .inl (cL, 3201, .inr (.inl (zB D_numbers)))), (ad 20, .inl (cI, 3201, .inl (zA D_nodes))), (ad 21, .inl (cI, 3201, .inl (zA D_depths))), (ad 22, .inl (cI, 3201, .inl (zA D_weights))), (ad 31, .inr (9, [.ref (ad 9), .ref (ad 23), .ref (ad 32), .int (zI B_ready)])), (ad 32, .inl (cI, 3, .inl (zA B_given)))]) X (jrunV X (c_Values_ofTruth (ad := ad) q61) jF0_k (fun _ _ _ _ => trivial) (jgV own_Builtins_onLists (by decide +kernel)) rfl rfl rfl pd_Values_ofTruth (by decide) [0, 1, 2, 3, 4] rfl (by decide) 0 4 rfl rfl rfl rfl (Nat.le_of_ble_eq_true rfl) d_Builtins_onLists_141 (by decide)) [0, 1, 2, 3, 4] [5, 6, 7, 8, 9, 10, 11, 12, 13] [9, 10, 11, 12, 13, 0, 1, 2, 3, 4, 5, 6, 7, 8] rfl rfl (by decide) (by decide) rfl (by decide) ?_
            cases h
            exact J_ret E ⟨_, rfl, rfl⟩ d_Builtins_onLists_144 (Nat.le_refl _) (Nat.le_refl _) rfl
          · refine J_iconst X d_Builtins_onLists_136 ?_
            refine J_goto (tgt := 141) X d_Builtins_onLists_137 (by decide) ?_
            obtain ⟨r62, V_top_63, V_kinds_64, V_numbers_65, V_parts_66, V_links_67, q68, h⟩ := wk_b6 h
            refine J_afterI0 (ws' := [(ad 9, .inr (4, [.ref (ad 14), .ref (ad 16), .ref (ad 10), .ref (ad 11), .ref (ad 12), .ref (ad 13), .int (zI V_top_63)])), (ad 10, .inl (cI, 3201, .inl (zA V_kinds_64))), (ad 11, .inl (cL, 3201, .inr (.inl (zB V_numbers_65)))), (ad 12, .inl (cI, 3201, .inl (zA V_parts_66))), (ad 13, .inl (cI, 3201, .inl (zA V_links_67))), (ad 16, .inr (5, [.ref (ad 17), .ref (ad 18), .ref (ad 19), .ref (ad 20), .ref (ad 21), .ref (ad 22), .int (zI D_top)])), (ad 17, .inl (cI, 3201, .inl (zA D_forms))), (ad 18, .inl (cI, 3201, .inl (zA D_counts))), (ad 19, .inl (cL, 3201, .inr (.inl (zB D_numbers)))), (ad 20, .inl (cI, 3201, .inl (zA D_nodes))), (ad 21, .inl (cI, 3201, .inl (zA D_depths))), (ad 22, .inl (cI, 3201, .inl (zA D_weights))), (ad 31, .inr (9, [.ref (ad 9), .ref (ad 23), .ref (ad 32), .int (zI B_ready)])), (ad 32, .inl (cI, 3, .inl (zA B_given)))]) X (jrunV X (c_Values_ofTruth (ad := ad) q68) jF0_k (fun _ _ _ _ => trivial) (jgV own_Builtins_onLists (by decide +kernel)) rfl rfl rfl pd_Values_ofTruth (by decide) [0, 1, 2, 3, 4] rfl (by decide) 0 4 rfl rfl rfl rfl (Nat.le_of_ble_eq_true rfl) d_Builtins_onLists_141 (by decide)) [0, 1, 2, 3, 4] [5, 6, 7, 8, 9, 10, 11, 12, 13] [9, 10, 11, 12, 13, 0, 1, 2, 3, 4, 5, 6, 7, 8] rfl rfl (by decide) (by decide) rfl (by decide) ?_
            cases h
            exact J_ret E ⟨_, rfl, rfl⟩ d_Builtins_onLists_144 (Nat.le_refl _) (Nat.le_refl _) rfl
        · rcases wk_c h with ⟨c69, h⟩ | ⟨c69, h⟩
          · refine J_tsIn (tgt := 145) X 30 c69 g6 d_Builtins_onLists_30 (by decide) (by decide) rfl (by decide) ?_
            refine J_iload X d_Builtins_onLists_145 0 rfl ?_
            refine J_iconst X d_Builtins_onLists_147 ?_
            obtain ⟨g70, h⟩ := wk_g h
            refine J_irem X g70 d_Builtins_onLists_148 ?_
            refine J_if_ne (tgt := 173) X d_Builtins_onLists_149 (by decide) h (fun c71 h => ?_) (fun c71 h => ?_)
            · refine J_iconst X d_Builtins_onLists_173 ?_
              cases h
              exact J_ret E ⟨_, rfl, rfl⟩ d_Builtins_onLists_174 (Nat.le_refl _) (Nat.le_refl _) rfl
            · refine J_aload_n X d_Builtins_onLists_152 rfl 3 rfl ?_
              refine J_get X (j_in in_Builtins) 12 rfl rfl 0 (by decide) (j_m own_Builtins_onLists (by decide +kernel)) rfl d_Builtins_onLists_153 ?_
              refine J_aload_n X d_Builtins_onLists_156 rfl 2 rfl ?_
              refine J_iload_n X d_Builtins_onLists_157 rfl 1 rfl ?_
              refine J_iconst X d_Builtins_onLists_158 ?_
              refine J_lconst (v := 0) X d_Builtins_onLists_159 (by decide) ?_
              refine J_iload X d_Builtins_onLists_160 0 rfl ?_
              refine J_iconst X d_Builtins_onLists_162 ?_
              obtain ⟨g72, h⟩ := wk_g h
              refine J_idiv X g72 d_Builtins_onLists_163 ?_
              obtain ⟨r73, D_top_74, D_forms_75, D_counts_76, D_numbers_77, D_nodes_78, D_depths_79, D_weights_80, q81, h⟩ := wk_b8 h
              refine J_afterI0 (ws' := [(ad 9, .inr (4, [.ref (ad 14), .ref (ad 16), .ref (ad 10), .ref (ad 11), .ref (ad 12), .ref (ad 13), .int (zI V_top)])), (ad 10, .inl (cI, 3201, .inl (zA V_kinds))), (ad 11, .inl (cL, 3201, .inr (.inl (zB V_numbers)))), (ad 12, .inl (cI, 3201, .inl (zA V_parts))), (ad 13, .inl (cI, 3201, .inl (zA V_links))), (ad 16, .inr (5, [.ref (ad 17), .ref (ad 18), .ref (ad 19), .ref (ad 20), .ref (ad 21), .ref (ad 22), .int (zI D_top_74)])), (ad 17, .inl (cI, 3201, .inl (zA D_forms_75))), (ad 18, .inl (cI, 3201, .inl (zA D_counts_76))), (ad 19, .inl (cL, 3201, .inr (.inl (zB D_numbers_77)))), (ad 20, .inl (cI, 3201, .inl (zA D_nodes_78))), (ad 21, .inl (cI, 3201, .inl (zA D_depths_79))), (ad 22, .inl (cI, 3201, .inl (zA D_weights_80))), (ad 31, .inr (9, [.ref (ad 9), .ref (ad 23), .ref (ad 32), .int (zI B_ready)])), (ad 32, .inl (cI, 3, .inl (zA B_given)))]) X (jrunV X (c_DataRow_recast (ad := ad) q81) jF0_k (fun _ _ _ _ => trivial) (jgV own_Builtins_onLists (by decide +kernel)) rfl rfl rfl pd_DataRow_recast (by decide) [5, 6, 7, 8, 9, 10, 11] rfl (by decide) 0 5 rfl rfl rfl rfl (Nat.le_of_ble_eq_true rfl) d_Builtins_onLists_164 (by decide)) [5, 6, 7, 8, 9, 10, 11] [0, 1, 2, 3, 4, 12, 13] [0, 1, 2, 3, 4, 7, 8, 9, 10, 11, 12, 13, 5, 6] rfl rfl (by decide) (by decide) rfl (by decide) ?_
              obtain ⟨r82, V_top_83, V_kinds_84, V_numbers_85, V_parts_86, V_links_87, q88, h⟩ := wk_b6 h
              refine J_afterI0 (ws' := [(ad 9, .inr (4, [.ref (ad 14), .ref (ad 16), .ref (ad 10), .ref (ad 11), .ref (ad 12), .ref (ad 13), .int (zI V_top_83)])), (ad 10, .inl (cI, 3201, .inl (zA V_kinds_84))), (ad 11, .inl (cL, 3201, .inr (.inl (zB V_numbers_85)))), (ad 12, .inl (cI, 3201, .inl (zA V_parts_86))), (ad 13, .inl (cI, 3201, .inl (zA V_links_87))), (ad 16, .inr (5, [.ref (ad 17), .ref (ad 18), .ref (ad 19), .ref (ad 20), .ref (ad 21), .ref (ad 22), .int (zI D_top_74)])), (ad 17, .inl (cI, 3201, .inl (zA D_forms_75))), (ad 18, .inl (cI, 3201, .inl (zA D_counts_76))), (ad 19, .inl (cL, 3201, .inr (.inl (zB D_numbers_77)))), (ad 20, .inl (cI, 3201, .inl (zA D_nodes_78))), (ad 21, .inl (cI, 3201, .inl (zA D_depths_79))), (ad 22, .inl (cI, 3201, .inl (zA D_weights_80))), (ad 31, .inr (9, [.ref (ad 9), .ref (ad 23), .ref (ad 32), .int (zI B_ready)])), (ad 32, .inl (cI, 3, .inl (zA B_given)))]) X (jrunV X (c_Values_ofData (ad := ad) q88) jF0_k (fun _ _ _ _ => trivial) (jgV own_Builtins_onLists (by decide +kernel)) rfl rfl rfl pd_Values_ofData (by decide) [0, 1, 2, 3, 4] rfl (by decide) 0 4 rfl rfl rfl rfl (Nat.le_of_ble_eq_true rfl) d_Builtins_onLists_167 (by decide)) [0, 1, 2, 3, 4] [5, 6, 7, 8, 9, 10, 11, 12, 13] [9, 10, 11, 12, 13, 0, 1, 2, 3, 4, 5, 6, 7, 8] rfl rfl (by decide) (by decide) rfl (by decide) ?_
              refine J_goto (tgt := 174) X d_Builtins_onLists_170 (by decide) ?_
              cases h
              exact J_ret E ⟨_, rfl, rfl⟩ d_Builtins_onLists_174 (Nat.le_refl _) (Nat.le_refl _) rfl
          · rcases wk_c h with ⟨c89, h⟩ | ⟨c89, h⟩
            · refine J_tsIn (tgt := 175) X 31 c89 g6 d_Builtins_onLists_30 (by decide) (by decide) rfl (by decide) ?_
              refine J_aload_n X d_Builtins_onLists_175 rfl 3 rfl ?_
              refine J_get X (j_in in_Builtins) 12 rfl rfl 0 (by decide) (j_m own_Builtins_onLists (by decide +kernel)) rfl d_Builtins_onLists_176 ?_
              refine J_aload_n X d_Builtins_onLists_179 rfl 2 rfl ?_
              refine J_iload_n X d_Builtins_onLists_180 rfl 1 rfl ?_
              refine J_iconst X d_Builtins_onLists_181 ?_
              refine J_lconst (v := 0) X d_Builtins_onLists_182 (by decide) ?_
              refine J_iload X d_Builtins_onLists_183 0 rfl ?_
              refine J_iconst X d_Builtins_onLists_185 ?_
              refine J_imul X d_Builtins_onLists_186 ?_
              obtain ⟨r90, D_top_91, D_forms_92, D_counts_93, D_numbers_94, D_nodes_95, D_depths_96, D_weights_97, q98, h⟩ := wk_b8 h
              refine J_afterI0 (ws' := [(ad 9, .inr (4, [.ref (ad 14), .ref (ad 16), .ref (ad 10), .ref (ad 11), .ref (ad 12), .ref (ad 13), .int (zI V_top)])), (ad 10, .inl (cI, 3201, .inl (zA V_kinds))), (ad 11, .inl (cL, 3201, .inr (.inl (zB V_numbers)))), (ad 12, .inl (cI, 3201, .inl (zA V_parts))), (ad 13, .inl (cI, 3201, .inl (zA V_links))), (ad 16, .inr (5, [.ref (ad 17), .ref (ad 18), .ref (ad 19), .ref (ad 20), .ref (ad 21), .ref (ad 22), .int (zI D_top_91)])), (ad 17, .inl (cI, 3201, .inl (zA D_forms_92))), (ad 18, .inl (cI, 3201, .inl (zA D_counts_93))), (ad 19, .inl (cL, 3201, .inr (.inl (zB D_numbers_94)))), (ad 20, .inl (cI, 3201, .inl (zA D_nodes_95))), (ad 21, .inl (cI, 3201, .inl (zA D_depths_96))), (ad 22, .inl (cI, 3201, .inl (zA D_weights_97))), (ad 31, .inr (9, [.ref (ad 9), .ref (ad 23), .ref (ad 32), .int (zI B_ready)])), (ad 32, .inl (cI, 3, .inl (zA B_given)))]) X (jrunV X (c_DataRow_recast (ad := ad) q98) jF0_k (fun _ _ _ _ => trivial) (jgV own_Builtins_onLists (by decide +kernel)) rfl rfl rfl pd_DataRow_recast (by decide) [5, 6, 7, 8, 9, 10, 11] rfl (by decide) 0 5 rfl rfl rfl rfl (Nat.le_of_ble_eq_true rfl) d_Builtins_onLists_187 (by decide)) [5, 6, 7, 8, 9, 10, 11] [0, 1, 2, 3, 4, 12, 13] [0, 1, 2, 3, 4, 7, 8, 9, 10, 11, 12, 13, 5, 6] rfl rfl (by decide) (by decide) rfl (by decide) ?_
              obtain ⟨r99, V_top_100, V_kinds_101, V_numbers_102, V_parts_103, V_links_104, q105, h⟩ := wk_b6 h
              refine J_afterI0 (ws' := [(ad 9, .inr (4, [.ref (ad 14), .ref (ad 16), .ref (ad 10), .ref (ad 11), .ref (ad 12), .ref (ad 13), .int (zI V_top_100)])), (ad 10, .inl (cI, 3201, .inl (zA V_kinds_101))), (ad 11, .inl (cL, 3201, .inr (.inl (zB V_numbers_102)))), (ad 12, .inl (cI, 3201, .inl (zA V_parts_103))), (ad 13, .inl (cI, 3201, .inl (zA V_links_104))), (ad 16, .inr (5, [.ref (ad 17), .ref (ad 18), .ref (ad 19), .ref (ad 20), .ref (ad 21), .ref (ad 22), .int (zI D_top_91)])), (ad 17, .inl (cI, 3201, .inl (zA D_forms_92))), (ad 18, .inl (cI, 3201, .inl (zA D_counts_93))), (ad 19, .inl (cL, 3201, .inr (.inl (zB D_numbers_94)))), (ad 20, .inl (cI, 3201, .inl (zA D_nodes_95))), (ad 21, .inl (cI, 3201, .inl (zA D_depths_96))), (ad 22, .inl (cI, 3201, .inl (zA D_weights_97))), (ad 31, .inr (9, [.ref (ad 9), .ref (ad 23), .ref (ad 32), .int (zI B_ready)])), (ad 32, .inl (cI, 3, .inl (zA B_given)))]) X (jrunV X (c_Values_ofData (ad := ad) q105) jF0_k (fun _ _ _ _ => trivial) (jgV own_Builtins_onLists (by decide +kernel)) rfl rfl rfl pd_Values_ofData (by decide) [0, 1, 2, 3, 4] rfl (by decide) 0 4 rfl rfl rfl rfl (Nat.le_of_ble_eq_true rfl) d_Builtins_onLists_190 (by decide)) [0, 1, 2, 3, 4] [5, 6, 7, 8, 9, 10, 11, 12, 13] [9, 10, 11, 12, 13, 0, 1, 2, 3, 4, 5, 6, 7, 8] rfl rfl (by decide) (by decide) rfl (by decide) ?_
              cases h
              exact J_ret E ⟨_, rfl, rfl⟩ d_Builtins_onLists_193 (Nat.le_refl _) (Nat.le_refl _) rfl
            · refine J_tsOut (tgt := 194) X g6 d_Builtins_onLists_30 (by omega) (by decide) ?_
              refine J_iconst X d_Builtins_onLists_194 ?_
              cases h
              exact J_ret E ⟨_, rfl, rfl⟩ d_Builtins_onLists_195 (Nat.le_refl _) (Nat.le_refl _) rfl

theorem d_Builtins_perform_0 : decode b_Builtins_perform 0 = .ok (.aload_n 0, 1) := by decide +kernel
theorem d_Builtins_perform_1 : decode b_Builtins_perform 1 = .ok (.getfield 15, 3) := by decide +kernel
theorem d_Builtins_perform_4 : decode b_Builtins_perform 4 = .ok (.istore_n 1, 1) := by decide +kernel
theorem d_Builtins_perform_5 : decode b_Builtins_perform 5 = .ok (.aload_n 0, 1) := by decide +kernel
theorem d_Builtins_perform_6 : decode b_Builtins_perform 6 = .ok (.iconst (-1), 1) := by decide +kernel
theorem d_Builtins_perform_7 : decode b_Builtins_perform 7 = .ok (.putfield 15, 3) := by decide +kernel
theorem d_Builtins_perform_10 : decode b_Builtins_perform 10 = .ok (.aload_n 0, 1) := by decide +kernel
theorem d_Builtins_perform_11 : decode b_Builtins_perform 11 = .ok (.getfield 23, 3) := by decide +kernel
theorem d_Builtins_perform_14 : decode b_Builtins_perform 14 = .ok (.iconst 1, 1) := by decide +kernel
theorem d_Builtins_perform_15 : decode b_Builtins_perform 15 = .ok (.aload_n 0, 1) := by decide +kernel
theorem d_Builtins_perform_16 : decode b_Builtins_perform 16 = .ok (.iload_n 1, 1) := by decide +kernel
theorem d_Builtins_perform_17 : decode b_Builtins_perform 17 = .ok (.invokevirtual 58, 3) := by decide +kernel
theorem d_Builtins_perform_20 : decode b_Builtins_perform 20 = .ok (.iadd, 1) := by decide +kernel
theorem d_Builtins_perform_21 : decode b_Builtins_perform 21 = .ok (.invokevirtual 61, 3) := by decide +kernel
theorem d_Builtins_perform_24 : decode b_Builtins_perform 24 = .ok (.ifCond .ne 5, 3) := by decide +kernel
theorem d_Builtins_perform_27 : decode b_Builtins_perform 27 = .ok (.iconst (-1), 1) := by decide +kernel
theorem d_Builtins_perform_28 : decode b_Builtins_perform 28 = .ok (.ireturn, 1) := by decide +kernel
theorem d_Builtins_perform_29 : decode b_Builtins_perform 29 = .ok (.aload_n 0, 1) := by decide +kernel
theorem d_Builtins_perform_30 : decode b_Builtins_perform 30 = .ok (.iload_n 1, 1) := by decide +kernel
theorem d_Builtins_perform_31 : decode b_Builtins_perform 31 = .ok (.invokevirtual 64, 3) := by decide +kernel
theorem d_Builtins_perform_34 : decode b_Builtins_perform 34 = .ok (.ifCond .ne 13, 3) := by decide +kernel
theorem d_Builtins_perform_37 : decode b_Builtins_perform 37 = .ok (.aload_n 0, 1) := by decide +kernel
theorem d_Builtins_perform_38 : decode b_Builtins_perform 38 = .ok (.getfield 23, 3) := by decide +kernel
theorem d_Builtins_perform_41 : decode b_Builtins_perform 41 = .ok (.iconst 2, 1) := by decide +kernel
theorem d_Builtins_perform_42 : decode b_Builtins_perform 42 = .ok (.invokevirtual 67, 3) := by decide +kernel
theorem d_Builtins_perform_45 : decode b_Builtins_perform 45 = .ok (.iconst (-1), 1) := by decide +kernel
theorem d_Builtins_perform_46 : decode b_Builtins_perform 46 = .ok (.ireturn, 1) := by decide +kernel
theorem d_Builtins_perform_47 : decode b_Builtins_perform 47 = .ok (.iload_n 1, 1) := by decide +kernel
theorem d_Builtins_perform_48 : decode b_Builtins_perform 48 = .ok (.bipush 9, 2) := by decide +kernel
theorem d_Builtins_perform_50 : decode b_Builtins_perform 50 = .ok (.if_icmp .gt 38, 3) := by decide +kernel
theorem d_Builtins_perform_53 : decode b_Builtins_perform 53 = .ok (.aload_n 0, 1) := by decide +kernel
theorem d_Builtins_perform_54 : decode b_Builtins_perform 54 = .ok (.iload_n 1, 1) := by decide +kernel
theorem d_Builtins_perform_55 : decode b_Builtins_perform 55 = .ok (.aload_n 0, 1) := by decide +kernel
theorem d_Builtins_perform_56 : decode b_Builtins_perform 56 = .ok (.getfield 19, 3) := by decide +kernel
theorem d_Builtins_perform_59 : decode b_Builtins_perform 59 = .ok (.aload_n 0, 1) := by decide +kernel
theorem d_Builtins_perform_60 : decode b_Builtins_perform 60 = .ok (.getfield 11, 3) := by decide +kernel
theorem d_Builtins_perform_63 : decode b_Builtins_perform 63 = .ok (.iconst 0, 1) := by decide +kernel
theorem d_Builtins_perform_64 : decode b_Builtins_perform 64 = .ok (.iaload, 1) := by decide +kernel
theorem d_Builtins_perform_65 : decode b_Builtins_perform 65 = .ok (.invokevirtual 30, 3) := by decide +kernel
theorem d_Builtins_perform_68 : decode b_Builtins_perform 68 = .ok (.aload_n 0, 1) := by decide +kernel
theorem d_Builtins_perform_69 : decode b_Builtins_perform 69 = .ok (.getfield 19, 3) := by decide +kernel
theorem d_Builtins_perform_72 : decode b_Builtins_perform 72 = .ok (.aload_n 0, 1) := by decide +kernel
theorem d_Builtins_perform_73 : decode b_Builtins_perform 73 = .ok (.getfield 11, 3) := by decide +kernel
theorem d_Builtins_perform_76 : decode b_Builtins_perform 76 = .ok (.iconst 1, 1) := by decide +kernel
theorem d_Builtins_perform_77 : decode b_Builtins_perform 77 = .ok (.iaload, 1) := by decide +kernel
theorem d_Builtins_perform_78 : decode b_Builtins_perform 78 = .ok (.invokevirtual 30, 3) := by decide +kernel
theorem d_Builtins_perform_81 : decode b_Builtins_perform 81 = .ok (.invokevirtual 71, 3) := by decide +kernel
theorem d_Builtins_perform_84 : decode b_Builtins_perform 84 = .ok (.istore_n 2, 1) := by decide +kernel
theorem d_Builtins_perform_85 : decode b_Builtins_perform 85 = .ok (.goto 82, 3) := by decide +kernel
theorem d_Builtins_perform_88 : decode b_Builtins_perform 88 = .ok (.iload_n 1, 1) := by decide +kernel
theorem d_Builtins_perform_89 : decode b_Builtins_perform 89 = .ok (.bipush 15, 2) := by decide +kernel
theorem d_Builtins_perform_91 : decode b_Builtins_perform 91 = .ok (.if_icmp .gt 12, 3) := by decide +kernel
theorem d_Builtins_perform_94 : decode b_Builtins_perform 94 = .ok (.aload_n 0, 1) := by decide +kernel
theorem d_Builtins_perform_95 : decode b_Builtins_perform 95 = .ok (.iload_n 1, 1) := by decide +kernel
theorem d_Builtins_perform_96 : decode b_Builtins_perform 96 = .ok (.invokevirtual 75, 3) := by decide +kernel
theorem d_Builtins_perform_99 : decode b_Builtins_perform 99 = .ok (.istore_n 2, 1) := by decide +kernel
theorem d_Builtins_perform_100 : decode b_Builtins_perform 100 = .ok (.goto 67, 3) := by decide +kernel
theorem d_Builtins_perform_103 : decode b_Builtins_perform 103 = .ok (.iload_n 1, 1) := by decide +kernel
theorem d_Builtins_perform_104 : decode b_Builtins_perform 104 = .ok (.bipush 16, 2) := by decide +kernel
theorem d_Builtins_perform_106 : decode b_Builtins_perform 106 = .ok (.if_icmp .ne 40, 3) := by decide +kernel
theorem d_Builtins_perform_109 : decode b_Builtins_perform 109 = .ok (.aload_n 0, 1) := by decide +kernel
theorem d_Builtins_perform_110 : decode b_Builtins_perform 110 = .ok (.getfield 19, 3) := by decide +kernel
theorem d_Builtins_perform_113 : decode b_Builtins_perform 113 = .ok (.aload_n 0, 1) := by decide +kernel
theorem d_Builtins_perform_114 : decode b_Builtins_perform 114 = .ok (.getfield 11, 3) := by decide +kernel
theorem d_Builtins_perform_117 : decode b_Builtins_perform 117 = .ok (.iconst 0, 1) := by decide +kernel
theorem d_Builtins_perform_118 : decode b_Builtins_perform 118 = .ok (.iaload, 1) := by decide +kernel
theorem d_Builtins_perform_119 : decode b_Builtins_perform 119 = .ok (.invokevirtual 30, 3) := by decide +kernel
theorem d_Builtins_perform_122 : decode b_Builtins_perform 122 = .ok (.lconst 1, 1) := by decide +kernel
theorem d_Builtins_perform_123 : decode b_Builtins_perform 123 = .ok (.lcmp, 1) := by decide +kernel
theorem d_Builtins_perform_124 : decode b_Builtins_perform 124 = .ok (.ifCond .ne 12, 3) := by decide +kernel
theorem d_Builtins_perform_127 : decode b_Builtins_perform 127 = .ok (.aload_n 0, 1) := by decide +kernel
theorem d_Builtins_perform_128 : decode b_Builtins_perform 128 = .ok (.getfield 11, 3) := by decide +kernel
theorem d_Builtins_perform_131 : decode b_Builtins_perform 131 = .ok (.iconst 1, 1) := by decide +kernel
theorem d_Builtins_perform_132 : decode b_Builtins_perform 132 = .ok (.iaload, 1) := by decide +kernel
theorem d_Builtins_perform_133 : decode b_Builtins_perform 133 = .ok (.goto 9, 3) := by decide +kernel
theorem d_Builtins_perform_136 : decode b_Builtins_perform 136 = .ok (.aload_n 0, 1) := by decide +kernel
theorem d_Builtins_perform_137 : decode b_Builtins_perform 137 = .ok (.getfield 11, 3) := by decide +kernel
theorem d_Builtins_perform_140 : decode b_Builtins_perform 140 = .ok (.iconst 2, 1) := by decide +kernel
theorem d_Builtins_perform_141 : decode b_Builtins_perform 141 = .ok (.iaload, 1) := by decide +kernel
theorem d_Builtins_perform_142 : decode b_Builtins_perform 142 = .ok (.istore_n 2, 1) := by decide +kernel
theorem d_Builtins_perform_143 : decode b_Builtins_perform 143 = .ok (.goto 24, 3) := by decide +kernel
theorem d_Builtins_perform_146 : decode b_Builtins_perform 146 = .ok (.iload_n 1, 1) := by decide +kernel
theorem d_Builtins_perform_147 : decode b_Builtins_perform 147 = .ok (.bipush 25, 2) := by decide +kernel
theorem d_Builtins_perform_149 : decode b_Builtins_perform 149 = .ok (.if_icmp .gt 12, 3) := by decide +kernel
theorem d_Builtins_perform_152 : decode b_Builtins_perform 152 = .ok (.aload_n 0, 1) := by decide +kernel
theorem d_Builtins_perform_153 : decode b_Builtins_perform 153 = .ok (.iload_n 1, 1) := by decide +kernel
theorem d_Builtins_perform_154 : decode b_Builtins_perform 154 = .ok (.invokevirtual 78, 3) := by decide +kernel
theorem d_Builtins_perform_157 : decode b_Builtins_perform 157 = .ok (.istore_n 2, 1) := by decide +kernel
theorem d_Builtins_perform_158 : decode b_Builtins_perform 158 = .ok (.goto 9, 3) := by decide +kernel
theorem d_Builtins_perform_161 : decode b_Builtins_perform 161 = .ok (.aload_n 0, 1) := by decide +kernel
theorem d_Builtins_perform_162 : decode b_Builtins_perform 162 = .ok (.iload_n 1, 1) := by decide +kernel
theorem d_Builtins_perform_163 : decode b_Builtins_perform 163 = .ok (.invokevirtual 81, 3) := by decide +kernel
theorem d_Builtins_perform_166 : decode b_Builtins_perform 166 = .ok (.istore_n 2, 1) := by decide +kernel
theorem d_Builtins_perform_167 : decode b_Builtins_perform 167 = .ok (.iload_n 2, 1) := by decide +kernel
theorem d_Builtins_perform_168 : decode b_Builtins_perform 168 = .ok (.iconst (-1), 1) := by decide +kernel
theorem d_Builtins_perform_169 : decode b_Builtins_perform 169 = .ok (.if_icmp .ne 13, 3) := by decide +kernel
theorem d_Builtins_perform_172 : decode b_Builtins_perform 172 = .ok (.aload_n 0, 1) := by decide +kernel
theorem d_Builtins_perform_173 : decode b_Builtins_perform 173 = .ok (.getfield 23, 3) := by decide +kernel
theorem d_Builtins_perform_176 : decode b_Builtins_perform 176 = .ok (.iconst 3, 1) := by decide +kernel
theorem d_Builtins_perform_177 : decode b_Builtins_perform 177 = .ok (.invokevirtual 67, 3) := by decide +kernel
theorem d_Builtins_perform_180 : decode b_Builtins_perform 180 = .ok (.iconst (-1), 1) := by decide +kernel
theorem d_Builtins_perform_181 : decode b_Builtins_perform 181 = .ok (.ireturn, 1) := by decide +kernel
theorem d_Builtins_perform_182 : decode b_Builtins_perform 182 = .ok (.aload_n 0, 1) := by decide +kernel
theorem d_Builtins_perform_183 : decode b_Builtins_perform 183 = .ok (.getfield 23, 3) := by decide +kernel
theorem d_Builtins_perform_186 : decode b_Builtins_perform 186 = .ok (.aload_n 0, 1) := by decide +kernel
theorem d_Builtins_perform_187 : decode b_Builtins_perform 187 = .ok (.getfield 19, 3) := by decide +kernel
theorem d_Builtins_perform_190 : decode b_Builtins_perform 190 = .ok (.iload_n 2, 1) := by decide +kernel
theorem d_Builtins_perform_191 : decode b_Builtins_perform 191 = .ok (.invokevirtual 84, 3) := by decide +kernel
theorem d_Builtins_perform_194 : decode b_Builtins_perform 194 = .ok (.invokevirtual 44, 3) := by decide +kernel
theorem d_Builtins_perform_197 : decode b_Builtins_perform 197 = .ok (.ifCond .eq 7, 3) := by decide +kernel
theorem d_Builtins_perform_200 : decode b_Builtins_perform 200 = .ok (.iload_n 2, 1) := by decide +kernel
theorem d_Builtins_perform_201 : decode b_Builtins_perform 201 = .ok (.goto 4, 3) := by decide +kernel
theorem d_Builtins_perform_204 : decode b_Builtins_perform 204 = .ok (.iconst (-1), 1) := by decide +kernel
theorem d_Builtins_perform_205 : decode b_Builtins_perform 205 = .ok (.ireturn, 1) := by decide +kernel
def f_Builtins_perform (N : Nat) (V_top : Int) (V_kinds : Int → Int) (V_numbers : Int → Int) (V_parts : Int → Int) (V_links : Int → Int) (VB_top : Int) (VB_row : Int → Int) (D_top : Int) (D_forms : Int → Int) (D_counts : Int → Int) (D_numbers : Int → Int) (D_nodes : Int → Int) (D_depths : Int → Int) (D_weights : Int → Int) (M_steps : Int) (M_memory : Int) (M_mostSteps : Int) (M_mostMemory : Int) (M_fault : Int) (B_ready : Int) (B_given : Int → Int) : Option (Int × Int × (Int → Int) × (Int → Int) × (Int → Int) × (Int → Int) × Int × (Int → Int) × Int × (Int → Int) × (Int → Int) × (Int → Int) × (Int → Int) × (Int → Int) × (Int → Int) × Int × Int × Int × Int) :=
  Option.bind (f_Builtins_sizeOfGiven N V_top V_kinds V_parts V_links D_top D_nodes D_weights B_given B_ready) (fun r1 =>
   ob3 (f_Meter_paySteps M_steps M_mostSteps M_fault (1 + r1)) (fun r3 M_steps_4 M_fault_5 =>
    if rI r3 = true then (if r3 = 0 then (
     some ((-1), V_top, V_kinds, V_numbers, V_parts, V_links, VB_top, VB_row, D_top, D_forms, D_counts, D_numbers, D_nodes, D_depths, D_weights, M_steps_4, M_memory, M_fault_5, (-1))) else (
     Option.bind (f_Builtins_allFit N V_top V_kinds V_parts D_top D_forms B_given B_ready) (fun r8 =>
      if rI r8 = true then (if r8 = 0 then (
       Option.bind (f_Meter_fail M_fault_5 2) (fun M_fault_131 =>
        some ((-1), V_top, V_kinds, V_numbers, V_parts, V_links, VB_top, VB_row, D_top, D_forms, D_counts, D_numbers, D_nodes, D_depths, D_weights, M_steps_4, M_memory, M_fault_131, (-1)))) else (
       if jr2 B_ready 9 = true then (if 9 < B_ready then (
        if jr2 B_ready 15 = true then (if 15 < B_ready then (
         if jr2 B_ready 16 = true then (if B_ready = 16 then (
          if jix 0 3 = true then (
           Option.bind (f_Values_numberOf V_top V_numbers (B_given 0)) (fun r64 =>
            if jl2 r64 1 = true then (if r64 = 1 then (
             if jix 1 3 = true then (
              if jr2 (B_given 1) (-1) = true then (if (B_given 1) = (-1) then (
               Option.bind (f_Meter_fail M_fault_5 3) (fun M_fault_87 =>
                some ((-1), V_top, V_kinds, V_numbers, V_parts, V_links, VB_top, VB_row, D_top, D_forms, D_counts, D_numbers, D_nodes, D_depths, D_weights, M_steps_4, M_memory, M_fault_87, (-1)))) else (
               Option.bind (f_Values_sizeOf V_top V_kinds V_parts V_links D_top D_nodes D_weights (B_given 1)) (fun r80 =>
                ob3 (f_Meter_payMemory M_memory M_mostMemory M_fault_5 r80) (fun r82 M_memory_83 M_fault_84 =>
                 if rI r82 = true then (if r82 = 0 then (
                  some ((-1), V_top, V_kinds, V_numbers, V_parts, V_links, VB_top, VB_row, D_top, D_forms, D_counts, D_numbers, D_nodes, D_depths, D_weights, M_steps_4, M_memory_83, M_fault_84, (-1))) else (
                  some ((B_given 1), V_top, V_kinds, V_numbers, V_parts, V_links, VB_top, VB_row, D_top, D_forms, D_counts, D_numbers, D_nodes, D_depths, D_weights, M_steps_4, M_memory_83, M_fault_84, (-1)))) else none)))) else none) else none) else (
             if jix 2 3 = true then (
              if jr2 (B_given 2) (-1) = true then (if (B_given 2) = (-1) then (
               Option.bind (f_Meter_fail M_fault_5 3) (fun M_fault_76 =>
                some ((-1), V_top, V_kinds, V_numbers, V_parts, V_links, VB_top, VB_row, D_top, D_forms, D_counts, D_numbers, D_nodes, D_depths, D_weights, M_steps_4, M_memory, M_fault_76, (-1)))) else (
               Option.bind (f_Values_sizeOf V_top V_kinds V_parts V_links D_top D_nodes D_weights (B_given 2)) (fun r69 =>
                ob3 (f_Meter_payMemory M_memory M_mostMemory M_fault_5 r69) (fun r71 M_memory_72 M_fault_73 =>
                 if rI r71 = true then (if r71 = 0 then (
                  some ((-1), V_top, V_kinds, V_numbers, V_parts, V_links, VB_top, VB_row, D_top, D_forms, D_counts, D_numbers, D_nodes, D_depths, D_weights, M_steps_4, M_memory_72, M_fault_73, (-1))) else (
                  some ((B_given 2), V_top, V_kinds, V_numbers, V_parts, V_links, VB_top, VB_row, D_top, D_forms, D_counts, D_numbers, D_nodes, D_depths, D_weights, M_steps_4, M_memory_72, M_fault_73, (-1)))) else none)))) else none) else none)) else none)) else none) else (
          if jr2 B_ready 25 = true then (if 25 < B_ready then (
           ob13 (f_Builtins_onLists N V_top V_kinds V_numbers V_parts V_links D_top D_forms D_counts D_numbers D_nodes D_depths D_weights B_given B_ready) (fun r15 V_top_16 V_kinds_17 V_numbers_18 V_parts_19 V_links_20 D_top_21 D_forms_22 D_counts_23 D_numbers_24 D_nodes_25 D_depths_26 D_weights_27 =>
            if jr2 r15 (-1) = true then (if r15 = (-1) then (
             Option.bind (f_Meter_fail M_fault_5 3) (fun M_fault_37 =>
              some ((-1), V_top_16, V_kinds_17, V_numbers_18, V_parts_19, V_links_20, VB_top, VB_row, D_top_21, D_forms_22, D_counts_23, D_numbers_24, D_nodes_25, D_depths_26, D_weights_27, M_steps_4, M_memory, M_fault_37, (-1)))) else (
             Option.bind (f_Values_sizeOf V_top_16 V_kinds_17 V_parts_19 V_links_20 D_top_21 D_nodes_25 D_weights_27 r15) (fun r30 =>
              ob3 (f_Meter_payMemory M_memory M_mostMemory M_fault_5 r30) (fun r32 M_memory_33 M_fault_34 =>
               if rI r32 = true then (if r32 = 0 then (
                some ((-1), V_top_16, V_kinds_17, V_numbers_18, V_parts_19, V_links_20, VB_top, VB_row, D_top_21, D_forms_22, D_counts_23, D_numbers_24, D_nodes_25, D_depths_26, D_weights_27, M_steps_4, M_memory_33, M_fault_34, (-1))) else (
                some (r15, V_top_16, V_kinds_17, V_numbers_18, V_parts_19, V_links_20, VB_top, VB_row, D_top_21, D_forms_22, D_counts_23, D_numbers_24, D_nodes_25, D_depths_26, D_weights_27, M_steps_4, M_memory_33, M_fault_34, (-1)))) else none)))) else none)) else (
           ob13 (f_Builtins_onData N V_top V_kinds V_numbers V_parts V_links VB_row D_top D_forms D_counts D_numbers D_nodes D_depths D_weights B_given B_ready) (fun r39 V_top_40 V_kinds_41 V_numbers_42 V_parts_43 V_links_44 D_top_45 D_forms_46 D_counts_47 D_numbers_48 D_nodes_49 D_depths_50 D_weights_51 =>
            if jr2 r39 (-1) = true then (if r39 = (-1) then (
             Option.bind (f_Meter_fail M_fault_5 3) (fun M_fault_61 =>
              some ((-1), V_top_40, V_kinds_41, V_numbers_42, V_parts_43, V_links_44, VB_top, VB_row, D_top_45, D_forms_46, D_counts_47, D_numbers_48, D_nodes_49, D_depths_50, D_weights_51, M_steps_4, M_memory, M_fault_61, (-1)))) else (
             Option.bind (f_Values_sizeOf V_top_40 V_kinds_41 V_parts_43 V_links_44 D_top_45 D_nodes_49 D_weights_51 r39) (fun r54 =>
              ob3 (f_Meter_payMemory M_memory M_mostMemory M_fault_5 r54) (fun r56 M_memory_57 M_fault_58 =>
               if rI r56 = true then (if r56 = 0 then (
                some ((-1), V_top_40, V_kinds_41, V_numbers_42, V_parts_43, V_links_44, VB_top, VB_row, D_top_45, D_forms_46, D_counts_47, D_numbers_48, D_nodes_49, D_depths_50, D_weights_51, M_steps_4, M_memory_57, M_fault_58, (-1))) else (
                some (r39, V_top_40, V_kinds_41, V_numbers_42, V_parts_43, V_links_44, VB_top, VB_row, D_top_45, D_forms_46, D_counts_47, D_numbers_48, D_nodes_49, D_depths_50, D_weights_51, M_steps_4, M_memory_57, M_fault_58, (-1)))) else none)))) else none))) else none)) else none) else (
         ob8 (f_Builtins_onBytes N V_top V_kinds V_numbers V_parts V_links VB_top VB_row B_given B_ready) (fun r89 V_top_90 V_kinds_91 V_numbers_92 V_parts_93 V_links_94 VB_top_95 VB_row_96 =>
          if jr2 r89 (-1) = true then (if r89 = (-1) then (
           Option.bind (f_Meter_fail M_fault_5 3) (fun M_fault_106 =>
            some ((-1), V_top_90, V_kinds_91, V_numbers_92, V_parts_93, V_links_94, VB_top_95, VB_row_96, D_top, D_forms, D_counts, D_numbers, D_nodes, D_depths, D_weights, M_steps_4, M_memory, M_fault_106, (-1)))) else (
           Option.bind (f_Values_sizeOf V_top_90 V_kinds_91 V_parts_93 V_links_94 D_top D_nodes D_weights r89) (fun r99 =>
            ob3 (f_Meter_payMemory M_memory M_mostMemory M_fault_5 r99) (fun r101 M_memory_102 M_fault_103 =>
             if rI r101 = true then (if r101 = 0 then (
              some ((-1), V_top_90, V_kinds_91, V_numbers_92, V_parts_93, V_links_94, VB_top_95, VB_row_96, D_top, D_forms, D_counts, D_numbers, D_nodes, D_depths, D_weights, M_steps_4, M_memory_102, M_fault_103, (-1))) else (
              some (r89, V_top_90, V_kinds_91, V_numbers_92, V_parts_93, V_links_94, VB_top_95, VB_row_96, D_top, D_forms, D_counts, D_numbers, D_nodes, D_depths, D_weights, M_steps_4, M_memory_102, M_fault_103, (-1)))) else none)))) else none))) else none) else (
        if jix 0 3 = true then (
         Option.bind (f_Values_numberOf V_top V_numbers (B_given 0)) (fun r109 =>
          if jix 1 3 = true then (
           Option.bind (f_Values_numberOf V_top V_numbers (B_given 1)) (fun r112 =>
            ob6 (f_Builtins_onIntegers V_top V_kinds V_numbers V_parts V_links B_ready r109 r112) (fun r114 V_top_115 V_kinds_116 V_numbers_117 V_parts_118 V_links_119 =>
             if jr2 r114 (-1) = true then (if r114 = (-1) then (
              Option.bind (f_Meter_fail M_fault_5 3) (fun M_fault_129 =>
               some ((-1), V_top_115, V_kinds_116, V_numbers_117, V_parts_118, V_links_119, VB_top, VB_row, D_top, D_forms, D_counts, D_numbers, D_nodes, D_depths, D_weights, M_steps_4, M_memory, M_fault_129, (-1)))) else (
              Option.bind (f_Values_sizeOf V_top_115 V_kinds_116 V_parts_118 V_links_119 D_top D_nodes D_weights r114) (fun r122 =>
               ob3 (f_Meter_payMemory M_memory M_mostMemory M_fault_5 r122) (fun r124 M_memory_125 M_fault_126 =>
                if rI r124 = true then (if r124 = 0 then (
                 some ((-1), V_top_115, V_kinds_116, V_numbers_117, V_parts_118, V_links_119, VB_top, VB_row, D_top, D_forms, D_counts, D_numbers, D_nodes, D_depths, D_weights, M_steps_4, M_memory_125, M_fault_126, (-1))) else (
                 some (r114, V_top_115, V_kinds_116, V_numbers_117, V_parts_118, V_links_119, VB_top, VB_row, D_top, D_forms, D_counts, D_numbers, D_nodes, D_depths, D_weights, M_steps_4, M_memory_125, M_fault_126, (-1)))) else none)))) else none))) else none)) else none)) else none)) else none))) else none))
set_option maxHeartbeats 4000000 in
set_option maxRecDepth 100000 in
theorem c_Builtins_perform {l : Launch} {D : va_G} {cI cL cB : ClassId} {ad : Nat → Nat} {adK adV : Nat → Nat} {ro : Nat} {N : Nat} {V_top : Int} {V_kinds : Int → Int} {V_numbers : Int → Int} {V_parts : Int → Int} {V_links : Int → Int} {VB_top : Int} {VB_row : Int → Int} {D_top : Int} {D_forms : Int → Int} {D_counts : Int → Int} {D_numbers : Int → Int} {D_nodes : Int → Int} {D_depths : Int → Int} {D_weights : Int → Int} {M_steps : Int} {M_memory : Int} {M_mostSteps : Int} {M_mostMemory : Int} {M_fault : Int} {B_ready : Int} {B_given : Int → Int} {out : Int × Int × (Int → Int) × (Int → Int) × (Int → Int) × (Int → Int) × Int × (Int → Int) × Int × (Int → Int) × (Int → Int) × (Int → Int) × (Int → Int) × (Int → Int) × (Int → Int) × Int × Int × Int × Int} (h : f_Builtins_perform N V_top V_kinds V_numbers V_parts V_links VB_top VB_row D_top D_forms D_counts D_numbers D_nodes D_depths D_weights M_steps M_memory M_mostSteps M_mostMemory M_fault B_ready B_given = some out) : CT (jFs adK adV ro) false l D [(cI, .int), (cL, .long), (cB, .byte)] y_Builtins_perform w_Builtins_perform ({ frames := 5, cells := 0, slots := 0, locals := 155 } : Room) [.ref (ad 31)] [(ad 9, .inr (4, [.ref (ad 14), .ref (ad 16), .ref (ad 10), .ref (ad 11), .ref (ad 12), .ref (ad 13), .int (zI V_top)])), (ad 10, .inl (cI, 3201, .inl (zA V_kinds))), (ad 11, .inl (cL, 3201, .inr (.inl (zB V_numbers)))), (ad 12, .inl (cI, 3201, .inl (zA V_parts))), (ad 13, .inl (cI, 3201, .inl (zA V_links))), (ad 14, .inr (2, [.ref (ad 15), .int (zI VB_top)])), (ad 15, .inl (cB, 36864, .inl (zA VB_row))), (ad 16, .inr (5, [.ref (ad 17), .ref (ad 18), .ref (ad 19), .ref (ad 20), .ref (ad 21), .ref (ad 22), .int (zI D_top)])), (ad 17, .inl (cI, 3201, .inl (zA D_forms))), (ad 18, .inl (cI, 3201, .inl (zA D_counts))), (ad 19, .inl (cL, 3201, .inr (.inl (zB D_numbers)))), (ad 20, .inl (cI, 3201, .inl (zA D_nodes))), (ad 21, .inl (cI, 3201, .inl (zA D_depths))), (ad 22, .inl (cI, 3201, .inl (zA D_weights))), (ad 23, .inr (6, [.int (zI M_steps), .int (zI M_memory), .int (zI M_mostSteps), .int (zI M_mostMemory), .int (zI M_fault)])), (ad 31, .inr (9, [.ref (ad 9), .ref (ad 23), .ref (ad 32), .int (zI B_ready)])), (ad 32, .inl (cI, 3, .inl (zA B_given)))] (some (.int (zI out.1))) [(ad 9, .inr (4, [.ref (ad 14), .ref (ad 16), .ref (ad 10), .ref (ad 11), .ref (ad 12), .ref (ad 13), .int (zI (out.2.1))])), (ad 10, .inl (cI, 3201, .inl (zA (out.2.2.1)))), (ad 11, .inl (cL, 3201, .inr (.inl (zB (out.2.2.2.1))))), (ad 12, .inl (cI, 3201, .inl (zA (out.2.2.2.2.1)))), (ad 13, .inl (cI, 3201, .inl (zA (out.2.2.2.2.2.1)))), (ad 14, .inr (2, [.ref (ad 15), .int (zI (out.2.2.2.2.2.2.1))])), (ad 15, .inl (cB, 36864, .inl (zA (out.2.2.2.2.2.2.2.1)))), (ad 16, .inr (5, [.ref (ad 17), .ref (ad 18), .ref (ad 19), .ref (ad 20), .ref (ad 21), .ref (ad 22), .int (zI (out.2.2.2.2.2.2.2.2.1))])), (ad 17, .inl (cI, 3201, .inl (zA (out.2.2.2.2.2.2.2.2.2.1)))), (ad 18, .inl (cI, 3201, .inl (zA (out.2.2.2.2.2.2.2.2.2.2.1)))), (ad 19, .inl (cL, 3201, .inr (.inl (zB (out.2.2.2.2.2.2.2.2.2.2.2.1))))), (ad 20, .inl (cI, 3201, .inl (zA (out.2.2.2.2.2.2.2.2.2.2.2.2.1)))), (ad 21, .inl (cI, 3201, .inl (zA (out.2.2.2.2.2.2.2.2.2.2.2.2.2.1)))), (ad 22, .inl (cI, 3201, .inl (zA (out.2.2.2.2.2.2.2.2.2.2.2.2.2.2.1)))), (ad 23, .inr (6, [.int (zI (out.2.2.2.2.2.2.2.2.2.2.2.2.2.2.2.1)), .int (zI (out.2.2.2.2.2.2.2.2.2.2.2.2.2.2.2.2.1)), .int (zI M_mostSteps), .int (zI M_mostMemory), .int (zI (out.2.2.2.2.2.2.2.2.2.2.2.2.2.2.2.2.2.1))])), (ad 31, .inr (9, [.ref (ad 9), .ref (ad 23), .ref (ad 32), .int (zI (out.2.2.2.2.2.2.2.2.2.2.2.2.2.2.2.2.2.2))])), (ad 32, .inl (cI, 3, .inl (zA B_given)))] 0 0 := by
  refine CT_of_J (cc := b_Builtins_perform) (maxL := 3) (ret := (some .int)) jFs_k (plainFor_of_name (by decide)) rfl (Nat.le_of_ble_eq_true rfl) ?_
  intro K hKl hKD X E
  subst hKl; subst hKD
  unfold f_Builtins_perform at h
  refine J_aload_n X d_Builtins_perform_0 rfl 0 rfl ?_
  refine J_get X (j_in in_Builtins) 15 rfl rfl 3 (by decide) (j_m own_Builtins_perform (by decide +kernel)) rfl d_Builtins_perform_1 ?_
  refine J_istore_n (lv' := [(1, .int (zI B_ready)), (0, .ref (ad 31))]) X d_Builtins_perform_4 rfl (by decide) rfl ?_
  refine J_aload_n X d_Builtins_perform_5 rfl 1 rfl ?_
  refine J_iconst X d_Builtins_perform_6 ?_
  refine J_put (ws' := [(ad 9, .inr (4, [.ref (ad 14), .ref (ad 16), .ref (ad 10), .ref (ad 11), .ref (ad 12), .ref (ad 13), .int (zI V_top)])), (ad 10, .inl (cI, 3201, .inl (zA V_kinds))), (ad 11, .inl (cL, 3201, .inr (.inl (zB V_numbers)))), (ad 12, .inl (cI, 3201, .inl (zA V_parts))), (ad 13, .inl (cI, 3201, .inl (zA V_links))), (ad 14, .inr (2, [.ref (ad 15), .int (zI VB_top)])), (ad 15, .inl (cB, 36864, .inl (zA VB_row))), (ad 16, .inr (5, [.ref (ad 17), .ref (ad 18), .ref (ad 19), .ref (ad 20), .ref (ad 21), .ref (ad 22), .int (zI D_top)])), (ad 17, .inl (cI, 3201, .inl (zA D_forms))), (ad 18, .inl (cI, 3201, .inl (zA D_counts))), (ad 19, .inl (cL, 3201, .inr (.inl (zB D_numbers)))), (ad 20, .inl (cI, 3201, .inl (zA D_nodes))), (ad 21, .inl (cI, 3201, .inl (zA D_depths))), (ad 22, .inl (cI, 3201, .inl (zA D_weights))), (ad 23, .inr (6, [.int (zI M_steps), .int (zI M_memory), .int (zI M_mostSteps), .int (zI M_mostMemory), .int (zI M_fault)])), (ad 31, .inr (9, [.ref (ad 9), .ref (ad 23), .ref (ad 32), .int (zI (-1))])), (ad 32, .inl (cI, 3, .inl (zA B_given)))]) X (j_in in_Builtins) ty_Builtins tok_Builtins nm_Builtins 15 rfl rfl 3 (by decide) (j_m own_Builtins_perform (by decide +kernel)) rfl rfl rfl (Nat.le_of_ble_eq_true rfl) d_Builtins_perform_7 rfl ?_
  refine J_aload_n X d_Builtins_perform_10 rfl 1 rfl ?_
  refine J_get X (j_in in_Builtins) 15 rfl rfl 1 (by decide) (j_m own_Builtins_perform (by decide +kernel)) rfl d_Builtins_perform_11 ?_
  refine J_iconst X d_Builtins_perform_14 ?_
  refine J_aload_n X d_Builtins_perform_15 rfl 1 rfl ?_
  refine J_iload_n X d_Builtins_perform_16 rfl 0 rfl ?_
  obtain ⟨r1, q2, h⟩ := wk_b h
  refine J_afterP (jrunV X (c_Builtins_sizeOfGiven (ad := ad) q2) jFs_k (fun _ _ _ h => h) (jgV own_Builtins_perform (by decide +kernel)) rfl rfl rfl pd_Builtins_sizeOfGiven (by decide) [0, 1, 3, 4, 7, 11, 13, 15, 16] rfl (by decide) 7 9 rfl rfl rfl rfl (Nat.le_of_ble_eq_true rfl) d_Builtins_perform_17 (by decide)) ?_
  refine J_iadd X d_Builtins_perform_20 ?_
  obtain ⟨r3, M_steps_4, M_fault_5, q6, h⟩ := wk_b3 h
  refine J_afterI0 (ws' := [(ad 9, .inr (4, [.ref (ad 14), .ref (ad 16), .ref (ad 10), .ref (ad 11), .ref (ad 12), .ref (ad 13), .int (zI V_top)])), (ad 10, .inl (cI, 3201, .inl (zA V_kinds))), (ad 11, .inl (cL, 3201, .inr (.inl (zB V_numbers)))), (ad 12, .inl (cI, 3201, .inl (zA V_parts))), (ad 13, .inl (cI, 3201, .inl (zA V_links))), (ad 14, .inr (2, [.ref (ad 15), .int (zI VB_top)])), (ad 15, .inl (cB, 36864, .inl (zA VB_row))), (ad 16, .inr (5, [.ref (ad 17), .ref (ad 18), .ref (ad 19), .ref (ad 20), .ref (ad 21), .ref (ad 22), .int (zI D_top)])), (ad 17, .inl (cI, 3201, .inl (zA D_forms))), (ad 18, .inl (cI, 3201, .inl (zA D_counts))), (ad 19, .inl (cL, 3201, .inr (.inl (zB D_numbers)))), (ad 20, .inl (cI, 3201, .inl (zA D_nodes))), (ad 21, .inl (cI, 3201, .inl (zA D_depths))), (ad 22, .inl (cI, 3201, .inl (zA D_weights))), (ad 23, .inr (6, [.int (zI M_steps_4), .int (zI M_memory), .int (zI M_mostSteps), .int (zI M_mostMemory), .int (zI M_fault_5)])), (ad 31, .inr (9, [.ref (ad 9), .ref (ad 23), .ref (ad 32), .int (zI (-1))])), (ad 32, .inl (cI, 3, .inl (zA B_given)))]) X (jrunV X (c_Meter_paySteps (ad := ad) q6) jF0_k (fun _ _ _ _ => trivial) (jgV own_Builtins_perform (by decide +kernel)) rfl rfl rfl pd_Meter_paySteps (by decide) [14] rfl (by decide) 0 6 rfl rfl rfl rfl (Nat.le_of_ble_eq_true rfl) d_Builtins_perform_21 (by decide)) [14] [0, 1, 2, 3, 4, 5, 6, 7, 8, 9, 10, 11, 12, 13, 15, 16] [0, 1, 2, 3, 4, 5, 6, 7, 8, 9, 10, 11, 12, 13, 16, 14, 15] rfl rfl (by decide) (by decide) rfl (by decide) ?_
  refine J_if_ne (tgt := 29) X d_Builtins_perform_24 (by decide) h (fun c7 h => ?_) (fun c7 h => ?_)
  · refine J_aload_n X d_Builtins_perform_29 rfl 1 rfl ?_
    refine J_iload_n X d_Builtins_perform_30 rfl 0 rfl ?_
    obtain ⟨r8, q9, h⟩ := wk_b h
    refine J_afterP (jrunV X (c_Builtins_allFit (ad := ad) q9) jFs_k (fun _ _ _ h => h) (jgV own_Builtins_perform (by decide +kernel)) rfl rfl rfl pd_Builtins_allFit (by decide) [0, 1, 3, 7, 8, 15, 16] rfl (by decide) 5 9 rfl rfl rfl rfl (Nat.le_of_ble_eq_true rfl) d_Builtins_perform_31 (by decide)) ?_
    refine J_if_ne (tgt := 47) X d_Builtins_perform_34 (by decide) h (fun c10 h => ?_) (fun c10 h => ?_)
    · refine J_iload_n X d_Builtins_perform_47 rfl 0 rfl ?_
      refine J_bipush X d_Builtins_perform_48 (by decide) ?_
      refine J_icmp_gt (tgt := 88) X d_Builtins_perform_50 (by decide) h (fun c11 h => ?_) (fun c11 h => ?_)
      · refine J_iload_n X d_Builtins_perform_88 rfl 0 rfl ?_
        refine J_bipush X d_Builtins_perform_89 (by decide) ?_
        refine J_icmp_gt (tgt := 103) X d_Builtins_perform_91 (by decide) h (fun c12 h => ?_) (fun c12 h => ?_)
        · refine J_iload_n X d_Builtins_perform_103 rfl 0 rfl ?_
          refine J_bipush X d_Builtins_perform_104 (by decide) ?_
          refine J_icmp_ne (tgt := 146) X d_Builtins_perform_106 (by decide) h (fun c13 h => ?_) (fun c13 h => ?_)
          · refine J_iload_n X d_Builtins_perform_146 rfl 0 rfl ?_
            refine J_bipush X d_Builtins_perform_147 (by decide) ?_
            refine J_icmp_gt (tgt := 161) X d_Builtins_perform_149 (by decide) h (fun c14 h => ?_) (fun c14 h => ?_)
            · refine J_aload_n X d_Builtins_perform_161 rfl 1 rfl ?_
              refine J_iload_n X d_Builtins_perform_162 rfl 0 rfl ?_
              obtain ⟨r15, V_top_16, V_kinds_17, V_numbers_18, V_parts_19, V_links_20, D_top_21, D_forms_22, D_counts_23, D_numbers_24, D_nodes_25, D_depths_26, D_weights_27, q28, h⟩ := wk_b13 h
              refine J_afterI0 (ws' := [(ad 9, .inr (4, [.ref (ad 14), .ref (ad 16), .ref (ad 10), .ref (ad 11), .ref (ad 12), .ref (ad 13), .int (zI V_top_16)])), (ad 10, .inl (cI, 3201, .inl (zA V_kinds_17))), (ad 11, .inl (cL, 3201, .inr (.inl (zB V_numbers_18)))), (ad 12, .inl (cI, 3201, .inl (zA V_parts_19))), (ad 13, .inl (cI, 3201, .inl (zA V_links_20))), (ad 14, .inr (2, [.ref (ad 15), .int (zI VB_top)])), (ad 15, .inl (cB, 36864, .inl (zA VB_row))), (ad 16, .inr (5, [.ref (ad 17), .ref (ad 18), .ref (ad 19), .ref (ad 20), .ref (ad 21), .ref (ad 22), .int (zI D_top_21)])), (ad 17, .inl (cI, 3201, .inl (zA D_forms_22))), (ad 18, .inl (cI, 3201, .inl (zA D_counts_23))), (ad 19, .inl (cL, 3201, .inr (.inl (zB D_numbers_24)))), (ad 20, .inl (cI, 3201, .inl (zA D_nodes_25))), (ad 21, .inl (cI, 3201, .inl (zA D_depths_26))), (ad 22, .inl (cI, 3201, .inl (zA D_weights_27))), (ad 23, .inr (6, [.int (zI M_steps_4), .int (zI M_memory), .int (zI M_mostSteps), .int (zI M_mostMemory), .int (zI M_fault_5)])), (ad 31, .inr (9, [.ref (ad 9), .ref (ad 23), .ref (ad 32), .int (zI (-1))])), (ad 32, .inl (cI, 3, .inl (zA B_given)))]) X (jrunV X (c_Builtins_onLists (ad := ad) q28) jF0_k (fun _ _ _ _ => trivial) (jgV own_Builtins_perform (by decide +kernel)) rfl rfl rfl pd_Builtins_onLists (by decide) [0, 1, 2, 3, 4, 7, 8, 9, 10, 11, 12, 13, 15, 16] rfl (by decide) 12 9 rfl rfl rfl rfl (Nat.le_of_ble_eq_true rfl) d_Builtins_perform_163 (by decide)) [0, 1, 2, 3, 4, 7, 8, 9, 10, 11, 12, 13, 15, 16] [5, 6, 14] [3, 4, 5, 6, 7, 0, 1, 8, 9, 10, 11, 12, 13, 14, 2, 15, 16] rfl rfl (by decide) (by decide) rfl (by decide) ?_
              refine J_istore_n (lv' := [(2, .int (zI r15)), (1, .int (zI B_ready)), (0, .ref (ad 31))]) X d_Builtins_perform_166 rfl (by decide) rfl ?_
              refine J_iload_n X d_Builtins_perform_167 rfl 0 rfl ?_
              refine J_iconst X d_Builtins_perform_168 ?_
              refine J_icmp_ne (tgt := 182) X d_Builtins_perform_169 (by decide) h (fun c29 h => ?_) (fun c29 h => ?_)
              · refine J_aload_n X d_Builtins_perform_182 rfl 2 rfl ?_
                refine J_get X (j_in in_Builtins) 15 rfl rfl 1 (by decide) (j_m own_Builtins_perform (by decide +kernel)) rfl d_Builtins_perform_183 ?_
                refine J_aload_n X d_Builtins_perform_186 rfl 2 rfl ?_
                refine J_get X (j_in in_Builtins) 15 rfl rfl 0 (by decide) (j_m own_Builtins_perform (by decide +kernel)) rfl d_Builtins_perform_187 ?_
                refine J_iload_n X d_Builtins_perform_190 rfl 0 rfl ?_
                obtain ⟨r30, q31, h⟩ := wk_b h
                refine J_afterP (jrunV X (c_Values_sizeOf (ad := ad) q31) jF0_k (fun _ _ _ _ => trivial) (jgV own_Builtins_perform (by decide +kernel)) rfl rfl rfl pd_Values_sizeOf (by decide) [0, 1, 3, 4, 7, 11, 13] rfl (by decide) 0 4 rfl rfl rfl rfl (Nat.le_of_ble_eq_true rfl) d_Builtins_perform_191 (by decide)) ?_
                obtain ⟨r32, M_memory_33, M_fault_34, q35, h⟩ := wk_b3 h
                refine J_afterI0 (ws' := [(ad 9, .inr (4, [.ref (ad 14), .ref (ad 16), .ref (ad 10), .ref (ad 11), .ref (ad 12), .ref (ad 13), .int (zI V_top_16)])), (ad 10, .inl (cI, 3201, .inl (zA V_kinds_17))), (ad 11, .inl (cL, 3201, .inr (.inl (zB V_numbers_18)))), (ad 12, .inl (cI, 3201, .inl (zA V_parts_19))), (ad 13, .inl (cI, 3201, .inl (zA V_links_20))), (ad 14, .inr (2, [.ref (ad 15), .int (zI VB_top)])), (ad 15, .inl (cB, 36864, .inl (zA VB_row))), (ad 16, .inr (5, [.ref (ad 17), .ref (ad 18), .ref (ad 19), .ref (ad 20), .ref (ad 21), .ref (ad 22), .int (zI D_top_21)])), (ad 17, .inl (cI, 3201, .inl (zA D_forms_22))), (ad 18, .inl (cI, 3201, .inl (zA D_counts_23))), (ad 19, .inl (cL, 3201, .inr (.inl (zB D_numbers_24)))), (ad 20, .inl (cI, 3201, .inl (zA D_nodes_25))), (ad 21, .inl (cI, 3201, .inl (zA D_depths_26))), (ad 22, .inl (cI, 3201, .inl (zA D_weights_27))), (ad 23, .inr (6, [.int (zI M_steps_4), .int (zI M_memory_33), .int (zI M_mostSteps), .int (zI M_mostMemory), .int (zI M_fault_34)])), (ad 31, .inr (9, [.ref (ad 9), .ref (ad 23), .ref (ad 32), .int (zI (-1))])), (ad 32, .inl (cI, 3, .inl (zA B_given)))]) X (jrunV X (c_Meter_payMemory (ad := ad) q35) jF0_k (fun _ _ _ _ => trivial) (jgV own_Builtins_perform (by decide +kernel)) rfl rfl rfl pd_Meter_payMemory (by decide) [14] rfl (by decide) 0 6 rfl rfl rfl rfl (Nat.le_of_ble_eq_true rfl) d_Builtins_perform_194 (by decide)) [14] [0, 1, 2, 3, 4, 5, 6, 7, 8, 9, 10, 11, 12, 13, 15, 16] [0, 1, 2, 3, 4, 5, 6, 7, 8, 9, 10, 11, 12, 13, 16, 14, 15] rfl rfl (by decide) (by decide) rfl (by decide) ?_
                refine J_if_eq (tgt := 204) X d_Builtins_perform_197 (by decide) h (fun c36 h => ?_) (fun c36 h => ?_)
                · refine J_iconst X d_Builtins_perform_204 ?_
                  cases h
                  exact J_ret E ⟨_, rfl, rfl⟩ d_Builtins_perform_205 (Nat.le_refl _) (Nat.le_refl _) rfl
                · refine J_iload_n X d_Builtins_perform_200 rfl 0 rfl ?_
                  refine J_goto (tgt := 205) X d_Builtins_perform_201 (by decide) ?_
                  cases h
                  exact J_ret E ⟨_, rfl, rfl⟩ d_Builtins_perform_205 (Nat.le_refl _) (Nat.le_refl _) rfl
              · refine J_aload_n X d_Builtins_perform_172 rfl 2 rfl ?_
                refine J_get X (j_in in_Builtins) 15 rfl rfl 1 (by decide) (j_m own_Builtins_perform (by decide +kernel)) rfl d_Builtins_perform_173 ?_
                refine J_iconst X d_Builtins_perform_176 ?_
                obtain ⟨M_fault_37, q38, h⟩ := wk_b h
                refine J_afterI0 (ws' := [(ad 9, .inr (4, [.ref (ad 14), .ref (ad 16), .ref (ad 10), .ref (ad 11), .ref (ad 12), .ref (ad 13), .int (zI V_top_16)])), (ad 10, .inl (cI, 3201, .inl (zA V_kinds_17))), (ad 11, .inl (cL, 3201, .inr (.inl (zB V_numbers_18)))), (ad 12, .inl (cI, 3201, .inl (zA V_parts_19))), (ad 13, .inl (cI, 3201, .inl (zA V_links_20))), (ad 14, .inr (2, [.ref (ad 15), .int (zI VB_top)])), (ad 15, .inl (cB, 36864, .inl (zA VB_row))), (ad 16, .inr (5, [.ref (ad 17), .ref (ad 18), .ref (ad 19), .ref (ad 20), .ref (ad 21), .ref (ad 22), .int (zI D_top_21)])), (ad 17, .inl (cI, 3201, .inl (zA D_forms_22))), (ad 18, .inl (cI, 3201, .inl (zA D_counts_23))), (ad 19, .inl (cL, 3201, .inr (.inl (zB D_numbers_24)))), (ad 20, .inl (cI, 3201, .inl (zA D_nodes_25))), (ad 21, .inl (cI, 3201, .inl (zA D_depths_26))), (ad 22, .inl (cI, 3201, .inl (zA D_weights_27))), (ad 23, .inr (6, [.int (zI M_steps_4), .int (zI M_memory), .int (zI M_mostSteps), .int (zI M_mostMemory), .int (zI M_fault_37)])), (ad 31, .inr (9, [.ref (ad 9), .ref (ad 23), .ref (ad 32), .int (zI (-1))])), (ad 32, .inl (cI, 3, .inl (zA B_given)))]) X (jrunV X (c_Meter_fail (ad := ad) q38) jF0_k (fun _ _ _ _ => trivial) (jgV own_Builtins_perform (by decide +kernel)) rfl rfl rfl pd_Meter_fail (by decide) [14] rfl (by decide) 0 6 rfl rfl rfl rfl (Nat.le_of_ble_eq_true rfl) d_Builtins_perform_177 (by decide)) [14] [0, 1, 2, 3, 4, 5, 6, 7, 8, 9, 10, 11, 12, 13, 15, 16] [0, 1, 2, 3, 4, 5, 6, 7, 8, 9, 10, 11, 12, 13, 16, 14, 15] rfl rfl (by decide) (by decide) rfl (by decide) ?_
                refine J_iconst X d_Builtins_perform_180 ?_
                cases h
                exact J_ret E ⟨_, rfl, rfl⟩ d_Builtins_perform_181 (Nat.le_refl _) (Nat.le_refl _) rfl
            · refine J_aload_n X d_Builtins_perform_152 rfl 1 rfl ?_
              refine J_iload_n X d_Builtins_perform_153 rfl 0 rfl ?_
              obtain ⟨r39, V_top_40, V_kinds_41, V_numbers_42, V_parts_43, V_links_44, D_top_45, D_forms_46, D_counts_47, D_numbers_48, D_nodes_49, D_depths_50, D_weights_51, q52, h⟩ := wk_b13 h
              refine J_afterI0 (ws' := [(ad 9, .inr (4, [.ref (ad 14), .ref (ad 16), .ref (ad 10), .ref (ad 11), .ref (ad 12), .ref (ad 13), .int (zI V_top_40)])), (ad 10, .inl (cI, 3201, .inl (zA V_kinds_41))), (ad 11, .inl (cL, 3201, .inr (.inl (zB V_numbers_42)))), (ad 12, .inl (cI, 3201, .inl (zA V_parts_43))), (ad 13, .inl (cI, 3201, .inl (zA V_links_44))), (ad 14, .inr (2, [.ref (ad 15), .int (zI VB_top)])), (ad 15, .inl (cB, 36864, .inl (zA VB_row))), (ad 16, .inr (5, [.ref (ad 17), .ref (ad 18), .ref (ad 19), .ref (ad 20), .ref (ad 21), .ref (ad 22), .int (zI D_top_45)])), (ad 17, .inl (cI, 3201, .inl (zA D_forms_46))), (ad 18, .inl (cI, 3201, .inl (zA D_counts_47))), (ad 19, .inl (cL, 3201, .inr (.inl (zB D_numbers_48)))), (ad 20, .inl (cI, 3201, .inl (zA D_nodes_49))), (ad 21, .inl (cI, 3201, .inl (zA D_depths_50))), (ad 22, .inl (cI, 3201, .inl (zA D_weights_51))), (ad 23, .inr (6, [.int (zI M_steps_4), .int (zI M_memory), .int (zI M_mostSteps), .int (zI M_mostMemory), .int (zI M_fault_5)])), (ad 31, .inr (9, [.ref (ad 9), .ref (ad 23), .ref (ad 32), .int (zI (-1))])), (ad 32, .inl (cI, 3, .inl (zA B_given)))]) X (jrunV X (c_Builtins_onData (ad := ad) q52) jF0_k (fun _ _ _ _ => trivial) (jgV own_Builtins_perform (by decide +kernel)) rfl rfl rfl pd_Builtins_onData (by decide) [0, 1, 2, 3, 4, 5, 6, 7, 8, 9, 10, 11, 12, 13, 15, 16] rfl (by decide) 14 9 rfl rfl rfl rfl (Nat.le_of_ble_eq_true rfl) d_Builtins_perform_154 (by decide)) [0, 1, 2, 3, 4, 5, 6, 7, 8, 9, 10, 11, 12, 13, 15, 16] [14] [1, 2, 3, 4, 5, 6, 7, 8, 9, 10, 11, 12, 13, 14, 0, 15, 16] rfl rfl (by decide) (by decide) rfl (by decide) ?_
              refine J_istore_n (lv' := [(2, .int (zI r39)), (1, .int (zI B_ready)), (0, .ref (ad 31))]) X d_Builtins_perform_157 rfl (by decide) rfl ?_
              refine J_goto (tgt := 167) X d_Builtins_perform_158 (by decide) ?_
              refine J_iload_n X d_Builtins_perform_167 rfl 0 rfl ?_
              refine J_iconst X d_Builtins_perform_168 ?_
              refine J_icmp_ne (tgt := 182) X d_Builtins_perform_169 (by decide) h (fun c53 h => ?_) (fun c53 h => ?_)
              · refine J_aload_n X d_Builtins_perform_182 rfl 2 rfl ?_
                refine J_get X (j_in in_Builtins) 15 rfl rfl 1 (by decide) (j_m own_Builtins_perform (by decide +kernel)) rfl d_Builtins_perform_183 ?_
                refine J_aload_n X d_Builtins_perform_186 rfl 2 rfl ?_
                refine J_get X (j_in in_Builtins) 15 rfl rfl 0 (by decide) (j_m own_Builtins_perform (by decide +kernel)) rfl d_Builtins_perform_187 ?_
                refine J_iload_n X d_Builtins_perform_190 rfl 0 rfl ?_
                obtain ⟨r54, q55, h⟩ := wk_b h
                refine J_afterP (jrunV X (c_Values_sizeOf (ad := ad) q55) jF0_k (fun _ _ _ _ => trivial) (jgV own_Builtins_perform (by decide +kernel)) rfl rfl rfl pd_Values_sizeOf (by decide) [0, 1, 3, 4, 7, 11, 13] rfl (by decide) 0 4 rfl rfl rfl rfl (Nat.le_of_ble_eq_true rfl) d_Builtins_perform_191 (by decide)) ?_
                obtain ⟨r56, M_memory_57, M_fault_58, q59, h⟩ := wk_b3 h
                refine J_afterI0 (ws' := [(ad 9, .inr (4, [.ref (ad 14), .ref (ad 16), .ref (ad 10), .ref (ad 11), .ref (ad 12), .ref (ad 13), .int (zI V_top_40)])), (ad 10, .inl (cI, 3201, .inl (zA V_kinds_41))), (ad 11, .inl (cL, 3201, .inr (.inl (zB V_numbers_42)))), (ad 12, .inl (cI, 3201, .inl (zA V_parts_43))), (ad 13, .inl (cI, 3201, .inl (zA V_links_44))), (ad 14, .inr (2, [.ref (ad 15), .int (zI VB_top)])), (ad 15, .inl (cB, 36864, .inl (zA VB_row))), (ad 16, .inr (5, [.ref (ad 17), .ref (ad 18), .ref (ad 19), .ref (ad 20), .ref (ad 21), .ref (ad 22), .int (zI D_top_45)])), (ad 17, .inl (cI, 3201, .inl (zA D_forms_46))), (ad 18, .inl (cI, 3201, .inl (zA D_counts_47))), (ad 19, .inl (cL, 3201, .inr (.inl (zB D_numbers_48)))), (ad 20, .inl (cI, 3201, .inl (zA D_nodes_49))), (ad 21, .inl (cI, 3201, .inl (zA D_depths_50))), (ad 22, .inl (cI, 3201, .inl (zA D_weights_51))), (ad 23, .inr (6, [.int (zI M_steps_4), .int (zI M_memory_57), .int (zI M_mostSteps), .int (zI M_mostMemory), .int (zI M_fault_58)])), (ad 31, .inr (9, [.ref (ad 9), .ref (ad 23), .ref (ad 32), .int (zI (-1))])), (ad 32, .inl (cI, 3, .inl (zA B_given)))]) X (jrunV X (c_Meter_payMemory (ad := ad) q59) jF0_k (fun _ _ _ _ => trivial) (jgV own_Builtins_perform (by decide +kernel)) rfl rfl rfl pd_Meter_payMemory (by decide) [14] rfl (by decide) 0 6 rfl rfl rfl rfl (Nat.le_of_ble_eq_true rfl) d_Builtins_perform_194 (by decide)) [14] [0, 1, 2, 3, 4, 5, 6, 7, 8, 9, 10, 11, 12, 13, 15, 16] [0, 1, 2, 3, 4, 5, 6, 7, 8, 9, 10, 11, 12, 13, 16, 14, 15] rfl rfl (by decide) (by decide) rfl (by decide) ?_
                refine J_if_eq (tgt := 204) X d_Builtins_perform_197 (by decide) h (fun c60 h => ?_) (fun c60 h => ?_)
                · refine J_iconst X d_Builtins_perform_204 ?_
                  cases h
                  exact J_ret E ⟨_, rfl, rfl⟩ d_Builtins_perform_205 (Nat.le_refl _) (Nat.le_refl _) rfl
                · refine J_iload_n X d_Builtins_perform_200 rfl 0 rfl ?_
                  refine J_goto (tgt := 205) X d_Builtins_perform_201 (by decide) ?_
                  cases h
                  exact J_ret E ⟨_, rfl, rfl⟩ d_Builtins_perform_205 (Nat.le_refl _) (Nat.le_refl _) rfl
              · refine J_aload_n X d_Builtins_perform_172 rfl 2 rfl ?_
                refine J_get X (j_in in_Builtins) 15 rfl rfl 1 (by decide) (j_m own_Builtins_perform (by decide +kernel)) rfl d_Builtins_perform_173 ?_
                refine J_iconst X d_Builtins_perform_176 ?_
                obtain ⟨M_fault_61, q62, h⟩ := wk_b h
                refine J_afterI0 (ws' := [(ad 9, .inr (4, [.ref (ad 14), .ref (ad 16), .ref (ad 10), .ref (ad 11), .ref (ad 12), .ref (ad 13), .int (zI V_top_40)])), (ad 10, .inl (cI, 3201, .inl (zA V_kinds_41))), (ad 11, .inl (cL, 3201, .inr (.inl (zB V_numbers_42)))), (ad 12, .inl (cI, 3201, .inl (zA V_parts_43))), (ad 13, .inl (cI, 3201, .inl (zA V_links_44))), (ad 14, .inr (2, [.ref (ad 15), .int (zI VB_top)])), (ad 15, .inl (cB, 36864, .inl (zA VB_row))), (ad 16, .inr (5, [.ref (ad 17), .ref (ad 18), .ref (ad 19), .ref (ad 20), .ref (ad 21), .ref (ad 22), .int (zI D_top_45)])), (ad 17, .inl (cI, 3201, .inl (zA D_forms_46))), (ad 18, .inl (cI, 3201, .inl (zA D_counts_47))), (ad 19, .inl (cL, 3201, .inr (.inl (zB D_numbers_48)))), (ad 20, .inl (cI, 3201, .inl (zA D_nodes_49))), (ad 21, .inl (cI, 3201, .inl (zA D_depths_50))), (ad 22, .inl (cI, 3201, .inl (zA D_weights_51))), (ad 23, .inr (6, [.int (zI M_steps_4), .int (zI M_memory), .int (zI M_mostSteps), .int (zI M_mostMemory), .int (zI M_fault_61)])), (ad 31, .inr (9, [.ref (ad 9), .ref (ad 23), .ref (ad 32), .int (zI (-1))])), (ad 32, .inl (cI, 3, .inl (zA B_given)))]) X (jrunV X (c_Meter_fail (ad := ad) q62) jF0_k (fun _ _ _ _ => trivial) (jgV own_Builtins_perform (by decide +kernel)) rfl rfl rfl pd_Meter_fail (by decide) [14] rfl (by decide) 0 6 rfl rfl rfl rfl (Nat.le_of_ble_eq_true rfl) d_Builtins_perform_177 (by decide)) [14] [0, 1, 2, 3, 4, 5, 6, 7, 8, 9, 10, 11, 12, 13, 15, 16] [0, 1, 2, 3, 4, 5, 6, 7, 8, 9, 10, 11, 12, 13, 16, 14, 15] rfl rfl (by decide) (by decide) rfl (by decide) ?_
                refine J_iconst X d_Builtins_perform_180 ?_
                cases h
                exact J_ret E ⟨_, rfl, rfl⟩ d_Builtins_perform_181 (Nat.le_refl _) (Nat.le_refl _) rfl
          · refine J_aload_n X d_Builtins_perform_109 rfl 1 rfl ?_
            refine J_get X (j_in in_Builtins) 15 rfl rfl 0 (by decide) (j_m own_Builtins_perform (by decide +kernel)) rfl d_Builtins_perform_110 ?_
            refine J_aload_n X d_Builtins_perform_113 rfl 1 rfl ?_
            refine J_get X (j_in in_Builtins) 15 rfl rfl 2 (by decide) (j_m own_Builtins_perform (by decide +kernel)) rfl d_Builtins_perform_114 ?_
            refine J_iconst X d_Builtins_perform_117 ?_
            obtain ⟨g63, h⟩ := wk_g h
            refine J_iald X 16 0 rfl rfl g63 d_Builtins_perform_118 ?_
            obtain ⟨r64, q65, h⟩ := wk_b h
            refine J_afterP (jrunV X (c_Values_numberOf (ad := ad) q65) jF0_k (fun _ _ _ _ => trivial) (jgV own_Builtins_perform (by decide +kernel)) rfl rfl rfl pd_Values_numberOf (by decide) [0, 2] rfl (by decide) 0 4 rfl rfl rfl rfl (Nat.le_of_ble_eq_true rfl) d_Builtins_perform_119 (by decide)) ?_
            refine J_lconst (v := 1) X d_Builtins_perform_122 (by decide) ?_
            refine J_lc_ne (tgt := 136) X d_Builtins_perform_123 d_Builtins_perform_124 (by decide) h (fun c66 h => ?_) (fun c66 h => ?_)
            · refine J_aload_n X d_Builtins_perform_136 rfl 1 rfl ?_
              refine J_get X (j_in in_Builtins) 15 rfl rfl 2 (by decide) (j_m own_Builtins_perform (by decide +kernel)) rfl d_Builtins_perform_137 ?_
              refine J_iconst X d_Builtins_perform_140 ?_
              obtain ⟨g67, h⟩ := wk_g h
              refine J_iald X 16 0 rfl rfl g67 d_Builtins_perform_141 ?_
              refine J_istore_n (lv' := [(2, .int (zI (B_given 2))), (1, .int (zI B_ready)), (0, .ref (ad 31))]) X d_Builtins_perform_142 rfl (by decide) rfl ?_
              refine J_goto (tgt := 167) X d_Builtins_perform_143 (by decide) ?_
              refine J_iload_n X d_Builtins_perform_167 rfl 0 rfl ?_
              refine J_iconst X d_Builtins_perform_168 ?_
              refine J_icmp_ne (tgt := 182) X d_Builtins_perform_169 (by decide) h (fun c68 h => ?_) (fun c68 h => ?_)
              · refine J_aload_n X d_Builtins_perform_182 rfl 2 rfl ?_
                refine J_get X (j_in in_Builtins) 15 rfl rfl 1 (by decide) (j_m own_Builtins_perform (by decide +kernel)) rfl d_Builtins_perform_183 ?_
                refine J_aload_n X d_Builtins_perform_186 rfl 2 rfl ?_
                refine J_get X (j_in in_Builtins) 15 rfl rfl 0 (by decide) (j_m own_Builtins_perform (by decide +kernel)) rfl d_Builtins_perform_187 ?_
                refine J_iload_n X d_Builtins_perform_190 rfl 0 rfl ?_
                obtain ⟨r69, q70, h⟩ := wk_b h
                refine J_afterP (jrunV X (c_Values_sizeOf (ad := ad) q70) jF0_k (fun _ _ _ _ => trivial) (jgV own_Builtins_perform (by decide +kernel)) rfl rfl rfl pd_Values_sizeOf (by decide) [0, 1, 3, 4, 7, 11, 13] rfl (by decide) 0 4 rfl rfl rfl rfl (Nat.le_of_ble_eq_true rfl) d_Builtins_perform_191 (by decide)) ?_
                obtain ⟨r71, M_memory_72, M_fault_73, q74, h⟩ := wk_b3 h
                refine J_afterI0 (ws' := [(ad 9, .inr (4, [.ref (ad 14), .ref (ad 16), .ref (ad 10), .ref (ad 11), .ref (ad 12), .ref (ad 13), .int (zI V_top)])), (ad 10, .inl (cI, 3201, .inl (zA V_kinds))), (ad 11, .inl (cL, 3201, .inr (.inl (zB V_numbers)))), (ad 12, .inl (cI, 3201, .inl (zA V_parts))), (ad 13, .inl (cI, 3201, .inl (zA V_links))), (ad 14, .inr (2, [.ref (ad 15), .int (zI VB_top)])), (ad 15, .inl (cB, 36864, .inl (zA VB_row))), (ad 16, .inr (5, [.ref (ad 17), .ref (ad 18), .ref (ad 19), .ref (ad 20), .ref (ad 21), .ref (ad 22), .int (zI D_top)])), (ad 17, .inl (cI, 3201, .inl (zA D_forms))), (ad 18, .inl (cI, 3201, .inl (zA D_counts))), (ad 19, .inl (cL, 3201, .inr (.inl (zB D_numbers)))), (ad 20, .inl (cI, 3201, .inl (zA D_nodes))), (ad 21, .inl (cI, 3201, .inl (zA D_depths))), (ad 22, .inl (cI, 3201, .inl (zA D_weights))), (ad 23, .inr (6, [.int (zI M_steps_4), .int (zI M_memory_72), .int (zI M_mostSteps), .int (zI M_mostMemory), .int (zI M_fault_73)])), (ad 31, .inr (9, [.ref (ad 9), .ref (ad 23), .ref (ad 32), .int (zI (-1))])), (ad 32, .inl (cI, 3, .inl (zA B_given)))]) X (jrunV X (c_Meter_payMemory (ad := ad) q74) jF0_k (fun _ _ _ _ => trivial) (jgV own_Builtins_perform (by decide +kernel)) rfl rfl rfl pd_Meter_payMemory (by decide) [14] rfl (by decide) 0 6 rfl rfl rfl rfl (Nat.le_of_ble_eq_true rfl) d_Builtins_perform_194 (by decide)) [14] [0, 1, 2, 3, 4, 5, 6, 7, 8, 9, 10, 11, 12, 13, 15, 16] [0, 1, 2, 3, 4, 5, 6, 7, 8, 9, 10, 11, 12, 13, 16, 14, 15] rfl rfl (by decide) (by decide) rfl (by decide) ?_
                refine J_if_eq (tgt := 204) X d_Builtins_perform_197 (by decide) h (fun c75 h => ?_) (fun c75 h => ?_)
                · refine J_iconst X d_Builtins_perform_204 ?_
                  cases h
                  exact J_ret E ⟨_, rfl, rfl⟩ d_Builtins_perform_205 (Nat.le_refl _) (Nat.le_refl _) rfl
                · refine J_iload_n X d_Builtins_perform_200 rfl 0 rfl ?_
                  refine J_goto (tgt := 205) X d_Builtins_perform_201 (by decide) ?_
                  cases h
                  exact J_ret E ⟨_, rfl, rfl⟩ d_Builtins_perform_205 (Nat.le_refl _) (Nat.le_refl _) rfl
              · refine J_aload_n X d_Builtins_perform_172 rfl 2 rfl ?_
                refine J_get X (j_in in_Builtins) 15 rfl rfl 1 (by decide) (j_m own_Builtins_perform (by decide +kernel)) rfl d_Builtins_perform_173 ?_
                refine J_iconst X d_Builtins_perform_176 ?_
                obtain ⟨M_fault_76, q77, h⟩ := wk_b h
                refine J_afterI0 (ws' := [(ad 9, .inr (4, [.ref (ad 14), .ref (ad 16), .ref (ad 10), .ref (ad 11), .ref (ad 12), .ref (ad 13), .int (zI V_top)])), (ad 10, .inl (cI, 3201, .inl (zA V_kinds))), (ad 11, .inl (cL, 3201, .inr (.inl (zB V_numbers)))), (ad 12, .inl (cI, 3201, .inl (zA V_parts))), (ad 13, .inl (cI, 3201, .inl (zA V_links))), (ad 14, .inr (2, [.ref (ad 15), .int (zI VB_top)])), (ad 15, .inl (cB, 36864, .inl (zA VB_row))), (ad 16, .inr (5, [.ref (ad 17), .ref (ad 18), .ref (ad 19), .ref (ad 20), .ref (ad 21), .ref (ad 22), .int (zI D_top)])), (ad 17, .inl (cI, 3201, .inl (zA D_forms))), (ad 18, .inl (cI, 3201, .inl (zA D_counts))), (ad 19, .inl (cL, 3201, .inr (.inl (zB D_numbers)))), (ad 20, .inl (cI, 3201, .inl (zA D_nodes))), (ad 21, .inl (cI, 3201, .inl (zA D_depths))), (ad 22, .inl (cI, 3201, .inl (zA D_weights))), (ad 23, .inr (6, [.int (zI M_steps_4), .int (zI M_memory), .int (zI M_mostSteps), .int (zI M_mostMemory), .int (zI M_fault_76)])), (ad 31, .inr (9, [.ref (ad 9), .ref (ad 23), .ref (ad 32), .int (zI (-1))])), (ad 32, .inl (cI, 3, .inl (zA B_given)))]) X (jrunV X (c_Meter_fail (ad := ad) q77) jF0_k (fun _ _ _ _ => trivial) (jgV own_Builtins_perform (by decide +kernel)) rfl rfl rfl pd_Meter_fail (by decide) [14] rfl (by decide) 0 6 rfl rfl rfl rfl (Nat.le_of_ble_eq_true rfl) d_Builtins_perform_177 (by decide)) [14] [0, 1, 2, 3, 4, 5, 6, 7, 8, 9, 10, 11, 12, 13, 15, 16] [0, 1, 2, 3, 4, 5, 6, 7, 8, 9, 10, 11, 12, 13, 16, 14, 15] rfl rfl (by decide) (by decide) rfl (by decide) ?_
                refine J_iconst X d_Builtins_perform_180 ?_
                cases h
                exact J_ret E ⟨_, rfl, rfl⟩ d_Builtins_perform_181 (Nat.le_refl _) (Nat.le_refl _) rfl
            · refine J_aload_n X d_Builtins_perform_127 rfl 1 rfl ?_
              refine J_get X (j_in in_Builtins) 15 rfl rfl 2 (by decide) (j_m own_Builtins_perform (by decide +kernel)) rfl d_Builtins_perform_128 ?_
              refine J_iconst X d_Builtins_perform_131 ?_
              obtain ⟨g78, h⟩ := wk_g h
              refine J_iald X 16 0 rfl rfl g78 d_Builtins_perform_132 ?_
              refine J_goto (tgt := 142) X d_Builtins_perform_133 (by decide) ?_
              refine J_istore_n (lv' := [(2, .int (zI (B_given 1))), (1, .int (zI B_ready)), (0, .ref (ad 31))]) X d_Builtins_perform_142 rfl (by decide) rfl ?_
              refine J_goto (tgt := 167) X d_Builtins_perform_143 (by decide) ?_
              refine J_iload_n X d_Builtins_perform_167 rfl 0 rfl ?_
              refine J_iconst X d_Builtins_perform_168 ?_
              refine J_icmp_ne (tgt := 182) X d_Builtins_perform_169 (by decide) h (fun c79 h => ?_) (fun c79 h => ?_)
              · refine J_aload_n X d_Builtins_perform_182 rfl 2 rfl ?_
                refine J_get X (j_in in_Builtins) 15 rfl rfl 1 (by decide) (j_m own_Builtins_perform (by decide +kernel)) rfl d_Builtins_perform_183 ?_
                refine J_aload_n X d_Builtins_perform_186 rfl 2 rfl ?_
                refine J_get X (j_in in_Builtins) 15 rfl rfl 0 (by decide) (j_m own_Builtins_perform (by decide +kernel)) rfl d_Builtins_perform_187 ?_
                refine J_iload_n X d_Builtins_perform_190 rfl 0 rfl ?_
                obtain ⟨r80, q81, h⟩ := wk_b h
                refine J_afterP (jrunV X (c_Values_sizeOf (ad := ad) q81) jF0_k (fun _ _ _ _ => trivial) (jgV own_Builtins_perform (by decide +kernel)) rfl rfl rfl pd_Values_sizeOf (by decide) [0, 1, 3, 4, 7, 11, 13] rfl (by decide) 0 4 rfl rfl rfl rfl (Nat.le_of_ble_eq_true rfl) d_Builtins_perform_191 (by decide)) ?_
                obtain ⟨r82, M_memory_83, M_fault_84, q85, h⟩ := wk_b3 h
                refine J_afterI0 (ws' := [(ad 9, .inr (4, [.ref (ad 14), .ref (ad 16), .ref (ad 10), .ref (ad 11), .ref (ad 12), .ref (ad 13), .int (zI V_top)])), (ad 10, .inl (cI, 3201, .inl (zA V_kinds))), (ad 11, .inl (cL, 3201, .inr (.inl (zB V_numbers)))), (ad 12, .inl (cI, 3201, .inl (zA V_parts))), (ad 13, .inl (cI, 3201, .inl (zA V_links))), (ad 14, .inr (2, [.ref (ad 15), .int (zI VB_top)])), (ad 15, .inl (cB, 36864, .inl (zA VB_row))), (ad 16, .inr (5, [.ref (ad 17), .ref (ad 18), .ref (ad 19), .ref (ad 20), .ref (ad 21), .ref (ad 22), .int (zI D_top)])), (ad 17, .inl (cI, 3201, .inl (zA D_forms))), (ad 18, .inl (cI, 3201, .inl (zA D_counts))), (ad 19, .inl (cL, 3201, .inr (.inl (zB D_numbers)))), (ad 20, .inl (cI, 3201, .inl (zA D_nodes))), (ad 21, .inl (cI, 3201, .inl (zA D_depths))), (ad 22, .inl (cI, 3201, .inl (zA D_weights))), (ad 23, .inr (6, [.int (zI M_steps_4), .int (zI M_memory_83), .int (zI M_mostSteps), .int (zI M_mostMemory), .int (zI M_fault_84)])), (ad 31, .inr (9, [.ref (ad 9), .ref (ad 23), .ref (ad 32), .int (zI (-1))])), (ad 32, .inl (cI, 3, .inl (zA B_given)))]) X (jrunV X (c_Meter_payMemory (ad := ad) q85) jF0_k (fun _ _ _ _ => trivial) (jgV own_Builtins_perform (by decide +kernel)) rfl rfl rfl pd_Meter_payMemory (by decide) [14] rfl (by decide) 0 6 rfl rfl rfl rfl (Nat.le_of_ble_eq_true rfl) d_Builtins_perform_194 (by decide)) [14] [0, 1, 2, 3, 4, 5, 6, 7, 8, 9, 10, 11, 12, 13, 15, 16] [0, 1, 2, 3, 4, 5, 6, 7, 8, 9, 10, 11, 12, 13, 16, 14, 15] rfl rfl (by decide) (by decide) rfl (by decide) ?_
                refine J_if_eq (tgt := 204) X d_Builtins_perform_197 (by decide) h (fun c86 h => ?_) (fun c86 h => ?_)
                · refine J_iconst X d_Builtins_perform_204 ?_
                  cases h
                  exact J_ret E ⟨_, rfl, rfl⟩ d_Builtins_perform_205 (Nat.le_refl _) (Nat.le_refl _) rfl
                · refine J_iload_n X d_Builtins_perform_200 rfl 0 rfl ?_
                  refine J_goto (tgt := 205) X d_Builtins_perform_201 (by decide) ?_
                  cases h
                  exact J_ret E ⟨_, rfl, rfl⟩ d_Builtins_perform_205 (Nat.le_refl _) (Nat.le_refl _) rfl
              · refine J_aload_n X d_Builtins_perform_172 rfl 2 rfl ?_
                refine J_get X (j_in in_Builtins) 15 rfl rfl 1 (by decide) (j_m own_Builtins_perform (by decide +kernel)) rfl d_Builtins_perform_173 ?_
                refine J_iconst X d_Builtins_perform_176 ?_
                obtain ⟨M_fault_87, q88, h⟩ := wk_b h
                refine J_afterI0 (ws' := [(ad 9, .inr (4, [.ref (ad 14), .ref (ad 16), .ref (ad 10), .ref (ad 11), .ref (ad 12), .ref (ad 13), .int (zI V_top)])), (ad 10, .inl (cI, 3201, .inl (zA V_kinds))), (ad 11, .inl (cL, 3201, .inr (.inl (zB V_numbers)))), (ad 12, .inl (cI, 3201, .inl (zA V_parts))), (ad 13, .inl (cI, 3201, .inl (zA V_links))), (ad 14, .inr (2, [.ref (ad 15), .int (zI VB_top)])), (ad 15, .inl (cB, 36864, .inl (zA VB_row))), (ad 16, .inr (5, [.ref (ad 17), .ref (ad 18), .ref (ad 19), .ref (ad 20), .ref (ad 21), .ref (ad 22), .int (zI D_top)])), (ad 17, .inl (cI, 3201, .inl (zA D_forms))), (ad 18, .inl (cI, 3201, .inl (zA D_counts))), (ad 19, .inl (cL, 3201, .inr (.inl (zB D_numbers)))), (ad 20, .inl (cI, 3201, .inl (zA D_nodes))), (ad 21, .inl (cI, 3201, .inl (zA D_depths))), (ad 22, .inl (cI, 3201, .inl (zA D_weights))), (ad 23, .inr (6, [.int (zI M_steps_4), .int (zI M_memory), .int (zI M_mostSteps), .int (zI M_mostMemory), .int (zI M_fault_87)])), (ad 31, .inr (9, [.ref (ad 9), .ref (ad 23), .ref (ad 32), .int (zI (-1))])), (ad 32, .inl (cI, 3, .inl (zA B_given)))]) X (jrunV X (c_Meter_fail (ad := ad) q88) jF0_k (fun _ _ _ _ => trivial) (jgV own_Builtins_perform (by decide +kernel)) rfl rfl rfl pd_Meter_fail (by decide) [14] rfl (by decide) 0 6 rfl rfl rfl rfl (Nat.le_of_ble_eq_true rfl) d_Builtins_perform_177 (by decide)) [14] [0, 1, 2, 3, 4, 5, 6, 7, 8, 9, 10, 11, 12, 13, 15, 16] [0, 1, 2, 3, 4, 5, 6, 7, 8, 9, 10, 11, 12, 13, 16, 14, 15] rfl rfl (by decide) (by decide) rfl (by decide) ?_
                refine J_iconst X d_Builtins_perform_180 ?_
                cases h
                exact J_ret E ⟨_, rfl, rfl⟩ d_Builtins_perform_181 (Nat.le_refl _) (Nat.le_refl _) rfl
        · refine J_aload_n X d_Builtins_perform_94 rfl 1 rfl ?_
          refine J_iload_n X d_Builtins_perform_95 rfl 0 rfl ?_
          obtain ⟨r89, V_top_90, V_kinds_91, V_numbers_92, V_parts_93, V_links_94, VB_top_95, VB_row_96, q97, h⟩ := wk_b8 h
          refine J_afterI0 (ws' := [(ad 9, .inr (4, [.ref (ad 14), .ref (ad 16), .ref (ad 10), .ref (ad 11), .ref (ad 12), .ref (ad 13), .int (zI V_top_90)])), (ad 10, .inl (cI, 3201, .inl (zA V_kinds_91))), (ad 11, .inl (cL, 3201, .inr (.inl (zB V_numbers_92)))), (ad 12, .inl (cI, 3201, .inl (zA V_parts_93))), (ad 13, .inl (cI, 3201, .inl (zA V_links_94))), (ad 14, .inr (2, [.ref (ad 15), .int (zI VB_top_95)])), (ad 15, .inl (cB, 36864, .inl (zA VB_row_96))), (ad 16, .inr (5, [.ref (ad 17), .ref (ad 18), .ref (ad 19), .ref (ad 20), .ref (ad 21), .ref (ad 22), .int (zI D_top)])), (ad 17, .inl (cI, 3201, .inl (zA D_forms))), (ad 18, .inl (cI, 3201, .inl (zA D_counts))), (ad 19, .inl (cL, 3201, .inr (.inl (zB D_numbers)))), (ad 20, .inl (cI, 3201, .inl (zA D_nodes))), (ad 21, .inl (cI, 3201, .inl (zA D_depths))), (ad 22, .inl (cI, 3201, .inl (zA D_weights))), (ad 23, .inr (6, [.int (zI M_steps_4), .int (zI M_memory), .int (zI M_mostSteps), .int (zI M_mostMemory), .int (zI M_fault_5)])), (ad 31, .inr (9, [.ref (ad 9), .ref (ad 23), .ref (ad 32), .int (zI (-1))])), (ad 32, .inl (cI, 3, .inl (zA B_given)))]) X (jrunV X (c_Builtins_onBytes (ad := ad) q97) jF0_k (fun _ _ _ _ => trivial) (jgV own_Builtins_perform (by decide +kernel)) rfl rfl rfl pd_Builtins_onBytes (by decide) [0, 1, 2, 3, 4, 5, 6, 15, 16] rfl (by decide) 7 9 rfl rfl rfl rfl (Nat.le_of_ble_eq_true rfl) d_Builtins_perform_96 (by decide)) [0, 1, 2, 3, 4, 5, 6, 15, 16] [7, 8, 9, 10, 11, 12, 13, 14] [8, 9, 10, 11, 12, 13, 14, 0, 1, 2, 3, 4, 5, 6, 7, 15, 16] rfl rfl (by decide) (by decide) rfl (by decide) ?_
          refine J_istore_n (lv' := [(2, .int (zI r89)), (1, .int (zI B_ready)), (0, .ref (ad 31))]) X d_Builtins_perform_99 rfl (by decide) rfl ?_
          refine J_goto (tgt := 167) X d_Builtins_perform_100 (by decide) ?_
          refine J_iload_n X d_Builtins_perform_167 rfl 0 rfl ?_
          refine J_iconst X d_Builtins_perform_168 ?_
          refine J_icmp_ne (tgt := 182) X d_Builtins_perform_169 (by decide) h (fun c98 h => ?_) (fun c98 h => ?_)
          · refine J_aload_n X d_Builtins_perform_182 rfl 2 rfl ?_
            refine J_get X (j_in in_Builtins) 15 rfl rfl 1 (by decide) (j_m own_Builtins_perform (by decide +kernel)) rfl d_Builtins_perform_183 ?_
            refine J_aload_n X d_Builtins_perform_186 rfl 2 rfl ?_
            refine J_get X (j_in in_Builtins) 15 rfl rfl 0 (by decide) (j_m own_Builtins_perform (by decide +kernel)) rfl d_Builtins_perform_187 ?_
            refine J_iload_n X d_Builtins_perform_190 rfl 0 rfl ?_
            obtain ⟨r99, q100, h⟩ := wk_b h
            refine J_afterP (jrunV X (c_Values_sizeOf (ad := ad) q100) jF0_k (fun _ _ _ _ => trivial) (jgV own_Builtins_perform (by decide +kernel)) rfl rfl rfl pd_Values_sizeOf (by decide) [0, 1, 3, 4, 7, 11, 13] rfl (by decide) 0 4 rfl rfl rfl rfl (Nat.le_of_ble_eq_true rfl) d_Builtins_perform_191 (by decide)) ?_
            obtain ⟨r101, M_memory_102, M_fault_103, q104, h⟩ := wk_b3 h
            refine J_afterI0 (ws' := [(ad 9, .inr (4, [.ref (ad 14), .ref (ad 16), .ref (ad 10), .ref (ad 11), .ref (ad 12), .ref (ad 13), .int (zI V_top_90)])), (ad 10, .inl (cI, 3201, .inl (zA V_kinds_91))), (ad 11, .inl (cL, 3201, .inr (.inl (zB V_numbers_92)))), (ad 12, .inl (cI, 3201, .inl (zA V_parts_93))), (ad 13, .inl (cI, 3201, .inl (zA V_links_94))), (ad 14, .inr (2, [.ref (ad 15), .int (zI VB_top_95)])), (ad 15, .inl (cB, 36864, .inl (zA VB_row_96))), (ad 16, .inr (5, [.ref (ad 17), .ref (ad 18), .ref (ad 19), .ref (ad 20), .ref (ad 21), .ref (ad 22), .int (zI D_top)])), (ad 17, .inl (cI, 3201, .inl (zA D_forms))), (ad 18, .inl (cI, 3201, .inl (zA D_counts))), (ad 19, .inl (cL, 3201, .inr (.inl (zB D_numbers)))), (ad 20, .inl (cI, 3201, .inl (zA D_nodes))), (ad 21, .inl (cI, 3201, .inl (zA D_depths))), (ad 22, .inl (cI, 3201, .inl (zA D_weights))), (ad 23, .inr (6, [.int (zI M_steps_4), .int (zI M_memory_102), .int (zI M_mostSteps), .int (zI M_mostMemory), .int (zI M_fault_103)])), (ad 31, .inr (9, [.ref (ad 9), .ref (ad 23), .ref (ad 32), .int (zI (-1))])), (ad 32, .inl (cI, 3, .inl (zA B_given)))]) X (jrunV X (c_Meter_payMemory (ad := ad) q104) jF0_k (fun _ _ _ _ => trivial) (jgV own_Builtins_perform (by decide +kernel)) rfl rfl rfl pd_Meter_payMemory (by decide) [14] rfl (by decide) 0 6 rfl rfl rfl rfl (Nat.le_of_ble_eq_true rfl) d_Builtins_perform_194 (by decide)) [14] [0, 1, 2, 3, 4, 5, 6, 7, 8, 9, 10, 11, 12, 13, 15, 16] [0, 1, 2, 3, 4, 5, 6, 7, 8, 9, 10, 11, 12, 13, 16, 14, 15] rfl rfl (by decide) (by decide) rfl (by decide) ?_
            refine J_if_eq (tgt := 204) X d_Builtins_perform_197 (by decide) h (fun c105 h => ?_) (fun c105 h => ?_)
            · refine J_iconst X d_Builtins_perform_204 ?_
              cases h
              exact J_ret E ⟨_, rfl, rfl⟩ d_Builtins_perform_205 (Nat.le_refl _) (Nat.le_refl _) rfl
            · refine J_iload_n X d_Builtins_perform_200 rfl 0 rfl ?_
              refine J_goto (tgt := 205) X d_Builtins_perform_201 (by decide) ?_
              cases h
              exact J_ret E ⟨_, rfl, rfl⟩ d_Builtins_perform_205 (Nat.le_refl _) (Nat.le_refl _) rfl
          · refine J_aload_n X d_Builtins_perform_172 rfl 2 rfl ?_
            refine J_get X (j_in in_Builtins) 15 rfl rfl 1 (by decide) (j_m own_Builtins_perform (by decide +kernel)) rfl d_Builtins_perform_173 ?_
            refine J_iconst X d_Builtins_perform_176 ?_
            obtain ⟨M_fault_106, q107, h⟩ := wk_b h
            refine J_afterI0 (ws' := [(ad 9, .inr (4, [.ref (ad 14), .ref (ad 16), .ref (ad 10), .ref (ad 11), .ref (ad 12), .ref (ad 13), .int (zI V_top_90)])), (ad 10, .inl (cI, 3201, .inl (zA V_kinds_91))), (ad 11, .inl (cL, 3201, .inr (.inl (zB V_numbers_92)))), (ad 12, .inl (cI, 3201, .inl (zA V_parts_93))), (ad 13, .inl (cI, 3201, .inl (zA V_links_94))), (ad 14, .inr (2, [.ref (ad 15), .int (zI VB_top_95)])), (ad 15, .inl (cB, 36864, .inl (zA VB_row_96))), (ad 16, .inr (5, [.ref (ad 17), .ref (ad 18), .ref (ad 19), .ref (ad 20), .ref (ad 21), .ref (ad 22), .int (zI D_top)])), (ad 17, .inl (cI, 3201, .inl (zA D_forms))), (ad 18, .inl (cI, 3201, .inl (zA D_counts))), (ad 19, .inl (cL, 3201, .inr (.inl (zB D_numbers)))), (ad 20, .inl (cI, 3201, .inl (zA D_nodes))), (ad 21, .inl (cI, 3201, .inl (zA D_depths))), (ad 22, .inl (cI, 3201, .inl (zA D_weights))), (ad 23, .inr (6, [.int (zI M_steps_4), .int (zI M_memory), .int (zI M_mostSteps), .int (zI M_mostMemory), .int (zI M_fault_106)])), (ad 31, .inr (9, [.ref (ad 9), .ref (ad 23), .ref (ad 32), .int (zI (-1))])), (ad 32, .inl (cI, 3, .inl (zA B_given)))]) X (jrunV X (c_Meter_fail (ad := ad) q107) jF0_k (fun _ _ _ _ => trivial) (jgV own_Builtins_perform (by decide +kernel)) rfl rfl rfl pd_Meter_fail (by decide) [14] rfl (by decide) 0 6 rfl rfl rfl rfl (Nat.le_of_ble_eq_true rfl) d_Builtins_perform_177 (by decide)) [14] [0, 1, 2, 3, 4, 5, 6, 7, 8, 9, 10, 11, 12, 13, 15, 16] [0, 1, 2, 3, 4, 5, 6, 7, 8, 9, 10, 11, 12, 13, 16, 14, 15] rfl rfl (by decide) (by decide) rfl (by decide) ?_
            refine J_iconst X d_Builtins_perform_180 ?_
            cases h
            exact J_ret E ⟨_, rfl, rfl⟩ d_Builtins_perform_181 (Nat.le_refl _) (Nat.le_refl _) rfl
      · refine J_aload_n X d_Builtins_perform_53 rfl 1 rfl ?_
        refine J_iload_n X d_Builtins_perform_54 rfl 0 rfl ?_
        refine J_aload_n X d_Builtins_perform_55 rfl 1 rfl ?_
        refine J_get X (j_in in_Builtins) 15 rfl rfl 0 (by decide) (j_m own_Builtins_perform (by decide +kernel)) rfl d_Builtins_perform_56 ?_
        refine J_aload_n X d_Builtins_perform_59 rfl 1 rfl ?_
        refine J_get X (j_in in_Builtins) 15 rfl rfl 2 (by decide) (j_m own_Builtins_perform (by decide +kernel)) rfl d_Builtins_perform_60 ?_
        refine J_iconst X d_Builtins_perform_63 ?_
        obtain ⟨g108, h⟩ := wk_g h
        refine J_iald X 16 0 rfl rfl g108 d_Builtins_perform_64 ?_
        obtain ⟨r109, q110, h⟩ := wk_b h
        refine J_afterP (jrunV X (c_Values_numberOf (ad := ad) q110) jF0_k (fun _ _ _ _ => trivial) (jgV own_Builtins_perform (by decide +kernel)) rfl rfl rfl pd_Values_numberOf (by decide) [0, 2] rfl (by decide) 0 4 rfl rfl rfl rfl (Nat.le_of_ble_eq_true rfl) d_Builtins_perform_65 (by decide)) ?_
        refine J_aload_n X d_Builtins_perform_68 rfl 1 rfl ?_
        refine J_get X (j_in in_Builtins) 15 rfl rfl 0 (by decide) (j_m own_Builtins_perform (by decide +kernel)) rfl d_Builtins_perform_69 ?_
        refine J_aload_n X d_Builtins_perform_72 rfl 1 rfl ?_
        refine J_get X (j_in in_Builtins) 15 rfl rfl 2 (by decide) (j_m own_Builtins_perform (by decide +kernel)) rfl d_Builtins_perform_73 ?_
        refine J_iconst X d_Builtins_perform_76 ?_
        obtain ⟨g111, h⟩ := wk_g h
        refine J_iald X 16 0 rfl rfl g111 d_Builtins_perform_77 ?_
        obtain ⟨r112, q113, h⟩ := wk_b h
        refine J_afterP (jrunV X (c_Values_numberOf (ad := ad) q113) jF0_k (fun _ _ _ _ => trivial) (jgV own_Builtins_perform (by decide +kernel)) rfl rfl rfl pd_Values_numberOf (by decide) [0, 2] rfl (by decide) 0 4 rfl rfl rfl rfl (Nat.le_of_ble_eq_true rfl) d_Builtins_perform_78 (by decide)) ?_
        obtain ⟨r114, V_top_115, V_kinds_116, V_numbers_117, V_parts_118, V_links_119, q120, h⟩ := wk_b6 h
        refine J_afterI0 (ws' := [(ad 9, .inr (4, [.ref (ad 14), .ref (ad 16), .ref (ad 10), .ref (ad 11), .ref (ad 12), .ref (ad 13), .int (zI V_top_115)])), (ad 10, .inl (cI, 3201, .inl (zA V_kinds_116))), (ad 11, .inl (cL, 3201, .inr (.inl (zB V_numbers_117)))), (ad 12, .inl (cI, 3201, .inl (zA V_parts_118))), (ad 13, .inl (cI, 3201, .inl (zA V_links_119))), (ad 14, .inr (2, [.ref (ad 15), .int (zI VB_top)])), (ad 15, .inl (cB, 36864, .inl (zA VB_row))), (ad 16, .inr (5, [.ref (ad 17), .ref (ad 18), .ref (ad 19), .ref (ad 20), .ref (ad 21), .ref (ad 22), .int (zI D_top)])), (ad 17, .inl (cI, 3201, .inl (zA D_forms))), (ad 18, .inl (cI, 3201, .inl (zA D_counts))), (ad 19, .inl (cL, 3201, .inr (.inl (zB D_numbers)))), (ad 20, .inl (cI, 3201, .inl (zA D_nodes))), (ad 21, .inl (cI, 3201, .inl (zA D_depths))), (ad 22, .inl (cI, 3201, .inl (zA D_weights))), (ad 23, .inr (6, [.int (zI M_steps_4), .int (zI M_memory), .int (zI M_mostSteps), .int (zI M_mostMemory), .int (zI M_fault_5)])), (ad 31, .inr (9, [.ref (ad 9), .ref (ad 23), .ref (ad 32), .int (zI (-1))])), (ad 32, .inl (cI, 3, .inl (zA B_given)))]) X (jrunV X (c_Builtins_onIntegers (ad := ad) q120) jF0_k (fun _ _ _ _ => trivial) (jgV own_Builtins_perform (by decide +kernel)) rfl rfl rfl pd_Builtins_onIntegers (by decide) [0, 1, 2, 3, 4, 15] rfl (by decide) 5 9 rfl rfl rfl rfl (Nat.le_of_ble_eq_true rfl) d_Builtins_perform_81 (by decide)) [0, 1, 2, 3, 4, 15] [5, 6, 7, 8, 9, 10, 11, 12, 13, 14, 16] [11, 12, 13, 14, 15, 0, 1, 2, 3, 4, 5, 6, 7, 8, 9, 16, 10] rfl rfl (by decide) (by decide) rfl (by decide) ?_
        refine J_istore_n (lv' := [(2, .int (zI r114)), (1, .int (zI B_ready)), (0, .ref (ad 31))]) X d_Builtins_perform_84 rfl (by decide) rfl ?_
        refine J_goto (tgt := 167) X d_Builtins_perform_85 (by decide) ?_
        refine J_iload_n X d_Builtins_perform_167 rfl 0 rfl ?_
        refine J_iconst X d_Builtins_perform_168 ?_
        refine J_icmp_ne (tgt := 182) X d_Builtins_perform_169 (by decide) h (fun c121 h => ?_) (fun c121 h => ?_)
        · refine J_aload_n X d_Builtins_perform_182 rfl 2 rfl ?_
          refine J_get X (j_in in_Builtins) 15 rfl rfl 1 (by decide) (j_m own_Builtins_perform (by decide +kernel)) rfl d_Builtins_perform_183 ?_
          refine J_aload_n X d_Builtins_perform_186 rfl 2 rfl ?_
          refine J_get X (j_in in_Builtins) 15 rfl rfl 0 (by decide) (j_m own_Builtins_perform (by decide +kernel)) rfl d_Builtins_perform_187 ?_
          refine J_iload_n X d_Builtins_perform_190 rfl 0 rfl ?_
          obtain ⟨r122, q123, h⟩ := wk_b h
          refine J_afterP (jrunV X (c_Values_sizeOf (ad := ad) q123) jF0_k (fun _ _ _ _ => trivial) (jgV own_Builtins_perform (by decide +kernel)) rfl rfl rfl pd_Values_sizeOf (by decide) [0, 1, 3, 4, 7, 11, 13] rfl (by decide) 0 4 rfl rfl rfl rfl (Nat.le_of_ble_eq_true rfl) d_Builtins_perform_191 (by decide)) ?_
          obtain ⟨r124, M_memory_125, M_fault_126, q127, h⟩ := wk_b3 h
          refine J_afterI0 (ws' := [(ad 9, .inr (4, [.ref (ad 14), .ref (ad 16), .ref (ad 10), .ref (ad 11), .ref (ad 12), .ref (ad 13), .int (zI V_top_115)])), (ad 10, .inl (cI, 3201, .inl (zA V_kinds_116))), (ad 11, .inl (cL, 3201, .inr (.inl (zB V_numbers_117)))), (ad 12, .inl (cI, 3201, .inl (zA V_parts_118))), (ad 13, .inl (cI, 3201, .inl (zA V_links_119))), (ad 14, .inr (2, [.ref (ad 15), .int (zI VB_top)])), (ad 15, .inl (cB, 36864, .inl (zA VB_row))), (ad 16, .inr (5, [.ref (ad 17), .ref (ad 18), .ref (ad 19), .ref (ad 20), .ref (ad 21), .ref (ad 22), .int (zI D_top)])), (ad 17, .inl (cI, 3201, .inl (zA D_forms))), (ad 18, .inl (cI, 3201, .inl (zA D_counts))), (ad 19, .inl (cL, 3201, .inr (.inl (zB D_numbers)))), (ad 20, .inl (cI, 3201, .inl (zA D_nodes))), (ad 21, .inl (cI, 3201, .inl (zA D_depths))), (ad 22, .inl (cI, 3201, .inl (zA D_weights))), (ad 23, .inr (6, [.int (zI M_steps_4), .int (zI M_memory_125), .int (zI M_mostSteps), .int (zI M_mostMemory), .int (zI M_fault_126)])), (ad 31, .inr (9, [.ref (ad 9), .ref (ad 23), .ref (ad 32), .int (zI (-1))])), (ad 32, .inl (cI, 3, .inl (zA B_given)))]) X (jrunV X (c_Meter_payMemory (ad := ad) q127) jF0_k (fun _ _ _ _ => trivial) (jgV own_Builtins_perform (by decide +kernel)) rfl rfl rfl pd_Meter_payMemory (by decide) [14] rfl (by decide) 0 6 rfl rfl rfl rfl (Nat.le_of_ble_eq_true rfl) d_Builtins_perform_194 (by decide)) [14] [0, 1, 2, 3, 4, 5, 6, 7, 8, 9, 10, 11, 12, 13, 15, 16] [0, 1, 2, 3, 4, 5, 6, 7, 8, 9, 10, 11, 12, 13, 16, 14, 15] rfl rfl (by decide) (by decide) rfl (by decide) ?_
          refine J_if_eq (tgt := 204) X d_Builtins_perform_197 (by decide) h (fun c128 h => ?_) (fun c128 h => ?_)
          · refine J_iconst X d_Builtins_perform_204 ?_
            cases h
            exact J_ret E ⟨_, rfl, rfl⟩ d_Builtins_perform_205 (Nat.le_refl _) (Nat.le_refl _) rfl
          · refine J_iload_n X d_Builtins_perform_200 rfl 0 rfl ?_
            refine J_goto (tgt := 205) X d_Builtins_perform_201 (by decide) ?_
            cases h
            exact J_ret E ⟨_, rfl, rfl⟩ d_Builtins_perform_205 (Nat.le_refl _) (Nat.le_refl _) rfl
        · refine J_aload_n X d_Builtins_perform_172 rfl 2 rfl ?_
          refine J_get X (j_in in_Builtins) 15 rfl rfl 1 (by decide) (j_m own_Builtins_perform (by decide +kernel)) rfl d_Builtins_perform_173 ?_
          refine J_iconst X d_Builtins_perform_176 ?_
          obtain ⟨M_fault_129, q130, h⟩ := wk_b h
          refine J_afterI0 (ws' := [(ad 9, .inr (4, [.ref (ad 14), .ref (ad 16), .ref (ad 10), .ref (ad 11), .ref (ad 12), .ref (ad 13), .int (zI V_top_115)])), (ad 10, .inl (cI, 3201, .inl (zA V_kinds_116))), (ad 11, .inl (cL, 3201, .inr (.inl (zB V_numbers_117)))), (ad 12, .inl (cI, 3201, .inl (zA V_parts_118))), (ad 13, .inl (cI, 3201, .inl (zA V_links_119))), (ad 14, .inr (2, [.ref (ad 15), .int (zI VB_top)])), (ad 15, .inl (cB, 36864, .inl (zA VB_row))), (ad 16, .inr (5, [.ref (ad 17), .ref (ad 18), .ref (ad 19), .ref (ad 20), .ref (ad 21), .ref (ad 22), .int (zI D_top)])), (ad 17, .inl (cI, 3201, .inl (zA D_forms))), (ad 18, .inl (cI, 3201, .inl (zA D_counts))), (ad 19, .inl (cL, 3201, .inr (.inl (zB D_numbers)))), (ad 20, .inl (cI, 3201, .inl (zA D_nodes))), (ad 21, .inl (cI, 3201, .inl (zA D_depths))), (ad 22, .inl (cI, 3201, .inl (zA D_weights))), (ad 23, .inr (6, [.int (zI M_steps_4), .int (zI M_memory), .int (zI M_mostSteps), .int (zI M_mostMemory), .int (zI M_fault_129)])), (ad 31, .inr (9, [.ref (ad 9), .ref (ad 23), .ref (ad 32), .int (zI (-1))])), (ad 32, .inl (cI, 3, .inl (zA B_given)))]) X (jrunV X (c_Meter_fail (ad := ad) q130) jF0_k (fun _ _ _ _ => trivial) (jgV own_Builtins_perform (by decide +kernel)) rfl rfl rfl pd_Meter_fail (by decide) [14] rfl (by decide) 0 6 rfl rfl rfl rfl (Nat.le_of_ble_eq_true rfl) d_Builtins_perform_177 (by decide)) [14] [0, 1, 2, 3, 4, 5, 6, 7, 8, 9, 10, 11, 12, 13, 15, 16] [0, 1, 2, 3, 4, 5, 6, 7, 8, 9, 10, 11, 12, 13, 16, 14, 15] rfl rfl (by decide) (by decide) rfl (by decide) ?_
          refine J_iconst X d_Builtins_perform_180 ?_
          cases h
          exact J_ret E ⟨_, rfl, rfl⟩ d_Builtins_perform_181 (Nat.le_refl _) (Nat.le_refl _) rfl
    · refine J_aload_n X d_Builtins_perform_37 rfl 1 rfl ?_
      refine J_get X (j_in in_Builtins) 15 rfl rfl 1 (by decide) (j_m own_Builtins_perform (by decide +kernel)) rfl d_Builtins_perform_38 ?_
      refine J_iconst X d_Builtins_perform_41 ?_
      obtain ⟨M_fault_131, q132, h⟩ := wk_b h
      refine J_afterI0 (ws' := [(ad 9, .inr (4, [.ref (ad 14), .ref (ad 16), .ref (ad 10), .ref (ad 11), .ref (ad 12), .ref (ad 13), .int (zI V_top)])), (ad 10, .inl (cI, 3201, .inl (zA V_kinds))), (ad 11, .inl (cL, 3201, .inr (.inl (zB V_numbers)))), (ad 12, .inl (cI, 3201, .inl (zA V_parts))), (ad 13, .inl (cI, 3201, .inl (zA V_links))), (ad 14, .inr (2, [.ref (ad 15), .int (zI VB_top)])), (ad 15, .inl (cB, 36864, .inl (zA VB_row))), (ad 16, .inr (5, [.ref (ad 17), .ref (ad 18), .ref (ad 19), .ref (ad 20), .ref (ad 21), .ref (ad 22), .int (zI D_top)])), (ad 17, .inl (cI, 3201, .inl (zA D_forms))), (ad 18, .inl (cI, 3201, .inl (zA D_counts))), (ad 19, .inl (cL, 3201, .inr (.inl (zB D_numbers)))), (ad 20, .inl (cI, 3201, .inl (zA D_nodes))), (ad 21, .inl (cI, 3201, .inl (zA D_depths))), (ad 22, .inl (cI, 3201, .inl (zA D_weights))), (ad 23, .inr (6, [.int (zI M_steps_4), .int (zI M_memory), .int (zI M_mostSteps), .int (zI M_mostMemory), .int (zI M_fault_131)])), (ad 31, .inr (9, [.ref (ad 9), .ref (ad 23), .ref (ad 32), .int (zI (-1))])), (ad 32, .inl (cI, 3, .inl (zA B_given)))]) X (jrunV X (c_Meter_fail (ad := ad) q132) jF0_k (fun _ _ _ _ => trivial) (jgV own_Builtins_perform (by decide +kernel)) rfl rfl rfl pd_Meter_fail (by decide) [14] rfl (by decide) 0 6 rfl rfl rfl rfl (Nat.le_of_ble_eq_true rfl) d_Builtins_perform_42 (by decide)) [14] [0, 1, 2, 3, 4, 5, 6, 7, 8, 9, 10, 11, 12, 13, 15, 16] [0, 1, 2, 3, 4, 5, 6, 7, 8, 9, 10, 11, 12, 13, 16, 14, 15] rfl rfl (by decide) (by decide) rfl (by decide) ?_
      refine J_iconst X d_Builtins_perform_45 ?_
      cases h
      exact J_ret E ⟨_, rfl, rfl⟩ d_Builtins_perform_46 (Nat.le_refl _) (Nat.le_refl _) rfl
  · refine J_iconst X d_Builtins_perform_27 ?_
    cases h
    exact J_ret E ⟨_, rfl, rfl⟩ d_Builtins_perform_28 (Nat.le_refl _) (Nat.le_refl _) rfl
