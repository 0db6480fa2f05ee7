theorem d_Values_forget_0 : decode b_Values_forget 0 = .ok (.aload_n 0, 1) := by decide +kernel
theorem d_Values_forget_1 : decode b_Values_forget 1 = .ok (.sipush 200, 3) := by decide +kernel
theorem d_Values_forget_4 : decode b_Values_forget 4 = .ok (.putfield 42, 3) := by decide +kernel
theorem d_Values_forget_7 : decode b_Values_forget 7 = .ok (.aload_n 0, 1) := by decide +kernel
theorem d_Values_forget_8 : decode b_Values_forget 8 = .ok (.getfield 15, 3) := by decide +kernel
theorem d_Values_forget_11 : decode b_Values_forget 11 = .ok (.sipush 12800, 3) := by decide +kernel
theorem d_Values_forget_14 : decode b_Values_forget 14 = .ok (.invokevirtual 46, 3) := by decide +kernel
theorem d_Values_forget_17 : decode b_Values_forget 17 = .ok (.aload_n 0, 1) := by decide +kernel
theorem d_Values_forget_18 : decode b_Values_forget 18 = .ok (.getfield 24, 3) := by decide +kernel
theorem d_Values_forget_21 : decode b_Values_forget 21 = .ok (.invokevirtual 49, 3) := by decide +kernel
theorem d_Values_forget_24 : decode b_Values_forget 24 = .ok (.return_, 1) := by decide +kernel
def f_Values_forget (V_top : Int) (VB_top : Int) (D_top : Int) (D_forms : Int → Int) (D_counts : Int → Int) (D_numbers : Int → Int) (D_nodes : Int → Int) (D_depths : Int → Int) (D_weights : Int → Int) : Option (Int × Int × Int × (Int → Int) × (Int → Int) × (Int → Int) × (Int → Int) × (Int → Int) × (Int → Int)) :=
  Option.bind (f_ByteRow_cut 36864 VB_top 12800) (fun VB_top_1 =>
   ob7 (f_DataRow_forget D_top D_forms D_counts D_numbers D_nodes D_depths D_weights) (fun D_top_3 D_forms_4 D_counts_5 D_numbers_6 D_nodes_7 D_depths_8 D_weights_9 =>
    some (200, VB_top_1, D_top_3, D_forms_4, D_counts_5, D_numbers_6, D_nodes_7, D_depths_8, D_weights_9)))
set_option maxHeartbeats 4000000 in
set_option maxRecDepth 100000 in
theorem c_Values_forget {l : Launch} {D : va_G} {cI cL cB : ClassId} {ad : Nat → Nat} {V_top : Int} {VB_top : Int} {D_top : Int} {D_forms : Int → Int} {D_counts : Int → Int} {D_numbers : Int → Int} {D_nodes : Int → Int} {D_depths : Int → Int} {D_weights : Int → Int} {out : Int × Int × Int × (Int → Int) × (Int → Int) × (Int → Int) × (Int → Int) × (Int → Int) × (Int → Int)} (h : f_Values_forget V_top VB_top D_top D_forms D_counts D_numbers D_nodes D_depths D_weights = some out) : CT jF0 false l D [(cI, .int), (cL, .long), (cB, .byte)] y_Values_forget w_Values_forget ({ frames := 2, cells := 0, slots := 0, locals := 45 } : Room) [.ref (ad 9)] [(ad 9, .inr (4, [.ref (ad 14), .ref (ad 16), .ref (ad 10), .ref (ad 11), .ref (ad 12), .ref (ad 13), .int (zI V_top)])), (ad 14, .inr (2, [.ref (ad 15), .int (zI VB_top)])), (ad 16, .inr (5, [.ref (ad 17), .ref (ad 18), .ref (ad 19), .ref (ad 20), .ref (ad 21), .ref (ad 22), .int (zI D_top)])), (ad 17, .inl (cI, 3201, .inl (zA D_forms))), (ad 18, .inl (cI, 3201, .inl (zA D_counts))), (ad 19, .inl (cL, 3201, .inr (.inl (zB D_numbers)))), (ad 20, .inl (cI, 3201, .inl (zA D_nodes))), (ad 21, .inl (cI, 3201, .inl (zA D_depths))), (ad 22, .inl (cI, 3201, .inl (zA D_weights)))] none [(ad 9, .inr (4, [.ref (ad 14), .ref (ad 16), .ref (ad 10), .ref (ad 11), .ref (ad 12), .ref (ad 13), .int (zI (out.1))])), (ad 14, .inr (2, [.ref (ad 15), .int (zI (out.2.1))])), (ad 16, .inr (5, [.ref (ad 17), .ref (ad 18), .ref (ad 19), .ref (ad 20), .ref (ad 21), .ref (ad 22), .int (zI (out.2.2.1))])), (ad 17, .inl (cI, 3201, .inl (zA (out.2.2.2.1)))), (ad 18, .inl (cI, 3201, .inl (zA (out.2.2.2.2.1)))), (ad 19, .inl (cL, 3201, .inr (.inl (zB (out.2.2.2.2.2.1))))), (ad 20, .inl (cI, 3201, .inl (zA (out.2.2.2.2.2.2.1)))), (ad 21, .inl (cI, 3201, .inl (zA (out.2.2.2.2.2.2.2.1)))), (ad 22, .inl (cI, 3201, .inl (zA (out.2.2.2.2.2.2.2.2))))] 0 0 := by
  refine CT_of_J (cc := b_Values_forget) (maxL := 1) (ret := none) jF0_k (plainFor_of_name (by decide)) rfl (Nat.le_of_ble_eq_true rfl) ?_
  intro K hKl hKD X E
  subst hKl; subst hKD
  unfold f_Values_forget at h
  refine J_aload_n X d_Values_forget_0 rfl 0 rfl ?_
  refine J_sipush X d_Values_forget_1 (by decide) ?_
  refine J_put (ws' := [(ad 9, .inr (4, [.ref (ad 14), .ref (ad 16), .ref (ad 10), .ref (ad 11), .ref (ad 12), .ref (ad 13), .int (zI 200)])), (ad 14, .inr (2, [.ref (ad 15), .int (zI VB_top)])), (ad 16, .inr (5, [.ref (ad 17), .ref (ad 18), .ref (ad 19), .ref (ad 20), .ref (ad 21), .ref (ad 22), .int (zI D_top)])), (ad 17, .inl (cI, 3201, .inl (zA D_forms))), (ad 18, .inl (cI, 3201, .inl (zA D_counts))), (ad 19, .inl (cL, 3201, .inr (.inl (zB D_numbers)))), (ad 20, .inl (cI, 3201, .inl (zA D_nodes))), (ad 21, .inl (cI, 3201, .inl (zA D_depths))), (ad 22, .inl (cI, 3201, .inl (zA D_weights)))]) X (j_in in_Values) ty_Values tok_Values nm_Values 0 rfl rfl 6 (by decide) (j_m own_Values_forget (by decide +kernel)) rfl rfl rfl (Nat.le_of_ble_eq_true rfl) d_Values_forget_4 rfl ?_
  refine J_aload_n X d_Values_forget_7 rfl 0 rfl ?_
  refine J_get X (j_in in_Values) 0 rfl rfl 0 (by decide) (j_m own_Values_forget (by decide +kernel)) rfl d_Values_forget_8 ?_
  refine J_sipush X d_Values_forget_11 (by decide) ?_
  obtain ⟨VB_top_1, q2, h⟩ := wk_b h
  refine J_afterI0 (ws' := [(ad 9, .inr (4, [.ref (ad 14), .ref (ad 16), .ref (ad 10), .ref (ad 11), .ref (ad 12), .ref (ad 13), .int (zI 200)])), (ad 14, .inr (2, [.ref (ad 15), .int (zI VB_top_1)])), (ad 16, .inr (5, [.ref (ad 17), .ref (ad 18), .ref (ad 19), .ref (ad 20), .ref (ad 21), .ref (ad 22), .int (zI D_top)])), (ad 17, .inl (cI, 3201, .inl (zA D_forms))), (ad 18, .inl (cI, 3201, .inl (zA D_counts))), (ad 19, .inl (cL, 3201, .inr (.inl (zB D_numbers)))), (ad 20, .inl (cI, 3201, .inl (zA D_nodes))), (ad 21, .inl (cI, 3201, .inl (zA D_depths))), (ad 22, .inl (cI, 3201, .inl (zA D_weights)))]) X (jrunV X (c_ByteRow_cut (xa := ad 14) (xb := ad 15) q2) jF0_k (fun _ _ _ _ => trivial) (jgV own_Values_forget (by decide +kernel)) rfl rfl rfl pd_ByteRow_cut (by decide) [1] rfl (by decide) 0 2 rfl rfl rfl rfl (Nat.le_of_ble_eq_true rfl) d_Values_forget_14 (by decide)) [1] [0, 2, 3, 4, 5, 6, 7, 8] [0, 8, 1, 2, 3, 4, 5, 6, 7] rfl rfl (by decide) (by decide) rfl (by decide) ?_
  refine J_aload_n X d_Values_forget_17 rfl 0 rfl ?_
  refine J_get X (j_in in_Values) 0 rfl rfl 1 (by decide) (j_m own_Values_forget (by decide +kernel)) rfl d_Values_forget_18 ?_
  obtain ⟨D_top_3, D_forms_4, D_counts_5, D_numbers_6, D_nodes_7, D_depths_8, D_weights_9, q10, h⟩ := wk_b7 h
  refine J_afterI0 (ws' := [(ad 9, .inr (4, [.ref (ad 14), .ref (ad 16), .ref (ad 10), .ref (ad 11), .ref (ad 12), .ref (ad 13), .int (zI 200)])), (ad 14, .inr (2, [.ref (ad 15), .int (zI VB_top_1)])), (ad 16, .inr (5, [.ref (ad 17), .ref (ad 18), .ref (ad 19), .ref (ad 20), .ref (ad 21), .ref (ad 22), .int (zI D_top_3)])), (ad 17, .inl (cI, 3201, .inl (zA D_forms_4))), (ad 18, .inl (cI, 3201, .inl (zA D_counts_5))), (ad 19, .inl (cL, 3201, .inr (.inl (zB D_numbers_6)))), (ad 20, .inl (cI, 3201, .inl (zA D_nodes_7))), (ad 21, .inl (cI, 3201, .inl (zA D_depths_8))), (ad 22, .inl (cI, 3201, .inl (zA D_weights_9)))]) X (jrunV X (c_DataRow_forget (ad := ad) q10) jF0_k (fun _ _ _ _ => trivial) (jgV own_Values_forget (by decide +kernel)) rfl rfl rfl pd_DataRow_forget (by decide) [2, 3, 4, 5, 6, 7, 8] rfl (by decide) 0 5 rfl rfl rfl rfl (Nat.le_of_ble_eq_true rfl) d_Values_forget_21 (by decide)) [2, 3, 4, 5, 6, 7, 8] [0, 1] [0, 1, 2, 3, 4, 5, 6, 7, 8] rfl rfl (by decide) (by decide) rfl (by decide) ?_
  cases h
  exact J_ret E rfl d_Values_forget_24 (Nat.le_refl _) (Nat.le_refl _) rfl

theorem d_Values_set_0 : decode b_Values_set 0 = .ok (.iload_n 1, 1) := by decide +kernel
theorem d_Values_set_1 : decode b_Values_set 1 = .ok (.ifCond .lt 41, 3) := by decide +kernel
theorem d_Values_set_4 : decode b_Values_set 4 = .ok (.iload_n 1, 1) := by decide +kernel
theorem d_Values_set_5 : decode b_Values_set 5 = .ok (.aload_n 0, 1) := by decide +kernel
theorem d_Values_set_6 : decode b_Values_set 6 = .ok (.getfield 42, 3) := by decide +kernel
theorem d_Values_set_9 : decode b_Values_set 9 = .ok (.if_icmp .ge 33, 3) := by decide +kernel
theorem d_Values_set_12 : decode b_Values_set 12 = .ok (.aload_n 0, 1) := by decide +kernel
theorem d_Values_set_13 : decode b_Values_set 13 = .ok (.getfield 28, 3) := by decide +kernel
theorem d_Values_set_16 : decode b_Values_set 16 = .ok (.iload_n 1, 1) := by decide +kernel
theorem d_Values_set_17 : decode b_Values_set 17 = .ok (.iload_n 2, 1) := by decide +kernel
theorem d_Values_set_18 : decode b_Values_set 18 = .ok (.iastore, 1) := by decide +kernel
theorem d_Values_set_19 : decode b_Values_set 19 = .ok (.aload_n 0, 1) := by decide +kernel
theorem d_Values_set_20 : decode b_Values_set 20 = .ok (.getfield 32, 3) := by decide +kernel
theorem d_Values_set_23 : decode b_Values_set 23 = .ok (.iload_n 1, 1) := by decide +kernel
theorem d_Values_set_24 : decode b_Values_set 24 = .ok (.lload_n 3, 1) := by decide +kernel
theorem d_Values_set_25 : decode b_Values_set 25 = .ok (.lastore, 1) := by decide +kernel
theorem d_Values_set_26 : decode b_Values_set 26 = .ok (.aload_n 0, 1) := by decide +kernel
theorem d_Values_set_27 : decode b_Values_set 27 = .ok (.getfield 36, 3) := by decide +kernel
theorem d_Values_set_30 : decode b_Values_set 30 = .ok (.iload_n 1, 1) := by decide +kernel
theorem d_Values_set_31 : decode b_Values_set 31 = .ok (.iload 5, 2) := by decide +kernel
theorem d_Values_set_33 : decode b_Values_set 33 = .ok (.iastore, 1) := by decide +kernel
theorem d_Values_set_34 : decode b_Values_set 34 = .ok (.aload_n 0, 1) := by decide +kernel
theorem d_Values_set_35 : decode b_Values_set 35 = .ok (.getfield 39, 3) := by decide +kernel
theorem d_Values_set_38 : decode b_Values_set 38 = .ok (.iload_n 1, 1) := by decide +kernel
theorem d_Values_set_39 : decode b_Values_set 39 = .ok (.iload 6, 2) := by decide +kernel
theorem d_Values_set_41 : decode b_Values_set 41 = .ok (.iastore, 1) := by decide +kernel
theorem d_Values_set_42 : decode b_Values_set 42 = .ok (.return_, 1) := by decide +kernel
def f_Values_set (V_top : Int) (V_kinds : Int → Int) (V_numbers : Int → Int) (V_parts : Int → Int) (V_links : Int → Int) (p1 : Int) (p2 : Int) (p3 : Int) (p5 : Int) (p6 : Int) : Option ((Int → Int) × (Int → Int) × (Int → Int) × (Int → Int)) :=
  if rI p1 = true then (if p1 < 0 then (
   some (V_kinds, V_numbers, V_parts, V_links)) else (
   if jr2 p1 V_top = true then (if V_top ≤ p1 then (
    some (V_kinds, V_numbers, V_parts, V_links)) else (
    if jix p1 3201 = true then (
     if jix p1 3201 = true then (
      if jix p1 3201 = true then (
       if jix p1 3201 = true then (
        some ((upZ V_kinds p1 p2), (upZ V_numbers p1 p3), (upZ V_parts p1 p5), (upZ V_links p1 p6))) else none) else none) else none) else none)) else none)) else none
set_option maxHeartbeats 4000000 in
set_option maxRecDepth 100000 in
theorem c_Values_set {l : Launch} {D : va_G} {cI cL cB : ClassId} {ad : Nat → Nat} {V_top : Int} {V_kinds : Int → Int} {V_numbers : Int → Int} {V_parts : Int → Int} {V_links : Int → Int} {p1 : Int} {p2 : Int} {p3 : Int} {p5 : Int} {p6 : Int} {out : (Int → Int) × (Int → Int) × (Int → Int) × (Int → Int)} (h : f_Values_set V_top V_kinds V_numbers V_parts V_links p1 p2 p3 p5 p6 = some out) : CT jF0 false l D [(cI, .int), (cL, .long), (cB, .byte)] y_Values_set w_Values_set ({ frames := 0, cells := 0, slots := 0, locals := 0 } : Room) [.ref (ad 9), .int (zI p1), .int (zI p2), .long (zL p3), .int (zI p5), .int (zI p6)] [(ad 9, .inr (4, [.ref (ad 14), .ref (ad 16), .ref (ad 10), .ref (ad 11), .ref (ad 12), .ref (ad 13), .int (zI V_top)])), (ad 10, .inl (cI, 3201, .inl (zA V_kinds))), (ad 11, .inl (cL, 3201, .inr (.inl (zB V_numbers)))), (ad 12, .inl (cI, 3201, .inl (zA V_parts))), (ad 13, .inl (cI, 3201, .inl (zA V_links)))] none [(ad 9, .inr (4, [.ref (ad 14), .ref (ad 16), .ref (ad 10), .ref (ad 11), .ref (ad 12), .ref (ad 13), .int (zI V_top)])), (ad 10, .inl (cI, 3201, .inl (zA (out.1)))), (ad 11, .inl (cL, 3201, .inr (.inl (zB (out.2.1))))), (ad 12, .inl (cI, 3201, .inl (zA (out.2.2.1)))), (ad 13, .inl (cI, 3201, .inl (zA (out.2.2.2))))] 0 0 := by
  refine CT_of_J (cc := b_Values_set) (maxL := 7) (ret := none) jF0_k (plainFor_of_name (by decide)) rfl (Nat.le_of_ble_eq_true rfl) ?_
  intro K hKl hKD X E
  subst hKl; subst hKD
  unfold f_Values_set at h
  refine J_iload_n X d_Values_set_0 rfl 1 rfl ?_
  refine J_if_lt (tgt := 42) X d_Values_set_1 (by decide) h (fun c1 h => ?_) (fun c1 h => ?_)
  · cases h
    exact J_ret E rfl d_Values_set_42 (Nat.le_refl _) (Nat.le_refl _) rfl
  · refine J_iload_n X d_Values_set_4 rfl 1 rfl ?_
    refine J_aload_n X d_Values_set_5 rfl 0 rfl ?_
    refine J_get X (j_in in_Values) 0 rfl rfl 6 (by decide) (j_m own_Values_set (by decide +kernel)) rfl d_Values_set_6 ?_
    refine J_icmp_ge (tgt := 42) X d_Values_set_9 (by decide) h (fun c2 h => ?_) (fun c2 h => ?_)
    · cases h
      exact J_ret E rfl d_Values_set_42 (Nat.le_refl _) (Nat.le_refl _) rfl
    · refine J_aload_n X d_Values_set_12 rfl 0 rfl ?_
      refine J_get X (j_in in_Values) 0 rfl rfl 2 (by decide) (j_m own_Values_set (by decide +kernel)) rfl d_Values_set_13 ?_
      refine J_iload_n X d_Values_set_16 rfl 1 rfl ?_
      refine J_iload_n X d_Values_set_17 rfl 2 rfl ?_
      obtain ⟨g3, h⟩ := wk_g h
      refine J_iast (ws' := [(ad 9, .inr (4, [.ref (ad 14), .ref (ad 16), .ref (ad 10), .ref (ad 11), .ref (ad 12), .ref (ad 13), .int (zI V_top)])), (ad 10, .inl (cI, 3201, .inl (zA (upZ V_kinds p1 p2)))), (ad 11, .inl (cL, 3201, .inr (.inl (zB V_numbers)))), (ad 12, .inl (cI, 3201, .inl (zA V_parts))), (ad 13, .inl (cI, 3201, .inl (zA V_links)))]) X 1 0 rfl rfl g3 d_Values_set_18 rfl ?_
      refine J_aload_n X d_Values_set_19 rfl 0 rfl ?_
      refine J_get X (j_in in_Values) 0 rfl rfl 3 (by decide) (j_m own_Values_set (by decide +kernel)) rfl d_Values_set_20 ?_
      refine J_iload_n X d_Values_set_23 rfl 1 rfl ?_
      refine J_lload_n X d_Values_set_24 rfl 3 rfl ?_
      obtain ⟨g4, h⟩ := wk_g h
      refine J_last (ws' := [(ad 9, .inr (4, [.ref (ad 14), .ref (ad 16), .ref (ad 10), .ref (ad 11), .ref (ad 12), .ref (ad 13), .int (zI V_top)])), (ad 10, .inl (cI, 3201, .inl (zA (upZ V_kinds p1 p2)))), (ad 11, .inl (cL, 3201, .inr (.inl (zB (upZ V_numbers p1 p3))))), (ad 12, .inl (cI, 3201, .inl (zA V_parts))), (ad 13, .inl (cI, 3201, .inl (zA V_links)))]) X 2 1 rfl rfl g4 d_Values_set_25 rfl ?_
      refine J_aload_n X d_Values_set_26 rfl 0 rfl ?_
      refine J_get X (j_in in_Values) 0 rfl rfl 4 (by decide) (j_m own_Values_set (by decide +kernel)) rfl d_Values_set_27 ?_
      refine J_iload_n X d_Values_set_30 rfl 1 rfl ?_
      refine J_iload X d_Values_set_31 4 rfl ?_
      obtain ⟨g5, h⟩ := wk_g h
      refine J_iast (ws' := [(ad 9, .inr (4, [.ref (ad 14), .ref (ad 16), .ref (ad 10), .ref (ad 11), .ref (ad 12), .ref (ad 13), .int (zI V_top)])), (ad 10, .inl (cI, 3201, .inl (zA (upZ V_kinds p1 p2)))), (ad 11, .inl (cL, 3201, .inr (.inl (zB (upZ V_numbers p1 p3))))), (ad 12, .inl (cI, 3201, .inl (zA (upZ V_parts p1 p5)))), (ad 13, .inl (cI, 3201, .inl (zA V_links)))]) X 3 0 rfl rfl g5 d_Values_set_33 rfl ?_
      refine J_aload_n X d_Values_set_34 rfl 0 rfl ?_
      refine J_get X (j_in in_Values) 0 rfl rfl 5 (by decide) (j_m own_Values_set (by decide +kernel)) rfl d_Values_set_35 ?_
      refine J_iload_n X d_Values_set_38 rfl 1 rfl ?_
      refine J_iload X d_Values_set_39 5 rfl ?_
      obtain ⟨g6, h⟩ := wk_g h
      refine J_iast (ws' := [(ad 9, .inr (4, [.ref (ad 14), .ref (ad 16), .ref (ad 10), .ref (ad 11), .ref (ad 12), .ref (ad 13), .int (zI V_top)])), (ad 10, .inl (cI, 3201, .inl (zA (upZ V_kinds p1 p2)))), (ad 11, .inl (cL, 3201, .inr (.inl (zB (upZ V_numbers p1 p3))))), (ad 12, .inl (cI, 3201, .inl (zA (upZ V_parts p1 p5)))), (ad 13, .inl (cI, 3201, .inl (zA (upZ V_links p1 p6))))]) X 4 0 rfl rfl g6 d_Values_set_41 rfl ?_
      cases h
      exact J_ret E rfl d_Values_set_42 (Nat.le_refl _) (Nat.le_refl _) rfl

theorem d_Values_takeBytes_0 : decode b_Values_takeBytes 0 = .ok (.iload_n 2, 1) := by decide +kernel
theorem d_Values_takeBytes_1 : decode b_Values_takeBytes 1 = .ok (.bipush 64, 2) := by decide +kernel
theorem d_Values_takeBytes_3 : decode b_Values_takeBytes 3 = .ok (.imul, 1) := by decide +kernel
theorem d_Values_takeBytes_4 : decode b_Values_takeBytes 4 = .ok (.istore_n 3, 1) := by decide +kernel
theorem d_Values_takeBytes_5 : decode b_Values_takeBytes 5 = .ok (.aload_n 1, 1) := by decide +kernel
theorem d_Values_takeBytes_6 : decode b_Values_takeBytes 6 = .ok (.iload_n 2, 1) := by decide +kernel
theorem d_Values_takeBytes_7 : decode b_Values_takeBytes 7 = .ok (.invokevirtual 100, 3) := by decide +kernel
theorem d_Values_takeBytes_10 : decode b_Values_takeBytes 10 = .ok (.l2i, 1) := by decide +kernel
theorem d_Values_takeBytes_11 : decode b_Values_takeBytes 11 = .ok (.istore 4, 2) := by decide +kernel
theorem d_Values_takeBytes_13 : decode b_Values_takeBytes 13 = .ok (.iconst 0, 1) := by decide +kernel
theorem d_Values_takeBytes_14 : decode b_Values_takeBytes 14 = .ok (.istore 5, 2) := by decide +kernel
theorem d_Values_takeBytes_16 : decode b_Values_takeBytes 16 = .ok (.iload 5, 2) := by decide +kernel
theorem d_Values_takeBytes_18 : decode b_Values_takeBytes 18 = .ok (.iload 4, 2) := by decide +kernel
theorem d_Values_takeBytes_20 : decode b_Values_takeBytes 20 = .ok (.if_icmp .ge 27, 3) := by decide +kernel
theorem d_Values_takeBytes_23 : decode b_Values_takeBytes 23 = .ok (.aload_n 0, 1) := by decide +kernel
theorem d_Values_takeBytes_24 : decode b_Values_takeBytes 24 = .ok (.getfield 15, 3) := by decide +kernel
theorem d_Values_takeBytes_27 : decode b_Values_takeBytes 27 = .ok (.iload_n 3, 1) := by decide +kernel
theorem d_Values_takeBytes_28 : decode b_Values_takeBytes 28 = .ok (.iload 5, 2) := by decide +kernel
theorem d_Values_takeBytes_30 : decode b_Values_takeBytes 30 = .ok (.iadd, 1) := by decide +kernel
theorem d_Values_takeBytes_31 : decode b_Values_takeBytes 31 = .ok (.aload_n 1, 1) := by decide +kernel
theorem d_Values_takeBytes_32 : decode b_Values_takeBytes 32 = .ok (.iload_n 2, 1) := by decide +kernel
theorem d_Values_takeBytes_33 : decode b_Values_takeBytes 33 = .ok (.iload 5, 2) := by decide +kernel
theorem d_Values_takeBytes_35 : decode b_Values_takeBytes 35 = .ok (.invokevirtual 106, 3) := by decide +kernel
theorem d_Values_takeBytes_38 : decode b_Values_takeBytes 38 = .ok (.invokevirtual 110, 3) := by decide +kernel
theorem d_Values_takeBytes_41 : decode b_Values_takeBytes 41 = .ok (.iinc 5 1, 3) := by decide +kernel
theorem d_Values_takeBytes_44 : decode b_Values_takeBytes 44 = .ok (.goto (-28), 3) := by decide +kernel
theorem d_Values_takeBytes_47 : decode b_Values_takeBytes 47 = .ok (.aload_n 0, 1) := by decide +kernel
theorem d_Values_takeBytes_48 : decode b_Values_takeBytes 48 = .ok (.iload_n 2, 1) := by decide +kernel
theorem d_Values_takeBytes_49 : decode b_Values_takeBytes 49 = .ok (.iconst 1, 1) := by decide +kernel
theorem d_Values_takeBytes_50 : decode b_Values_takeBytes 50 = .ok (.lconst 0, 1) := by decide +kernel
theorem d_Values_takeBytes_51 : decode b_Values_takeBytes 51 = .ok (.iload_n 3, 1) := by decide +kernel
theorem d_Values_takeBytes_52 : decode b_Values_takeBytes 52 = .ok (.iload 4, 2) := by decide +kernel
theorem d_Values_takeBytes_54 : decode b_Values_takeBytes 54 = .ok (.invokevirtual 95, 3) := by decide +kernel
theorem d_Values_takeBytes_57 : decode b_Values_takeBytes 57 = .ok (.return_, 1) := by decide +kernel
def f_Values_takeBytes_L16 (TB_row : Int → Int) (x2 : Int) (x3 : Int) (x4 : Int) : Nat → Int → (Int → Int) → Option (Int × (Int → Int))
  | 0, _, _ => none
  | n + 1, x5, VB_row =>
    if jr2 x5 x4 = true then (if x4 ≤ x5 then (
     some (x5, VB_row)) else (
     Option.bind (f_Terms_textAt TB_row x2 x5) (fun r12 =>
      Option.bind (f_ByteRow_put 36864 VB_row (x3 + x5) r12) (fun VB_row_14 =>
       f_Values_takeBytes_L16 TB_row x2 x3 x4 n (x5 + 1) VB_row_14)))) else none
def f_Values_takeBytes (N : Nat) (T_nodes : Int) (T_args : Int → Int) (TB_row : Int → Int) (V_top : Int) (V_kinds : Int → Int) (V_numbers : Int → Int) (V_parts : Int → Int) (V_links : Int → Int) (VB_row : Int → Int) (p2 : Int) : Option ((Int → Int) × (Int → Int) × (Int → Int) × (Int → Int) × (Int → Int)) :=
  Option.bind (f_Terms_argOf T_nodes T_args p2) (fun r1 =>
   ob2 (f_Values_takeBytes_L16 TB_row p2 (p2 * 64) r1 N 0 VB_row) (fun x5_3 VB_row_4 =>
    ob4 (f_Values_set V_top V_kinds V_numbers V_parts V_links p2 1 0 (p2 * 64) r1) (fun V_kinds_6 V_numbers_7 V_parts_8 V_links_9 =>
     some (V_kinds_6, V_numbers_7, V_parts_8, V_links_9, VB_row_4))))
set_option maxHeartbeats 4000000 in
set_option maxRecDepth 100000 in
theorem k_Values_takeBytes_L16 {K : jK} {cI cL cB : ClassId} {ad : Nat → Nat} {TB_row : Int → Int} {x2 : Int} {x3 : Int} {x4 : Int} {T_nodes : Int} {T_count : Int} {T_args : Int → Int} {TB_top : Int} {V_top : Int} {V_kinds : Int → Int} {V_numbers : Int → Int} {V_parts : Int → Int} {V_links : Int → Int} {VB_top : Int} {out : Int × (Int → Int)} (X : jX jF0 K 6 b_Values_takeBytes w_Values_takeBytes R_Values [(cI, .int), (cL, .long), (cB, .byte)]) : ∀ (n : Nat) (x5 : Int) (VB_row : (Int → Int)), f_Values_takeBytes_L16 TB_row x2 x3 x4 n x5 VB_row = some out → J K 6 ({ frames := 2, cells := 0, slots := 0, locals := 43 } : Room) false 0 0 [(ad 1, .inr (1, [.ref (ad 2), .ref (ad 3), .ref (ad 4), .ref (ad 5), .ref (ad 6), .int (zI T_nodes), .int (zI T_count)])), (ad 3, .inl (cL, 200, .inr (.inl (zB T_args)))), (ad 6, .inr (2, [.ref (ad 7), .int (zI TB_top)])), (ad 7, .inl (cB, 12800, .inl (zA TB_row))), (ad 9, .inr (4, [.ref (ad 14), .ref (ad 16), .ref (ad 10), .ref (ad 11), .ref (ad 12), .ref (ad 13), .int (zI V_top)])), (ad 10, .inl (cI, 3201, .inl (zA V_kinds))), (ad 11, .inl (cL, 3201, .inr (.inl (zB V_numbers)))), (ad 12, .inl (cI, 3201, .inl (zA V_parts))), (ad 13, .inl (cI, 3201, .inl (zA V_links))), (ad 14, .inr (2, [.ref (ad 15), .int (zI VB_top)])), (ad 15, .inl (cB, 36864, .inl (zA (out.2))))] [(0, .ref (ad 9)), (1, .ref (ad 1)), (2, .int (zI x2)), (3, .int (zI x3)), (4, .int (zI x4)), (5, .int (zI (out.1)))] [] 47 → J K 6 ({ frames := 2, cells := 0, slots := 0, locals := 43 } : Room) false 0 0 [(ad 1, .inr (1, [.ref (ad 2), .ref (ad 3), .ref (ad 4), .ref (ad 5), .ref (ad 6), .int (zI T_nodes), .int (zI T_count)])), (ad 3, .inl (cL, 200, .inr (.inl (zB T_args)))), (ad 6, .inr (2, [.ref (ad 7), .int (zI TB_top)])), (ad 7, .inl (cB, 12800, .inl (zA TB_row))), (ad 9, .inr (4, [.ref (ad 14), .ref (ad 16), .ref (ad 10), .ref (ad 11), .ref (ad 12), .ref (ad 13), .int (zI V_top)])), (ad 10, .inl (cI, 3201, .inl (zA V_kinds))), (ad 11, .inl (cL, 3201, .inr (.inl (zB V_numbers)))), (ad 12, .inl (cI, 3201, .inl (zA V_parts))), (ad 13, .inl (cI, 3201, .inl (zA V_links))), (ad 14, .inr (2, [.ref (ad 15), .int (zI VB_top)])), (ad 15, .inl (cB, 36864, .inl (zA VB_row)))] [(0, .ref (ad 9)), (1, .ref (ad 1)), (2, .int (zI x2)), (3, .int (zI x3)), (4, .int (zI x4)), (5, .int (zI x5))] [] 16 := by
  intro n
  induction n with
  | zero =>
    intro x5 VB_row h hk
    cases h
  | succ n ih =>
    intro x5 VB_row h hk
    unfold f_Values_takeBytes_L16 at h
    refine J_iload X d_Values_takeBytes_16 5 rfl ?_
    refine J_iload X d_Values_takeBytes_18 4 rfl ?_
    refine J_icmp_ge (tgt := 47) X d_Values_takeBytes_20 (by decide) h (fun c11 h => ?_) (fun c11 h => ?_)
    · cases h
      refine J_lv (lv' := [(0, .ref (ad 9)), (1, .ref (ad 1)), (2, .int (zI x2)), (3, .int (zI x3)), (4, .int (zI x4)), (5, .int (zI x5))]) [0, 1, 2, 3, 4, 5] rfl ?_
      exact hk
    · refine J_aload_n X d_Values_takeBytes_23 rfl 0 rfl ?_
      refine J_get X (j_in in_Values) 4 rfl rfl 0 (by decide) (j_m own_Values_takeBytes (by decide +kernel)) rfl d_Values_takeBytes_24 ?_
      refine J_iload_n X d_Values_takeBytes_27 rfl 3 rfl ?_
      refine J_iload X d_Values_takeBytes_28 5 rfl ?_
      refine J_iadd X d_Values_takeBytes_30 ?_
      refine J_aload_n X d_Values_takeBytes_31 rfl 1 rfl ?_
      refine J_iload_n X d_Values_takeBytes_32 rfl 2 rfl ?_
      refine J_iload X d_Values_takeBytes_33 5 rfl ?_
      obtain ⟨r12, q13, h⟩ := wk_b h
      refine J_afterP (jrunV X (c_Terms_textAt (ad := ad) q13) jF0_k (fun _ _ _ _ => trivial) (jgV own_Values_takeBytes (by decide +kernel)) rfl rfl rfl pd_Terms_textAt (by decide) [0, 2, 3] rfl (by decide) 0 1 rfl rfl rfl rfl (Nat.le_of_ble_eq_true rfl) d_Values_takeBytes_35 (by decide)) ?_
      obtain ⟨VB_row_14, q15, h⟩ := wk_b h
      refine J_afterI0 (ws' := [(ad 1, .inr (1, [.ref (ad 2), .ref (ad 3), .ref (ad 4), .ref (ad 5), .ref (ad 6), .int (zI T_nodes), .int (zI T_count)])), (ad 3, .inl (cL, 200, .inr (.inl (zB T_args)))), (ad 6, .inr (2, [.ref (ad 7), .int (zI TB_top)])), (ad 7, .inl (cB, 12800, .inl (zA TB_row))), (ad 9, .inr (4, [.ref (ad 14), .ref (ad 16), .ref (ad 10), .ref (ad 11), .ref (ad 12), .ref (ad 13), .int (zI V_top)])), (ad 10, .inl (cI, 3201, .inl (zA V_kinds))), (ad 11, .inl (cL, 3201, .inr (.inl (zB V_numbers)))), (ad 12, .inl (cI, 3201, .inl (zA V_parts))), (ad 13, .inl (cI, 3201, .inl (zA V_links))), (ad 14, .inr (2, [.ref (ad 15), .int (zI VB_top)])), (ad 15, .inl (cB, 36864, .inl (zA VB_row_14)))]) X (jrunV X (c_ByteRow_put (xa := ad 14) (xb := ad 15) q15) jF0_k (fun _ _ _ _ => trivial) (jgV own_Values_takeBytes (by decide +kernel)) rfl rfl rfl pd_ByteRow_put (by decide) [9, 10] rfl (by decide) 0 2 rfl rfl rfl rfl (Nat.le_of_ble_eq_true rfl) d_Values_takeBytes_38 (by decide)) [9, 10] [0, 1, 2, 3, 4, 5, 6, 7, 8] [0, 1, 2, 3, 4, 5, 6, 7, 8, 9, 10] rfl rfl (by decide) (by decide) rfl (by decide) ?_
      refine J_iinc (lv' := [(5, .int (zI (x5 + 1))), (0, .ref (ad 9)), (1, .ref (ad 1)), (2, .int (zI x2)), (3, .int (zI x3)), (4, .int (zI x4))]) X d_Values_takeBytes_41 5 rfl (by decide) rfl ?_
      refine J_goto (tgt := 16) X d_Values_takeBytes_44 (by decide) ?_
      refine J_lv (lv' := [(0, .ref (ad 9)), (1, .ref (ad 1)), (2, .int (zI x2)), (3, .int (zI x3)), (4, .int (zI x4)), (5, .int (zI (x5 + 1)))]) [1, 2, 3, 4, 5, 0] rfl ?_
      exact ih _ _ h hk
set_option maxHeartbeats 4000000 in
set_option maxRecDepth 100000 in
theorem c_Values_takeBytes {l : Launch} {D : va_G} {cI cL cB : ClassId} {ad : Nat → Nat} {N : Nat} {T_nodes : Int} {T_count : Int} {T_args : Int → Int} {TB_top : Int} {TB_row : Int → Int} {V_top : Int} {V_kinds : Int → Int} {V_numbers : Int → Int} {V_parts : Int → Int} {V_links : Int → Int} {VB_top : Int} {VB_row : Int → Int} {p2 : Int} {out : (Int → Int) × (Int → Int) × (Int → Int) × (Int → Int) × (Int → Int)} (h : f_Values_takeBytes N T_nodes T_args TB_row V_top V_kinds V_numbers V_parts V_links VB_row p2 = some out) : CT jF0 false l D [(cI, .int), (cL, .long), (cB, .byte)] y_Values_takeBytes w_Values_takeBytes ({ frames := 2, cells := 0, slots := 0, locals := 43 } : Room) [.ref (ad 9), .ref (ad 1), .int (zI p2)] [(ad 1, .inr (1, [.ref (ad 2), .ref (ad 3), .ref (ad 4), .ref (ad 5), .ref (ad 6), .int (zI T_nodes), .int (zI T_count)])), (ad 3, .inl (cL, 200, .inr (.inl (zB T_args)))), (ad 6, .inr (2, [.ref (ad 7), .int (zI TB_top)])), (ad 7, .inl (cB, 12800, .inl (zA TB_row))), (ad 9, .inr (4, [.ref (ad 14), .ref (ad 16), .ref (ad 10), .ref (ad 11), .ref (ad 12), .ref (ad 13), .int (zI V_top)])), (ad 10, .inl (cI, 3201, .inl (zA V_kinds))), (ad 11, .inl (cL, 3201, .inr (.inl (zB V_numbers)))), (ad 12, .inl (cI, 3201, .inl (zA V_parts))), (ad 13, .inl (cI, 3201, .inl (zA V_links))), (ad 14, .inr (2, [.ref (ad 15), .int (zI VB_top)])), (ad 15, .inl (cB, 36864, .inl (zA VB_row)))] none [(ad 1, .inr (1, [.ref (ad 2), .ref (ad 3), .ref (ad 4), .ref (ad 5), .ref (ad 6), .int (zI T_nodes), .int (zI T_count)])), (ad 3, .inl (cL, 200, .inr (.inl (zB T_args)))), (ad 6, .inr (2, [.ref (ad 7), .int (zI TB_top)])), (ad 7, .inl (cB, 12800, .inl (zA TB_row))), (ad 9, .inr (4, [.ref (ad 14), .ref (ad 16), .ref (ad 10), .ref (ad 11), .ref (ad 12), .ref (ad 13), .int (zI V_top)])), (ad 10, .inl (cI, 3201, .inl (zA (out.1)))), (ad 11, .inl (cL, 3201, .inr (.inl (zB (out.2.1))))), (ad 12, .inl (cI, 3201, .inl (zA (out.2.2.1)))), (ad 13, .inl (cI, 3201, .inl (zA (out.2.2.2.1)))), (ad 14, .inr (2, [.ref (ad 15), .int (zI VB_top)])), (ad 15, .inl (cB, 36864, .inl (zA (out.2.2.2.2))))] 0 0 := by
  refine CT_of_J (cc := b_Values_takeBytes) (maxL := 6) (ret := none) jF0_k (plainFor_of_name (by decide)) rfl (Nat.le_of_ble_eq_true rfl) ?_
  intro K hKl hKD X E
  subst hKl; subst hKD
  unfold f_Values_takeBytes at h
  refine J_iload_n X d_Values_takeBytes_0 rfl 2 rfl ?_
  refine J_bipush X d_Values_takeBytes_1 (by decide) ?_
  refine J_imul X d_Values_takeBytes_3 ?_
  refine J_istore_n (lv' := [(3, .int (zI (p2 * 64))), (0, .ref (ad 9)), (1, .ref (ad 1)), (2, .int (zI p2))]) X d_Values_takeBytes_4 rfl (by decide) rfl ?_
  refine J_aload_n X d_Values_takeBytes_5 rfl 2 rfl ?_
  refine J_iload_n X d_Values_takeBytes_6 rfl 3 rfl ?_
  obtain ⟨r1, q2, h⟩ := wk_b h
  refine J_afterP (jrunV X (c_Terms_argOf (ad := ad) q2) jF0_k (fun _ _ _ _ => trivial) (jgV own_Values_takeBytes (by decide +kernel)) rfl rfl rfl pd_Terms_argOf (by decide) [0, 1] rfl (by decide) 0 1 rfl rfl rfl rfl (Nat.le_of_ble_eq_true rfl) d_Values_takeBytes_7 (by decide)) ?_
  refine J_l2i X d_Values_takeBytes_10 ?_
  refine J_istore (lv' := [(4, .int (zI r1)), (3, .int (zI (p2 * 64))), (0, .ref (ad 9)), (1, .ref (ad 1)), (2, .int (zI p2))]) X d_Values_takeBytes_11 (by decide) rfl ?_
  refine J_iconst X d_Values_takeBytes_13 ?_
  refine J_istore (lv' := [(5, .int (zI 0)), (4, .int (zI r1)), (3, .int (zI (p2 * 64))), (0, .ref (ad 9)), (1, .ref (ad 1)), (2, .int (zI p2))]) X d_Values_takeBytes_14 (by decide) rfl ?_
  refine J_lv (lv' := [(0, .ref (ad 9)), (1, .ref (ad 1)), (2, .int (zI p2)), (3, .int (zI (p2 * 64))), (4, .int (zI r1)), (5, .int (zI 0))]) [3, 4, 5, 2, 1, 0] rfl ?_
  obtain ⟨x5_3, VB_row_4, q5, h⟩ := wk_b2 h
  refine k_Values_takeBytes_L16 X _ _ _ q5 ?_
  refine J_aload_n X d_Values_takeBytes_47 rfl 0 rfl ?_
  refine J_iload_n X d_Values_takeBytes_48 rfl 2 rfl ?_
  refine J_iconst X d_Values_takeBytes_49 ?_
  refine J_lconst (v := 0) X d_Values_takeBytes_50 (by decide) ?_
  refine J_iload_n X d_Values_takeBytes_51 rfl 3 rfl ?_
  refine J_iload X d_Values_takeBytes_52 4 rfl ?_
  obtain ⟨V_kinds_6, V_numbers_7, V_parts_8, V_links_9, q10, h⟩ := wk_b4 h
  refine J_afterI0 (ws' := [(ad 1, .inr (1, [.ref (ad 2), .ref (ad 3), .ref (ad 4), .ref (ad 5), .ref (ad 6), .int (zI T_nodes), .int (zI T_count)])), (ad 3, .inl (cL, 200, .inr (.inl (zB T_args)))), (ad 6, .inr (2, [.ref (ad 7), .int (zI TB_top)])), (ad 7, .inl (cB, 12800, .inl (zA TB_row))), (ad 9, .inr (4, [.ref (ad 14), .ref (ad 16), .ref (ad 10), .ref (ad 11), .ref (ad 12), .ref (ad 13), .int (zI V_top)])), (ad 10, .inl (cI, 3201, .inl (zA V_kinds_6))), (ad 11, .inl (cL, 3201, .inr (.inl (zB V_numbers_7)))), (ad 12, .inl (cI, 3201, .inl (zA V_parts_8))), (ad 13, .inl (cI, 3201, .inl (zA V_links_9))), (ad 14, .inr (2, [.ref (ad 15), .int (zI VB_top)])), (ad 15, .inl (cB, 36864, .inl (zA VB_row_4)))]) X (jrunV X (c_Values_set (ad := ad) q10) jF0_k (fun _ _ _ _ => trivial) (jgV own_Values_takeBytes (by decide +kernel)) rfl rfl rfl pd_Values_set (by decide) [4, 5, 6, 7, 8] rfl (by decide) 0 4 rfl rfl rfl rfl (Nat.le_of_ble_eq_true rfl) d_Values_takeBytes_54 (by decide)) [4, 5, 6, 7, 8] [0, 1, 2, 3, 9, 10] [0, 1, 2, 3, 6, 7, 8, 9, 10, 4, 5] rfl rfl (by decide) (by decide) rfl (by decide) ?_
  cases h
  exact J_ret E rfl d_Values_takeBytes_57 (Nat.le_refl _) (Nat.le_refl _) rfl

theorem d_Values_takeConstant_0 : decode b_Values_takeConstant 0 = .ok (.aload_n 1, 1) := by decide +kernel
theorem d_Values_takeConstant_1 : decode b_Values_takeConstant 1 = .ok (.iload_n 2, 1) := by decide +kernel
theorem d_Values_takeConstant_2 : decode b_Values_takeConstant 2 = .ok (.invokevirtual 99, 3) := by decide +kernel
theorem d_Values_takeConstant_5 : decode b_Values_takeConstant 5 = .ok (.tableswitch 100 7 11 #[35, 51, 60, 76, 88], 35) := by decide +kernel
theorem d_Values_takeConstant_40 : decode b_Values_takeConstant 40 = .ok (.aload_n 0, 1) := by decide +kernel
theorem d_Values_takeConstant_41 : decode b_Values_takeConstant 41 = .ok (.iload_n 2, 1) := by decide +kernel
theorem d_Values_takeConstant_42 : decode b_Values_takeConstant 42 = .ok (.iconst 0, 1) := by decide +kernel
theorem d_Values_takeConstant_43 : decode b_Values_takeConstant 43 = .ok (.aload_n 1, 1) := by decide +kernel
theorem d_Values_takeConstant_44 : decode b_Values_takeConstant 44 = .ok (.iload_n 2, 1) := by decide +kernel
theorem d_Values_takeConstant_45 : decode b_Values_takeConstant 45 = .ok (.invokevirtual 100, 3) := by decide +kernel
theorem d_Values_takeConstant_48 : decode b_Values_takeConstant 48 = .ok (.iconst (-1), 1) := by decide +kernel
theorem d_Values_takeConstant_49 : decode b_Values_takeConstant 49 = .ok (.iconst (-1), 1) := by decide +kernel
theorem d_Values_takeConstant_50 : decode b_Values_takeConstant 50 = .ok (.invokevirtual 95, 3) := by decide +kernel
theorem d_Values_takeConstant_53 : decode b_Values_takeConstant 53 = .ok (.goto 52, 3) := by decide +kernel
theorem d_Values_takeConstant_56 : decode b_Values_takeConstant 56 = .ok (.aload_n 0, 1) := by decide +kernel
theorem d_Values_takeConstant_57 : decode b_Values_takeConstant 57 = .ok (.aload_n 1, 1) := by decide +kernel
theorem d_Values_takeConstant_58 : decode b_Values_takeConstant 58 = .ok (.iload_n 2, 1) := by decide +kernel
theorem d_Values_takeConstant_59 : decode b_Values_takeConstant 59 = .ok (.invokevirtual 103, 3) := by decide +kernel
theorem d_Values_takeConstant_62 : decode b_Values_takeConstant 62 = .ok (.goto 43, 3) := by decide +kernel
theorem d_Values_takeConstant_65 : decode b_Values_takeConstant 65 = .ok (.aload_n 0, 1) := by decide +kernel
theorem d_Values_takeConstant_66 : decode b_Values_takeConstant 66 = .ok (.iload_n 2, 1) := by decide +kernel
theorem d_Values_takeConstant_67 : decode b_Values_takeConstant 67 = .ok (.iconst 2, 1) := by decide +kernel
theorem d_Values_takeConstant_68 : decode b_Values_takeConstant 68 = .ok (.aload_n 1, 1) := by decide +kernel
theorem d_Values_takeConstant_69 : decode b_Values_takeConstant 69 = .ok (.iload_n 2, 1) := by decide +kernel
theorem d_Values_takeConstant_70 : decode b_Values_takeConstant 70 = .ok (.invokevirtual 100, 3) := by decide +kernel
theorem d_Values_takeConstant_73 : decode b_Values_takeConstant 73 = .ok (.iconst (-1), 1) := by decide +kernel
theorem d_Values_takeConstant_74 : decode b_Values_takeConstant 74 = .ok (.iconst (-1), 1) := by decide +kernel
theorem d_Values_takeConstant_75 : decode b_Values_takeConstant 75 = .ok (.invokevirtual 95, 3) := by decide +kernel
theorem d_Values_takeConstant_78 : decode b_Values_takeConstant 78 = .ok (.goto 27, 3) := by decide +kernel
theorem d_Values_takeConstant_81 : decode b_Values_takeConstant 81 = .ok (.aload_n 0, 1) := by decide +kernel
theorem d_Values_takeConstant_82 : decode b_Values_takeConstant 82 = .ok (.iload_n 2, 1) := by decide +kernel
theorem d_Values_takeConstant_83 : decode b_Values_takeConstant 83 = .ok (.iconst 3, 1) := by decide +kernel
theorem d_Values_takeConstant_84 : decode b_Values_takeConstant 84 = .ok (.lconst 0, 1) := by decide +kernel
theorem d_Values_takeConstant_85 : decode b_Values_takeConstant 85 = .ok (.iconst (-1), 1) := by decide +kernel
theorem d_Values_takeConstant_86 : decode b_Values_takeConstant 86 = .ok (.iconst (-1), 1) := by decide +kernel
theorem d_Values_takeConstant_87 : decode b_Values_takeConstant 87 = .ok (.invokevirtual 95, 3) := by decide +kernel
theorem d_Values_takeConstant_90 : decode b_Values_takeConstant 90 = .ok (.goto 15, 3) := by decide +kernel
theorem d_Values_takeConstant_93 : decode b_Values_takeConstant 93 = .ok (.aload_n 0, 1) := by decide +kernel
theorem d_Values_takeConstant_94 : decode b_Values_takeConstant 94 = .ok (.iload_n 2, 1) := by decide +kernel
theorem d_Values_takeConstant_95 : decode b_Values_takeConstant 95 = .ok (.iconst 4, 1) := by decide +kernel
theorem d_Values_takeConstant_96 : decode b_Values_takeConstant 96 = .ok (.lconst 0, 1) := by decide +kernel
theorem d_Values_takeConstant_97 : decode b_Values_takeConstant 97 = .ok (.iconst 0, 1) := by decide +kernel
theorem d_Values_takeConstant_98 : decode b_Values_takeConstant 98 = .ok (.iconst (-1), 1) := by decide +kernel
theorem d_Values_takeConstant_99 : decode b_Values_takeConstant 99 = .ok (.invokevirtual 95, 3) := by decide +kernel
theorem d_Values_takeConstant_102 : decode b_Values_takeConstant 102 = .ok (.goto 3, 3) := by decide +kernel
theorem d_Values_takeConstant_105 : decode b_Values_takeConstant 105 = .ok (.return_, 1) := by decide +kernel
def f_Values_takeConstant (N : Nat) (T_nodes : Int) (T_kinds : Int → Int) (T_args : Int → Int) (TB_row : Int → Int) (V_top : Int) (V_kinds : Int → Int) (V_numbers : Int → Int) (V_parts : Int → Int) (V_links : Int → Int) (VB_row : Int → Int) (p2 : Int) : Option ((Int → Int) × (Int → Int) × (Int → Int) × (Int → Int) × (Int → Int)) :=
  Option.bind (f_Terms_kindOf T_nodes T_kinds p2) (fun r1 =>
   if rI r1 = true then (
    if r1 = 7 then (
     Option.bind (f_Terms_argOf T_nodes T_args p2) (fun r5 =>
      ob4 (f_Values_set V_top V_kinds V_numbers V_parts V_links p2 0 r5 (-1) (-1)) (fun V_kinds_7 V_numbers_8 V_parts_9 V_links_10 =>
       some (V_kinds_7, V_numbers_8, V_parts_9, V_links_10, VB_row)))) else (
     if r1 = 8 then (
      ob5 (f_Values_takeBytes N T_nodes T_args TB_row V_top V_kinds V_numbers V_parts V_links VB_row p2) (fun V_kinds_13 V_numbers_14 V_parts_15 V_links_16 VB_row_17 =>
       some (V_kinds_13, V_numbers_14, V_parts_15, V_links_16, VB_row_17))) else (
      if r1 = 9 then (
       Option.bind (f_Terms_argOf T_nodes T_args p2) (fun r20 =>
        ob4 (f_Values_set V_top V_kinds V_numbers V_parts V_links p2 2 r20 (-1) (-1)) (fun V_kinds_22 V_numbers_23 V_parts_24 V_links_25 =>
         some (V_kinds_22, V_numbers_23, V_parts_24, V_links_25, VB_row)))) else (
       if r1 = 10 then (
        ob4 (f_Values_set V_top V_kinds V_numbers V_parts V_links p2 3 0 (-1) (-1)) (fun V_kinds_28 V_numbers_29 V_parts_30 V_links_31 =>
         some (V_kinds_28, V_numbers_29, V_parts_30, V_links_31, VB_row))) else (
        if r1 = 11 then (
         ob4 (f_Values_set V_top V_kinds V_numbers V_parts V_links p2 4 0 0 (-1)) (fun V_kinds_34 V_numbers_35 V_parts_36 V_links_37 =>
          some (V_kinds_34, V_numbers_35, V_parts_36, V_links_37, VB_row))) else (
         some (V_kinds, V_numbers, V_parts, V_links, VB_row))))))) else none)
set_option maxHeartbeats 4000000 in
set_option maxRecDepth 100000 in
theorem c_Values_takeConstant {l : Launch} {D : va_G} {cI cL cB : ClassId} {ad : Nat → Nat} {N : Nat} {T_nodes : Int} {T_count : Int} {T_kinds : Int → Int} {T_args : Int → Int} {TB_top : Int} {TB_row : Int → Int} {V_top : Int} {V_kinds : Int → Int} {V_numbers : Int → Int} {V_parts : Int → Int} {V_links : Int → Int} {VB_top : Int} {VB_row : Int → Int} {p2 : Int} {out : (Int → Int) × (Int → Int) × (Int → Int) × (Int → Int) × (Int → Int)} (h : f_Values_takeConstant N T_nodes T_kinds T_args TB_row V_top V_kinds V_numbers V_parts V_links VB_row p2 = some out) : CT jF0 false l D [(cI, .int), (cL, .long), (cB, .byte)] y_Values_takeConstant w_Values_takeConstant ({ frames := 3, cells := 0, slots := 0, locals := 68 } : Room) [.ref (ad 9), .ref (ad 1), .int (zI p2)] [(ad 1, .inr (1, [.ref (ad 2), .ref (ad 3), .ref (ad 4), .ref (ad 5), .ref (ad 6), .int (zI T_nodes), .int (zI T_count)])), (ad 2, .inl (cI, 200, .inl (zA T_kinds))), (ad 3, .inl (cL, 200, .inr (.inl (zB T_args)))), (ad 6, .inr (2, [.ref (ad 7), .int (zI TB_top)])), (ad 7, .inl (cB, 12800, .inl (zA TB_row))), (ad 9, .inr (4, [.ref (ad 14), .ref (ad 16), .ref (ad 10), .ref (ad 11), .ref (ad 12), .ref (ad 13), .int (zI V_top)])), (ad 10, .inl (cI, 3201, .inl (zA V_kinds))), (ad 11, .inl (cL, 3201, .inr (.inl (zB V_numbers)))), (ad 12, .inl (cI, 3201, .inl (zA V_parts))), (ad 13, .inl (cI, 3201, .inl (zA V_links))), (ad 14, .inr (2, [.ref (ad 15), .int (zI VB_top)])), (ad 15, .inl (cB, 36864, .inl (zA VB_row)))] none [(ad 1, .inr (1, [.ref (ad 2), .ref (ad 3), .ref (ad 4), .ref (ad 5), .ref (ad 6), .int (zI T_nodes), .int (zI T_count)])), (ad 2, .inl (cI, 200, .inl (zA T_kinds))), (ad 3, .inl (cL, 200, .inr (.inl (zB T_args)))), (ad 6, .inr (2, [.ref (ad 7), .int (zI TB_top)])), (ad 7, .inl (cB, 12800, .inl (zA TB_row))), (ad 9, .inr (4, [.ref (ad 14), .ref (ad 16), .ref (ad 10), .ref (ad 11), .ref (ad 12), .ref (ad 13), .int (zI V_top)])), (ad 10, .inl (cI, 3201, .inl (zA (out.1)))), (ad 11, .inl (cL, 3201, .inr (.inl (zB (out.2.1))))), (ad 12, .inl (cI, 3201, .inl (zA (out.2.2.1)))), (ad 13, .inl (cI, 3201, .inl (zA (out.2.2.2.1)))), (ad 14, .inr (2, [.ref (ad 15), .int (zI VB_top)])), (ad 15, .inl (cB, 36864, .inl (zA (out.2.2.2.2))))] 0 0 := by
  refine CT_of_J (cc := b_Values_takeConstant) (maxL := 3) (ret := none) jF0_k (plainFor_of_name (by decide)) rfl (Nat.le_of_ble_eq_true rfl) ?_
  intro K hKl hKD X E
  subst hKl; subst hKD
  unfold f_Values_takeConstant at h
  refine J_aload_n X d_Values_takeConstant_0 rfl 1 rfl ?_
  refine J_iload_n X d_Values_takeConstant_1 rfl 2 rfl ?_
  obtain ⟨r1, q2, h⟩ := wk_b h
  refine J_afterP (jrunV X (c_Terms_kindOf (ad := ad) q2) jF0_k (fun _ _ _ _ => trivial) (jgV own_Values_takeConstant (by decide +kernel)) rfl rfl rfl pd_Terms_kindOf (by decide) [0, 1] rfl (by decide) 0 1 rfl rfl rfl rfl (Nat.le_of_ble_eq_true rfl) d_Values_takeConstant_2 (by decide)) ?_
  obtain ⟨g3, h⟩ := wk_g h
  rcases wk_c h with ⟨c4, h⟩ | ⟨c4, h⟩
  · refine J_tsIn (tgt := 40) X 7 c4 g3 d_Values_takeConstant_5 (by decide) (by decide) rfl (by decide) ?_
    refine J_aload_n X d_Values_takeConstant_40 rfl 0 rfl ?_
    refine J_iload_n X d_Values_takeConstant_41 rfl 2 rfl ?_
    refine J_iconst X d_Values_takeConstant_42 ?_
    refine J_aload_n X d_Values_takeConstant_43 rfl 1 rfl ?_
    refine J_iload_n X d_Values_takeConstant_44 rfl 2 rfl ?_
    obtain ⟨r5, q6, h⟩ := wk_b h
    refine J_afterP (jrunV X (c_Terms_argOf (ad := ad) q6) jF0_k (fun _ _ _ _ => trivial) (jgV own_Values_takeConstant (by decide +kernel)) rfl rfl rfl pd_Terms_argOf (by decide) [0, 2] rfl (by decide) 0 1 rfl rfl rfl rfl (Nat.le_of_ble_eq_true rfl) d_Values_takeConstant_45 (by decide)) ?_
    refine J_iconst X d_Values_takeConstant_48 ?_
    refine J_iconst X d_Values_takeConstant_49 ?_
    obtain ⟨V_kinds_7, V_numbers_8, V_parts_9, V_links_10, q11, h⟩ := wk_b4 h
    refine J_afterI0 (ws' := [(ad 1, .inr (1, [.ref (ad 2), .ref (ad 3), .ref (ad 4), .ref (ad 5), .ref (ad 6), .int (zI T_nodes), .int (zI T_count)])), (ad 2, .inl (cI, 200, .inl (zA T_kinds))), (ad 3, .inl (cL, 200, .inr (.inl (zB T_args)))), (ad 6, .inr (2, [.ref (ad 7), .int (zI TB_top)])), (ad 7, .inl (cB, 12800, .inl (zA TB_row))), (ad 9, .inr (4, [.ref (ad 14), .ref (ad 16), .ref (ad 10), .ref (ad 11), .ref (ad 12), .ref (ad 13), .int (zI V_top)])), (ad 10, .inl (cI, 3201, .inl (zA V_kinds_7))), (ad 11, .inl (cL, 3201, .inr (.inl (zB V_numbers_8)))), (ad 12, .inl (cI, 3201, .inl (zA V_parts_9))), (ad 13, .inl (cI, 3201, .inl (zA V_links_10))), (ad 14, .inr (2, [.ref (ad 15), .int (zI VB_top)])), (ad 15, .inl (cB, 36864, .inl (zA VB_row)))]) X (jrunV X (c_Values_set (ad := ad) q11) jF0_k (fun _ _ _ _ => trivial) (jgV own_Values_takeConstant (by decide +kernel)) rfl rfl rfl pd_Values_set (by decide) [5, 6, 7, 8, 9] rfl (by decide) 0 4 rfl rfl rfl rfl (Nat.le_of_ble_eq_true rfl) d_Values_takeConstant_50 (by decide)) [5, 6, 7, 8, 9] [0, 1, 2, 3, 4, 10, 11] [0, 1, 2, 3, 4, 7, 8, 9, 10, 11, 5, 6] rfl rfl (by decide) (by decide) rfl (by decide) ?_
    refine J_goto (tgt := 105) X d_Values_takeConstant_53 (by decide) ?_
    cases h
    exact J_ret E rfl d_Values_takeConstant_105 (Nat.le_refl _) (Nat.le_refl _) rfl
  · rcases wk_c h with ⟨c12, h⟩ | ⟨c12, h⟩
    · refine J_tsIn (tgt := 56) X 8 c12 g3 d_Values_takeConstant_5 (by decide) (by decide) rfl (by decide) ?_
      refine J_aload_n X d_Values_takeConstant_56 rfl 0 rfl ?_
      refine J_aload_n X d_Values_takeConstant_57 rfl 1 rfl ?_
      refine J_iload_n X d_Values_takeConstant_58 rfl 2 rfl ?_
      obtain ⟨V_kinds_13, V_numbers_14, V_parts_15, V_links_16, VB_row_17, q18, h⟩ := wk_b5 h
      refine J_afterI0 (ws' := [(ad 1, .inr (1, [.ref (ad 2), .ref (ad 3), .ref (ad 4), .ref (ad 5), .ref (ad 6), .int (zI T_nodes), .int (zI T_count)])), (ad 2, .inl (cI, 200, .inl (zA T_kinds))), (ad 3, .inl (cL, 200, .inr (.inl (zB T_args)))), (ad 6, .inr (2, [.ref (ad 7), .int (zI TB_top)])), (ad 7, .inl (cB, 12800, .inl (zA TB_row))), (ad 9, .inr (4, [.ref (ad 14), .ref (ad 16), .ref (ad 10), .ref (ad 11), .ref (ad 12), .ref (ad 13), .int (zI V_top)])), (ad 10, .inl (cI, 3201, .inl (zA V_kinds_13))), (ad 11, .inl (cL, 3201, .inr (.inl (zB V_numbers_14)))), (ad 12, .inl (cI, 3201, .inl (zA V_parts_15))), (ad 13, .inl (cI, 3201, .inl (zA V_links_16))), (ad 14, .inr (2, [.ref (ad 15), .int (zI VB_top)])), (ad 15, .inl (cB, 36864, .inl (zA VB_row_17)))]) X (jrunV X (c_Values_takeBytes (ad := ad) q18) jF0_k (fun _ _ _ _ => trivial) (jgV own_Values_takeConstant (by decide +kernel)) rfl rfl rfl pd_Values_takeBytes (by decide) [0, 2, 3, 4, 5, 6, 7, 8, 9, 10, 11] rfl (by decide) 4 4 rfl rfl rfl rfl (Nat.le_of_ble_eq_true rfl) d_Values_takeConstant_59 (by decide)) [0, 2, 3, 4, 5, 6, 7, 8, 9, 10, 11] [1] [1, 0, 2, 3, 4, 5, 6, 7, 8, 9, 10, 11] rfl rfl (by decide) (by decide) rfl (by decide) ?_
      refine J_goto (tgt := 105) X d_Values_takeConstant_62 (by decide) ?_
      cases h
      exact J_ret E rfl d_Values_takeConstant_105 (Nat.le_refl _) (Nat.le_refl _) rfl
    · rcases wk_c h with ⟨c19, h⟩ | ⟨c19, h⟩
      · refine J_tsIn (tgt := 65) X 9 c19 g3 d_Values_takeConstant_5 (by decide) (by decide) rfl (by decide) ?_
        refine J_aload_n X d_Values_takeConstant_65 rfl 0 rfl ?_
        refine J_iload_n X d_Values_takeConstant_66 rfl 2 rfl ?_
        refine J_iconst X d_Values_takeConstant_67 ?_
        refine J_aload_n X d_Values_takeConstant_68 rfl 1 rfl ?_
        refine J_iload_n X d_Values_takeConstant_69 rfl 2 rfl ?_
        obtain ⟨r20, q21, h⟩ := wk_b h
        refine J_afterP (jrunV X (c_Terms_argOf (ad := ad) q21) jF0_k (fun _ _ _ _ => trivial) (jgV own_Values_takeConstant (by decide +kernel)) rfl rfl rfl pd_Terms_argOf (by decide) [0, 2] rfl (by decide) 0 1 rfl rfl rfl rfl (Nat.le_of_ble_eq_true rfl) d_Values_takeConstant_70 (by decide)) ?_
        refine J_iconst X d_Values_takeConstant_73 ?_
        refine J_iconst X d_Values_takeConstant_74 ?_
        obtain ⟨V_kinds_22, V_numbers_23, V_parts_24, V_links_25, q26, h⟩ := wk_b4 h
        refine J_afterI0 (ws' := [(ad 1, .inr (1, [.ref (ad 2), .ref (ad 3), .ref (ad 4), .ref (ad 5), .ref (ad 6), .int (zI T_nodes), .int (zI T_count)])), (ad 2, .inl (cI, 200, .inl (zA T_kinds))), (ad 3, .inl (cL, 200, .inr (.inl (zB T_args)))), (ad 6, .inr (2, [.ref (ad 7), .int (zI TB_top)])), (ad 7, .inl (cB, 12800, .inl (zA TB_row))), (ad 9, .inr (4, [.ref (ad 14), .ref (ad 16), .ref (ad 10), .ref (ad 11), .ref (ad 12), .ref (ad 13), .int (zI V_top)])), (ad 10, .inl (cI, 3201, .inl (zA V_kinds_22))), (ad 11, .inl (cL, 3201, .inr (.inl (zB V_numbers_23)))), (ad 12, .inl (cI, 3201, .inl (zA V_parts_24))), (ad 13, .inl (cI, 3201, .inl (zA V_links_25))), (ad 14, .inr (2, [.ref (ad 15), .int (zI VB_top)])), (ad 15, .inl (cB, 36864, .inl (zA VB_row)))]) X (jrunV X (c_Values_set (ad := ad) q26) jF0_k (fun _ _ _ _ => trivial) (jgV own_Values_takeConstant (by decide +kernel)) rfl rfl rfl pd_Values_set (by decide) [5, 6, 7, 8, 9] rfl (by decide) 0 4 rfl rfl rfl rfl (Nat.le_of_ble_eq_true rfl) d_Values_takeConstant_75 (by decide)) [5, 6, 7, 8, 9] [0, 1, 2, 3, 4, 10, 11] [0, 1, 2, 3, 4, 7, 8, 9, 10, 11, 5, 6] rfl rfl (by decide) (by decide) rfl (by decide) ?_
        refine J_goto (tgt := 105) X d_Values_takeConstant_78 (by decide) ?_
        cases h
        exact J_ret E rfl d_Values_takeConstant_105 (Nat.le_refl _) (Nat.le_refl _) rfl
      · rcases wk_c h with ⟨c27, h⟩ | ⟨c27, h⟩
        · refine J_tsIn (tgt := 81) X 10 c27 g3 d_Values_takeConstant_5 (by decide) (by decide) rfl (by decide) ?_
          refine J_aload_n X d_Values_takeConstant_81 rfl 0 rfl ?_
          refine J_iload_n X d_Values_takeConstant_82 rfl 2 rfl ?_
          refine J_iconst X d_Values_takeConstant_83 ?_
          refine J_lconst (v := 0) X d_Values_takeConstant_84 (by decide) ?_
          refine J_iconst X d_Values_takeConstant_85 ?_
          refine J_iconst X d_Values_takeConstant_86 ?_
          obtain ⟨V_kinds_28, V_numbers_29, V_parts_30, V_links_31, q32, h⟩ := wk_b4 h
          refine J_afterI0 (ws' := [(ad 1, .inr (1, [.ref (ad 2), .ref (ad 3), .ref (ad 4), .ref (ad 5), .ref (ad 6), .int (zI T_nodes), .int (zI T_count)])), (ad 2, .inl (cI, 200, .inl (zA T_kinds))), (ad 3, .inl (cL, 200, .inr (.inl (zB T_args)))), (ad 6, .inr (2, [.ref (ad 7), .int (zI TB_top)])), (ad 7, .inl (cB, 12800, .inl (zA TB_row))), (ad 9, .inr (4, [.ref (ad 14), .ref (ad 16), .ref (ad 10), .ref (ad 11), .ref (ad 12), .ref (ad 13), .int (zI V_top)])), (ad 10, .inl (cI, 3201, .inl (zA V_kinds_28))), (ad 11, .inl (cL, 3201, .inr (.inl (zB V_numbers_29)))), (ad 12, .inl (cI, 3201, .inl (zA V_parts_30))), (ad 13, .inl (cI, 3201, .inl (zA V_links_31))), (ad 14, .inr (2, [.ref (ad 15), .int (zI VB_top)])), (ad 15, .inl (cB, 36864, .inl (zA VB_row)))]) X (jrunV X (c_Values_set (ad := ad) q32) jF0_k (fun _ _ _ _ => trivial) (jgV own_Values_takeConstant (by decide +kernel)) rfl rfl rfl pd_Values_set (by decide) [5, 6, 7, 8, 9] rfl (by decide) 0 4 rfl rfl rfl rfl (Nat.le_of_ble_eq_true rfl) d_Values_takeConstant_87 (by decide)) [5, 6, 7, 8, 9] [0, 1, 2, 3, 4, 10, 11] [0, 1, 2, 3, 4, 7, 8, 9, 10, 11, 5, 6] rfl rfl (by decide) (by decide) rfl (by decide) ?_
          refine J_goto (tgt := 105) X d_Values_takeConstant_90 (by decide) ?_
          cases h
          exact J_ret E rfl d_Values_takeConstant_105 (Nat.le_refl _) (Nat.le_refl _) rfl
        · rcases wk_c h with ⟨c33, h⟩ | ⟨c33, h⟩
          · refine J_tsIn (tgt := 93) X 11 c33 g3 d_Values_takeConstant_5 (by decide) (by decide) rfl (by decide) ?_
            refine J_aload_n X d_Values_takeConstant_93 rfl 0 rfl ?_
            refine J_iload_n X d_Values_takeConstant_94 rfl 2 rfl ?_
            refine J_iconst X d_Values_takeConstant_95 ?_
            refine J_lconst (v := 0) X d_Values_takeConstant_96 (by decide) ?_
            refine J_iconst X d_Values_takeConstant_97 ?_
            refine J_iconst X d_Values_takeConstant_98 ?_
            obtain ⟨V_kinds_34, V_numbers_35, V_parts_36, V_links_37, q38, h⟩ := wk_b4 h
            refine J_afterI0 (ws' := [(ad 1, .inr (1, [.ref (ad 2), .ref (ad 3), .ref (ad 4), .ref (ad 5), .ref (ad 6), .int (zI T_nodes), .int (zI T_count)])), (ad 2, .inl (cI, 200, .inl (zA T_kinds))), (ad 3, .inl (cL, 200, .inr (.inl (zB T_args)))), (ad 6, .inr (2, [.ref (ad 7), .int (zI TB_top)])), (ad 7, .inl (cB, 12800, .inl (zA TB_row))), (ad 9, .inr (4, [.ref (ad 14), .ref (ad 16), .ref (ad 10), .ref (ad 11), .ref (ad 12), .ref (ad 13), .int (zI V_top)])), (ad 10, .inl (cI, 3201, .inl (zA V_kinds_34))), (ad 11, .inl (cL, 3201, .inr (.inl (zB V_numbers_35)))), (ad 12, .inl (cI, 3201, .inl (zA V_parts_36))), (ad 13, .inl (cI, 3201, .inl (zA V_links_37))), (ad 14, .inr (2, [.ref (ad 15), .int (zI VB_top)])), (ad 15, .inl (cB, 36864, .inl (zA VB_row)))]) X (jrunV X (c_Values_set (ad := ad) q38) jF0_k (fun _ _ _ _ => trivial) (jgV own_Values_takeConstant (by decide +kernel)) rfl rfl rfl pd_Values_set (by decide) [5, 6, 7, 8, 9] rfl (by decide) 0 4 rfl rfl rfl rfl (Nat.le_of_ble_eq_true rfl) d_Values_takeConstant_99 (by decide)) [5, 6, 7, 8, 9] [0, 1, 2, 3, 4, 10, 11] [0, 1, 2, 3, 4, 7, 8, 9, 10, 11, 5, 6] rfl rfl (by decide) (by decide) rfl (by decide) ?_
            refine J_goto (tgt := 105) X d_Values_takeConstant_102 (by decide) ?_
            cases h
            exact J_ret E rfl d_Values_takeConstant_105 (Nat.le_refl _) (Nat.le_refl _) rfl
          · refine J_tsOut (tgt := 105) X g3 d_Values_takeConstant_5 (by omega) (by decide) ?_
            cases h
            exact J_ret E rfl d_Values_takeConstant_105 (Nat.le_refl _) (Nat.le_refl _) rfl

theorem d_Values_takeConstants_0 : decode b_Values_takeConstants 0 = .ok (.aload_n 1, 1) := by decide +kernel
theorem d_Values_takeConstants_1 : decode b_Values_takeConstants 1 = .ok (.invokevirtual 52, 3) := by decide +kernel
theorem d_Values_takeConstants_4 : decode b_Values_takeConstants 4 = .ok (.istore_n 2, 1) := by decide +kernel
theorem d_Values_takeConstants_5 : decode b_Values_takeConstants 5 = .ok (.aload_n 1, 1) := by decide +kernel
theorem d_Values_takeConstants_6 : decode b_Values_takeConstants 6 = .ok (.iload_n 2, 1) := by decide +kernel
theorem d_Values_takeConstants_7 : decode b_Values_takeConstants 7 = .ok (.invokevirtual 58, 3) := by decide +kernel
theorem d_Values_takeConstants_10 : decode b_Values_takeConstants 10 = .ok (.istore_n 3, 1) := by decide +kernel
theorem d_Values_takeConstants_11 : decode b_Values_takeConstants 11 = .ok (.iload_n 3, 1) := by decide +kernel
theorem d_Values_takeConstants_12 : decode b_Values_takeConstants 12 = .ok (.iload_n 2, 1) := by decide +kernel
theorem d_Values_takeConstants_13 : decode b_Values_takeConstants 13 = .ok (.if_icmp .gt 15, 3) := by decide +kernel
theorem d_Values_takeConstants_16 : decode b_Values_takeConstants 16 = .ok (.aload_n 0, 1) := by decide +kernel
theorem d_Values_takeConstants_17 : decode b_Values_takeConstants 17 = .ok (.aload_n 1, 1) := by decide +kernel
theorem d_Values_takeConstants_18 : decode b_Values_takeConstants 18 = .ok (.iload_n 3, 1) := by decide +kernel
theorem d_Values_takeConstants_19 : decode b_Values_takeConstants 19 = .ok (.invokevirtual 62, 3) := by decide +kernel
theorem d_Values_takeConstants_22 : decode b_Values_takeConstants 22 = .ok (.iinc 3 1, 3) := by decide +kernel
theorem d_Values_takeConstants_25 : decode b_Values_takeConstants 25 = .ok (.goto (-14), 3) := by decide +kernel
theorem d_Values_takeConstants_28 : decode b_Values_takeConstants 28 = .ok (.return_, 1) := by decide +kernel
def f_Values_takeConstants_L11 (N : Nat) (T_nodes : Int) (T_kinds : Int → Int) (T_args : Int → Int) (TB_row : Int → Int) (V_top : Int) (x2 : Int) : Nat → Int → (Int → Int) → (Int → Int) → (Int → Int) → (Int → Int) → (Int → Int) → Option (Int × (Int → Int) × (Int → Int) × (Int → Int) × (Int → Int) × (Int → Int))
  | 0, _, _, _, _, _, _ => none
  | n + 1, x3, V_kinds, V_numbers, V_parts, V_links, VB_row =>
    if jr2 x3 x2 = true then (if x2 < x3 then (
     some (x3, V_kinds, V_numbers, V_parts, V_links, VB_row)) else (
     ob5 (f_Values_takeConstant N T_nodes T_kinds T_args TB_row V_top V_kinds V_numbers V_parts V_links VB_row x3) (fun V_kinds_13 V_numbers_14 V_parts_15 V_links_16 VB_row_17 =>
      f_Values_takeConstants_L11 N T_nodes T_kinds T_args TB_row V_top x2 n (x3 + 1) V_kinds_13 V_numbers_14 V_parts_15 V_links_16 VB_row_17))) else none
def f_Values_takeConstants (N : Nat) (T_nodes : Int) (T_kinds : Int → Int) (T_args : Int → Int) (T_firsts : Int → Int) (TB_row : Int → Int) (V_top : Int) (V_kinds : Int → Int) (V_numbers : Int → Int) (V_parts : Int → Int) (V_links : Int → Int) (VB_row : Int → Int) : Option ((Int → Int) × (Int → Int) × (Int → Int) × (Int → Int) × (Int → Int)) :=
  Option.bind (f_Terms_last T_nodes) (fun r1 =>
   Option.bind (f_Terms_firstOf T_nodes T_firsts r1) (fun r3 =>
    ob6 (f_Values_takeConstants_L11 N T_nodes T_kinds T_args TB_row V_top r1 N r3 V_kinds V_numbers V_parts V_links VB_row) (fun x3_5 V_kinds_6 V_numbers_7 V_parts_8 V_links_9 VB_row_10 =>
     some (V_kinds_6, V_numbers_7, V_parts_8, V_links_9, VB_row_10))))
set_option maxHeartbeats 4000000 in
set_option maxRecDepth 100000 in
theorem k_Values_takeConstants_L11 {K : jK} {cI cL cB : ClassId} {ad : Nat → Nat} {N : Nat} {T_nodes : Int} {T_kinds : Int → Int} {T_args : Int → Int} {TB_row : Int → Int} {V_top : Int} {x2 : Int} {T_count : Int} {T_firsts : Int → Int} {TB_top : Int} {VB_top : Int} {out : Int × (Int → Int) × (Int → Int) × (Int → Int) × (Int → Int) × (Int → Int)} (X : jX jF0 K 4 b_Values_takeConstants w_Values_takeConstants R_Values [(cI, .int), (cL, .long), (cB, .byte)]) : ∀ (n : Nat) (x3 : Int) (V_kinds : (Int → Int)) (V_numbers : (Int → Int)) (V_parts : (Int → Int)) (V_links : (Int → Int)) (VB_row : (Int → Int)), f_Values_takeConstants_L11 N T_nodes T_kinds T_args TB_row V_top x2 n x3 V_kinds V_numbers V_parts V_links VB_row = some out → J K 4 ({ frames := 4, cells := 0, slots := 0, locals := 90 } : Room) false 0 0 [(ad 1, .inr (1, [.ref (ad 2), .ref (ad 3), .ref (ad 4), .ref (ad 5), .ref (ad 6), .int (zI T_nodes), .int (zI T_count)])), (ad 2, .inl (cI, 200, .inl (zA T_kinds))), (ad 3, .inl (cL, 200, .inr (.inl (zB T_args)))), (ad 4, .inl (cI, 200, .inl (zA T_firsts))), (ad 6, .inr (2, [.ref (ad 7), .int (zI TB_top)])), (ad 7, .inl (cB, 12800, .inl (zA TB_row))), (ad 9, .inr (4, [.ref (ad 14), .ref (ad 16), .ref (ad 10), .ref (ad 11), .ref (ad 12), .ref (ad 13), .int (zI V_top)])), (ad 10, .inl (cI, 3201, .inl (zA (out.2.1)))), (ad 11, .inl (cL, 3201, .inr (.inl (zB (out.2.2.1))))), (ad 12, .inl (cI, 3201, .inl (zA (out.2.2.2.1)))), (ad 13, .inl (cI, 3201, .inl (zA (out.2.2.2.2.1)))), (ad 14, .inr (2, [.ref (ad 15), .int (zI VB_top)])), (ad 15, .inl (cB, 36864, .inl (zA (out.2.2.2.2.2))))] [(0, .ref (ad 9)), (1, .ref (ad 1)), (2, .int (zI x2)), (3, .int (zI (out.1)))] [] 28 → J K 4 ({ frames := 4, cells := 0, slots := 0, locals := 90 } : Room) false 0 0 [(ad 1, .inr (1, [.ref (ad 2), .ref (ad 3), .ref (ad 4), .ref (ad 5), .ref (ad 6), .int (zI T_nodes), .int (zI T_count)])), (ad 2, .inl (cI, 200, .inl (zA T_kinds))), (ad 3, .inl (cL, 200, .inr (.inl (zB T_args)))), (ad 4, .inl (cI, 200, .inl (zA T_firsts))), (ad 6, .inr (2, [.ref (ad 7), .int (zI TB_top)])), (ad 7, .inl (cB, 12800, .inl (zA TB_row))), (ad 9, .inr (4, [.ref (ad 14), .ref (ad 16), .ref (ad 10), .ref (ad 11), .ref (ad 12), .ref (ad 13), .int (zI V_top)])), (ad 10, .inl (cI, 3201, .inl (zA V_kinds))), (ad 11, .inl (cL, 3201, .inr (.inl (zB V_numbers)))), (ad 12, .inl (cI, 3201, .inl (zA V_parts))), (ad 13, .inl (cI, 3201, .inl (zA V_links))), (ad 14, .inr (2, [.ref (ad 15), .int (zI VB_top)])), (ad 15, .inl (cB, 36864, .inl (zA VB_row)))] [(0, .ref (ad 9)), (1, .ref (ad 1)), (2, .int (zI x2)), (3, .int (zI x3))] [] 11 := by
  intro n
  induction n with
  | zero =>
    intro x3 V_kinds V_numbers V_parts V_links VB_row h hk
    cases h
  | succ n ih =>
    intro x3 V_kinds V_numbers V_parts V_links VB_row h hk
    unfold f_Values_takeConstants_L11 at h
    refine J_iload_n X d_Values_takeConstants_11 rfl 3 rfl ?_
    refine J_iload_n X d_Values_takeConstants_12 rfl 2 rfl ?_
    refine J_icmp_gt (tgt := 28) X d_Values_takeConstants_13 (by decide) h (fun c12 h => ?_) (fun c12 h => ?_)
    · cases h
      refine J_lv (lv' := [(0, .ref (ad 9)), (1, .ref (ad 1)), (2, .int (zI x2)), (3, .int (zI x3))]) [0, 1, 2, 3] rfl ?_
      exact hk
    · refine J_aload_n X d_Values_takeConstants_16 rfl 0 rfl ?_
      refine J_aload_n X d_Values_takeConstants_17 rfl 1 rfl ?_
      refine J_iload_n X d_Values_takeConstants_18 rfl 3 rfl ?_
      obtain ⟨V_kinds_13, V_numbers_14, V_parts_15, V_links_16, VB_row_17, q18, h⟩ := wk_b5 h
      refine J_afterI0 (ws' := [(ad 1, .inr (1, [.ref (ad 2), .ref (ad 3), .ref (ad 4), .ref (ad 5), .ref (ad 6), .int (zI T_nodes), .int (zI T_count)])), (ad 2, .inl (cI, 200, .inl (zA T_kinds))), (ad 3, .inl (cL, 200, .inr (.inl (zB T_args)))), (ad 4, .inl (cI, 200, .inl (zA T_firsts))), (ad 6, .inr (2, [.ref (ad 7), .int (zI TB_top)])), (ad 7, .inl (cB, 12800, .inl (zA TB_row))), (ad 9, .inr (4, [.ref (ad 14), .ref (ad 16), .ref (ad 10), .ref (ad 11), .ref (ad 12), .ref (ad 13), .int (zI V_top)])), (ad 10, .inl (cI, 3201, .inl (zA V_kinds_13))), (ad 11, .inl (cL, 3201, .inr (.inl (zB V_numbers_14)))), (ad 12, .inl (cI, 3201, .inl (zA V_parts_15))), (ad 13, .inl (cI, 3201, .inl (zA V_links_16))), (ad 14, .inr (2, [.ref (ad 15), .int (zI VB_top)])), (ad 15, .inl (cB, 36864, .inl (zA VB_row_17)))]) X (jrunV X (c_Values_takeConstant (ad := ad) q18) jF0_k (fun _ _ _ _ => trivial) (jgV own_Values_takeConstants (by decide +kernel)) rfl rfl rfl pd_Values_takeConstant (by decide) [0, 1, 2, 4, 5, 6, 7, 8, 9, 10, 11, 12] rfl (by decide) 5 4 rfl rfl rfl rfl (Nat.le_of_ble_eq_true rfl) d_Values_takeConstants_19 (by decide)) [0, 1, 2, 4, 5, 6, 7, 8, 9, 10, 11, 12] [3] [1, 2, 3, 0, 4, 5, 6, 7, 8, 9, 10, 11, 12] rfl rfl (by decide) (by decide) rfl (by decide) ?_
      refine J_iinc (lv' := [(3, .int (zI (x3 + 1))), (0, .ref (ad 9)), (1, .ref (ad 1)), (2, .int (zI x2))]) X d_Values_takeConstants_22 3 rfl (by decide) rfl ?_
      refine J_goto (tgt := 11) X d_Values_takeConstants_25 (by decide) ?_
      refine J_lv (lv' := [(0, .ref (ad 9)), (1, .ref (ad 1)), (2, .int (zI x2)), (3, .int (zI (x3 + 1)))]) [1, 2, 3, 0] rfl ?_
      exact ih _ _ _ _ _ _ h hk
set_option maxHeartbeats 4000000 in
set_option maxRecDepth 100000 in
theorem c_Values_takeConstants {l : Launch} {D : va_G} {cI cL cB : ClassId} {ad : Nat → Nat} {N : Nat} {T_nodes : Int} {T_count : Int} {T_kinds : Int → Int} {T_args : Int → Int} {T_firsts : Int → Int} {TB_top : Int} {TB_row : Int → Int} {V_top : Int} {V_kinds : Int → Int} {V_numbers : Int → Int} {V_parts : Int → Int} {V_links : Int → Int} {VB_top : Int} {VB_row : Int → Int} {out : (Int → Int) × (Int → Int) × (Int → Int) × (Int → Int) × (Int → Int)} (h : f_Values_takeConstants N T_nodes T_kinds T_args T_firsts TB_row V_top V_kinds V_numbers V_parts V_links VB_row = some out) : CT jF0 false l D [(cI, .int), (cL, .long), (cB, .byte)] y_Values_takeConstants w_Values_takeConstants ({ frames := 4, cells := 0, slots := 0, locals := 90 } : Room) [.ref (ad 9), .ref (ad 1)] [(ad 1, .inr (1, [.ref (ad 2), .ref (ad 3), .ref (ad 4), .ref (ad 5), .ref (ad 6), .int (zI T_nodes), .int (zI T_count)])), (ad 2, .inl (cI, 200, .inl (zA T_kinds))), (ad 3, .inl (cL, 200, .inr (.inl (zB T_args)))), (ad 4, .inl (cI, 200, .inl (zA T_firsts))), (ad 6, .inr (2, [.ref (ad 7), .int (zI TB_top)])), (ad 7, .inl (cB, 12800, .inl (zA TB_row))), (ad 9, .inr (4, [.ref (ad 14), .ref (ad 16), .ref (ad 10), .ref (ad 11), .ref (ad 12), .ref (ad 13), .int (zI V_top)])), (ad 10, .inl (cI, 3201, .inl (zA V_kinds))), (ad 11, .inl (cL, 3201, .inr (.inl (zB V_numbers)))), (ad 12, .inl (cI, 3201, .inl (zA V_parts))), (ad 13, .inl (cI, 3201, .inl (zA V_links))), (ad 14, .inr (2, [.ref (ad 15), .int (zI VB_top)])), (ad 15, .inl (cB, 36864, .inl (zA VB_row)))] none [(ad 1, .inr (1, [.ref (ad 2), .ref (ad 3), .ref (ad 4), .ref (ad 5), .ref (ad 6), .int (zI T_nodes), .int (zI T_count)])), (ad 2, .inl (cI, 200, .inl (zA T_kinds))), (ad 3, .inl (cL, 200, .inr (.inl (zB T_args)))), (ad 4, .inl (cI, 200, .inl (zA T_firsts))), (ad 6, .inr (2, [.ref (ad 7), .int (zI TB_top)])), (ad 7, .inl (cB, 12800, .inl (zA TB_row))), (ad 9, .inr (4, [.ref (ad 14), .ref (ad 16), .ref (ad 10), .ref (ad 11), .ref (ad 12), .ref (ad 13), .int (zI V_top)])), (ad 10, .inl (cI, 3201, .inl (zA (out.1)))), (ad 11, .inl (cL, 3201, .inr (.inl (zB (out.2.1))))), (ad 12, .inl (cI, 3201, .inl (zA (out.2.2.1)))), (ad 13, .inl (cI, 3201, .inl (zA (out.2.2.2.1)))), (ad 14, .inr (2, [.ref (ad 15), .int (zI VB_top)])), (ad 15, .inl (cB, 36864, .inl (zA (out.2.2.2.2))))] 0 0 := by
  refine CT_of_J (cc := b_Values_takeConstants) (maxL := 4) (ret := none) jF0_k (plainFor_of_name (by decide)) rfl (Nat.le_of_ble_eq_true rfl) ?_
  intro K hKl hKD X E
  subst hKl; subst hKD
  unfold f_Values_takeConstants at h
  refine J_aload_n X d_Values_takeConstants_0 rfl 1 rfl ?_
  obtain ⟨r1, q2, h⟩ := wk_b h
  refine J_afterP (jrunV X (c_Terms_last (ad := ad) q2) jF0_k (fun _ _ _ _ => trivial) (jgV own_Values_takeConstants (by decide +kernel)) rfl rfl rfl pd_Terms_last (by decide) [0] rfl (by decide) 0 1 rfl rfl rfl rfl (Nat.le_of_ble_eq_true rfl) d_Values_takeConstants_1 (by decide)) ?_
  refine J_istore_n (lv' := [(2, .int (zI r1)), (0, .ref (ad 9)), (1, .ref (ad 1))]) X d_Values_takeConstants_4 rfl (by decide) rfl ?_
  refine J_aload_n X d_Values_takeConstants_5 rfl 2 rfl ?_
  refine J_iload_n X d_Values_takeConstants_6 rfl 0 rfl ?_
  obtain ⟨r3, q4, h⟩ := wk_b h
  refine J_afterP (jrunV X (c_Terms_firstOf (ad := ad) q4) jF0_k (fun _ _ _ _ => trivial) (jgV own_Values_takeConstants (by decide +kernel)) rfl rfl rfl pd_Terms_firstOf (by decide) [0, 3] rfl (by decide) 0 1 rfl rfl rfl rfl (Nat.le_of_ble_eq_true rfl) d_Values_takeConstants_7 (by decide)) ?_
  refine J_istore_n (lv' := [(3, .int (zI r3)), (2, .int (zI r1)), (0, .ref (ad 9)), (1, .ref (ad 1))]) X d_Values_takeConstants_10 rfl (by decide) rfl ?_
  refine J_lv (lv' := [(0, .ref (ad 9)), (1, .ref (ad 1)), (2, .int (zI r1)), (3, .int (zI r3))]) [2, 3, 1, 0] rfl ?_
  obtain ⟨x3_5, V_kinds_6, V_numbers_7, V_parts_8, V_links_9, VB_row_10, q11, h⟩ := wk_b6 h
  refine k_Values_takeConstants_L11 X _ _ _ _ _ _ _ q11 ?_
  cases h
  exact J_ret E rfl d_Values_takeConstants_28 (Nat.le_refl _) (Nat.le_refl _) rfl

theorem d_Values_make_0 : decode b_Values_make 0 = .ok (.aload_n 0, 1) := by decide +kernel
theorem d_Values_make_1 : decode b_Values_make 1 = .ok (.getfield 42, 3) := by decide +kernel
theorem d_Values_make_4 : decode b_Values_make 4 = .ok (.sipush 3201, 3) := by decide +kernel
theorem d_Values_make_7 : decode b_Values_make 7 = .ok (.if_icmp .lt 5, 3) := by decide +kernel
theorem d_Values_make_10 : decode b_Values_make 10 = .ok (.iconst (-1), 1) := by decide +kernel
theorem d_Values_make_11 : decode b_Values_make 11 = .ok (.ireturn, 1) := by decide +kernel
theorem d_Values_make_12 : decode b_Values_make 12 = .ok (.aload_n 0, 1) := by decide +kernel
theorem d_Values_make_13 : decode b_Values_make 13 = .ok (.getfield 42, 3) := by decide +kernel
theorem d_Values_make_16 : decode b_Values_make 16 = .ok (.istore 6, 2) := by decide +kernel
theorem d_Values_make_18 : decode b_Values_make 18 = .ok (.aload_n 0, 1) := by decide +kernel
theorem d_Values_make_19 : decode b_Values_make 19 = .ok (.dup, 1) := by decide +kernel
theorem d_Values_make_20 : decode b_Values_make 20 = .ok (.getfield 42, 3) := by decide +kernel
theorem d_Values_make_23 : decode b_Values_make 23 = .ok (.iconst 1, 1) := by decide +kernel
theorem d_Values_make_24 : decode b_Values_make 24 = .ok (.iadd, 1) := by decide +kernel
theorem d_Values_make_25 : decode b_Values_make 25 = .ok (.putfield 42, 3) := by decide +kernel
theorem d_Values_make_28 : decode b_Values_make 28 = .ok (.aload_n 0, 1) := by decide +kernel
theorem d_Values_make_29 : decode b_Values_make 29 = .ok (.iload 6, 2) := by decide +kernel
theorem d_Values_make_31 : decode b_Values_make 31 = .ok (.iload_n 1, 1) := by decide +kernel
theorem d_Values_make_32 : decode b_Values_make 32 = .ok (.lload_n 2, 1) := by decide +kernel
theorem d_Values_make_33 : decode b_Values_make 33 = .ok (.iload 4, 2) := by decide +kernel
theorem d_Values_make_35 : decode b_Values_make 35 = .ok (.iload 5, 2) := by decide +kernel
theorem d_Values_make_37 : decode b_Values_make 37 = .ok (.invokevirtual 95, 3) := by decide +kernel
theorem d_Values_make_40 : decode b_Values_make 40 = .ok (.iload 6, 2) := by decide +kernel
theorem d_Values_make_42 : decode b_Values_make 42 = .ok (.ireturn, 1) := by decide +kernel
def f_Values_make (V_top : Int) (V_kinds : Int → Int) (V_numbers : Int → Int) (V_parts : Int → Int) (V_links : Int → Int) (p1 : Int) (p2 : Int) (p4 : Int) (p5 : Int) : Option (Int × Int × (Int → Int) × (Int → Int) × (Int → Int) × (Int → Int)) :=
  if jr2 V_top 3201 = true then (if V_top < 3201 then (
   ob4 (f_Values_set (V_top + 1) V_kinds V_numbers V_parts V_links V_top p1 p2 p4 p5) (fun V_kinds_2 V_numbers_3 V_parts_4 V_links_5 =>
    some (V_top, (V_top + 1), V_kinds_2, V_numbers_3, V_parts_4, V_links_5))) else (
   some ((-1), V_top, V_kinds, V_numbers, V_parts, V_links))) else none
set_option maxHeartbeats 4000000 in
set_option maxRecDepth 100000 in
theorem c_Values_make {l : Launch} {D : va_G} {cI cL cB : ClassId} {ad : Nat → Nat} {V_top : Int} {V_kinds : Int → Int} {V_numbers : Int → Int} {V_parts : Int → Int} {V_links : Int → Int} {p1 : Int} {p2 : Int} {p4 : Int} {p5 : Int} {out : Int × Int × (Int → Int) × (Int → Int) × (Int → Int) × (Int → Int)} (h : f_Values_make V_top V_kinds V_numbers V_parts V_links p1 p2 p4 p5 = some out) : CT jF0 false l D [(cI, .int), (cL, .long), (cB, .byte)] y_Values_make w_Values_make ({ frames := 1, cells := 0, slots := 0, locals := 26 } : Room) [.ref (ad 9), .int (zI p1), .long (zL p2), .int (zI p4), .int (zI p5)] [(ad 9, .inr (4, [.ref (ad 14), .ref (ad 16), .ref (ad 10), .ref (ad 11), .ref (ad 12), .ref (ad 13), .int (zI V_top)])), (ad 10, .inl (cI, 3201, .inl (zA V_kinds))), (ad 11, .inl (cL, 3201, .inr (.inl (zB V_numbers)))), (ad 12, .inl (cI, 3201, .inl (zA V_parts))), (ad 13, .inl (cI, 3201, .inl (zA V_links)))] (some (.int (zI out.1))) [(ad 9, .inr (4, [.ref (ad 14), .ref (ad 16), .ref (ad 10), .ref (ad 11), .ref (ad 12), .ref (ad 13), .int (zI (out.2.1))])), (ad 10, .inl (cI, 3201, .inl (zA (out.2.2.1)))), (ad 11, .inl (cL, 3201, .inr (.inl (zB (out.2.2.2.1))))), (ad 12, .inl (cI, 3201, .inl (zA (out.2.2.2.2.1)))), (ad 13, .inl (cI, 3201, .inl (zA (out.2.2.2.2.2))))] 0 0 := by
  refine CT_of_J (cc := b_Values_make) (maxL := 7) (ret := (some .int)) jF0_k (plainFor_of_name (by decide)) rfl (Nat.le_of_ble_eq_true rfl) ?_
  intro K hKl hKD X E
  subst hKl; subst hKD
  unfold f_Values_make at h
  refine J_aload_n X d_Values_make_0 rfl 0 rfl ?_
  refine J_get X (j_in in_Values) 0 rfl rfl 6 (by decide) (j_m own_Values_make (by decide +kernel)) rfl d_Values_make_1 ?_
  refine J_sipush X d_Values_make_4 (by decide) ?_
  refine J_icmp_lt (tgt := 12) X d_Values_make_7 (by decide) h (fun c1 h => ?_) (fun c1 h => ?_)
  · refine J_aload_n X d_Values_make_12 rfl 0 rfl ?_
    refine J_get X (j_in in_Values) 0 rfl rfl 6 (by decide) (j_m own_Values_make (by decide +kernel)) rfl d_Values_make_13 ?_
    refine J_istore (lv' := [(6, .int (zI V_top)), (0, .ref (ad 9)), (1, .int (zI p1)), (2, .long (zL p2)), (4, .int (zI p4)), (5, .int (zI p5))]) X d_Values_make_16 (by decide) rfl ?_
    refine J_aload_n X d_Values_make_18 rfl 1 rfl ?_
    refine J_dup X d_Values_make_19 rfl ?_
    refine J_get X (j_in in_Values) 0 rfl rfl 6 (by decide) (j_m own_Values_make (by decide +kernel)) rfl d_Values_make_20 ?_
    refine J_iconst X d_Values_make_23 ?_
    refine J_iadd X d_Values_make_24 ?_
    refine J_put (ws' := [(ad 9, .inr (4, [.ref (ad 14), .ref (ad 16), .ref (ad 10), .ref (ad 11), .ref (ad 12), .ref (ad 13), .int (zI (V_top + 1))])), (ad 10, .inl (cI, 3201, .inl (zA V_kinds))), (ad 11, .inl (cL, 3201, .inr (.inl (zB V_numbers)))), (ad 12, .inl (cI, 3201, .inl (zA V_parts))), (ad 13, .inl (cI, 3201, .inl (zA V_links)))]) X (j_in in_Values) ty_Values tok_Values nm_Values 0 rfl rfl 6 (by decide) (j_m own_Values_make (by decide +kernel)) rfl rfl rfl (Nat.le_of_ble_eq_true rfl) d_Values_make_25 rfl ?_
    refine J_aload_n X d_Values_make_28 rfl 1 rfl ?_
    refine J_iload X d_Values_make_29 0 rfl ?_
    refine J_iload_n X d_Values_make_31 rfl 2 rfl ?_
    refine J_lload_n X d_Values_make_32 rfl 3 rfl ?_
    refine J_iload X d_Values_make_33 4 rfl ?_
    refine J_iload X d_Values_make_35 5 rfl ?_
    obtain ⟨V_kinds_2, V_numbers_3, V_parts_4, V_links_5, q6, h⟩ := wk_b4 h
    refine J_afterI0 (ws' := [(ad 9, .inr (4, [.ref (ad 14), .ref (ad 16), .ref (ad 10), .ref (ad 11), .ref (ad 12), .ref (ad 13), .int (zI (V_top + 1))])), (ad 10, .inl (cI, 3201, .inl (zA V_kinds_2))), (ad 11, .inl (cL, 3201, .inr (.inl (zB V_numbers_3)))), (ad 12, .inl (cI, 3201, .inl (zA V_parts_4))), (ad 13, .inl (cI, 3201, .inl (zA V_links_5)))]) X (jrunV X (c_Values_set (ad := ad) q6) jF0_k (fun _ _ _ _ => trivial) (jgV own_Values_make (by decide +kernel)) rfl rfl rfl pd_Values_set (by decide) [0, 1, 2, 3, 4] rfl (by decide) 0 4 rfl rfl rfl rfl (Nat.le_of_ble_eq_true rfl) d_Values_make_37 (by decide)) [0, 1, 2, 3, 4] [] [0, 1, 2, 3, 4] rfl rfl (by decide) (by decide) rfl (by decide) ?_
    refine J_iload X d_Values_make_40 0 rfl ?_
    cases h
    exact J_ret E ⟨_, rfl, rfl⟩ d_Values_make_42 (Nat.le_refl _) (Nat.le_refl _) rfl
  · refine J_iconst X d_Values_make_10 ?_
    cases h
    exact J_ret E ⟨_, rfl, rfl⟩ d_Values_make_11 (Nat.le_refl _) (Nat.le_refl _) rfl

theorem d_Values_ofInteger_0 : decode b_Values_ofInteger 0 = .ok (.aload_n 0, 1) := by decide +kernel
theorem d_Values_ofInteger_1 : decode b_Values_ofInteger 1 = .ok (.iconst 0, 1) := by decide +kernel
theorem d_Values_ofInteger_2 : decode b_Values_ofInteger 2 = .ok (.lload_n 1, 1) := by decide +kernel
theorem d_Values_ofInteger_3 : decode b_Values_ofInteger 3 = .ok (.iconst (-1), 1) := by decide +kernel
theorem d_Values_ofInteger_4 : decode b_Values_ofInteger 4 = .ok (.iconst (-1), 1) := by decide +kernel
theorem d_Values_ofInteger_5 : decode b_Values_ofInteger 5 = .ok (.invokevirtual 66, 3) := by decide +kernel
theorem d_Values_ofInteger_8 : decode b_Values_ofInteger 8 = .ok (.ireturn, 1) := by decide +kernel
def f_Values_ofInteger (V_top : Int) (V_kinds : Int → Int) (V_numbers : Int → Int) (V_parts : Int → Int) (V_links : Int → Int) (p1 : Int) : Option (Int × Int × (Int → Int) × (Int → Int) × (Int → Int) × (Int → Int)) :=
  ob6 (f_Values_make V_top V_kinds V_numbers V_parts V_links 0 p1 (-1) (-1)) (fun r1 V_top_2 V_kinds_3 V_numbers_4 V_parts_5 V_links_6 =>
   some (r1, V_top_2, V_kinds_3, V_numbers_4, V_parts_5, V_links_6))
set_option maxHeartbeats 4000000 in
set_option maxRecDepth 100000 in
theorem c_Values_ofInteger {l : Launch} {D : va_G} {cI cL cB : ClassId} {ad : Nat → Nat} {V_top : Int} {V_kinds : Int → Int} {V_numbers : Int → Int} {V_parts : Int → Int} {V_links : Int → Int} {p1 : Int} {out : Int × Int × (Int → Int) × (Int → Int) × (Int → Int) × (Int → Int)} (h : f_Values_ofInteger V_top V_kinds V_numbers V_parts V_links p1 = some out) : CT jF0 false l D [(cI, .int), (cL, .long), (cB, .byte)] y_Values_ofInteger w_Values_ofInteger ({ frames := 2, cells := 0, slots := 0, locals := 52 } : Room) [.ref (ad 9), .long (zL p1)] [(ad 9, .inr (4, [.ref (ad 14), .ref (ad 16), .ref (ad 10), .ref (ad 11), .ref (ad 12), .ref (ad 13), .int (zI V_top)])), (ad 10, .inl (cI, 3201, .inl (zA V_kinds))), (ad 11, .inl (cL, 3201, .inr (.inl (zB V_numbers)))), (ad 12, .inl (cI, 3201, .inl (zA V_parts))), (ad 13, .inl (cI, 3201, .inl (zA V_links)))] (some (.int (zI out.1))) [(ad 9, .inr (4, [.ref (ad 14), .ref (ad 16), .ref (ad 10), .ref (ad 11), .ref (ad 12), .ref (ad 13), .int (zI (out.2.1))])), (ad 10, .inl (cI, 3201, .inl (zA (out.2.2.1)))), (ad 11, .inl (cL, 3201, .inr (.inl (zB (out.2.2.2.1))))), (ad 12, .inl (cI, 3201, .inl (zA (out.2.2.2.2.1)))), (ad 13, .inl (cI, 3201, .inl (zA (out.2.2.2.2.2))))] 0 0 := by
  refine CT_of_J (cc := b_Values_ofInteger) (maxL := 3) (ret := (some .int)) jF0_k (plainFor_of_name (by decide)) rfl (Nat.le_of_ble_eq_true rfl) ?_
  intro K hKl hKD X E
  subst hKl; subst hKD
  unfold f_Values_ofInteger at h
  refine J_aload_n X d_Values_ofInteger_0 rfl 0 rfl ?_
  refine J_iconst X d_Values_ofInteger_1 ?_
  refine J_lload_n X d_Values_ofInteger_2 rfl 1 rfl ?_
  refine J_iconst X d_Values_ofInteger_3 ?_
  refine J_iconst X d_Values_ofInteger_4 ?_
  obtain ⟨r1, V_top_2, V_kinds_3, V_numbers_4, V_parts_5, V_links_6, q7, h⟩ := wk_b6 h
  refine J_afterI0 (ws' := [(ad 9, .inr (4, [.ref (ad 14), .ref (ad 16), .ref (ad 10), .ref (ad 11), .ref (ad 12), .ref (ad 13), .int (zI V_top_2)])), (ad 10, .inl (cI, 3201, .inl (zA V_kinds_3))), (ad 11, .inl (cL, 3201, .inr (.inl (zB V_numbers_4)))), (ad 12, .inl (cI, 3201, .inl (zA V_parts_5))), (ad 13, .inl (cI, 3201, .inl (zA V_links_6)))]) X (jrunV X (c_Values_make (ad := ad) q7) jF0_k (fun _ _ _ _ => trivial) (jgV own_Values_ofInteger (by decide +kernel)) rfl rfl rfl pd_Values_make (by decide) [0, 1, 2, 3, 4] rfl (by decide) 0 4 rfl rfl rfl rfl (Nat.le_of_ble_eq_true rfl) d_Values_ofInteger_5 (by decide)) [0, 1, 2, 3, 4] [] [0, 1, 2, 3, 4] rfl rfl (by decide) (by decide) rfl (by decide) ?_
  cases h
  exact J_ret E ⟨_, rfl, rfl⟩ d_Values_ofInteger_8 (Nat.le_refl _) (Nat.le_refl _) rfl

theorem d_Values_ofTruth_0 : decode b_Values_ofTruth 0 = .ok (.aload_n 0, 1) := by decide +kernel
theorem d_Values_ofTruth_1 : decode b_Values_ofTruth 1 = .ok (.iconst 2, 1) := by decide +kernel
theorem d_Values_ofTruth_2 : decode b_Values_ofTruth 2 = .ok (.iload_n 1, 1) := by decide +kernel
theorem d_Values_ofTruth_3 : decode b_Values_ofTruth 3 = .ok (.ifCond .eq 7, 3) := by decide +kernel
theorem d_Values_ofTruth_6 : decode b_Values_ofTruth 6 = .ok (.lconst 1, 1) := by decide +kernel
theorem d_Values_ofTruth_7 : decode b_Values_ofTruth 7 = .ok (.goto 4, 3) := by decide +kernel
theorem d_Values_ofTruth_10 : decode b_Values_ofTruth 10 = .ok (.lconst 0, 1) := by decide +kernel
theorem d_Values_ofTruth_11 : decode b_Values_ofTruth 11 = .ok (.iconst (-1), 1) := by decide +kernel
theorem d_Values_ofTruth_12 : decode b_Values_ofTruth 12 = .ok (.iconst (-1), 1) := by decide +kernel
theorem d_Values_ofTruth_13 : decode b_Values_ofTruth 13 = .ok (.invokevirtual 66, 3) := by decide +kernel
theorem d_Values_ofTruth_16 : decode b_Values_ofTruth 16 = .ok (.ireturn, 1) := by decide +kernel
def f_Values_ofTruth (V_top : Int) (V_kinds : Int → Int) (V_numbers : Int → Int) (V_parts : Int → Int) (V_links : Int → Int) (p1 : Int) : Option (Int × Int × (Int → Int) × (Int → Int) × (Int → Int) × (Int → Int)) :=
  if rI p1 = true then (if p1 = 0 then (
   ob6 (f_Values_make V_top V_kinds V_numbers V_parts V_links 2 0 (-1) (-1)) (fun r2 V_top_3 V_kinds_4 V_numbers_5 V_parts_6 V_links_7 =>
    some (r2, V_top_3, V_kinds_4, V_numbers_5, V_parts_6, V_links_7))) else (
   ob6 (f_Values_make V_top V_kinds V_numbers V_parts V_links 2 1 (-1) (-1)) (fun r9 V_top_10 V_kinds_11 V_numbers_12 V_parts_13 V_links_14 =>
    some (r9, V_top_10, V_kinds_11, V_numbers_12, V_parts_13, V_links_14)))) else none
set_option maxHeartbeats 4000000 in
set_option maxRecDepth 100000 in
theorem c_Values_ofTruth {l : Launch} {D : va_G} {cI cL cB : ClassId} {ad : Nat → Nat} {V_top : Int} {V_kinds : Int → Int} {V_numbers : Int → Int} {V_parts : Int → Int} {V_links : Int → Int} {p1 : Int} {out : Int × Int × (Int → Int) × (Int → Int) × (Int → Int) × (Int → Int)} (h : f_Values_ofTruth V_top V_kinds V_numbers V_parts V_links p1 = some out) : CT jF0 false l D [(cI, .int), (cL, .long), (cB, .byte)] y_Values_ofTruth w_Values_ofTruth ({ frames := 2, cells := 0, slots := 0, locals := 52 } : Room) [.ref (ad 9), .int (zI p1)] [(ad 9, .inr (4, [.ref (ad 14), .ref (ad 16), .ref (ad 10), .ref (ad 11), .ref (ad 12), .ref (ad 13), .int (zI V_top)])), (ad 10, .inl (cI, 3201, .inl (zA V_kinds))), (ad 11, .inl (cL, 3201, .inr (.inl (zB V_numbers)))), (ad 12, .inl (cI, 3201, .inl (zA V_parts))), (ad 13, .inl (cI, 3201, .inl (zA V_links)))] (some (.int (zI out.1))) [(ad 9, .inr (4, [.ref (ad 14), .ref (ad 16), .ref (ad 10), .ref (ad 11), .ref (ad 12), .ref (ad 13), .int (zI (out.2.1))])), (ad 10, .inl (cI, 3201, .inl (zA (out.2.2.1)))), (ad 11, .inl (cL, 3201, .inr (.inl (zB (out.2.2.2.1))))), (ad 12, .inl (cI, 3201, .inl (zA (out.2.2.2.2.1)))), (ad 13, .inl (cI, 3201, .inl (zA (out.2.2.2.2.2))))] 0 0 := by
  refine CT_of_J (cc := b_Values_ofTruth) (maxL := 2) (ret := (some .int)) jF0_k (plainFor_of_name (by decide)) rfl (Nat.le_of_ble_eq_true rfl) ?_
  intro K hKl hKD X E
  subst hKl; subst hKD
  unfold f_Values_ofTruth at h
  refine J_aload_n X d_Values_ofTruth_0 rfl 0 rfl ?_
  refine J_iconst X d_Values_ofTruth_1 ?_
  refine J_iload_n X d_Values_ofTruth_2 rfl 1 rfl ?_
  refine J_if_eq (tgt := 10) X d_Values_ofTruth_3 (by decide) h (fun c1 h => ?_) (fun c1 h => ?_)
  · refine J_lconst (v := 0) X d_Values_ofTruth_10 (by decide) ?_
    refine J_iconst X d_Values_ofTruth_11 ?_
    refine J_iconst X d_Values_ofTruth_12 ?_
    obtain ⟨r2, V_top_3, V_kinds_4, V_numbers_5, V_parts_6, V_links_7, q8, h⟩ := wk_b6 h
    refine J_afterI0 (ws' := [(ad 9, .inr (4, [.ref (ad 14), .ref (ad 16), .ref (ad 10), .ref (ad 11), .ref (ad 12), .ref (ad 13), .int (zI V_top_3)])), (ad 10, .inl (cI, 3201, .inl (zA V_kinds_4))), (ad 11, .inl (cL, 3201, .inr (.inl (zB V_numbers_5)))), (ad 12, .inl (cI, 3201, .inl (zA V_parts_6))), (ad 13, .inl (cI, 3201, .inl (zA V_links_7)))]) X (jrunV X (c_Values_make (ad := ad) q8) jF0_k (fun _ _ _ _ => trivial) (jgV own_Values_ofTruth (by decide +kernel)) rfl rfl rfl pd_Values_make (by decide) [0, 1, 2, 3, 4] rfl (by decide) 0 4 rfl rfl rfl rfl (Nat.le_of_ble_eq_true rfl) d_Values_ofTruth_13 (by decide)) [0, 1, 2, 3, 4] [] [0, 1, 2, 3, 4] rfl rfl (by decide) (by decide) rfl (by decide) ?_
    cases h
    exact J_ret E ⟨_, rfl, rfl⟩ d_Values_ofTruth_16 (Nat.le_refl _) (Nat.le_refl _) rfl
  · refine J_lconst (v := 1) X d_Values_ofTruth_6 (by decide) ?_
    refine J_goto (tgt := 11) X d_Values_ofTruth_7 (by decide) ?_
    refine J_iconst X d_Values_ofTruth_11 ?_
    refine J_iconst X d_Values_ofTruth_12 ?_
    obtain ⟨r9, V_top_10, V_kinds_11, V_numbers_12, V_parts_13, V_links_14, q15, h⟩ := wk_b6 h
    refine J_afterI0 (ws' := [(ad 9, .inr (4, [.ref (ad 14), .ref (ad 16), .ref (ad 10), .ref (ad 11), .ref (ad 12), .ref (ad 13), .int (zI V_top_10)])), (ad 10, .inl (cI, 3201, .inl (zA V_kinds_11))), (ad 11, .inl (cL, 3201, .inr (.inl (zB V_numbers_12)))), (ad 12, .inl (cI, 3201, .inl (zA V_parts_13))), (ad 13, .inl (cI, 3201, .inl (zA V_links_14)))]) X (jrunV X (c_Values_make (ad := ad) q15) jF0_k (fun _ _ _ _ => trivial) (jgV own_Values_ofTruth (by decide +kernel)) rfl rfl rfl pd_Values_make (by decide) [0, 1, 2, 3, 4] rfl (by decide) 0 4 rfl rfl rfl rfl (Nat.le_of_ble_eq_true rfl) d_Values_ofTruth_13 (by decide)) [0, 1, 2, 3, 4] [] [0, 1, 2, 3, 4] rfl rfl (by decide) (by decide) rfl (by decide) ?_
    cases h
    exact J_ret E ⟨_, rfl, rfl⟩ d_Values_ofTruth_16 (Nat.le_refl _) (Nat.le_refl _) rfl

theorem d_Values_ofBytes_0 : decode b_Values_ofBytes 0 = .ok (.aload_n 0, 1) := by decide +kernel
theorem d_Values_ofBytes_1 : decode b_Values_ofBytes 1 = .ok (.iconst 1, 1) := by decide +kernel
theorem d_Values_ofBytes_2 : decode b_Values_ofBytes 2 = .ok (.lconst 0, 1) := by decide +kernel
theorem d_Values_ofBytes_3 : decode b_Values_ofBytes 3 = .ok (.iload_n 1, 1) := by decide +kernel
theorem d_Values_ofBytes_4 : decode b_Values_ofBytes 4 = .ok (.iload_n 2, 1) := by decide +kernel
theorem d_Values_ofBytes_5 : decode b_Values_ofBytes 5 = .ok (.invokevirtual 66, 3) := by decide +kernel
theorem d_Values_ofBytes_8 : decode b_Values_ofBytes 8 = .ok (.ireturn, 1) := by decide +kernel
def f_Values_ofBytes (V_top : Int) (V_kinds : Int → Int) (V_numbers : Int → Int) (V_parts : Int → Int) (V_links : Int → Int) (p1 : Int) (p2 : Int) : Option (Int × Int × (Int → Int) × (Int → Int) × (Int → Int) × (Int → Int)) :=
  ob6 (f_Values_make V_top V_kinds V_numbers V_parts V_links 1 0 p1 p2) (fun r1 V_top_2 V_kinds_3 V_numbers_4 V_parts_5 V_links_6 =>
   some (r1, V_top_2, V_kinds_3, V_numbers_4, V_parts_5, V_links_6))
set_option maxHeartbeats 4000000 in
set_option maxRecDepth 100000 in
theorem c_Values_ofBytes {l : Launch} {D : va_G} {cI cL cB : ClassId} {ad : Nat → Nat} {V_top : Int} {V_kinds : Int → Int} {V_numbers : Int → Int} {V_parts : Int → Int} {V_links : Int → Int} {p1 : Int} {p2 : Int} {out : Int × Int × (Int → Int) × (Int → Int) × (Int → Int) × (Int → Int)} (h : f_Values_ofBytes V_top V_kinds V_numbers V_parts V_links p1 p2 = some out) : CT jF0 false l D [(cI, .int), (cL, .long), (cB, .byte)] y_Values_ofBytes w_Values_ofBytes ({ frames := 2, cells := 0, slots := 0, locals := 52 } : Room) [.ref (ad 9), .int (zI p1), .int (zI p2)] [(ad 9, .inr (4, [.ref (ad 14), .ref (ad 16), .ref (ad 10), .ref (ad 11), .ref (ad 12), .ref (ad 13), .int (zI V_top)])), (ad 10, .inl (cI, 3201, .inl (zA V_kinds))), (ad 11, .inl (cL, 3201, .inr (.inl (zB V_numbers)))), (ad 12, .inl (cI, 3201, .inl (zA V_parts))), (ad 13, .inl (cI, 3201, .inl (zA V_links)))] (some (.int (zI out.1))) [(ad 9, .inr (4, [.ref (ad 14), .ref (ad 16), .ref (ad 10), .ref (ad 11), .ref (ad 12), .ref (ad 13), .int (zI (out.2.1))])), (ad 10, .inl (cI, 3201, .inl (zA (out.2.2.1)))), (ad 11, .inl (cL, 3201, .inr (.inl (zB (out.2.2.2.1))))), (ad 12, .inl (cI, 3201, .inl (zA (out.2.2.2.2.1)))), (ad 13, .inl (cI, 3201, .inl (zA (out.2.2.2.2.2))))] 0 0 := by
  refine CT_of_J (cc := b_Values_ofBytes) (maxL := 3) (ret := (some .int)) jF0_k (plainFor_of_name (by decide)) rfl (Nat.le_of_ble_eq_true rfl) ?_
  intro K hKl hKD X E
  subst hKl; subst hKD
  unfold f_Values_ofBytes at h
  refine J_aload_n X d_Values_ofBytes_0 rfl 0 rfl ?_
  refine J_iconst X d_Values_ofBytes_1 ?_
  refine J_lconst (v := 0) X d_Values_ofBytes_2 (by decide) ?_
  refine J_iload_n X d_Values_ofBytes_3 rfl 1 rfl ?_
  refine J_iload_n X d_Values_ofBytes_4 rfl 2 rfl ?_
  obtain ⟨r1, V_top_2, V_kinds_3, V_numbers_4, V_parts_5, V_links_6, q7, h⟩ := wk_b6 h
  refine J_afterI0 (ws' := [(ad 9, .inr (4, [.ref (ad 14), .ref (ad 16), .ref (ad 10), .ref (ad 11), .ref (ad 12), .ref (ad 13), .int (zI V_top_2)])), (ad 10, .inl (cI, 3201, .inl (zA V_kinds_3))), (ad 11, .inl (cL, 3201, .inr (.inl (zB V_numbers_4)))), (ad 12, .inl (cI, 3201, .inl (zA V_parts_5))), (ad 13, .inl (cI, 3201, .inl (zA V_links_6)))]) X (jrunV X (c_Values_make (ad := ad) q7) jF0_k (fun _ _ _ _ => trivial) (jgV own_Values_ofBytes (by decide +kernel)) rfl rfl rfl pd_Values_make (by decide) [0, 1, 2, 3, 4] rfl (by decide) 0 4 rfl rfl rfl rfl (Nat.le_of_ble_eq_true rfl) d_Values_ofBytes_5 (by decide)) [0, 1, 2, 3, 4] [] [0, 1, 2, 3, 4] rfl rfl (by decide) (by decide) rfl (by decide) ?_
  cases h
  exact J_ret E ⟨_, rfl, rfl⟩ d_Values_ofBytes_8 (Nat.le_refl _) (Nat.le_refl _) rfl

theorem d_Values_ofData_0 : decode b_Values_ofData 0 = .ok (.iload_n 1, 1) := by decide +kernel
theorem d_Values_ofData_1 : decode b_Values_ofData 1 = .ok (.iconst (-1), 1) := by decide +kernel
theorem d_Values_ofData_2 : decode b_Values_ofData 2 = .ok (.if_icmp .ne 7, 3) := by decide +kernel
theorem d_Values_ofData_5 : decode b_Values_ofData 5 = .ok (.iconst (-1), 1) := by decide +kernel
theorem d_Values_ofData_6 : decode b_Values_ofData 6 = .ok (.goto 11, 3) := by decide +kernel
theorem d_Values_ofData_9 : decode b_Values_ofData 9 = .ok (.aload_n 0, 1) := by decide +kernel
theorem d_Values_ofData_10 : decode b_Values_ofData 10 = .ok (.iconst 4, 1) := by decide +kernel
theorem d_Values_ofData_11 : decode b_Values_ofData 11 = .ok (.lconst 0, 1) := by decide +kernel
theorem d_Values_ofData_12 : decode b_Values_ofData 12 = .ok (.iload_n 1, 1) := by decide +kernel
theorem d_Values_ofData_13 : decode b_Values_ofData 13 = .ok (.iconst (-1), 1) := by decide +kernel
theorem d_Values_ofData_14 : decode b_Values_ofData 14 = .ok (.invokevirtual 66, 3) := by decide +kernel
theorem d_Values_ofData_17 : decode b_Values_ofData 17 = .ok (.ireturn, 1) := by decide +kernel
def f_Values_ofData (V_top : Int) (V_kinds : Int → Int) (V_numbers : Int → Int) (V_parts : Int → Int) (V_links : Int → Int) (p1 : Int) : Option (Int × Int × (Int → Int) × (Int → Int) × (Int → Int) × (Int → Int)) :=
  if jr2 p1 (-1) = true then (if p1 = (-1) then (
   some ((-1), V_top, V_kinds, V_numbers, V_parts, V_links)) else (
   ob6 (f_Values_make V_top V_kinds V_numbers V_parts V_links 4 0 p1 (-1)) (fun r2 V_top_3 V_kinds_4 V_numbers_5 V_parts_6 V_links_7 =>
    some (r2, V_top_3, V_kinds_4, V_numbers_5, V_parts_6, V_links_7)))) else none
set_option maxHeartbeats 4000000 in
set_option maxRecDepth 100000 in
theorem c_Values_ofData {l : Launch} {D : va_G} {cI cL cB : ClassId} {ad : Nat → Nat} {V_top : Int} {V_kinds : Int → Int} {V_numbers : Int → Int} {V_parts : Int → Int} {V_links : Int → Int} {p1 : Int} {out : Int × Int × (Int → Int) × (Int → Int) × (Int → Int) × (Int → Int)} (h : f_Values_ofData V_top V_kinds V_numbers V_parts V_links p1 = some out) : CT jF0 false l D [(cI, .int), (cL, .long), (cB, .byte)] y_Values_ofData w_Values_ofData ({ frames := 2, cells := 0, slots := 0, locals := 52 } : Room) [.ref (ad 9), .int (zI p1)] [(ad 9, .inr (4, [.ref (ad 14), .ref (ad 16), .ref (ad 10), .ref (ad 11), .ref (ad 12), .ref (ad 13), .int (zI V_top)])), (ad 10, .inl (cI, 3201, .inl (zA V_kinds))), (ad 11, .inl (cL, 3201, .inr (.inl (zB V_numbers)))), (ad 12, .inl (cI, 3201, .inl (zA V_parts))), (ad 13, .inl (cI, 3201, .inl (zA V_links)))] (some (.int (zI out.1))) [(ad 9, .inr (4, [.ref (ad 14), .ref (ad 16), .ref (ad 10), .ref (ad 11), .ref (ad 12), .ref (ad 13), .int (zI (out.2.1))])), (ad 10, .inl (cI, 3201, .inl (zA (out.2.2.1)))), (ad 11, .inl (cL, 3201, .inr (.inl (zB (out.2.2.2.1))))), (ad 12, .inl (cI, 3201, .inl (zA (out.2.2.2.2.1)))), (ad 13, .inl (cI, 3201, .inl (zA (out.2.2.2.2.2))))] 0 0 := by
  refine CT_of_J (cc := b_Values_ofData) (maxL := 2) (ret := (some .int)) jF0_k (plainFor_of_name (by decide)) rfl (Nat.le_of_ble_eq_true rfl) ?_
  intro K hKl hKD X E
  subst hKl; subst hKD
  unfold f_Values_ofData at h
  refine J_iload_n X d_Values_ofData_0 rfl 1 rfl ?_
  refine J_iconst X d_Values_ofData_1 ?_
  refine J_icmp_ne (tgt := 9) X d_Values_ofData_2 (by decide) h (fun c1 h => ?_) (fun c1 h => ?_)
  · refine J_aload_n X d_Values_ofData_9 rfl 0 rfl ?_
    refine J_iconst X d_Values_ofData_10 ?_
    refine J_lconst (v := 0) X d_Values_ofData_11 (by decide) ?_
    refine J_iload_n X d_Values_ofData_12 rfl 1 rfl ?_
    refine J_iconst X d_Values_ofData_13 ?_
    obtain ⟨r2, V_top_3, V_kinds_4, V_numbers_5, V_parts_6, V_links_7, q8, h⟩ := wk_b6 h
    refine J_afterI0 (ws' := [(ad 9, .inr (4, [.ref (ad 14), .ref (ad 16), .ref (ad 10), .ref (ad 11), .ref (ad 12), .ref (ad 13), .int (zI V_top_3)])), (ad 10, .inl (cI, 3201, .inl (zA V_kinds_4))), (ad 11, .inl (cL, 3201, .inr (.inl (zB V_numbers_5)))), (ad 12, .inl (cI, 3201, .inl (zA V_parts_6))), (ad 13, .inl (cI, 3201, .inl (zA V_links_7)))]) X (jrunV X (c_Values_make (ad := ad) q8) jF0_k (fun _ _ _ _ => trivial) (jgV own_Values_ofData (by decide +kernel)) rfl rfl rfl pd_Values_make (by decide) [0, 1, 2, 3, 4] rfl (by decide) 0 4 rfl rfl rfl rfl (Nat.le_of_ble_eq_true rfl) d_Values_ofData_14 (by decide)) [0, 1, 2, 3, 4] [] [0, 1, 2, 3, 4] rfl rfl (by decide) (by decide) rfl (by decide) ?_
    cases h
    exact J_ret E ⟨_, rfl, rfl⟩ d_Values_ofData_17 (Nat.le_refl _) (Nat.le_refl _) rfl
  · refine J_iconst X d_Values_ofData_5 ?_
    refine J_goto (tgt := 17) X d_Values_ofData_6 (by decide) ?_
    cases h
    exact J_ret E ⟨_, rfl, rfl⟩ d_Values_ofData_17 (Nat.le_refl _) (Nat.le_refl _) rfl

theorem d_Values_ofBody_0 : decode b_Values_ofBody 0 = .ok (.aload_n 0, 1) := by decide +kernel
theorem d_Values_ofBody_1 : decode b_Values_ofBody 1 = .ok (.iload_n 1, 1) := by decide +kernel
theorem d_Values_ofBody_2 : decode b_Values_ofBody 2 = .ok (.lconst 0, 1) := by decide +kernel
theorem d_Values_ofBody_3 : decode b_Values_ofBody 3 = .ok (.iload_n 2, 1) := by decide +kernel
theorem d_Values_ofBody_4 : decode b_Values_ofBody 4 = .ok (.iload_n 3, 1) := by decide +kernel
theorem d_Values_ofBody_5 : decode b_Values_ofBody 5 = .ok (.invokevirtual 66, 3) := by decide +kernel
theorem d_Values_ofBody_8 : decode b_Values_ofBody 8 = .ok (.ireturn, 1) := by decide +kernel
def f_Values_ofBody (V_top : Int) (V_kinds : Int → Int) (V_numbers : Int → Int) (V_parts : Int → Int) (V_links : Int → Int) (p1 : Int) (p2 : Int) (p3 : Int) : Option (Int × Int × (Int → Int) × (Int → Int) × (Int → Int) × (Int → Int)) :=
  ob6 (f_Values_make V_top V_kinds V_numbers V_parts V_links p1 0 p2 p3) (fun r1 V_top_2 V_kinds_3 V_numbers_4 V_parts_5 V_links_6 =>
   some (r1, V_top_2, V_kinds_3, V_numbers_4, V_parts_5, V_links_6))
set_option maxHeartbeats 4000000 in
set_option maxRecDepth 100000 in
theorem c_Values_ofBody {l : Launch} {D : va_G} {cI cL cB : ClassId} {ad : Nat → Nat} {V_top : Int} {V_kinds : Int → Int} {V_numbers : Int → Int} {V_parts : Int → Int} {V_links : Int → Int} {p1 : Int} {p2 : Int} {p3 : Int} {out : Int × Int × (Int → Int) × (Int → Int) × (Int → Int) × (Int → Int)} (h : f_Values_ofBody V_top V_kinds V_numbers V_parts V_links p1 p2 p3 = some out) : CT jF0 false l D [(cI, .int), (cL, .long), (cB, .byte)] y_Values_ofBody w_Values_ofBody ({ frames := 2, cells := 0, slots := 0, locals := 52 } : Room) [.ref (ad 9), .int (zI p1), .int (zI p2), .int (zI p3)] [(ad 9, .inr (4, [.ref (ad 14), .ref (ad 16), .ref (ad 10), .ref (ad 11), .ref (ad 12), .ref (ad 13), .int (zI V_top)])), (ad 10, .inl (cI, 3201, .inl (zA V_kinds))), (ad 11, .inl (cL, 3201, .inr (.inl (zB V_numbers)))), (ad 12, .inl (cI, 3201, .inl (zA V_parts))), (ad 13, .inl (cI, 3201, .inl (zA V_links)))] (some (.int (zI out.1))) [(ad 9, .inr (4, [.ref (ad 14), .ref (ad 16), .ref (ad 10), .ref (ad 11), .ref (ad 12), .ref (ad 13), .int (zI (out.2.1))])), (ad 10, .inl (cI, 3201, .inl (zA (out.2.2.1)))), (ad 11, .inl (cL, 3201, .inr (.inl (zB (out.2.2.2.1))))), (ad 12, .inl (cI, 3201, .inl (zA (out.2.2.2.2.1)))), (ad 13, .inl (cI, 3201, .inl (zA (out.2.2.2.2.2))))] 0 0 := by
  refine CT_of_J (cc := b_Values_ofBody) (maxL := 4) (ret := (some .int)) jF0_k (plainFor_of_name (by decide)) rfl (Nat.le_of_ble_eq_true rfl) ?_
  intro K hKl hKD X E
  subst hKl; subst hKD
  unfold f_Values_ofBody at h
  refine J_aload_n X d_Values_ofBody_0 rfl 0 rfl ?_
  refine J_iload_n X d_Values_ofBody_1 rfl 1 rfl ?_
  refine J_lconst (v := 0) X d_Values_ofBody_2 (by decide) ?_
  refine J_iload_n X d_Values_ofBody_3 rfl 2 rfl ?_
  refine J_iload_n X d_Values_ofBody_4 rfl 3 rfl ?_
  obtain ⟨r1, V_top_2, V_kinds_3, V_numbers_4, V_parts_5, V_links_6, q7, h⟩ := wk_b6 h
  refine J_afterI0 (ws' := [(ad 9, .inr (4, [.ref (ad 14), .ref (ad 16), .ref (ad 10), .ref (ad 11), .ref (ad 12), .ref (ad 13), .int (zI V_top_2)])), (ad 10, .inl (cI, 3201, .inl (zA V_kinds_3))), (ad 11, .inl (cL, 3201, .inr (.inl (zB V_numbers_4)))), (ad 12, .inl (cI, 3201, .inl (zA V_parts_5))), (ad 13, .inl (cI, 3201, .inl (zA V_links_6)))]) X (jrunV X (c_Values_make (ad := ad) q7) jF0_k (fun _ _ _ _ => trivial) (jgV own_Values_ofBody (by decide +kernel)) rfl rfl rfl pd_Values_make (by decide) [0, 1, 2, 3, 4] rfl (by decide) 0 4 rfl rfl rfl rfl (Nat.le_of_ble_eq_true rfl) d_Values_ofBody_5 (by decide)) [0, 1, 2, 3, 4] [] [0, 1, 2, 3, 4] rfl rfl (by decide) (by decide) rfl (by decide) ?_
  cases h
  exact J_ret E ⟨_, rfl, rfl⟩ d_Values_ofBody_8 (Nat.le_refl _) (Nat.le_refl _) rfl

theorem d_Values_ofBuiltin_0 : decode b_Values_ofBuiltin 0 = .ok (.aload_n 0, 1) := by decide +kernel
theorem d_Values_ofBuiltin_1 : decode b_Values_ofBuiltin 1 = .ok (.bipush 7, 2) := by decide +kernel
theorem d_Values_ofBuiltin_3 : decode b_Values_ofBuiltin 3 = .ok (.lload_n 1, 1) := by decide +kernel
theorem d_Values_ofBuiltin_4 : decode b_Values_ofBuiltin 4 = .ok (.iload_n 3, 1) := by decide +kernel
theorem d_Values_ofBuiltin_5 : decode b_Values_ofBuiltin 5 = .ok (.iload 4, 2) := by decide +kernel
theorem d_Values_ofBuiltin_7 : decode b_Values_ofBuiltin 7 = .ok (.invokevirtual 66, 3) := by decide +kernel
theorem d_Values_ofBuiltin_10 : decode b_Values_ofBuiltin 10 = .ok (.ireturn, 1) := by decide +kernel
def f_Values_ofBuiltin (V_top : Int) (V_kinds : Int → Int) (V_numbers : Int → Int) (V_parts : Int → Int) (V_links : Int → Int) (p1 : Int) (p3 : Int) (p4 : Int) : Option (Int × Int × (Int → Int) × (Int → Int) × (Int → Int) × (Int → Int)) :=
  ob6 (f_Values_make V_top V_kinds V_numbers V_parts V_links 7 p1 p3 p4) (fun r1 V_top_2 V_kinds_3 V_numbers_4 V_parts_5 V_links_6 =>
   some (r1, V_top_2, V_kinds_3, V_numbers_4, V_parts_5, V_links_6))
set_option maxHeartbeats 4000000 in
set_option maxRecDepth 100000 in
theorem c_Values_ofBuiltin {l : Launch} {D : va_G} {cI cL cB : ClassId} {ad : Nat → Nat} {V_top : Int} {V_kinds : Int → Int} {V_numbers : Int → Int} {V_parts : Int → Int} {V_links : Int → Int} {p1 : Int} {p3 : Int} {p4 : Int} {out : Int × Int × (Int → Int) × (Int → Int) × (Int → Int) × (Int → Int)} (h : f_Values_ofBuiltin V_top V_kinds V_numbers V_parts V_links p1 p3 p4 = some out) : CT jF0 false l D [(cI, .int), (cL, .long), (cB, .byte)] y_Values_ofBuiltin w_Values_ofBuiltin ({ frames := 2, cells := 0, slots := 0, locals := 52 } : Room) [.ref (ad 9), .long (zL p1), .int (zI p3), .int (zI p4)] [(ad 9, .inr (4, [.ref (ad 14), .ref (ad 16), .ref (ad 10), .ref (ad 11), .ref (ad 12), .ref (ad 13), .int (zI V_top)])), (ad 10, .inl (cI, 3201, .inl (zA V_kinds))), (ad 11, .inl (cL, 3201, .inr (.inl (zB V_numbers)))), (ad 12, .inl (cI, 3201, .inl (zA V_parts))), (ad 13, .inl (cI, 3201, .inl (zA V_links)))] (some (.int (zI out.1))) [(ad 9, .inr (4, [.ref (ad 14), .ref (ad 16), .ref (ad 10), .ref (ad 11), .ref (ad 12), .ref (ad 13), .int (zI (out.2.1))])), (ad 10, .inl (cI, 3201, .inl (zA (out.2.2.1)))), (ad 11, .inl (cL, 3201, .inr (.inl (zB (out.2.2.2.1))))), (ad 12, .inl (cI, 3201, .inl (zA (out.2.2.2.2.1)))), (ad 13, .inl (cI, 3201, .inl (zA (out.2.2.2.2.2))))] 0 0 := by
  refine CT_of_J (cc := b_Values_ofBuiltin) (maxL := 5) (ret := (some .int)) jF0_k (plainFor_of_name (by decide)) rfl (Nat.le_of_ble_eq_true rfl) ?_
  intro K hKl hKD X E
  subst hKl; subst hKD
  unfold f_Values_ofBuiltin at h
  refine J_aload_n X d_Values_ofBuiltin_0 rfl 0 rfl ?_
  refine J_bipush X d_Values_ofBuiltin_1 (by decide) ?_
  refine J_lload_n X d_Values_ofBuiltin_3 rfl 1 rfl ?_
  refine J_iload_n X d_Values_ofBuiltin_4 rfl 2 rfl ?_
  refine J_iload X d_Values_ofBuiltin_5 3 rfl ?_
  obtain ⟨r1, V_top_2, V_kinds_3, V_numbers_4, V_parts_5, V_links_6, q7, h⟩ := wk_b6 h
  refine J_afterI0 (ws' := [(ad 9, .inr (4, [.ref (ad 14), .ref (ad 16), .ref (ad 10), .ref (ad 11), .ref (ad 12), .ref (ad 13), .int (zI V_top_2)])), (ad 10, .inl (cI, 3201, .inl (zA V_kinds_3))), (ad 11, .inl (cL, 3201, .inr (.inl (zB V_numbers_4)))), (ad 12, .inl (cI, 3201, .inl (zA V_parts_5))), (ad 13, .inl (cI, 3201, .inl (zA V_links_6)))]) X (jrunV X (c_Values_make (ad := ad) q7) jF0_k (fun _ _ _ _ => trivial) (jgV own_Values_ofBuiltin (by decide +kernel)) rfl rfl rfl pd_Values_make (by decide) [0, 1, 2, 3, 4] rfl (by decide) 0 4 rfl rfl rfl rfl (Nat.le_of_ble_eq_true rfl) d_Values_ofBuiltin_7 (by decide)) [0, 1, 2, 3, 4] [] [0, 1, 2, 3, 4] rfl rfl (by decide) (by decide) rfl (by decide) ?_
  cases h
  exact J_ret E ⟨_, rfl, rfl⟩ d_Values_ofBuiltin_10 (Nat.le_refl _) (Nat.le_refl _) rfl

theorem d_Values_kindOf_0 : decode b_Values_kindOf 0 = .ok (.iload_n 1, 1) := by decide +kernel
theorem d_Values_kindOf_1 : decode b_Values_kindOf 1 = .ok (.ifCond .lt 20, 3) := by decide +kernel
theorem d_Values_kindOf_4 : decode b_Values_kindOf 4 = .ok (.iload_n 1, 1) := by decide +kernel
theorem d_Values_kindOf_5 : decode b_Values_kindOf 5 = .ok (.aload_n 0, 1) := by decide +kernel
theorem d_Values_kindOf_6 : decode b_Values_kindOf 6 = .ok (.getfield 42, 3) := by decide +kernel
theorem d_Values_kindOf_9 : decode b_Values_kindOf 9 = .ok (.if_icmp .ge 12, 3) := by decide +kernel
theorem d_Values_kindOf_12 : decode b_Values_kindOf 12 = .ok (.aload_n 0, 1) := by decide +kernel
theorem d_Values_kindOf_13 : decode b_Values_kindOf 13 = .ok (.getfield 28, 3) := by decide +kernel
theorem d_Values_kindOf_16 : decode b_Values_kindOf 16 = .ok (.iload_n 1, 1) := by decide +kernel
theorem d_Values_kindOf_17 : decode b_Values_kindOf 17 = .ok (.iaload, 1) := by decide +kernel
theorem d_Values_kindOf_18 : decode b_Values_kindOf 18 = .ok (.goto 4, 3) := by decide +kernel
theorem d_Values_kindOf_21 : decode b_Values_kindOf 21 = .ok (.iconst (-1), 1) := by decide +kernel
theorem d_Values_kindOf_22 : decode b_Values_kindOf 22 = .ok (.ireturn, 1) := by decide +kernel
def f_Values_kindOf (V_top : Int) (V_kinds : Int → Int) (p1 : Int) : Option (Int) :=
  if rI p1 = true then (if p1 < 0 then (
   some (-1)) else (
   if jr2 p1 V_top = true then (if V_top ≤ p1 then (
    some (-1)) else (
    if jix p1 3201 = true then (
     some (V_kinds p1)) else none)) else none)) else none
set_option maxHeartbeats 4000000 in
set_option maxRecDepth 100000 in
theorem c_Values_kindOf {l : Launch} {D : va_G} {cI cL cB : ClassId} {ad : Nat → Nat} {V_top : Int} {V_kinds : Int → Int} {p1 : Int} {out : Int} (h : f_Values_kindOf V_top V_kinds p1 = some out) : CT jF0 true l D [(cI, .int), (cL, .long), (cB, .byte)] y_Values_kindOf w_Values_kindOf ({ frames := 0, cells := 0, slots := 0, locals := 0 } : Room) [.ref (ad 9), .int (zI p1)] [(ad 9, .inr (4, [.ref (ad 14), .ref (ad 16), .ref (ad 10), .ref (ad 11), .ref (ad 12), .ref (ad 13), .int (zI V_top)])), (ad 10, .inl (cI, 3201, .inl (zA V_kinds)))] (some (.int (zI out))) [(ad 9, .inr (4, [.ref (ad 14), .ref (ad 16), .ref (ad 10), .ref (ad 11), .ref (ad 12), .ref (ad 13), .int (zI V_top)])), (ad 10, .inl (cI, 3201, .inl (zA V_kinds)))] 0 0 := by
  refine CT_of_J (cc := b_Values_kindOf) (maxL := 2) (ret := (some .int)) jF0_k (plainFor_of_name (by decide)) rfl (Nat.le_of_ble_eq_true rfl) ?_
  intro K hKl hKD X E
  subst hKl; subst hKD
  unfold f_Values_kindOf at h
  refine J_iload_n X d_Values_kindOf_0 rfl 1 rfl ?_
  refine J_if_lt (tgt := 21) X d_Values_kindOf_1 (by decide) h (fun c1 h => ?_) (fun c1 h => ?_)
  · refine J_iconst X d_Values_kindOf_21 ?_
    cases h
    exact J_ret E ⟨_, rfl, rfl⟩ d_Values_kindOf_22 (Nat.le_refl _) (Nat.le_refl _) rfl
  · refine J_iload_n X d_Values_kindOf_4 rfl 1 rfl ?_
    refine J_aload_n X d_Values_kindOf_5 rfl 0 rfl ?_
    refine J_get X (j_in in_Values) 0 rfl rfl 6 (by decide) (j_m own_Values_kindOf (by decide +kernel)) rfl d_Values_kindOf_6 ?_
    refine J_icmp_ge (tgt := 21) X d_Values_kindOf_9 (by decide) h (fun c2 h => ?_) (fun c2 h => ?_)
    · refine J_iconst X d_Values_kindOf_21 ?_
      cases h
      exact J_ret E ⟨_, rfl, rfl⟩ d_Values_kindOf_22 (Nat.le_refl _) (Nat.le_refl _) rfl
    · refine J_aload_n X d_Values_kindOf_12 rfl 0 rfl ?_
      refine J_get X (j_in in_Values) 0 rfl rfl 2 (by decide) (j_m own_Values_kindOf (by decide +kernel)) rfl d_Values_kindOf_13 ?_
      refine J_iload_n X d_Values_kindOf_16 rfl 1 rfl ?_
      obtain ⟨g3, h⟩ := wk_g h
      refine J_iald X 1 0 rfl rfl g3 d_Values_kindOf_17 ?_
      refine J_goto (tgt := 22) X d_Values_kindOf_18 (by decide) ?_
      cases h
      exact J_ret E ⟨_, rfl, rfl⟩ d_Values_kindOf_22 (Nat.le_refl _) (Nat.le_refl _) rfl

theorem d_Values_numberOf_0 : decode b_Values_numberOf 0 = .ok (.iload_n 1, 1) := by decide +kernel
theorem d_Values_numberOf_1 : decode b_Values_numberOf 1 = .ok (.ifCond .lt 20, 3) := by decide +kernel
theorem d_Values_numberOf_4 : decode b_Values_numberOf 4 = .ok (.iload_n 1, 1) := by decide +kernel
theorem d_Values_numberOf_5 : decode b_Values_numberOf 5 = .ok (.aload_n 0, 1) := by decide +kernel
theorem d_Values_numberOf_6 : decode b_Values_numberOf 6 = .ok (.getfield 42, 3) := by decide +kernel
theorem d_Values_numberOf_9 : decode b_Values_numberOf 9 = .ok (.if_icmp .ge 12, 3) := by decide +kernel
theorem d_Values_numberOf_12 : decode b_Values_numberOf 12 = .ok (.aload_n 0, 1) := by decide +kernel
theorem d_Values_numberOf_13 : decode b_Values_numberOf 13 = .ok (.getfield 32, 3) := by decide +kernel
theorem d_Values_numberOf_16 : decode b_Values_numberOf 16 = .ok (.iload_n 1, 1) := by decide +kernel
theorem d_Values_numberOf_17 : decode b_Values_numberOf 17 = .ok (.laload, 1) := by decide +kernel
theorem d_Values_numberOf_18 : decode b_Values_numberOf 18 = .ok (.goto 4, 3) := by decide +kernel
theorem d_Values_numberOf_21 : decode b_Values_numberOf 21 = .ok (.lconst 0, 1) := by decide +kernel
theorem d_Values_numberOf_22 : decode b_Values_numberOf 22 = .ok (.lreturn, 1) := by decide +kernel
def f_Values_numberOf (V_top : Int) (V_numbers : Int → Int) (p1 : Int) : Option (Int) :=
  if rI p1 = true then (if p1 < 0 then (
   some 0) else (
   if jr2 p1 V_top = true then (if V_top ≤ p1 then (
    some 0) else (
    if jix p1 3201 = true then (
     some (V_numbers p1)) else none)) else none)) else none
set_option maxHeartbeats 4000000 in
set_option maxRecDepth 100000 in
theorem c_Values_numberOf {l : Launch} {D : va_G} {cI cL cB : ClassId} {ad : Nat → Nat} {V_top : Int} {V_numbers : Int → Int} {p1 : Int} {out : Int} (h : f_Values_numberOf V_top V_numbers p1 = some out) : CT jF0 true l D [(cI, .int), (cL, .long), (cB, .byte)] y_Values_numberOf w_Values_numberOf ({ frames := 0, cells := 0, slots := 0, locals := 0 } : Room) [.ref (ad 9), .int (zI p1)] [(ad 9, .inr (4, [.ref (ad 14), .ref (ad 16), .ref (ad 10), .ref (ad 11), .ref (ad 12), .ref (ad 13), .int (zI V_top)])), (ad 11, .inl (cL, 3201, .inr (.inl (zB V_numbers))))] (some (.long (zL out))) [(ad 9, .inr (4, [.ref (ad 14), .ref (ad 16), .ref (ad 10), .ref (ad 11), .ref (ad 12), .ref (ad 13), .int (zI V_top)])), (ad 11, .inl (cL, 3201, .inr (.inl (zB V_numbers))))] 0 0 := by
  refine CT_of_J (cc := b_Values_numberOf) (maxL := 2) (ret := (some .long)) jF0_k (plainFor_of_name (by decide)) rfl (Nat.le_of_ble_eq_true rfl) ?_
  intro K hKl hKD X E
  subst hKl; subst hKD
  unfold f_Values_numberOf at h
  refine J_iload_n X d_Values_numberOf_0 rfl 1 rfl ?_
  refine J_if_lt (tgt := 21) X d_Values_numberOf_1 (by decide) h (fun c1 h => ?_) (fun c1 h => ?_)
  · refine J_lconst (v := 0) X d_Values_numberOf_21 (by decide) ?_
    cases h
    exact J_ret E rfl d_Values_numberOf_22 (Nat.le_refl _) (Nat.le_refl _) rfl
  · refine J_iload_n X d_Values_numberOf_4 rfl 1 rfl ?_
    refine J_aload_n X d_Values_numberOf_5 rfl 0 rfl ?_
    refine J_get X (j_in in_Values) 0 rfl rfl 6 (by decide) (j_m own_Values_numberOf (by decide +kernel)) rfl d_Values_numberOf_6 ?_
    refine J_icmp_ge (tgt := 21) X d_Values_numberOf_9 (by decide) h (fun c2 h => ?_) (fun c2 h => ?_)
    · refine J_lconst (v := 0) X d_Values_numberOf_21 (by decide) ?_
      cases h
      exact J_ret E rfl d_Values_numberOf_22 (Nat.le_refl _) (Nat.le_refl _) rfl
    · refine J_aload_n X d_Values_numberOf_12 rfl 0 rfl ?_
      refine J_get X (j_in in_Values) 0 rfl rfl 3 (by decide) (j_m own_Values_numberOf (by decide +kernel)) rfl d_Values_numberOf_13 ?_
      refine J_iload_n X d_Values_numberOf_16 rfl 1 rfl ?_
      obtain ⟨g3, h⟩ := wk_g h
      refine J_lald X 1 1 rfl rfl g3 d_Values_numberOf_17 ?_
      refine J_goto (tgt := 22) X d_Values_numberOf_18 (by decide) ?_
      cases h
      exact J_ret E rfl d_Values_numberOf_22 (Nat.le_refl _) (Nat.le_refl _) rfl

theorem d_Values_partOf_0 : decode b_Values_partOf 0 = .ok (.iload_n 1, 1) := by decide +kernel
theorem d_Values_partOf_1 : decode b_Values_partOf 1 = .ok (.ifCond .lt 20, 3) := by decide +kernel
theorem d_Values_partOf_4 : decode b_Values_partOf 4 = .ok (.iload_n 1, 1) := by decide +kernel
theorem d_Values_partOf_5 : decode b_Values_partOf 5 = .ok (.aload_n 0, 1) := by decide +kernel
theorem d_Values_partOf_6 : decode b_Values_partOf 6 = .ok (.getfield 42, 3) := by decide +kernel
theorem d_Values_partOf_9 : decode b_Values_partOf 9 = .ok (.if_icmp .ge 12, 3) := by decide +kernel
theorem d_Values_partOf_12 : decode b_Values_partOf 12 = .ok (.aload_n 0, 1) := by decide +kernel
theorem d_Values_partOf_13 : decode b_Values_partOf 13 = .ok (.getfield 36, 3) := by decide +kernel
theorem d_Values_partOf_16 : decode b_Values_partOf 16 = .ok (.iload_n 1, 1) := by decide +kernel
theorem d_Values_partOf_17 : decode b_Values_partOf 17 = .ok (.iaload, 1) := by decide +kernel
theorem d_Values_partOf_18 : decode b_Values_partOf 18 = .ok (.goto 4, 3) := by decide +kernel
theorem d_Values_partOf_21 : decode b_Values_partOf 21 = .ok (.iconst (-1), 1) := by decide +kernel
theorem d_Values_partOf_22 : decode b_Values_partOf 22 = .ok (.ireturn, 1) := by decide +kernel
def f_Values_partOf (V_top : Int) (V_parts : Int → Int) (p1 : Int) : Option (Int) :=
  if rI p1 = true then (if p1 < 0 then (
   some (-1)) else (
   if jr2 p1 V_top = true then (if V_top ≤ p1 then (
    some (-1)) else (
    if jix p1 3201 = true then (
     some (V_parts p1)) else none)) else none)) else none
set_option maxHeartbeats 4000000 in
set_option maxRecDepth 100000 in
theorem c_Values_partOf {l : Launch} {D : va_G} {cI cL cB : ClassId} {ad : Nat → Nat} {V_top : Int} {V_parts : Int → Int} {p1 : Int} {out : Int} (h : f_Values_partOf V_top V_parts p1 = some out) : CT jF0 true l D [(cI, .int), (cL, .long), (cB, .byte)] y_Values_partOf w_Values_partOf ({ frames := 0, cells := 0, slots := 0, locals := 0 } : Room) [.ref (ad 9), .int (zI p1)] [(ad 9, .inr (4, [.ref (ad 14), .ref (ad 16), .ref (ad 10), .ref (ad 11), .ref (ad 12), .ref (ad 13), .int (zI V_top)])), (ad 12, .inl (cI, 3201, .inl (zA V_parts)))] (some (.int (zI out))) [(ad 9, .inr (4, [.ref (ad 14), .ref (ad 16), .ref (ad 10), .ref (ad 11), .ref (ad 12), .ref (ad 13), .int (zI V_top)])), (ad 12, .inl (cI, 3201, .inl (zA V_parts)))] 0 0 := by
  refine CT_of_J (cc := b_Values_partOf) (maxL := 2) (ret := (some .int)) jF0_k (plainFor_of_name (by decide)) rfl (Nat.le_of_ble_eq_true rfl) ?_
  intro K hKl hKD X E
  subst hKl; subst hKD
  unfold f_Values_partOf at h
  refine J_iload_n X d_Values_partOf_0 rfl 1 rfl ?_
  refine J_if_lt (tgt := 21) X d_Values_partOf_1 (by decide) h (fun c1 h => ?_) (fun c1 h => ?_)
  · refine J_iconst X d_Values_partOf_21 ?_
    cases h
    exact J_ret E ⟨_, rfl, rfl⟩ d_Values_partOf_22 (Nat.le_refl _) (Nat.le_refl _) rfl
  · refine J_iload_n X d_Values_partOf_4 rfl 1 rfl ?_
    refine J_aload_n X d_Values_partOf_5 rfl 0 rfl ?_
    refine J_get X (j_in in_Values) 0 rfl rfl 6 (by decide) (j_m own_Values_partOf (by decide +kernel)) rfl d_Values_partOf_6 ?_
    refine J_icmp_ge (tgt := 21) X d_Values_partOf_9 (by decide) h (fun c2 h => ?_) (fun c2 h => ?_)
    · refine J_iconst X d_Values_partOf_21 ?_
      cases h
      exact J_ret E ⟨_, rfl, rfl⟩ d_Values_partOf_22 (Nat.le_refl _) (Nat.le_refl _) rfl
    · refine J_aload_n X d_Values_partOf_12 rfl 0 rfl ?_
      refine J_get X (j_in in_Values) 0 rfl rfl 4 (by decide) (j_m own_Values_partOf (by decide +kernel)) rfl d_Values_partOf_13 ?_
      refine J_iload_n X d_Values_partOf_16 rfl 1 rfl ?_
      obtain ⟨g3, h⟩ := wk_g h
      refine J_iald X 1 0 rfl rfl g3 d_Values_partOf_17 ?_
      refine J_goto (tgt := 22) X d_Values_partOf_18 (by decide) ?_
      cases h
      exact J_ret E ⟨_, rfl, rfl⟩ d_Values_partOf_22 (Nat.le_refl _) (Nat.le_refl _) rfl

theorem d_Values_startOf_0 : decode b_Values_startOf 0 = .ok (.aload_n 0, 1) := by decide +kernel
theorem d_Values_startOf_1 : decode b_Values_startOf 1 = .ok (.iload_n 1, 1) := by decide +kernel
theorem d_Values_startOf_2 : decode b_Values_startOf 2 = .ok (.invokevirtual 70, 3) := by decide +kernel
theorem d_Values_startOf_5 : decode b_Values_startOf 5 = .ok (.ireturn, 1) := by decide +kernel
def f_Values_startOf (V_top : Int) (V_parts : Int → Int) (p1 : Int) : Option (Int) :=
  Option.bind (f_Values_partOf V_top V_parts p1) (fun r1 =>
   some r1)
set_option maxHeartbeats 4000000 in
set_option maxRecDepth 100000 in
theorem c_Values_startOf {l : Launch} {D : va_G} {cI cL cB : ClassId} {ad : Nat → Nat} {V_top : Int} {V_parts : Int → Int} {p1 : Int} {out : Int} (h : f_Values_startOf V_top V_parts p1 = some out) : CT jF0 true l D [(cI, .int), (cL, .long), (cB, .byte)] y_Values_startOf w_Values_startOf ({ frames := 1, cells := 0, slots := 0, locals := 21 } : Room) [.ref (ad 9), .int (zI p1)] [(ad 9, .inr (4, [.ref (ad 14), .ref (ad 16), .ref (ad 10), .ref (ad 11), .ref (ad 12), .ref (ad 13), .int (zI V_top)])), (ad 12, .inl (cI, 3201, .inl (zA V_parts)))] (some (.int (zI out))) [(ad 9, .inr (4, [.ref (ad 14), .ref (ad 16), .ref (ad 10), .ref (ad 11), .ref (ad 12), .ref (ad 13), .int (zI V_top)])), (ad 12, .inl (cI, 3201, .inl (zA V_parts)))] 0 0 := by
  refine CT_of_J (cc := b_Values_startOf) (maxL := 2) (ret := (some .int)) jF0_k (plainFor_of_name (by decide)) rfl (Nat.le_of_ble_eq_true rfl) ?_
  intro K hKl hKD X E
  subst hKl; subst hKD
  unfold f_Values_startOf at h
  refine J_aload_n X d_Values_startOf_0 rfl 0 rfl ?_
  refine J_iload_n X d_Values_startOf_1 rfl 1 rfl ?_
  obtain ⟨r1, q2, h⟩ := wk_b h
  refine J_afterP (jrunV X (c_Values_partOf (ad := ad) q2) jF0_k (fun _ _ _ _ => trivial) (jgV own_Values_startOf (by decide +kernel)) rfl rfl rfl pd_Values_partOf (by decide) [0, 1] rfl (by decide) 0 4 rfl rfl rfl rfl (Nat.le_of_ble_eq_true rfl) d_Values_startOf_2 (by decide)) ?_
  cases h
  exact J_ret E ⟨_, rfl, rfl⟩ d_Values_startOf_5 (Nat.le_refl _) (Nat.le_refl _) rfl

theorem d_Values_linkOf_0 : decode b_Values_linkOf 0 = .ok (.iload_n 1, 1) := by decide +kernel
theorem d_Values_linkOf_1 : decode b_Values_linkOf 1 = .ok (.ifCond .lt 20, 3) := by decide +kernel
theorem d_Values_linkOf_4 : decode b_Values_linkOf 4 = .ok (.iload_n 1, 1) := by decide +kernel
theorem d_Values_linkOf_5 : decode b_Values_linkOf 5 = .ok (.aload_n 0, 1) := by decide +kernel
theorem d_Values_linkOf_6 : decode b_Values_linkOf 6 = .ok (.getfield 42, 3) := by decide +kernel
theorem d_Values_linkOf_9 : decode b_Values_linkOf 9 = .ok (.if_icmp .ge 12, 3) := by decide +kernel
theorem d_Values_linkOf_12 : decode b_Values_linkOf 12 = .ok (.aload_n 0, 1) := by decide +kernel
theorem d_Values_linkOf_13 : decode b_Values_linkOf 13 = .ok (.getfield 39, 3) := by decide +kernel
theorem d_Values_linkOf_16 : decode b_Values_linkOf 16 = .ok (.iload_n 1, 1) := by decide +kernel
theorem d_Values_linkOf_17 : decode b_Values_linkOf 17 = .ok (.iaload, 1) := by decide +kernel
theorem d_Values_linkOf_18 : decode b_Values_linkOf 18 = .ok (.goto 4, 3) := by decide +kernel
theorem d_Values_linkOf_21 : decode b_Values_linkOf 21 = .ok (.iconst (-1), 1) := by decide +kernel
theorem d_Values_linkOf_22 : decode b_Values_linkOf 22 = .ok (.ireturn, 1) := by decide +kernel
def f_Values_linkOf (V_top : Int) (V_links : Int → Int) (p1 : Int) : Option (Int) :=
  if rI p1 = true then (if p1 < 0 then (
   some (-1)) else (
   if jr2 p1 V_top = true then (if V_top ≤ p1 then (
    some (-1)) else (
    if jix p1 3201 = true then (
     some (V_links p1)) else none)) else none)) else none
set_option maxHeartbeats 4000000 in
set_option maxRecDepth 100000 in
theorem c_Values_linkOf {l : Launch} {D : va_G} {cI cL cB : ClassId} {ad : Nat → Nat} {V_top : Int} {V_links : Int → Int} {p1 : Int} {out : Int} (h : f_Values_linkOf V_top V_links p1 = some out) : CT jF0 true l D [(cI, .int), (cL, .long), (cB, .byte)] y_Values_linkOf w_Values_linkOf ({ frames := 0, cells := 0, slots := 0, locals := 0 } : Room) [.ref (ad 9), .int (zI p1)] [(ad 9, .inr (4, [.ref (ad 14), .ref (ad 16), .ref (ad 10), .ref (ad 11), .ref (ad 12), .ref (ad 13), .int (zI V_top)])), (ad 13, .inl (cI, 3201, .inl (zA V_links)))] (some (.int (zI out))) [(ad 9, .inr (4, [.ref (ad 14), .ref (ad 16), .ref (ad 10), .ref (ad 11), .ref (ad 12), .ref (ad 13), .int (zI V_top)])), (ad 13, .inl (cI, 3201, .inl (zA V_links)))] 0 0 := by
  refine CT_of_J (cc := b_Values_linkOf) (maxL := 2) (ret := (some .int)) jF0_k (plainFor_of_name (by decide)) rfl (Nat.le_of_ble_eq_true rfl) ?_
  intro K hKl hKD X E
  subst hKl; subst hKD
  unfold f_Values_linkOf at h
  refine J_iload_n X d_Values_linkOf_0 rfl 1 rfl ?_
  refine J_if_lt (tgt := 21) X d_Values_linkOf_1 (by decide) h (fun c1 h => ?_) (fun c1 h => ?_)
  · refine J_iconst X d_Values_linkOf_21 ?_
    cases h
    exact J_ret E ⟨_, rfl, rfl⟩ d_Values_linkOf_22 (Nat.le_refl _) (Nat.le_refl _) rfl
  · refine J_iload_n X d_Values_linkOf_4 rfl 1 rfl ?_
    refine J_aload_n X d_Values_linkOf_5 rfl 0 rfl ?_
    refine J_get X (j_in in_Values) 0 rfl rfl 6 (by decide) (j_m own_Values_linkOf (by decide +kernel)) rfl d_Values_linkOf_6 ?_
    refine J_icmp_ge (tgt := 21) X d_Values_linkOf_9 (by decide) h (fun c2 h => ?_) (fun c2 h => ?_)
    · refine J_iconst X d_Values_linkOf_21 ?_
      cases h
      exact J_ret E ⟨_, rfl, rfl⟩ d_Values_linkOf_22 (Nat.le_refl _) (Nat.le_refl _) rfl
    · refine J_aload_n X d_Values_linkOf_12 rfl 0 rfl ?_
      refine J_get X (j_in in_Values) 0 rfl rfl 5 (by decide) (j_m own_Values_linkOf (by decide +kernel)) rfl d_Values_linkOf_13 ?_
      refine J_iload_n X d_Values_linkOf_16 rfl 1 rfl ?_
      obtain ⟨g3, h⟩ := wk_g h
      refine J_iald X 1 0 rfl rfl g3 d_Values_linkOf_17 ?_
      refine J_goto (tgt := 22) X d_Values_linkOf_18 (by decide) ?_
      cases h
      exact J_ret E ⟨_, rfl, rfl⟩ d_Values_linkOf_22 (Nat.le_refl _) (Nat.le_refl _) rfl

theorem d_Values_lengthOf_0 : decode b_Values_lengthOf 0 = .ok (.aload_n 0, 1) := by decide +kernel
theorem d_Values_lengthOf_1 : decode b_Values_lengthOf 1 = .ok (.iload_n 1, 1) := by decide +kernel
theorem d_Values_lengthOf_2 : decode b_Values_lengthOf 2 = .ok (.invokevirtual 73, 3) := by decide +kernel
theorem d_Values_lengthOf_5 : decode b_Values_lengthOf 5 = .ok (.ireturn, 1) := by decide +kernel
def f_Values_lengthOf (V_top : Int) (V_links : Int → Int) (p1 : Int) : Option (Int) :=
  Option.bind (f_Values_linkOf V_top V_links p1) (fun r1 =>
   some r1)
set_option maxHeartbeats 4000000 in
set_option maxRecDepth 100000 in
theorem c_Values_lengthOf {l : Launch} {D : va_G} {cI cL cB : ClassId} {ad : Nat → Nat} {V_top : Int} {V_links : Int → Int} {p1 : Int} {out : Int} (h : f_Values_lengthOf V_top V_links p1 = some out) : CT jF0 true l D [(cI, .int), (cL, .long), (cB, .byte)] y_Values_lengthOf w_Values_lengthOf ({ frames := 1, cells := 0, slots := 0, locals := 21 } : Room) [.ref (ad 9), .int (zI p1)] [(ad 9, .inr (4, [.ref (ad 14), .ref (ad 16), .ref (ad 10), .ref (ad 11), .ref (ad 12), .ref (ad 13), .int (zI V_top)])), (ad 13, .inl (cI, 3201, .inl (zA V_links)))] (some (.int (zI out))) [(ad 9, .inr (4, [.ref (ad 14), .ref (ad 16), .ref (ad 10), .ref (ad 11), .ref (ad 12), .ref (ad 13), .int (zI V_top)])), (ad 13, .inl (cI, 3201, .inl (zA V_links)))] 0 0 := by
  refine CT_of_J (cc := b_Values_lengthOf) (maxL := 2) (ret := (some .int)) jF0_k (plainFor_of_name (by decide)) rfl (Nat.le_of_ble_eq_true rfl) ?_
  intro K hKl hKD X E
  subst hKl; subst hKD
  unfold f_Values_lengthOf at h
  refine J_aload_n X d_Values_lengthOf_0 rfl 0 rfl ?_
  refine J_iload_n X d_Values_lengthOf_1 rfl 1 rfl ?_
  obtain ⟨r1, q2, h⟩ := wk_b h
  refine J_afterP (jrunV X (c_Values_linkOf (ad := ad) q2) jF0_k (fun _ _ _ _ => trivial) (jgV own_Values_lengthOf (by decide +kernel)) rfl rfl rfl pd_Values_linkOf (by decide) [0, 1] rfl (by decide) 0 4 rfl rfl rfl rfl (Nat.le_of_ble_eq_true rfl) d_Values_lengthOf_2 (by decide)) ?_
  cases h
  exact J_ret E ⟨_, rfl, rfl⟩ d_Values_lengthOf_5 (Nat.le_refl _) (Nat.le_refl _) rfl

theorem d_Values_rootOf_0 : decode b_Values_rootOf 0 = .ok (.aload_n 0, 1) := by decide +kernel
theorem d_Values_rootOf_1 : decode b_Values_rootOf 1 = .ok (.iload_n 1, 1) := by decide +kernel
theorem d_Values_rootOf_2 : decode b_Values_rootOf 2 = .ok (.invokevirtual 70, 3) := by decide +kernel
theorem d_Values_rootOf_5 : decode b_Values_rootOf 5 = .ok (.ireturn, 1) := by decide +kernel
def f_Values_rootOf (V_top : Int) (V_parts : Int → Int) (p1 : Int) : Option (Int) :=
  Option.bind (f_Values_partOf V_top V_parts p1) (fun r1 =>
   some r1)
set_option maxHeartbeats 4000000 in
set_option maxRecDepth 100000 in
theorem c_Values_rootOf {l : Launch} {D : va_G} {cI cL cB : ClassId} {ad : Nat → Nat} {V_top : Int} {V_parts : Int → Int} {p1 : Int} {out : Int} (h : f_Values_rootOf V_top V_parts p1 = some out) : CT jF0 true l D [(cI, .int), (cL, .long), (cB, .byte)] y_Values_rootOf w_Values_rootOf ({ frames := 1, cells := 0, slots := 0, locals := 21 } : Room) [.ref (ad 9), .int (zI p1)] [(ad 9, .inr (4, [.ref (ad 14), .ref (ad 16), .ref (ad 10), .ref (ad 11), .ref (ad 12), .ref (ad 13), .int (zI V_top)])), (ad 12, .inl (cI, 3201, .inl (zA V_parts)))] (some (.int (zI out))) [(ad 9, .inr (4, [.ref (ad 14), .ref (ad 16), .ref (ad 10), .ref (ad 11), .ref (ad 12), .ref (ad 13), .int (zI V_top)])), (ad 12, .inl (cI, 3201, .inl (zA V_parts)))] 0 0 := by
  refine CT_of_J (cc := b_Values_rootOf) (maxL := 2) (ret := (some .int)) jF0_k (plainFor_of_name (by decide)) rfl (Nat.le_of_ble_eq_true rfl) ?_
  intro K hKl hKD X E
  subst hKl; subst hKD
  unfold f_Values_rootOf at h
  refine J_aload_n X d_Values_rootOf_0 rfl 0 rfl ?_
  refine J_iload_n X d_Values_rootOf_1 rfl 1 rfl ?_
  obtain ⟨r1, q2, h⟩ := wk_b h
  refine J_afterP (jrunV X (c_Values_partOf (ad := ad) q2) jF0_k (fun _ _ _ _ => trivial) (jgV own_Values_rootOf (by decide +kernel)) rfl rfl rfl pd_Values_partOf (by decide) [0, 1] rfl (by decide) 0 4 rfl rfl rfl rfl (Nat.le_of_ble_eq_true rfl) d_Values_rootOf_2 (by decide)) ?_
  cases h
  exact J_ret E ⟨_, rfl, rfl⟩ d_Values_rootOf_5 (Nat.le_refl _) (Nat.le_refl _) rfl

theorem d_Values_bodyOf_0 : decode b_Values_bodyOf 0 = .ok (.aload_n 0, 1) := by decide +kernel
theorem d_Values_bodyOf_1 : decode b_Values_bodyOf 1 = .ok (.iload_n 1, 1) := by decide +kernel
theorem d_Values_bodyOf_2 : decode b_Values_bodyOf 2 = .ok (.invokevirtual 70, 3) := by decide +kernel
theorem d_Values_bodyOf_5 : decode b_Values_bodyOf 5 = .ok (.ireturn, 1) := by decide +kernel
def f_Values_bodyOf (V_top : Int) (V_parts : Int → Int) (p1 : Int) : Option (Int) :=
  Option.bind (f_Values_partOf V_top V_parts p1) (fun r1 =>
   some r1)
set_option maxHeartbeats 4000000 in
set_option maxRecDepth 100000 in
theorem c_Values_bodyOf {l : Launch} {D : va_G} {cI cL cB : ClassId} {ad : Nat → Nat} {V_top : Int} {V_parts : Int → Int} {p1 : Int} {out : Int} (h : f_Values_bodyOf V_top V_parts p1 = some out) : CT jF0 true l D [(cI, .int), (cL, .long), (cB, .byte)] y_Values_bodyOf w_Values_bodyOf ({ frames := 1, cells := 0, slots := 0, locals := 21 } : Room) [.ref (ad 9), .int (zI p1)] [(ad 9, .inr (4, [.ref (ad 14), .ref (ad 16), .ref (ad 10), .ref (ad 11), .ref (ad 12), .ref (ad 13), .int (zI V_top)])), (ad 12, .inl (cI, 3201, .inl (zA V_parts)))] (some (.int (zI out))) [(ad 9, .inr (4, [.ref (ad 14), .ref (ad 16), .ref (ad 10), .ref (ad 11), .ref (ad 12), .ref (ad 13), .int (zI V_top)])), (ad 12, .inl (cI, 3201, .inl (zA V_parts)))] 0 0 := by
  refine CT_of_J (cc := b_Values_bodyOf) (maxL := 2) (ret := (some .int)) jF0_k (plainFor_of_name (by decide)) rfl (Nat.le_of_ble_eq_true rfl) ?_
  intro K hKl hKD X E
  subst hKl; subst hKD
  unfold f_Values_bodyOf at h
  refine J_aload_n X d_Values_bodyOf_0 rfl 0 rfl ?_
  refine J_iload_n X d_Values_bodyOf_1 rfl 1 rfl ?_
  obtain ⟨r1, q2, h⟩ := wk_b h
  refine J_afterP (jrunV X (c_Values_partOf (ad := ad) q2) jF0_k (fun _ _ _ _ => trivial) (jgV own_Values_bodyOf (by decide +kernel)) rfl rfl rfl pd_Values_partOf (by decide) [0, 1] rfl (by decide) 0 4 rfl rfl rfl rfl (Nat.le_of_ble_eq_true rfl) d_Values_bodyOf_2 (by decide)) ?_
  cases h
  exact J_ret E ⟨_, rfl, rfl⟩ d_Values_bodyOf_5 (Nat.le_refl _) (Nat.le_refl _) rfl

theorem d_Values_scopeOf_0 : decode b_Values_scopeOf 0 = .ok (.aload_n 0, 1) := by decide +kernel
theorem d_Values_scopeOf_1 : decode b_Values_scopeOf 1 = .ok (.iload_n 1, 1) := by decide +kernel
theorem d_Values_scopeOf_2 : decode b_Values_scopeOf 2 = .ok (.invokevirtual 73, 3) := by decide +kernel
theorem d_Values_scopeOf_5 : decode b_Values_scopeOf 5 = .ok (.ireturn, 1) := by decide +kernel
def f_Values_scopeOf (V_top : Int) (V_links : Int → Int) (p1 : Int) : Option (Int) :=
  Option.bind (f_Values_linkOf V_top V_links p1) (fun r1 =>
   some r1)
set_option maxHeartbeats 4000000 in
set_option maxRecDepth 100000 in
theorem c_Values_scopeOf {l : Launch} {D : va_G} {cI cL cB : ClassId} {ad : Nat → Nat} {V_top : Int} {V_links : Int → Int} {p1 : Int} {out : Int} (h : f_Values_scopeOf V_top V_links p1 = some out) : CT jF0 true l D [(cI, .int), (cL, .long), (cB, .byte)] y_Values_scopeOf w_Values_scopeOf ({ frames := 1, cells := 0, slots := 0, locals := 21 } : Room) [.ref (ad 9), .int (zI p1)] [(ad 9, .inr (4, [.ref (ad 14), .ref (ad 16), .ref (ad 10), .ref (ad 11), .ref (ad 12), .ref (ad 13), .int (zI V_top)])), (ad 13, .inl (cI, 3201, .inl (zA V_links)))] (some (.int (zI out))) [(ad 9, .inr (4, [.ref (ad 14), .ref (ad 16), .ref (ad 10), .ref (ad 11), .ref (ad 12), .ref (ad 13), .int (zI V_top)])), (ad 13, .inl (cI, 3201, .inl (zA V_links)))] 0 0 := by
  refine CT_of_J (cc := b_Values_scopeOf) (maxL := 2) (ret := (some .int)) jF0_k (plainFor_of_name (by decide)) rfl (Nat.le_of_ble_eq_true rfl) ?_
  intro K hKl hKD X E
  subst hKl; subst hKD
  unfold f_Values_scopeOf at h
  refine J_aload_n X d_Values_scopeOf_0 rfl 0 rfl ?_
  refine J_iload_n X d_Values_scopeOf_1 rfl 1 rfl ?_
  obtain ⟨r1, q2, h⟩ := wk_b h
  refine J_afterP (jrunV X (c_Values_linkOf (ad := ad) q2) jF0_k (fun _ _ _ _ => trivial) (jgV own_Values_scopeOf (by decide +kernel)) rfl rfl rfl pd_Values_linkOf (by decide) [0, 1] rfl (by decide) 0 4 rfl rfl rfl rfl (Nat.le_of_ble_eq_true rfl) d_Values_scopeOf_2 (by decide)) ?_
  cases h
  exact J_ret E ⟨_, rfl, rfl⟩ d_Values_scopeOf_5 (Nat.le_refl _) (Nat.le_refl _) rfl

theorem d_Values_argumentOf_0 : decode b_Values_argumentOf 0 = .ok (.aload_n 0, 1) := by decide +kernel
theorem d_Values_argumentOf_1 : decode b_Values_argumentOf 1 = .ok (.iload_n 1, 1) := by decide +kernel
theorem d_Values_argumentOf_2 : decode b_Values_argumentOf 2 = .ok (.invokevirtual 70, 3) := by decide +kernel
theorem d_Values_argumentOf_5 : decode b_Values_argumentOf 5 = .ok (.ireturn, 1) := by decide +kernel
def f_Values_argumentOf (V_top : Int) (V_parts : Int → Int) (p1 : Int) : Option (Int) :=
  Option.bind (f_Values_partOf V_top V_parts p1) (fun r1 =>
   some r1)
set_option maxHeartbeats 4000000 in
set_option maxRecDepth 100000 in
theorem c_Values_argumentOf {l : Launch} {D : va_G} {cI cL cB : ClassId} {ad : Nat → Nat} {V_top : Int} {V_parts : Int → Int} {p1 : Int} {out : Int} (h : f_Values_argumentOf V_top V_parts p1 = some out) : CT jF0 true l D [(cI, .int), (cL, .long), (cB, .byte)] y_Values_argumentOf w_Values_argumentOf ({ frames := 1, cells := 0, slots := 0, locals := 21 } : Room) [.ref (ad 9), .int (zI p1)] [(ad 9, .inr (4, [.ref (ad 14), .ref (ad 16), .ref (ad 10), .ref (ad 11), .ref (ad 12), .ref (ad 13), .int (zI V_top)])), (ad 12, .inl (cI, 3201, .inl (zA V_parts)))] (some (.int (zI out))) [(ad 9, .inr (4, [.ref (ad 14), .ref (ad 16), .ref (ad 10), .ref (ad 11), .ref (ad 12), .ref (ad 13), .int (zI V_top)])), (ad 12, .inl (cI, 3201, .inl (zA V_parts)))] 0 0 := by
  refine CT_of_J (cc := b_Values_argumentOf) (maxL := 2) (ret := (some .int)) jF0_k (plainFor_of_name (by decide)) rfl (Nat.le_of_ble_eq_true rfl) ?_
  intro K hKl hKD X E
  subst hKl; subst hKD
  unfold f_Values_argumentOf at h
  refine J_aload_n X d_Values_argumentOf_0 rfl 0 rfl ?_
  refine J_iload_n X d_Values_argumentOf_1 rfl 1 rfl ?_
  obtain ⟨r1, q2, h⟩ := wk_b h
  refine J_afterP (jrunV X (c_Values_partOf (ad := ad) q2) jF0_k (fun _ _ _ _ => trivial) (jgV own_Values_argumentOf (by decide +kernel)) rfl rfl rfl pd_Values_partOf (by decide) [0, 1] rfl (by decide) 0 4 rfl rfl rfl rfl (Nat.le_of_ble_eq_true rfl) d_Values_argumentOf_2 (by decide)) ?_
  cases h
  exact J_ret E ⟨_, rfl, rfl⟩ d_Values_argumentOf_5 (Nat.le_refl _) (Nat.le_refl _) rfl

theorem d_Values_beforeOf_0 : decode b_Values_beforeOf 0 = .ok (.aload_n 0, 1) := by decide +kernel
theorem d_Values_beforeOf_1 : decode b_Values_beforeOf 1 = .ok (.iload_n 1, 1) := by decide +kernel
theorem d_Values_beforeOf_2 : decode b_Values_beforeOf 2 = .ok (.invokevirtual 73, 3) := by decide +kernel
theorem d_Values_beforeOf_5 : decode b_Values_beforeOf 5 = .ok (.ireturn, 1) := by decide +kernel
def f_Values_beforeOf (V_top : Int) (V_links : Int → Int) (p1 : Int) : Option (Int) :=
  Option.bind (f_Values_linkOf V_top V_links p1) (fun r1 =>
   some r1)
set_option maxHeartbeats 4000000 in
set_option maxRecDepth 100000 in
theorem c_Values_beforeOf {l : Launch} {D : va_G} {cI cL cB : ClassId} {ad : Nat → Nat} {V_top : Int} {V_links : Int → Int} {p1 : Int} {out : Int} (h : f_Values_beforeOf V_top V_links p1 = some out) : CT jF0 true l D [(cI, .int), (cL, .long), (cB, .byte)] y_Values_beforeOf w_Values_beforeOf ({ frames := 1, cells := 0, slots := 0, locals := 21 } : Room) [.ref (ad 9), .int (zI p1)] [(ad 9, .inr (4, [.ref (ad 14), .ref (ad 16), .ref (ad 10), .ref (ad 11), .ref (ad 12), .ref (ad 13), .int (zI V_top)])), (ad 13, .inl (cI, 3201, .inl (zA V_links)))] (some (.int (zI out))) [(ad 9, .inr (4, [.ref (ad 14), .ref (ad 16), .ref (ad 10), .ref (ad 11), .ref (ad 12), .ref (ad 13), .int (zI V_top)])), (ad 13, .inl (cI, 3201, .inl (zA V_links)))] 0 0 := by
  refine CT_of_J (cc := b_Values_beforeOf) (maxL := 2) (ret := (some .int)) jF0_k (plainFor_of_name (by decide)) rfl (Nat.le_of_ble_eq_true rfl) ?_
  intro K hKl hKD X E
  subst hKl; subst hKD
  unfold f_Values_beforeOf at h
  refine J_aload_n X d_Values_beforeOf_0 rfl 0 rfl ?_
  refine J_iload_n X d_Values_beforeOf_1 rfl 1 rfl ?_
  obtain ⟨r1, q2, h⟩ := wk_b h
  refine J_afterP (jrunV X (c_Values_linkOf (ad := ad) q2) jF0_k (fun _ _ _ _ => trivial) (jgV own_Values_beforeOf (by decide +kernel)) rfl rfl rfl pd_Values_linkOf (by decide) [0, 1] rfl (by decide) 0 4 rfl rfl rfl rfl (Nat.le_of_ble_eq_true rfl) d_Values_beforeOf_2 (by decide)) ?_
  cases h
  exact J_ret E ⟨_, rfl, rfl⟩ d_Values_beforeOf_5 (Nat.le_refl _) (Nat.le_refl _) rfl

theorem d_Values_givenTo_0 : decode b_Values_givenTo 0 = .ok (.iconst 0, 1) := by decide +kernel
theorem d_Values_givenTo_1 : decode b_Values_givenTo 1 = .ok (.istore_n 2, 1) := by decide +kernel
theorem d_Values_givenTo_2 : decode b_Values_givenTo 2 = .ok (.iload_n 1, 1) := by decide +kernel
theorem d_Values_givenTo_3 : decode b_Values_givenTo 3 = .ok (.istore_n 3, 1) := by decide +kernel
theorem d_Values_givenTo_4 : decode b_Values_givenTo 4 = .ok (.iload_n 2, 1) := by decide +kernel
theorem d_Values_givenTo_5 : decode b_Values_givenTo 5 = .ok (.iconst 3, 1) := by decide +kernel
theorem d_Values_givenTo_6 : decode b_Values_givenTo 6 = .ok (.if_icmp .ge 24, 3) := by decide +kernel
theorem d_Values_givenTo_9 : decode b_Values_givenTo 9 = .ok (.aload_n 0, 1) := by decide +kernel
theorem d_Values_givenTo_10 : decode b_Values_givenTo 10 = .ok (.iload_n 3, 1) := by decide +kernel
theorem d_Values_givenTo_11 : decode b_Values_givenTo 11 = .ok (.invokevirtual 73, 3) := by decide +kernel
theorem d_Values_givenTo_14 : decode b_Values_givenTo 14 = .ok (.iconst (-1), 1) := by decide +kernel
theorem d_Values_givenTo_15 : decode b_Values_givenTo 15 = .ok (.if_icmp .eq 15, 3) := by decide +kernel
theorem d_Values_givenTo_18 : decode b_Values_givenTo 18 = .ok (.iinc 2 1, 3) := by decide +kernel
theorem d_Values_givenTo_21 : decode b_Values_givenTo 21 = .ok (.aload_n 0, 1) := by decide +kernel
theorem d_Values_givenTo_22 : decode b_Values_givenTo 22 = .ok (.iload_n 3, 1) := by decide +kernel
theorem d_Values_givenTo_23 : decode b_Values_givenTo 23 = .ok (.invokevirtual 73, 3) := by decide +kernel
theorem d_Values_givenTo_26 : decode b_Values_givenTo 26 = .ok (.istore_n 3, 1) := by decide +kernel
theorem d_Values_givenTo_27 : decode b_Values_givenTo 27 = .ok (.goto (-23), 3) := by decide +kernel
theorem d_Values_givenTo_30 : decode b_Values_givenTo 30 = .ok (.iload_n 2, 1) := by decide +kernel
theorem d_Values_givenTo_31 : decode b_Values_givenTo 31 = .ok (.ireturn, 1) := by decide +kernel
def f_Values_givenTo_L4 (V_top : Int) (V_links : Int → Int) (x1 : Int) : Nat → Int → Int → Option (Int × Int)
  | 0, _, _ => none
  | n + 1, x2, x3 =>
    if jr2 x2 3 = true then (if 3 ≤ x2 then (
     some (x2, x3)) else (
     Option.bind (f_Values_linkOf V_top V_links x3) (fun r5 =>
      if jr2 r5 (-1) = true then (if r5 = (-1) then (
       some (x2, x3)) else (
       Option.bind (f_Values_linkOf V_top V_links x3) (fun r8 =>
        f_Values_givenTo_L4 V_top V_links x1 n (x2 + 1) r8))) else none))) else none
def f_Values_givenTo (N : Nat) (V_top : Int) (V_links : Int → Int) (p1 : Int) : Option (Int) :=
  ob2 (f_Values_givenTo_L4 V_top V_links p1 N 0 p1) (fun x2_1 x3_2 =>
   some x2_1)
set_option maxHeartbeats 4000000 in
set_option maxRecDepth 100000 in
theorem k_Values_givenTo_L4 {K : jK} {cI cL cB : ClassId} {ad : Nat → Nat} {V_top : Int} {V_links : Int → Int} {x1 : Int} {out : Int × Int} (X : jX jF0 K 4 b_Values_givenTo w_Values_givenTo R_Values [(cI, .int), (cL, .long), (cB, .byte)]) : ∀ (n : Nat) (x2 : Int) (x3 : Int), f_Values_givenTo_L4 V_top V_links x1 n x2 x3 = some out → J K 4 ({ frames := 1, cells := 0, slots := 0, locals := 21 } : Room) true 0 0 [(ad 9, .inr (4, [.ref (ad 14), .ref (ad 16), .ref (ad 10), .ref (ad 11), .ref (ad 12), .ref (ad 13), .int (zI V_top)])), (ad 13, .inl (cI, 3201, .inl (zA V_links)))] [(0, .ref (ad 9)), (1, .int (zI x1)), (2, .int (zI (out.1))), (3, .int (zI (out.2)))] [] 30 → J K 4 ({ frames := 1, cells := 0, slots := 0, locals := 21 } : Room) true 0 0 [(ad 9, .inr (4, [.ref (ad 14), .ref (ad 16), .ref (ad 10), .ref (ad 11), .ref (ad 12), .ref (ad 13), .int (zI V_top)])), (ad 13, .inl (cI, 3201, .inl (zA V_links)))] [(0, .ref (ad 9)), (1, .int (zI x1)), (2, .int (zI x2)), (3, .int (zI x3))] [] 4 := by
  intro n
  induction n with
  | zero =>
    intro x2 x3 h hk
    cases h
  | succ n ih =>
    intro x2 x3 h hk
    unfold f_Values_givenTo_L4 at h
    refine J_iload_n X d_Values_givenTo_4 rfl 2 rfl ?_
    refine J_iconst X d_Values_givenTo_5 ?_
    refine J_icmp_ge (tgt := 30) X d_Values_givenTo_6 (by decide) h (fun c4 h => ?_) (fun c4 h => ?_)
    · cases h
      refine J_lv (lv' := [(0, .ref (ad 9)), (1, .int (zI x1)), (2, .int (zI x2)), (3, .int (zI x3))]) [0, 1, 2, 3] rfl ?_
      exact hk
    · refine J_aload_n X d_Values_givenTo_9 rfl 0 rfl ?_
      refine J_iload_n X d_Values_givenTo_10 rfl 3 rfl ?_
      obtain ⟨r5, q6, h⟩ := wk_b h
      refine J_afterP (jrunV X (c_Values_linkOf (ad := ad) q6) jF0_k (fun _ _ _ _ => trivial) (jgV own_Values_givenTo (by decide +kernel)) rfl rfl rfl pd_Values_linkOf (by decide) [0, 1] rfl (by decide) 0 4 rfl rfl rfl rfl (Nat.le_of_ble_eq_true rfl) d_Values_givenTo_11 (by decide)) ?_
      refine J_iconst X d_Values_givenTo_14 ?_
      refine J_icmp_eq (tgt := 30) X d_Values_givenTo_15 (by decide) h (fun c7 h => ?_) (fun c7 h => ?_)
      · cases h
        refine J_lv (lv' := [(0, .ref (ad 9)), (1, .int (zI x1)), (2, .int (zI x2)), (3, .int (zI x3))]) [0, 1, 2, 3] rfl ?_
        exact hk
      · refine J_iinc (lv' := [(2, .int (zI (x2 + 1))), (0, .ref (ad 9)), (1, .int (zI x1)), (3, .int (zI x3))]) X d_Values_givenTo_18 2 rfl (by decide) rfl ?_
        refine J_aload_n X d_Values_givenTo_21 rfl 1 rfl ?_
        refine J_iload_n X d_Values_givenTo_22 rfl 3 rfl ?_
        obtain ⟨r8, q9, h⟩ := wk_b h
        refine J_afterP (jrunV X (c_Values_linkOf (ad := ad) q9) jF0_k (fun _ _ _ _ => trivial) (jgV own_Values_givenTo (by decide +kernel)) rfl rfl rfl pd_Values_linkOf (by decide) [0, 1] rfl (by decide) 0 4 rfl rfl rfl rfl (Nat.le_of_ble_eq_true rfl) d_Values_givenTo_23 (by decide)) ?_
        refine J_istore_n (lv' := [(3, .int (zI r8)), (2, .int (zI (x2 + 1))), (0, .ref (ad 9)), (1, .int (zI x1))]) X d_Values_givenTo_26 rfl (by decide) rfl ?_
        refine J_goto (tgt := 4) X d_Values_givenTo_27 (by decide) ?_
        refine J_lv (lv' := [(0, .ref (ad 9)), (1, .int (zI x1)), (2, .int (zI (x2 + 1))), (3, .int (zI r8))]) [2, 3, 1, 0] rfl ?_
        exact ih _ _ h hk
set_option maxHeartbeats 4000000 in
set_option maxRecDepth 100000 in
theorem c_Values_givenTo {l : Launch} {D : va_G} {cI cL cB : ClassId} {ad : Nat → Nat} {N : Nat} {V_top : Int} {V_links : Int → Int} {p1 : Int} {out : Int} (h : f_Values_givenTo N V_top V_links p1 = some out) : CT jF0 true l D [(cI, .int), (cL, .long), (cB, .byte)] y_Values_givenTo w_Values_givenTo ({ frames := 1, cells := 0, slots := 0, locals := 21 } : Room) [.ref (ad 9), .int (zI p1)] [(ad 9, .inr (4, [.ref (ad 14), .ref (ad 16), .ref (ad 10), .ref (ad 11), .ref (ad 12), .ref (ad 13), .int (zI V_top)])), (ad 13, .inl (cI, 3201, .inl (zA V_links)))] (some (.int (zI out))) [(ad 9, .inr (4, [.ref (ad 14), .ref (ad 16), .ref (ad 10), .ref (ad 11), .ref (ad 12), .ref (ad 13), .int (zI V_top)])), (ad 13, .inl (cI, 3201, .inl (zA V_links)))] 0 0 := by
  refine CT_of_J (cc := b_Values_givenTo) (maxL := 4) (ret := (some .int)) jF0_k (plainFor_of_name (by decide)) rfl (Nat.le_of_ble_eq_true rfl) ?_
  intro K hKl hKD X E
  subst hKl; subst hKD
  unfold f_Values_givenTo at h
  refine J_iconst X d_Values_givenTo_0 ?_
  refine J_istore_n (lv' := [(2, .int (zI 0)), (0, .ref (ad 9)), (1, .int (zI p1))]) X d_Values_givenTo_1 rfl (by decide) rfl ?_
  refine J_iload_n X d_Values_givenTo_2 rfl 2 rfl ?_
  refine J_istore_n (lv' := [(3, .int (zI p1)), (2, .int (zI 0)), (0, .ref (ad 9)), (1, .int (zI p1))]) X d_Values_givenTo_3 rfl (by decide) rfl ?_
  refine J_lv (lv' := [(0, .ref (ad 9)), (1, .int (zI p1)), (2, .int (zI 0)), (3, .int (zI p1))]) [2, 3, 1, 0] rfl ?_
  obtain ⟨x2_1, x3_2, q3, h⟩ := wk_b2 h
  refine k_Values_givenTo_L4 X _ _ _ q3 ?_
  refine J_iload_n X d_Values_givenTo_30 rfl 2 rfl ?_
  cases h
  exact J_ret E ⟨_, rfl, rfl⟩ d_Values_givenTo_31 (Nat.le_refl _) (Nat.le_refl _) rfl

theorem d_Values_sizeOf_0 : decode b_Values_sizeOf 0 = .ok (.aload_n 0, 1) := by decide +kernel
theorem d_Values_sizeOf_1 : decode b_Values_sizeOf 1 = .ok (.iload_n 1, 1) := by decide +kernel
theorem d_Values_sizeOf_2 : decode b_Values_sizeOf 2 = .ok (.invokevirtual 76, 3) := by decide +kernel
theorem d_Values_sizeOf_5 : decode b_Values_sizeOf 5 = .ok (.lookupswitch 51 #[(1, 27), (4, 38)], 27) := by decide +kernel
theorem d_Values_sizeOf_32 : decode b_Values_sizeOf 32 = .ok (.iconst 1, 1) := by decide +kernel
theorem d_Values_sizeOf_33 : decode b_Values_sizeOf 33 = .ok (.aload_n 0, 1) := by decide +kernel
theorem d_Values_sizeOf_34 : decode b_Values_sizeOf 34 = .ok (.iload_n 1, 1) := by decide +kernel
theorem d_Values_sizeOf_35 : decode b_Values_sizeOf 35 = .ok (.invokevirtual 79, 3) := by decide +kernel
theorem d_Values_sizeOf_38 : decode b_Values_sizeOf 38 = .ok (.bipush 8, 2) := by decide +kernel
theorem d_Values_sizeOf_40 : decode b_Values_sizeOf 40 = .ok (.idiv, 1) := by decide +kernel
theorem d_Values_sizeOf_41 : decode b_Values_sizeOf 41 = .ok (.iadd, 1) := by decide +kernel
theorem d_Values_sizeOf_42 : decode b_Values_sizeOf 42 = .ok (.ireturn, 1) := by decide +kernel
theorem d_Values_sizeOf_43 : decode b_Values_sizeOf 43 = .ok (.aload_n 0, 1) := by decide +kernel
theorem d_Values_sizeOf_44 : decode b_Values_sizeOf 44 = .ok (.getfield 24, 3) := by decide +kernel
theorem d_Values_sizeOf_47 : decode b_Values_sizeOf 47 = .ok (.aload_n 0, 1) := by decide +kernel
theorem d_Values_sizeOf_48 : decode b_Values_sizeOf 48 = .ok (.iload_n 1, 1) := by decide +kernel
theorem d_Values_sizeOf_49 : decode b_Values_sizeOf 49 = .ok (.invokevirtual 82, 3) := by decide +kernel
theorem d_Values_sizeOf_52 : decode b_Values_sizeOf 52 = .ok (.invokevirtual 85, 3) := by decide +kernel
theorem d_Values_sizeOf_55 : decode b_Values_sizeOf 55 = .ok (.ireturn, 1) := by decide +kernel
theorem d_Values_sizeOf_56 : decode b_Values_sizeOf 56 = .ok (.iconst 1, 1) := by decide +kernel
theorem d_Values_sizeOf_57 : decode b_Values_sizeOf 57 = .ok (.ireturn, 1) := by decide +kernel
def f_Values_sizeOf (V_top : Int) (V_kinds : Int → Int) (V_parts : Int → Int) (V_links : Int → Int) (D_top : Int) (D_nodes : Int → Int) (D_weights : Int → Int) (p1 : Int) : Option (Int) :=
  Option.bind (f_Values_kindOf V_top V_kinds p1) (fun r1 =>
   if rI r1 = true then (
    if r1 = 1 then (
     Option.bind (f_Values_lengthOf V_top V_links p1) (fun r5 =>
      if jdv r5 8 = true then (
       some (1 + (Int.tdiv r5 8))) else none)) else (
     if r1 = 4 then (
      Option.bind (f_Values_rootOf V_top V_parts p1) (fun r9 =>
       Option.bind (f_DataRow_sizeOf D_top D_nodes D_weights r9) (fun r11 =>
        some r11))) else (
      some 1))) else none)
set_option maxHeartbeats 4000000 in
set_option maxRecDepth 100000 in
theorem c_Values_sizeOf {l : Launch} {D : va_G} {cI cL cB : ClassId} {ad : Nat → Nat} {V_top : Int} {V_kinds : Int → Int} {V_parts : Int → Int} {V_links : Int → Int} {D_top : Int} {D_nodes : Int → Int} {D_weights : Int → Int} {p1 : Int} {out : Int} (h : f_Values_sizeOf V_top V_kinds V_parts V_links D_top D_nodes D_weights p1 = some out) : CT jF0 true l D [(cI, .int), (cL, .long), (cB, .byte)] y_Values_sizeOf w_Values_sizeOf ({ frames := 2, cells := 0, slots := 0, locals := 42 } : Room) [.ref (ad 9), .int (zI p1)] [(ad 9, .inr (4, [.ref (ad 14), .ref (ad 16), .ref (ad 10), .ref (ad 11), .ref (ad 12), .ref (ad 13), .int (zI V_top)])), (ad 10, .inl (cI, 3201, .inl (zA V_kinds))), (ad 12, .inl (cI, 3201, .inl (zA V_parts))), (ad 13, .inl (cI, 3201, .inl (zA V_links))), (ad 16, .inr (5, [.ref (ad 17), .ref (ad 18), .ref (ad 19), .ref (ad 20), .ref (ad 21), .ref (ad 22), .int (zI D_top)])), (ad 20, .inl (cI, 3201, .inl (zA D_nodes))), (ad 22, .inl (cI, 3201, .inl (zA D_weights)))] (some (.int (zI out))) [(ad 9, .inr (4, [.ref (ad 14), .ref (ad 16), .ref (ad 10), .ref (ad 11), .ref (ad 12), .ref (ad 13), .int (zI V_top)])), (ad 10, .inl (cI, 3201, .inl (zA V_kinds))), (ad 12, .inl (cI, 3201, .inl (zA V_parts))), (ad 13, .inl (cI, 3201, .inl (zA V_links))), (ad 16, .inr (5, [.ref (ad 17), .ref (ad 18), .ref (ad 19), .ref (ad 20), .ref (ad 21), .ref (ad 22), .int (zI D_top)])), (ad 20, .inl (cI, 3201, .inl (zA D_nodes))), (ad 22, .inl (cI, 3201, .inl (zA D_weights)))] 0 0 := by
  refine CT_of_J (cc := b_Values_sizeOf) (maxL := 2) (ret := (some .int)) jF0_k (plainFor_of_name (by decide)) rfl (Nat.le_of_ble_eq_true rfl) ?_
  intro K hKl hKD X E
  subst hKl; subst hKD
  unfold f_Values_sizeOf at h
  refine J_aload_n X d_Values_sizeOf_0 rfl 0 rfl ?_
  refine J_iload_n X d_Values_sizeOf_1 rfl 1 rfl ?_
  obtain ⟨r1, q2, h⟩ := wk_b h
  refine J_afterP (jrunV X (c_Values_kindOf (ad := ad) q2) jF0_k (fun _ _ _ _ => trivial) (jgV own_Values_sizeOf (by decide +kernel)) rfl rfl rfl pd_Values_kindOf (by decide) [0, 1] rfl (by decide) 0 4 rfl rfl rfl rfl (Nat.le_of_ble_eq_true rfl) d_Values_sizeOf_2 (by decide)) ?_
  obtain ⟨g3, h⟩ := wk_g h
  rcases wk_c h with ⟨c4, h⟩ | ⟨c4, h⟩
  · refine J_ls (tgt := 32) (off := 27) X g3 d_Values_sizeOf_5 (by decide) (by rw [c4] <;> rfl) (by decide) ?_
    refine J_iconst X d_Values_sizeOf_32 ?_
    refine J_aload_n X d_Values_sizeOf_33 rfl 0 rfl ?_
    refine J_iload_n X d_Values_sizeOf_34 rfl 1 rfl ?_
    obtain ⟨r5, q6, h⟩ := wk_b h
    refine J_afterP (jrunV X (c_Values_lengthOf (ad := ad) q6) jF0_k (fun _ _ _ _ => trivial) (jgV own_Values_sizeOf (by decide +kernel)) rfl rfl rfl pd_Values_lengthOf (by decide) [0, 3] rfl (by decide) 0 4 rfl rfl rfl rfl (Nat.le_of_ble_eq_true rfl) d_Values_sizeOf_35 (by decide)) ?_
    refine J_bipush X d_Values_sizeOf_38 (by decide) ?_
    obtain ⟨g7, h⟩ := wk_g h
    refine J_idiv X g7 d_Values_sizeOf_40 ?_
    refine J_iadd X d_Values_sizeOf_41 ?_
    cases h
    exact J_ret E ⟨_, rfl, rfl⟩ d_Values_sizeOf_42 (Nat.le_refl _) (Nat.le_refl _) rfl
  · rcases wk_c h with ⟨c8, h⟩ | ⟨c8, h⟩
    · refine J_ls (tgt := 43) (off := 38) X g3 d_Values_sizeOf_5 (by decide) (by rw [c8] <;> rfl) (by decide) ?_
      refine J_aload_n X d_Values_sizeOf_43 rfl 0 rfl ?_
      refine J_get X (j_in in_Values) 0 rfl rfl 1 (by decide) (j_m own_Values_sizeOf (by decide +kernel)) rfl d_Values_sizeOf_44 ?_
      refine J_aload_n X d_Values_sizeOf_47 rfl 0 rfl ?_
      refine J_iload_n X d_Values_sizeOf_48 rfl 1 rfl ?_
      obtain ⟨r9, q10, h⟩ := wk_b h
      refine J_afterP (jrunV X (c_Values_rootOf (ad := ad) q10) jF0_k (fun _ _ _ _ => trivial) (jgV own_Values_sizeOf (by decide +kernel)) rfl rfl rfl pd_Values_rootOf (by decide) [0, 2] rfl (by decide) 0 4 rfl rfl rfl rfl (Nat.le_of_ble_eq_true rfl) d_Values_sizeOf_49 (by decide)) ?_
      obtain ⟨r11, q12, h⟩ := wk_b h
      refine J_afterP (jrunV X (c_DataRow_sizeOf (ad := ad) q12) jF0_k (fun _ _ _ _ => trivial) (jgV own_Values_sizeOf (by decide +kernel)) rfl rfl rfl pd_DataRow_sizeOf (by decide) [4, 5, 6] rfl (by decide) 0 5 rfl rfl rfl rfl (Nat.le_of_ble_eq_true rfl) d_Values_sizeOf_52 (by decide)) ?_
      cases h
      exact J_ret E ⟨_, rfl, rfl⟩ d_Values_sizeOf_55 (Nat.le_refl _) (Nat.le_refl _) rfl
    · refine J_ls (tgt := 56) (off := 51) X g3 d_Values_sizeOf_5 (by decide) (by show Op.lookupswitch.offset [(1, 27), (4, 38)] _ _ = _; rw [j_osw c4, j_osw c8] <;> rfl) (by decide) ?_
      refine J_iconst X d_Values_sizeOf_56 ?_
      cases h
      exact J_ret E ⟨_, rfl, rfl⟩ d_Values_sizeOf_57 (Nat.le_refl _) (Nat.le_refl _) rfl

theorem d_Values_asNumber_0 : decode b_Values_asNumber 0 = .ok (.aload_n 0, 1) := by decide +kernel
theorem d_Values_asNumber_1 : decode b_Values_asNumber 1 = .ok (.iload_n 1, 1) := by decide +kernel
theorem d_Values_asNumber_2 : decode b_Values_asNumber 2 = .ok (.invokevirtual 76, 3) := by decide +kernel
theorem d_Values_asNumber_5 : decode b_Values_asNumber 5 = .ok (.tableswitch 74 0 7 #[47, 53, 47, 74, 60, 74, 74, 47], 47) := by decide +kernel
theorem d_Values_asNumber_52 : decode b_Values_asNumber 52 = .ok (.aload_n 0, 1) := by decide +kernel
theorem d_Values_asNumber_53 : decode b_Values_asNumber 53 = .ok (.iload_n 1, 1) := by decide +kernel
theorem d_Values_asNumber_54 : decode b_Values_asNumber 54 = .ok (.invokevirtual 88, 3) := by decide +kernel
theorem d_Values_asNumber_57 : decode b_Values_asNumber 57 = .ok (.lreturn, 1) := by decide +kernel
theorem d_Values_asNumber_58 : decode b_Values_asNumber 58 = .ok (.aload_n 0, 1) := by decide +kernel
theorem d_Values_asNumber_59 : decode b_Values_asNumber 59 = .ok (.iload_n 1, 1) := by decide +kernel
theorem d_Values_asNumber_60 : decode b_Values_asNumber 60 = .ok (.invokevirtual 79, 3) := by decide +kernel
theorem d_Values_asNumber_63 : decode b_Values_asNumber 63 = .ok (.i2l, 1) := by decide +kernel
theorem d_Values_asNumber_64 : decode b_Values_asNumber 64 = .ok (.lreturn, 1) := by decide +kernel
theorem d_Values_asNumber_65 : decode b_Values_asNumber 65 = .ok (.aload_n 0, 1) := by decide +kernel
theorem d_Values_asNumber_66 : decode b_Values_asNumber 66 = .ok (.getfield 24, 3) := by decide +kernel
theorem d_Values_asNumber_69 : decode b_Values_asNumber 69 = .ok (.aload_n 0, 1) := by decide +kernel
theorem d_Values_asNumber_70 : decode b_Values_asNumber 70 = .ok (.iload_n 1, 1) := by decide +kernel
theorem d_Values_asNumber_71 : decode b_Values_asNumber 71 = .ok (.invokevirtual 82, 3) := by decide +kernel
theorem d_Values_asNumber_74 : decode b_Values_asNumber 74 = .ok (.invokevirtual 92, 3) := by decide +kernel
theorem d_Values_asNumber_77 : decode b_Values_asNumber 77 = .ok (.i2l, 1) := by decide +kernel
theorem d_Values_asNumber_78 : decode b_Values_asNumber 78 = .ok (.lreturn, 1) := by decide +kernel
theorem d_Values_asNumber_79 : decode b_Values_asNumber 79 = .ok (.lconst 0, 1) := by decide +kernel
theorem d_Values_asNumber_80 : decode b_Values_asNumber 80 = .ok (.lreturn, 1) := by decide +kernel
def f_Values_asNumber (V_top : Int) (V_kinds : Int → Int) (V_numbers : Int → Int) (V_parts : Int → Int) (V_links : Int → Int) (D_top : Int) (D_nodes : Int → Int) (p1 : Int) : Option (Int) :=
  Option.bind (f_Values_kindOf V_top V_kinds p1) (fun r1 =>
   if rI r1 = true then (
    if r1 = 0 then (
     Option.bind (f_Values_numberOf V_top V_numbers p1) (fun r5 =>
      some r5)) else (
     if r1 = 1 then (
      Option.bind (f_Values_lengthOf V_top V_links p1) (fun r8 =>
       if rI r8 = true then (
        some r8) else none)) else (
      if r1 = 2 then (
       Option.bind (f_Values_numberOf V_top V_numbers p1) (fun r12 =>
        some r12)) else (
       if r1 = 3 then (
        some 0) else (
        if r1 = 4 then (
         Option.bind (f_Values_rootOf V_top V_parts p1) (fun r16 =>
          Option.bind (f_DataRow_nodesOf D_top D_nodes r16) (fun r18 =>
           if rI r18 = true then (
            some r18) else none))) else (
         if r1 = 5 then (
          some 0) else (
          if r1 = 6 then (
           some 0) else (
           if r1 = 7 then (
            Option.bind (f_Values_numberOf V_top V_numbers p1) (fun r24 =>
             some r24)) else (
            some 0))))))))) else none)
set_option maxHeartbeats 4000000 in
set_option maxRecDepth 100000 in
theorem c_Values_asNumber {l : Launch} {D : va_G} {cI cL cB : ClassId} {ad : Nat → Nat} {V_top : Int} {V_kinds : Int → Int} {V_numbers : Int → Int} {V_parts : Int → Int} {V_links : Int → Int} {D_top : Int} {D_nodes : Int → Int} {p1 : Int} {out : Int} (h : f_Values_asNumber V_top V_kinds V_numbers V_parts V_links D_top D_nodes p1 = some out) : CT jF0 true l D [(cI, .int), (cL, .long), (cB, .byte)] y_Values_asNumber w_Values_asNumber ({ frames := 2, cells := 0, slots := 0, locals := 42 } : Room) [.ref (ad 9), .int (zI p1)] [(ad 9, .inr (4, [.ref (ad 14), .ref (ad 16), .ref (ad 10), .ref (ad 11), .ref (ad 12), .ref (ad 13), .int (zI V_top)])), (ad 10, .inl (cI, 3201, .inl (zA V_kinds))), (ad 11, .inl (cL, 3201, .inr (.inl (zB V_numbers)))), (ad 12, .inl (cI, 3201, .inl (zA V_parts))), (ad 13, .inl (cI, 3201, .inl (zA V_links))), (ad 16, .inr (5, [.ref (ad 17), .ref (ad 18), .ref (ad 19), .ref (ad 20), .ref (ad 21), .ref (ad 22), .int (zI D_top)])), (ad 20, .inl (cI, 3201, .inl (zA D_nodes)))] (some (.long (zL out))) [(ad 9, .inr (4, [.ref (ad 14), .ref (ad 16), .ref (ad 10), .ref (ad 11), .ref (ad 12), .ref (ad 13), .int (zI V_top)])), (ad 10, .inl (cI, 3201, .inl (zA V_kinds))), (ad 11, .inl (cL, 3201, .inr (.inl (zB V_numbers)))), (ad 12, .inl (cI, 3201, .inl (zA V_parts))), (ad 13, .inl (cI, 3201, .inl (zA V_links))), (ad 16, .inr (5, [.ref (ad 17), .ref (ad 18), .ref (ad 19), .ref (ad 20), .ref (ad 21), .ref (ad 22), .int (zI D_top)])), (ad 20, .inl (cI, 3201, .inl (zA D_nodes)))] 0 0 := by
  refine CT_of_J (cc := b_Values_asNumber) (maxL := 2) (ret := (some .long)) jF0_k (plainFor_of_name (by decide)) rfl (Nat.le_of_ble_eq_true rfl) ?_
  intro K hKl hKD X E
  subst hKl; subst hKD
  unfold f_Values_asNumber at h
  refine J_aload_n X d_Values_asNumber_0 rfl 0 rfl ?_
  refine J_iload_n X d_Values_asNumber_1 rfl 1 rfl ?_
  obtain ⟨r1, q2, h⟩ := wk_b h
  refine J_afterP (jrunV X (c_Values_kindOf (ad := ad) q2) jF0_k (fun _ _ _ _ => trivial) (jgV own_Values_asNumber (by decide +kernel)) rfl rfl rfl pd_Values_kindOf (by decide) [0, 1] rfl (by decide) 0 4 rfl rfl rfl rfl (Nat.le_of_ble_eq_true rfl) d_Values_asNumber_2 (by decide)) ?_
  obtain ⟨g3, h⟩ := wk_g h
  rcases wk_c h with ⟨c4, h⟩ | ⟨c4, h⟩
  · refine J_tsIn (tgt := 52) X 0 c4 g3 d_Values_asNumber_5 (by decide) (by decide) rfl (by decide) ?_
    refine J_aload_n X d_Values_asNumber_52 rfl 0 rfl ?_
    refine J_iload_n X d_Values_asNumber_53 rfl 1 rfl ?_
    obtain ⟨r5, q6, h⟩ := wk_b h
    refine J_afterP (jrunV X (c_Values_numberOf (ad := ad) q6) jF0_k (fun _ _ _ _ => trivial) (jgV own_Values_asNumber (by decide +kernel)) rfl rfl rfl pd_Values_numberOf (by decide) [0, 2] rfl (by decide) 0 4 rfl rfl rfl rfl (Nat.le_of_ble_eq_true rfl) d_Values_asNumber_54 (by decide)) ?_
    cases h
    exact J_ret E rfl d_Values_asNumber_57 (Nat.le_refl _) (Nat.le_refl _) rfl
  · rcases wk_c h with ⟨c7, h⟩ | ⟨c7, h⟩
    · refine J_tsIn (tgt := 58) X 1 c7 g3 d_Values_asNumber_5 (by decide) (by decide) rfl (by decide) ?_
      refine J_aload_n X d_Values_asNumber_58 rfl 0 rfl ?_
      refine J_iload_n X d_Values_asNumber_59 rfl 1 rfl ?_
      obtain ⟨r8, q9, h⟩ := wk_b h
      refine J_afterP (jrunV X (c_Values_lengthOf (ad := ad) q9) jF0_k (fun _ _ _ _ => trivial) (jgV own_Values_asNumber (by decide +kernel)) rfl rfl rfl pd_Values_lengthOf (by decide) [0, 4] rfl (by decide) 0 4 rfl rfl rfl rfl (Nat.le_of_ble_eq_true rfl) d_Values_asNumber_60 (by decide)) ?_
      obtain ⟨g10, h⟩ := wk_g h
      refine J_i2l X g10 d_Values_asNumber_63 ?_
      cases h
      exact J_ret E rfl d_Values_asNumber_64 (Nat.le_refl _) (Nat.le_refl _) rfl
    · rcases wk_c h with ⟨c11, h⟩ | ⟨c11, h⟩
      · refine J_tsIn (tgt := 52) X 2 c11 g3 d_Values_asNumber_5 (by decide) (by decide) rfl (by decide) ?_
        refine J_aload_n X d_Values_asNumber_52 rfl 0 rfl ?_
        refine J_iload_n X d_Values_asNumber_53 rfl 1 rfl ?_
        obtain ⟨r12, q13, h⟩ := wk_b h
        refine J_afterP (jrunV X (c_Values_numberOf (ad := ad) q13) jF0_k (fun _ _ _ _ => trivial) (jgV own_Values_asNumber (by decide +kernel)) rfl rfl rfl pd_Values_numberOf (by decide) [0, 2] rfl (by decide) 0 4 rfl rfl rfl rfl (Nat.le_of_ble_eq_true rfl) d_Values_asNumber_54 (by decide)) ?_
        cases h
        exact J_ret E rfl d_Values_asNumber_57 (Nat.le_refl _) (Nat.le_refl _) rfl
      · rcases wk_c h with ⟨c14, h⟩ | ⟨c14, h⟩
        · refine J_tsIn (tgt := 79) X 3 c14 g3 d_Values_asNumber_5 (by decide) (by decide) rfl (by decide) ?_
          refine J_lconst (v := 0) X d_Values_asNumber_79 (by decide) ?_
          cases h
          exact J_ret E rfl d_Values_asNumber_80 (Nat.le_refl _) (Nat.le_refl _) rfl
        · rcases wk_c h with ⟨c15, h⟩ | ⟨c15, h⟩
          · refine J_tsIn (tgt := 65) X 4 c15 g3 d_Values_asNumber_5 (by decide) (by decide) rfl (by decide) ?_
            refine J_aload_n X d_Values_asNumber_65 rfl 0 rfl ?_
            refine J_get X (j_in in_Values) 0 rfl rfl 1 (by decide) (j_m own_Values_asNumber (by decide +kernel)) rfl d_Values_asNumber_66 ?_
            refine J_aload_n X d_Values_asNumber_69 rfl 0 rfl ?_
            refine J_iload_n X d_Values_asNumber_70 rfl 1 rfl ?_
            obtain ⟨r16, q17, h⟩ := wk_b h
            refine J_afterP (jrunV X (c_Values_rootOf (ad := ad) q17) jF0_k (fun _ _ _ _ => trivial) (jgV own_Values_asNumber (by decide +kernel)) rfl rfl rfl pd_Values_rootOf (by decide) [0, 3] rfl (by decide) 0 4 rfl rfl rfl rfl (Nat.le_of_ble_eq_true rfl) d_Values_asNumber_71 (by decide)) ?_
            obtain ⟨r18, q19, h⟩ := wk_b h
            refine J_afterP (jrunV X (c_DataRow_nodesOf (ad := ad) q19) jF0_k (fun _ _ _ _ => trivial) (jgV own_Values_asNumber (by decide +kernel)) rfl rfl rfl pd_DataRow_nodesOf (by decide) [5, 6] rfl (by decide) 0 5 rfl rfl rfl rfl (Nat.le_of_ble_eq_true rfl) d_Values_asNumber_74 (by decide)) ?_
            obtain ⟨g20, h⟩ := wk_g h
            refine J_i2l X g20 d_Values_asNumber_77 ?_
            cases h
            exact J_ret E rfl d_Values_asNumber_78 (Nat.le_refl _) (Nat.le_refl _) rfl
          · rcases wk_c h with ⟨c21, h⟩ | ⟨c21, h⟩
            · refine J_tsIn (tgt := 79) X 5 c21 g3 d_Values_asNumber_5 (by decide) (by decide) rfl (by decide) ?_
              refine J_lconst (v := 0) X d_Values_asNumber_79 (by decide) ?_
              cases h
              exact J_ret E rfl d_Values_asNumber_80 (Nat.le_refl _) (Nat.le_refl _) rfl
            · rcases wk_c h with ⟨c22, h⟩ | ⟨c22, h⟩
              · refine J_tsIn (tgt := 79) X 6 c22 g3 d_Values_asNumber_5 (by decide) (by decide) rfl (by decide) ?_
                refine J_lconst (v := 0) X d_Values_asNumber_79 (by decide) ?_
                cases h
                exact J_ret E rfl d_Values_asNumber_80 (Nat.le_refl _) (Nat.le_refl _) rfl
              · rcases wk_c h with ⟨c23, h⟩ | ⟨c23, h⟩
                · refine J_tsIn (tgt := 52) X 7 c23 g3 d_Values_asNumber_5 (by decide) (by decide) rfl (by decide) ?_
                  refine J_aload_n X d_Values_asNumber_52 rfl 0 rfl ?_
                  refine J_iload_n X d_Values_asNumber_53 rfl 1 rfl ?_
                  obtain ⟨r24, q25, h⟩ := wk_b h
                  refine J_afterP (jrunV X (c_Values_numberOf (ad := ad) q25) jF0_k (fun _ _ _ _ => trivial) (jgV own_Values_asNumber (by decide +kernel)) rfl rfl rfl pd_Values_numberOf (by decide) [0, 2] rfl (by decide) 0 4 rfl rfl rfl rfl (Nat.le_of_ble_eq_true rfl) d_Values_asNumber_54 (by decide)) ?_
                  cases h
                  exact J_ret E rfl d_Values_asNumber_57 (Nat.le_refl _) (Nat.le_refl _) rfl
                · refine J_tsOut (tgt := 79) X g3 d_Values_asNumber_5 (by omega) (by decide) ?_
                  refine J_lconst (v := 0) X d_Values_asNumber_79 (by decide) ?_
                  cases h
                  exact J_ret E rfl d_Values_asNumber_80 (Nat.le_refl _) (Nat.le_refl _) rfl
