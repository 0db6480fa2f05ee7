theorem d_Cek_clear_0 : decode b_Cek_clear 0 = .ok (.aload_n 0, 1) := by decide +kernel
theorem d_Cek_clear_1 : decode b_Cek_clear 1 = .ok (.getfield 12, 3) := by decide +kernel
theorem d_Cek_clear_4 : decode b_Cek_clear 4 = .ok (.invokevirtual 29, 3) := by decide +kernel
theorem d_Cek_clear_7 : decode b_Cek_clear 7 = .ok (.return_, 1) := by decide +kernel
def f_Cek_clear (T_nodes : Int) (T_count : Int) : Option (Int × Int) :=
  ob2 (f_Terms_forget T_nodes T_count) (fun T_nodes_1 T_count_2 =>
   some (T_nodes_1, T_count_2))
set_option maxHeartbeats 4000000 in
set_option maxRecDepth 100000 in
theorem c_Cek_clear {l : Launch} {D : va_G} {cI cL cB : ClassId} {ad : Nat → Nat} {C_answer : Int} {T_nodes : Int} {T_count : Int} {out : Int × Int} (h : f_Cek_clear T_nodes T_count = some out) : CT jF0 false l D [(cI, .int), (cL, .long), (cB, .byte)] y_Cek_clear w_Cek_clear ({ frames := 1, cells := 0, slots := 0, locals := 20 } : Room) [.ref (ad 0)] [(ad 0, .inr (0, [.ref (ad 1), .ref (ad 8), .int (zI C_answer)])), (ad 1, .inr (1, [.ref (ad 2), .ref (ad 3), .ref (ad 4), .ref (ad 5), .ref (ad 6), .int (zI T_nodes), .int (zI T_count)]))] none [(ad 0, .inr (0, [.ref (ad 1), .ref (ad 8), .int (zI C_answer)])), (ad 1, .inr (1, [.ref (ad 2), .ref (ad 3), .ref (ad 4), .ref (ad 5), .ref (ad 6), .int (zI (out.1)), .int (zI (out.2))]))] 0 0 := by
  refine CT_of_J (cc := b_Cek_clear) (maxL := 1) (ret := none) jF0_k (plainFor_of_name (by decide)) rfl (Nat.le_of_ble_eq_true rfl) ?_
  intro K hKl hKD X E
  subst hKl; subst hKD
  unfold f_Cek_clear at h
  refine J_aload_n X d_Cek_clear_0 rfl 0 rfl ?_
  refine J_get X (j_in in_Cek) 0 rfl rfl 0 (by decide) (j_m own_Cek_clear (by decide +kernel)) rfl d_Cek_clear_1 ?_
  obtain ⟨T_nodes_1, T_count_2, q3, h⟩ := wk_b2 h
  refine J_afterI0 (ws' := [(ad 0, .inr (0, [.ref (ad 1), .ref (ad 8), .int (zI C_answer)])), (ad 1, .inr (1, [.ref (ad 2), .ref (ad 3), .ref (ad 4), .ref (ad 5), .ref (ad 6), .int (zI T_nodes_1), .int (zI T_count_2)]))]) X (jrunV X (c_Terms_forget (ad := ad) q3) jF0_k (fun _ _ _ _ => trivial) (jgV own_Cek_clear (by decide +kernel)) rfl rfl rfl pd_Terms_forget (by decide) [1] rfl (by decide) 0 1 rfl rfl rfl rfl (Nat.le_of_ble_eq_true rfl) d_Cek_clear_4 (by decide)) [1] [0] [0, 1] rfl rfl (by decide) (by decide) rfl (by decide) ?_
  cases h
  exact J_ret E rfl d_Cek_clear_7 (Nat.le_refl _) (Nat.le_refl _) rfl

theorem d_Cek_node_0 : decode b_Cek_node 0 = .ok (.iload_n 1, 1) := by decide +kernel
theorem d_Cek_node_1 : decode b_Cek_node 1 = .ok (.lload_n 2, 1) := by decide +kernel
theorem d_Cek_node_2 : decode b_Cek_node 2 = .ok (.invokestatic 32, 3) := by decide +kernel
theorem d_Cek_node_5 : decode b_Cek_node 5 = .ok (.ifCond .ne 13, 3) := by decide +kernel
theorem d_Cek_node_8 : decode b_Cek_node 8 = .ok (.new 36, 3) := by decide +kernel
theorem d_Cek_node_11 : decode b_Cek_node 11 = .ok (.dup, 1) := by decide +kernel
theorem d_Cek_node_12 : decode b_Cek_node 12 = .ok (.ldc 38, 2) := by decide +kernel
theorem d_Cek_node_14 : decode b_Cek_node 14 = .ok (.invokespecial 40, 3) := by decide +kernel
theorem d_Cek_node_17 : decode b_Cek_node 17 = .ok (.athrow, 1) := by decide +kernel
theorem d_Cek_node_18 : decode b_Cek_node 18 = .ok (.aload_n 0, 1) := by decide +kernel
theorem d_Cek_node_19 : decode b_Cek_node 19 = .ok (.getfield 12, 3) := by decide +kernel
theorem d_Cek_node_22 : decode b_Cek_node 22 = .ok (.invokevirtual 43, 3) := by decide +kernel
theorem d_Cek_node_25 : decode b_Cek_node 25 = .ok (.iload_n 1, 1) := by decide +kernel
theorem d_Cek_node_26 : decode b_Cek_node 26 = .ok (.invokestatic 47, 3) := by decide +kernel
theorem d_Cek_node_29 : decode b_Cek_node 29 = .ok (.if_icmp .lt 13, 3) := by decide +kernel
theorem d_Cek_node_32 : decode b_Cek_node 32 = .ok (.aload_n 0, 1) := by decide +kernel
theorem d_Cek_node_33 : decode b_Cek_node 33 = .ok (.getfield 12, 3) := by decide +kernel
theorem d_Cek_node_36 : decode b_Cek_node 36 = .ok (.invokevirtual 51, 3) := by decide +kernel
theorem d_Cek_node_39 : decode b_Cek_node 39 = .ok (.ifCond .eq 13, 3) := by decide +kernel
theorem d_Cek_node_42 : decode b_Cek_node 42 = .ok (.new 55, 3) := by decide +kernel
theorem d_Cek_node_45 : decode b_Cek_node 45 = .ok (.dup, 1) := by decide +kernel
theorem d_Cek_node_46 : decode b_Cek_node 46 = .ok (.ldc 57, 2) := by decide +kernel
theorem d_Cek_node_48 : decode b_Cek_node 48 = .ok (.invokespecial 59, 3) := by decide +kernel
theorem d_Cek_node_51 : decode b_Cek_node 51 = .ok (.athrow, 1) := by decide +kernel
theorem d_Cek_node_52 : decode b_Cek_node 52 = .ok (.aload_n 0, 1) := by decide +kernel
theorem d_Cek_node_53 : decode b_Cek_node 53 = .ok (.getfield 12, 3) := by decide +kernel
theorem d_Cek_node_56 : decode b_Cek_node 56 = .ok (.iload_n 1, 1) := by decide +kernel
theorem d_Cek_node_57 : decode b_Cek_node 57 = .ok (.lload_n 2, 1) := by decide +kernel
theorem d_Cek_node_58 : decode b_Cek_node 58 = .ok (.invokevirtual 60, 3) := by decide +kernel
theorem d_Cek_node_61 : decode b_Cek_node 61 = .ok (.aload_n 0, 1) := by decide +kernel
theorem d_Cek_node_62 : decode b_Cek_node 62 = .ok (.getfield 12, 3) := by decide +kernel
theorem d_Cek_node_65 : decode b_Cek_node 65 = .ok (.invokevirtual 43, 3) := by decide +kernel
theorem d_Cek_node_68 : decode b_Cek_node 68 = .ok (.ireturn, 1) := by decide +kernel
def f_Cek_node (T_nodes : Int) (T_count : Int) (T_kinds : Int → Int) (T_args : Int → Int) (T_firsts : Int → Int) (T_lacks : Int → Int) (p1 : Int) (p2 : Int) : Option (Int × Int × Int × (Int → Int) × (Int → Int) × (Int → Int) × (Int → Int)) :=
  Option.bind (f_Terms_allows p1 p2) (fun r1 =>
   if rI r1 = true then (if r1 = 0 then (
    none) else (
    Option.bind (f_Terms_count T_count) (fun r4 =>
     Option.bind (f_Terms_partsOf p1) (fun r6 =>
      if jr2 r4 r6 = true then (if r4 < r6 then (
       none) else (
       Option.bind (f_Terms_isFull T_nodes) (fun r9 =>
        if rI r9 = true then (if r9 = 0 then (
         ob6 (f_Terms_push T_nodes T_count T_kinds T_args T_firsts T_lacks p1 p2) (fun T_nodes_12 T_count_13 T_kinds_14 T_args_15 T_firsts_16 T_lacks_17 =>
          Option.bind (f_Terms_count T_count_13) (fun r19 =>
           some (r19, T_nodes_12, T_count_13, T_kinds_14, T_args_15, T_firsts_16, T_lacks_17)))) else (
         none)) else none))) else none)))) else none)
set_option maxHeartbeats 4000000 in
set_option maxRecDepth 100000 in
theorem c_Cek_node {l : Launch} {D : va_G} {cI cL cB : ClassId} {ad : Nat → Nat} {C_answer : Int} {T_nodes : Int} {T_count : Int} {T_kinds : Int → Int} {T_args : Int → Int} {T_firsts : Int → Int} {T_lacks : Int → Int} {p1 : Int} {p2 : Int} {out : Int × Int × Int × (Int → Int) × (Int → Int) × (Int → Int) × (Int → Int)} (h : f_Cek_node T_nodes T_count T_kinds T_args T_firsts T_lacks p1 p2 = some out) : CT jF0 false l D [(cI, .int), (cL, .long), (cB, .byte)] y_Cek_node w_Cek_node ({ frames := 5, cells := 0, slots := 0, locals := 110 } : Room) [.ref (ad 0), .int (zI p1), .long (zL p2)] [(ad 0, .inr (0, [.ref (ad 1), .ref (ad 8), .int (zI C_answer)])), (ad 1, .inr (1, [.ref (ad 2), .ref (ad 3), .ref (ad 4), .ref (ad 5), .ref (ad 6), .int (zI T_nodes), .int (zI T_count)])), (ad 2, .inl (cI, 200, .inl (zA T_kinds))), (ad 3, .inl (cL, 200, .inr (.inl (zB T_args)))), (ad 4, .inl (cI, 200, .inl (zA T_firsts))), (ad 5, .inl (cI, 200, .inl (zA T_lacks)))] (some (.int (zI out.1))) [(ad 0, .inr (0, [.ref (ad 1), .ref (ad 8), .int (zI C_answer)])), (ad 1, .inr (1, [.ref (ad 2), .ref (ad 3), .ref (ad 4), .ref (ad 5), .ref (ad 6), .int (zI (out.2.1)), .int (zI (out.2.2.1))])), (ad 2, .inl (cI, 200, .inl (zA (out.2.2.2.1)))), (ad 3, .inl (cL, 200, .inr (.inl (zB (out.2.2.2.2.1))))), (ad 4, .inl (cI, 200, .inl (zA (out.2.2.2.2.2.1)))), (ad 5, .inl (cI, 200, .inl (zA (out.2.2.2.2.2.2))))] 0 0 := by
  refine CT_of_J (cc := b_Cek_node) (maxL := 4) (ret := (some .int)) jF0_k (plainFor_of_name (by decide)) rfl (Nat.le_of_ble_eq_true rfl) ?_
  intro K hKl hKD X E
  subst hKl; subst hKD
  unfold f_Cek_node at h
  refine J_iload_n X d_Cek_node_0 rfl 1 rfl ?_
  refine J_lload_n X d_Cek_node_1 rfl 2 rfl ?_
  obtain ⟨r1, q2, h⟩ := wk_b h
  refine J_afterP (jrunS X (c_Terms_allows (ad := ad) q2) jF0_k (fun _ _ _ _ => trivial) (jgS own_Cek_node (by decide +kernel)) rfl rfl rfl pd_Terms_allows (by decide) [] rfl (by decide) rfl rfl (Nat.le_of_ble_eq_true rfl) d_Cek_node_2 (by decide)) ?_
  refine J_if_ne (tgt := 18) X d_Cek_node_5 (by decide) h (fun c3 h => ?_) (fun c3 h => ?_)
  · refine J_aload_n X d_Cek_node_18 rfl 0 rfl ?_
    refine J_get X (j_in in_Cek) 0 rfl rfl 0 (by decide) (j_m own_Cek_node (by decide +kernel)) rfl d_Cek_node_19 ?_
    obtain ⟨r4, q5, h⟩ := wk_b h
    refine J_afterP (jrunV X (c_Terms_count (ad := ad) q5) jF0_k (fun _ _ _ _ => trivial) (jgV own_Cek_node (by decide +kernel)) rfl rfl rfl pd_Terms_count (by decide) [1] rfl (by decide) 0 1 rfl rfl rfl rfl (Nat.le_of_ble_eq_true rfl) d_Cek_node_22 (by decide)) ?_
    refine J_iload_n X d_Cek_node_25 rfl 1 rfl ?_
    obtain ⟨r6, q7, h⟩ := wk_b h
    refine J_afterP (jrunS X (c_Terms_partsOf (ad := ad) q7) jF0_k (fun _ _ _ _ => trivial) (jgS own_Cek_node (by decide +kernel)) rfl rfl rfl pd_Terms_partsOf (by decide) [] rfl (by decide) rfl rfl (Nat.le_of_ble_eq_true rfl) d_Cek_node_26 (by decide)) ?_
    refine J_icmp_lt (tgt := 42) X d_Cek_node_29 (by decide) h (fun c8 h => ?_) (fun c8 h => ?_)
    · cases h
    · refine J_aload_n X d_Cek_node_32 rfl 0 rfl ?_
      refine J_get X (j_in in_Cek) 0 rfl rfl 0 (by decide) (j_m own_Cek_node (by decide +kernel)) rfl d_Cek_node_33 ?_
      obtain ⟨r9, q10, h⟩ := wk_b h
      refine J_afterP (jrunV X (c_Terms_isFull (ad := ad) q10) jF0_k (fun _ _ _ _ => trivial) (jgV own_Cek_node (by decide +kernel)) rfl rfl rfl pd_Terms_isFull (by decide) [1] rfl (by decide) 0 1 rfl rfl rfl rfl (Nat.le_of_ble_eq_true rfl) d_Cek_node_36 (by decide)) ?_
      refine J_if_eq (tgt := 52) X d_Cek_node_39 (by decide) h (fun c11 h => ?_) (fun c11 h => ?_)
      · refine J_aload_n X d_Cek_node_52 rfl 0 rfl ?_
        refine J_get X (j_in in_Cek) 0 rfl rfl 0 (by decide) (j_m own_Cek_node (by decide +kernel)) rfl d_Cek_node_53 ?_
        refine J_iload_n X d_Cek_node_56 rfl 1 rfl ?_
        refine J_lload_n X d_Cek_node_57 rfl 2 rfl ?_
        obtain ⟨T_nodes_12, T_count_13, T_kinds_14, T_args_15, T_firsts_16, T_lacks_17, q18, h⟩ := wk_b6 h
        refine J_afterI0 (ws' := [(ad 0, .inr (0, [.ref (ad 1), .ref (ad 8), .int (zI C_answer)])), (ad 1, .inr (1, [.ref (ad 2), .ref (ad 3), .ref (ad 4), .ref (ad 5), .ref (ad 6), .int (zI T_nodes_12), .int (zI T_count_13)])), (ad 2, .inl (cI, 200, .inl (zA T_kinds_14))), (ad 3, .inl (cL, 200, .inr (.inl (zB T_args_15)))), (ad 4, .inl (cI, 200, .inl (zA T_firsts_16))), (ad 5, .inl (cI, 200, .inl (zA T_lacks_17)))]) X (jrunV X (c_Terms_push (ad := ad) q18) jF0_k (fun _ _ _ _ => trivial) (jgV own_Cek_node (by decide +kernel)) rfl rfl rfl pd_Terms_push (by decide) [1, 2, 3, 4, 5] rfl (by decide) 0 1 rfl rfl rfl rfl (Nat.le_of_ble_eq_true rfl) d_Cek_node_58 (by decide)) [1, 2, 3, 4, 5] [0] [0, 1, 2, 3, 4, 5] rfl rfl (by decide) (by decide) rfl (by decide) ?_
        refine J_aload_n X d_Cek_node_61 rfl 0 rfl ?_
        refine J_get X (j_in in_Cek) 0 rfl rfl 0 (by decide) (j_m own_Cek_node (by decide +kernel)) rfl d_Cek_node_62 ?_
        obtain ⟨r19, q20, h⟩ := wk_b h
        refine J_afterP (jrunV X (c_Terms_count (ad := ad) q20) jF0_k (fun _ _ _ _ => trivial) (jgV own_Cek_node (by decide +kernel)) rfl rfl rfl pd_Terms_count (by decide) [1] rfl (by decide) 0 1 rfl rfl rfl rfl (Nat.le_of_ble_eq_true rfl) d_Cek_node_65 (by decide)) ?_
        cases h
        exact J_ret E ⟨_, rfl, rfl⟩ d_Cek_node_68 (Nat.le_refl _) (Nat.le_refl _) rfl
      · cases h
  · cases h

theorem d_Cek_bytes_0 : decode b_Cek_bytes 0 = .ok (.iload_n 3, 1) := by decide +kernel
theorem d_Cek_bytes_1 : decode b_Cek_bytes 1 = .ok (.ifCond .lt 9, 3) := by decide +kernel
theorem d_Cek_bytes_4 : decode b_Cek_bytes 4 = .ok (.iload_n 3, 1) := by decide +kernel
theorem d_Cek_bytes_5 : decode b_Cek_bytes 5 = .ok (.bipush 8, 2) := by decide +kernel
theorem d_Cek_bytes_7 : decode b_Cek_bytes 7 = .ok (.if_icmp .le 13, 3) := by decide +kernel
theorem d_Cek_bytes_10 : decode b_Cek_bytes 10 = .ok (.new 36, 3) := by decide +kernel
theorem d_Cek_bytes_13 : decode b_Cek_bytes 13 = .ok (.dup, 1) := by decide +kernel
theorem d_Cek_bytes_14 : decode b_Cek_bytes 14 = .ok (.ldc 64, 2) := by decide +kernel
theorem d_Cek_bytes_16 : decode b_Cek_bytes 16 = .ok (.invokespecial 40, 3) := by decide +kernel
theorem d_Cek_bytes_19 : decode b_Cek_bytes 19 = .ok (.athrow, 1) := by decide +kernel
theorem d_Cek_bytes_20 : decode b_Cek_bytes 20 = .ok (.aload_n 0, 1) := by decide +kernel
theorem d_Cek_bytes_21 : decode b_Cek_bytes 21 = .ok (.getfield 12, 3) := by decide +kernel
theorem d_Cek_bytes_24 : decode b_Cek_bytes 24 = .ok (.invokevirtual 51, 3) := by decide +kernel
theorem d_Cek_bytes_27 : decode b_Cek_bytes 27 = .ok (.ifCond .eq 13, 3) := by decide +kernel
theorem d_Cek_bytes_30 : decode b_Cek_bytes 30 = .ok (.new 55, 3) := by decide +kernel
theorem d_Cek_bytes_33 : decode b_Cek_bytes 33 = .ok (.dup, 1) := by decide +kernel
theorem d_Cek_bytes_34 : decode b_Cek_bytes 34 = .ok (.ldc 66, 2) := by decide +kernel
theorem d_Cek_bytes_36 : decode b_Cek_bytes 36 = .ok (.invokespecial 59, 3) := by decide +kernel
theorem d_Cek_bytes_39 : decode b_Cek_bytes 39 = .ok (.athrow, 1) := by decide +kernel
theorem d_Cek_bytes_40 : decode b_Cek_bytes 40 = .ok (.aload_n 0, 1) := by decide +kernel
theorem d_Cek_bytes_41 : decode b_Cek_bytes 41 = .ok (.getfield 12, 3) := by decide +kernel
theorem d_Cek_bytes_44 : decode b_Cek_bytes 44 = .ok (.bipush 8, 2) := by decide +kernel
theorem d_Cek_bytes_46 : decode b_Cek_bytes 46 = .ok (.lconst 0, 1) := by decide +kernel
theorem d_Cek_bytes_47 : decode b_Cek_bytes 47 = .ok (.invokevirtual 60, 3) := by decide +kernel
theorem d_Cek_bytes_50 : decode b_Cek_bytes 50 = .ok (.aload_n 0, 1) := by decide +kernel
theorem d_Cek_bytes_51 : decode b_Cek_bytes 51 = .ok (.getfield 12, 3) := by decide +kernel
theorem d_Cek_bytes_54 : decode b_Cek_bytes 54 = .ok (.lload_n 1, 1) := by decide +kernel
theorem d_Cek_bytes_55 : decode b_Cek_bytes 55 = .ok (.iload_n 3, 1) := by decide +kernel
theorem d_Cek_bytes_56 : decode b_Cek_bytes 56 = .ok (.invokevirtual 68, 3) := by decide +kernel
theorem d_Cek_bytes_59 : decode b_Cek_bytes 59 = .ok (.aload_n 0, 1) := by decide +kernel
theorem d_Cek_bytes_60 : decode b_Cek_bytes 60 = .ok (.getfield 12, 3) := by decide +kernel
theorem d_Cek_bytes_63 : decode b_Cek_bytes 63 = .ok (.invokevirtual 43, 3) := by decide +kernel
theorem d_Cek_bytes_66 : decode b_Cek_bytes 66 = .ok (.ireturn, 1) := by decide +kernel
def f_Cek_bytes (N : Nat) (T_nodes : Int) (T_count : Int) (T_kinds : Int → Int) (T_args : Int → Int) (T_firsts : Int → Int) (T_lacks : Int → Int) (TB_row : Int → Int) (p1 : Int) (p3 : Int) : Option (Int × Int × Int × (Int → Int) × (Int → Int) × (Int → Int) × (Int → Int) × (Int → Int)) :=
  if rI p3 = true then (if p3 < 0 then (
   none) else (
   if jr2 p3 8 = true then (if p3 ≤ 8 then (
    Option.bind (f_Terms_isFull T_nodes) (fun r3 =>
     if rI r3 = true then (if r3 = 0 then (
      ob6 (f_Terms_push T_nodes T_count T_kinds T_args T_firsts T_lacks 8 0) (fun T_nodes_6 T_count_7 T_kinds_8 T_args_9 T_firsts_10 T_lacks_11 =>
       ob2 (f_Terms_lengthen N T_nodes_6 T_kinds_8 T_args_9 TB_row p1 p3) (fun T_args_13 TB_row_14 =>
        Option.bind (f_Terms_count T_count_7) (fun r16 =>
         some (r16, T_nodes_6, T_count_7, T_kinds_8, T_args_13, T_firsts_10, T_lacks_11, TB_row_14))))) else (
      none)) else none)) else (
    none)) else none)) else none
set_option maxHeartbeats 4000000 in
set_option maxRecDepth 100000 in
theorem c_Cek_bytes {l : Launch} {D : va_G} {cI cL cB : ClassId} {ad : Nat → Nat} {N : Nat} {C_answer : Int} {T_nodes : Int} {T_count : Int} {T_kinds : Int → Int} {T_args : Int → Int} {T_firsts : Int → Int} {T_lacks : Int → Int} {TB_top : Int} {TB_row : Int → Int} {p1 : Int} {p3 : Int} {out : Int × Int × Int × (Int → Int) × (Int → Int) × (Int → Int) × (Int → Int) × (Int → Int)} (h : f_Cek_bytes N T_nodes T_count T_kinds T_args T_firsts T_lacks TB_row p1 p3 = some out) : CT jF0 false l D [(cI, .int), (cL, .long), (cB, .byte)] y_Cek_bytes w_Cek_bytes ({ frames := 5, cells := 0, slots := 0, locals := 110 } : Room) [.ref (ad 0), .long (zL p1), .int (zI p3)] [(ad 0, .inr (0, [.ref (ad 1), .ref (ad 8), .int (zI C_answer)])), (ad 1, .inr (1, [.ref (ad 2), .ref (ad 3), .ref (ad 4), .ref (ad 5), .ref (ad 6), .int (zI T_nodes), .int (zI T_count)])), (ad 2, .inl (cI, 200, .inl (zA T_kinds))), (ad 3, .inl (cL, 200, .inr (.inl (zB T_args)))), (ad 4, .inl (cI, 200, .inl (zA T_firsts))), (ad 5, .inl (cI, 200, .inl (zA T_lacks))), (ad 6, .inr (2, [.ref (ad 7), .int (zI TB_top)])), (ad 7, .inl (cB, 12800, .inl (zA TB_row)))] (some (.int (zI out.1))) [(ad 0, .inr (0, [.ref (ad 1), .ref (ad 8), .int (zI C_answer)])), (ad 1, .inr (1, [.ref (ad 2), .ref (ad 3), .ref (ad 4), .ref (ad 5), .ref (ad 6), .int (zI (out.2.1)), .int (zI (out.2.2.1))])), (ad 2, .inl (cI, 200, .inl (zA (out.2.2.2.1)))), (ad 3, .inl (cL, 200, .inr (.inl (zB (out.2.2.2.2.1))))), (ad 4, .inl (cI, 200, .inl (zA (out.2.2.2.2.2.1)))), (ad 5, .inl (cI, 200, .inl (zA (out.2.2.2.2.2.2.1)))), (ad 6, .inr (2, [.ref (ad 7), .int (zI TB_top)])), (ad 7, .inl (cB, 12800, .inl (zA (out.2.2.2.2.2.2.2))))] 0 0 := by
  refine CT_of_J (cc := b_Cek_bytes) (maxL := 4) (ret := (some .int)) jF0_k (plainFor_of_name (by decide)) rfl (Nat.le_of_ble_eq_true rfl) ?_
  intro K hKl hKD X E
  subst hKl; subst hKD
  unfold f_Cek_bytes at h
  refine J_iload_n X d_Cek_bytes_0 rfl 2 rfl ?_
  refine J_if_lt (tgt := 10) X d_Cek_bytes_1 (by decide) h (fun c1 h => ?_) (fun c1 h => ?_)
  · cases h
  · refine J_iload_n X d_Cek_bytes_4 rfl 2 rfl ?_
    refine J_bipush X d_Cek_bytes_5 (by decide) ?_
    refine J_icmp_le (tgt := 20) X d_Cek_bytes_7 (by decide) h (fun c2 h => ?_) (fun c2 h => ?_)
    · refine J_aload_n X d_Cek_bytes_20 rfl 0 rfl ?_
      refine J_get X (j_in in_Cek) 0 rfl rfl 0 (by decide) (j_m own_Cek_bytes (by decide +kernel)) rfl d_Cek_bytes_21 ?_
      obtain ⟨r3, q4, h⟩ := wk_b h
      refine J_afterP (jrunV X (c_Terms_isFull (ad := ad) q4) jF0_k (fun _ _ _ _ => trivial) (jgV own_Cek_bytes (by decide +kernel)) rfl rfl rfl pd_Terms_isFull (by decide) [1] rfl (by decide) 0 1 rfl rfl rfl rfl (Nat.le_of_ble_eq_true rfl) d_Cek_bytes_24 (by decide)) ?_
      refine J_if_eq (tgt := 40) X d_Cek_bytes_27 (by decide) h (fun c5 h => ?_) (fun c5 h => ?_)
      · refine J_aload_n X d_Cek_bytes_40 rfl 0 rfl ?_
        refine J_get X (j_in in_Cek) 0 rfl rfl 0 (by decide) (j_m own_Cek_bytes (by decide +kernel)) rfl d_Cek_bytes_41 ?_
        refine J_bipush X d_Cek_bytes_44 (by decide) ?_
        refine J_lconst (v := 0) X d_Cek_bytes_46 (by decide) ?_
        obtain ⟨T_nodes_6, T_count_7, T_kinds_8, T_args_9, T_firsts_10, T_lacks_11, q12, h⟩ := wk_b6 h
        refine J_afterI0 (ws' := [(ad 0, .inr (0, [.ref (ad 1), .ref (ad 8), .int (zI C_answer)])), (ad 1, .inr (1, [.ref (ad 2), .ref (ad 3), .ref (ad 4), .ref (ad 5), .ref (ad 6), .int (zI T_nodes_6), .int (zI T_count_7)])), (ad 2, .inl (cI, 200, .inl (zA T_kinds_8))), (ad 3, .inl (cL, 200, .inr (.inl (zB T_args_9)))), (ad 4, .inl (cI, 200, .inl (zA T_firsts_10))), (ad 5, .inl (cI, 200, .inl (zA T_lacks_11))), (ad 6, .inr (2, [.ref (ad 7), .int (zI TB_top)])), (ad 7, .inl (cB, 12800, .inl (zA TB_row)))]) X (jrunV X (c_Terms_push (ad := ad) q12) jF0_k (fun _ _ _ _ => trivial) (jgV own_Cek_bytes (by decide +kernel)) rfl rfl rfl pd_Terms_push (by decide) [1, 2, 3, 4, 5] rfl (by decide) 0 1 rfl rfl rfl rfl (Nat.le_of_ble_eq_true rfl) d_Cek_bytes_47 (by decide)) [1, 2, 3, 4, 5] [0, 6, 7] [0, 3, 4, 5, 6, 7, 1, 2] rfl rfl (by decide) (by decide) rfl (by decide) ?_
        refine J_aload_n X d_Cek_bytes_50 rfl 0 rfl ?_
        refine J_get X (j_in in_Cek) 0 rfl rfl 0 (by decide) (j_m own_Cek_bytes (by decide +kernel)) rfl d_Cek_bytes_51 ?_
        refine J_lload_n X d_Cek_bytes_54 rfl 1 rfl ?_
        refine J_iload_n X d_Cek_bytes_55 rfl 2 rfl ?_
        obtain ⟨T_args_13, TB_row_14, q15, h⟩ := wk_b2 h
        refine J_afterI0 (ws' := [(ad 0, .inr (0, [.ref (ad 1), .ref (ad 8), .int (zI C_answer)])), (ad 1, .inr (1, [.ref (ad 2), .ref (ad 3), .ref (ad 4), .ref (ad 5), .ref (ad 6), .int (zI T_nodes_6), .int (zI T_count_7)])), (ad 2, .inl (cI, 200, .inl (zA T_kinds_8))), (ad 3, .inl (cL, 200, .inr (.inl (zB T_args_13)))), (ad 4, .inl (cI, 200, .inl (zA T_firsts_10))), (ad 5, .inl (cI, 200, .inl (zA T_lacks_11))), (ad 6, .inr (2, [.ref (ad 7), .int (zI TB_top)])), (ad 7, .inl (cB, 12800, .inl (zA TB_row_14)))]) X (jrunV X (c_Terms_lengthen (ad := ad) q15) jF0_k (fun _ _ _ _ => trivial) (jgV own_Cek_bytes (by decide +kernel)) rfl rfl rfl pd_Terms_lengthen (by decide) [1, 2, 3, 6, 7] rfl (by decide) 0 1 rfl rfl rfl rfl (Nat.le_of_ble_eq_true rfl) d_Cek_bytes_56 (by decide)) [1, 2, 3, 6, 7] [0, 4, 5] [0, 3, 4, 5, 1, 2, 6, 7] rfl rfl (by decide) (by decide) rfl (by decide) ?_
        refine J_aload_n X d_Cek_bytes_59 rfl 0 rfl ?_
        refine J_get X (j_in in_Cek) 0 rfl rfl 0 (by decide) (j_m own_Cek_bytes (by decide +kernel)) rfl d_Cek_bytes_60 ?_
        obtain ⟨r16, q17, h⟩ := wk_b h
        refine J_afterP (jrunV X (c_Terms_count (ad := ad) q17) jF0_k (fun _ _ _ _ => trivial) (jgV own_Cek_bytes (by decide +kernel)) rfl rfl rfl pd_Terms_count (by decide) [1] rfl (by decide) 0 1 rfl rfl rfl rfl (Nat.le_of_ble_eq_true rfl) d_Cek_bytes_63 (by decide)) ?_
        cases h
        exact J_ret E ⟨_, rfl, rfl⟩ d_Cek_bytes_66 (Nat.le_refl _) (Nat.le_refl _) rfl
      · cases h
    · cases h

theorem d_Cek_more_0 : decode b_Cek_more 0 = .ok (.iload_n 3, 1) := by decide +kernel
theorem d_Cek_more_1 : decode b_Cek_more 1 = .ok (.iconst 1, 1) := by decide +kernel
theorem d_Cek_more_2 : decode b_Cek_more 2 = .ok (.if_icmp .lt 20, 3) := by decide +kernel
theorem d_Cek_more_5 : decode b_Cek_more 5 = .ok (.iload_n 3, 1) := by decide +kernel
theorem d_Cek_more_6 : decode b_Cek_more 6 = .ok (.bipush 8, 2) := by decide +kernel
theorem d_Cek_more_8 : decode b_Cek_more 8 = .ok (.if_icmp .gt 14, 3) := by decide +kernel
theorem d_Cek_more_11 : decode b_Cek_more 11 = .ok (.aload_n 0, 1) := by decide +kernel
theorem d_Cek_more_12 : decode b_Cek_more 12 = .ok (.getfield 12, 3) := by decide +kernel
theorem d_Cek_more_15 : decode b_Cek_more 15 = .ok (.iload_n 3, 1) := by decide +kernel
theorem d_Cek_more_16 : decode b_Cek_more 16 = .ok (.invokevirtual 72, 3) := by decide +kernel
theorem d_Cek_more_19 : decode b_Cek_more 19 = .ok (.ifCond .ne 5, 3) := by decide +kernel
theorem d_Cek_more_22 : decode b_Cek_more 22 = .ok (.iconst 0, 1) := by decide +kernel
theorem d_Cek_more_23 : decode b_Cek_more 23 = .ok (.ireturn, 1) := by decide +kernel
theorem d_Cek_more_24 : decode b_Cek_more 24 = .ok (.aload_n 0, 1) := by decide +kernel
theorem d_Cek_more_25 : decode b_Cek_more 25 = .ok (.getfield 12, 3) := by decide +kernel
theorem d_Cek_more_28 : decode b_Cek_more 28 = .ok (.lload_n 1, 1) := by decide +kernel
theorem d_Cek_more_29 : decode b_Cek_more 29 = .ok (.iload_n 3, 1) := by decide +kernel
theorem d_Cek_more_30 : decode b_Cek_more 30 = .ok (.invokevirtual 68, 3) := by decide +kernel
theorem d_Cek_more_33 : decode b_Cek_more 33 = .ok (.iconst 1, 1) := by decide +kernel
theorem d_Cek_more_34 : decode b_Cek_more 34 = .ok (.ireturn, 1) := by decide +kernel
def f_Cek_more (N : Nat) (T_nodes : Int) (T_kinds : Int → Int) (T_args : Int → Int) (TB_row : Int → Int) (p1 : Int) (p3 : Int) : Option (Int × (Int → Int) × (Int → Int)) :=
  if jr2 p3 1 = true then (if p3 < 1 then (
   some (0, T_args, TB_row)) else (
   if jr2 p3 8 = true then (if 8 < p3 then (
    some (0, T_args, TB_row)) else (
    Option.bind (f_Terms_canLengthen T_nodes T_kinds T_args p3) (fun r3 =>
     if rI r3 = true then (if r3 = 0 then (
      some (0, T_args, TB_row)) else (
      ob2 (f_Terms_lengthen N T_nodes T_kinds T_args TB_row p1 p3) (fun T_args_6 TB_row_7 =>
       some (1, T_args_6, TB_row_7)))) else none))) else none)) else none
set_option maxHeartbeats 4000000 in
set_option maxRecDepth 100000 in
theorem c_Cek_more {l : Launch} {D : va_G} {cI cL cB : ClassId} {ad : Nat → Nat} {N : Nat} {C_answer : Int} {T_nodes : Int} {T_count : Int} {T_kinds : Int → Int} {T_args : Int → Int} {TB_top : Int} {TB_row : Int → Int} {p1 : Int} {p3 : Int} {out : Int × (Int → Int) × (Int → Int)} (h : f_Cek_more N T_nodes T_kinds T_args TB_row p1 p3 = some out) : CT jF0 false l D [(cI, .int), (cL, .long), (cB, .byte)] y_Cek_more w_Cek_more ({ frames := 4, cells := 0, slots := 0, locals := 88 } : Room) [.ref (ad 0), .long (zL p1), .int (zI p3)] [(ad 0, .inr (0, [.ref (ad 1), .ref (ad 8), .int (zI C_answer)])), (ad 1, .inr (1, [.ref (ad 2), .ref (ad 3), .ref (ad 4), .ref (ad 5), .ref (ad 6), .int (zI T_nodes), .int (zI T_count)])), (ad 2, .inl (cI, 200, .inl (zA T_kinds))), (ad 3, .inl (cL, 200, .inr (.inl (zB T_args)))), (ad 6, .inr (2, [.ref (ad 7), .int (zI TB_top)])), (ad 7, .inl (cB, 12800, .inl (zA TB_row)))] (some (.int (zI out.1))) [(ad 0, .inr (0, [.ref (ad 1), .ref (ad 8), .int (zI C_answer)])), (ad 1, .inr (1, [.ref (ad 2), .ref (ad 3), .ref (ad 4), .ref (ad 5), .ref (ad 6), .int (zI T_nodes), .int (zI T_count)])), (ad 2, .inl (cI, 200, .inl (zA T_kinds))), (ad 3, .inl (cL, 200, .inr (.inl (zB (out.2.1))))), (ad 6, .inr (2, [.ref (ad 7), .int (zI TB_top)])), (ad 7, .inl (cB, 12800, .inl (zA (out.2.2))))] 0 0 := by
  refine CT_of_J (cc := b_Cek_more) (maxL := 4) (ret := (some .boolean)) jF0_k (plainFor_of_name (by decide)) rfl (Nat.le_of_ble_eq_true rfl) ?_
  intro K hKl hKD X E
  subst hKl; subst hKD
  unfold f_Cek_more at h
  refine J_iload_n X d_Cek_more_0 rfl 2 rfl ?_
  refine J_iconst X d_Cek_more_1 ?_
  refine J_icmp_lt (tgt := 22) X d_Cek_more_2 (by decide) h (fun c1 h => ?_) (fun c1 h => ?_)
  · refine J_iconst X d_Cek_more_22 ?_
    cases h
    exact J_ret E ⟨_, rfl, j_bool (Or.inl rfl)⟩ d_Cek_more_23 (Nat.le_refl _) (Nat.le_refl _) rfl
  · refine J_iload_n X d_Cek_more_5 rfl 2 rfl ?_
    refine J_bipush X d_Cek_more_6 (by decide) ?_
    refine J_icmp_gt (tgt := 22) X d_Cek_more_8 (by decide) h (fun c2 h => ?_) (fun c2 h => ?_)
    · refine J_iconst X d_Cek_more_22 ?_
      cases h
      exact J_ret E ⟨_, rfl, j_bool (Or.inl rfl)⟩ d_Cek_more_23 (Nat.le_refl _) (Nat.le_refl _) rfl
    · refine J_aload_n X d_Cek_more_11 rfl 0 rfl ?_
      refine J_get X (j_in in_Cek) 0 rfl rfl 0 (by decide) (j_m own_Cek_more (by decide +kernel)) rfl d_Cek_more_12 ?_
      refine J_iload_n X d_Cek_more_15 rfl 2 rfl ?_
      obtain ⟨r3, q4, h⟩ := wk_b h
      refine J_afterP (jrunV X (c_Terms_canLengthen (ad := ad) q4) jF0_k (fun _ _ _ _ => trivial) (jgV own_Cek_more (by decide +kernel)) rfl rfl rfl pd_Terms_canLengthen (by decide) [1, 2, 3] rfl (by decide) 0 1 rfl rfl rfl rfl (Nat.le_of_ble_eq_true rfl) d_Cek_more_16 (by decide)) ?_
      refine J_if_ne (tgt := 24) X d_Cek_more_19 (by decide) h (fun c5 h => ?_) (fun c5 h => ?_)
      · refine J_aload_n X d_Cek_more_24 rfl 0 rfl ?_
        refine J_get X (j_in in_Cek) 0 rfl rfl 0 (by decide) (j_m own_Cek_more (by decide +kernel)) rfl d_Cek_more_25 ?_
        refine J_lload_n X d_Cek_more_28 rfl 1 rfl ?_
        refine J_iload_n X d_Cek_more_29 rfl 2 rfl ?_
        obtain ⟨T_args_6, TB_row_7, q8, h⟩ := wk_b2 h
        refine J_afterI0 (ws' := [(ad 0, .inr (0, [.ref (ad 1), .ref (ad 8), .int (zI C_answer)])), (ad 1, .inr (1, [.ref (ad 2), .ref (ad 3), .ref (ad 4), .ref (ad 5), .ref (ad 6), .int (zI T_nodes), .int (zI T_count)])), (ad 2, .inl (cI, 200, .inl (zA T_kinds))), (ad 3, .inl (cL, 200, .inr (.inl (zB T_args_6)))), (ad 6, .inr (2, [.ref (ad 7), .int (zI TB_top)])), (ad 7, .inl (cB, 12800, .inl (zA TB_row_7)))]) X (jrunV X (c_Terms_lengthen (ad := ad) q8) jF0_k (fun _ _ _ _ => trivial) (jgV own_Cek_more (by decide +kernel)) rfl rfl rfl pd_Terms_lengthen (by decide) [1, 2, 3, 4, 5] rfl (by decide) 0 1 rfl rfl rfl rfl (Nat.le_of_ble_eq_true rfl) d_Cek_more_30 (by decide)) [1, 2, 3, 4, 5] [0] [0, 1, 2, 3, 4, 5] rfl rfl (by decide) (by decide) rfl (by decide) ?_
        refine J_iconst X d_Cek_more_33 ?_
        cases h
        exact J_ret E ⟨_, rfl, j_bool (Or.inr rfl)⟩ d_Cek_more_34 (Nat.le_refl _) (Nat.le_refl _) rfl
      · refine J_iconst X d_Cek_more_22 ?_
        cases h
        exact J_ret E ⟨_, rfl, j_bool (Or.inl rfl)⟩ d_Cek_more_23 (Nat.le_refl _) (Nat.le_refl _) rfl

theorem d_Cek_drop_0 : decode b_Cek_drop 0 = .ok (.aload_n 0, 1) := by decide +kernel
theorem d_Cek_drop_1 : decode b_Cek_drop 1 = .ok (.getfield 12, 3) := by decide +kernel
theorem d_Cek_drop_4 : decode b_Cek_drop 4 = .ok (.invokevirtual 76, 3) := by decide +kernel
theorem d_Cek_drop_7 : decode b_Cek_drop 7 = .ok (.ireturn, 1) := by decide +kernel
def f_Cek_drop (T_nodes : Int) (T_count : Int) (T_firsts : Int → Int) : Option (Int × Int × Int) :=
  ob3 (f_Terms_pop T_nodes T_count T_firsts) (fun r1 T_nodes_2 T_count_3 =>
   if r1 = 0 ∨ r1 = 1 then some (r1, T_nodes_2, T_count_3) else none)
set_option maxHeartbeats 4000000 in
set_option maxRecDepth 100000 in
theorem c_Cek_drop {l : Launch} {D : va_G} {cI cL cB : ClassId} {ad : Nat → Nat} {C_answer : Int} {T_nodes : Int} {T_count : Int} {T_firsts : Int → Int} {out : Int × Int × Int} (h : f_Cek_drop T_nodes T_count T_firsts = some out) : CT jF0 false l D [(cI, .int), (cL, .long), (cB, .byte)] y_Cek_drop w_Cek_drop ({ frames := 3, cells := 0, slots := 0, locals := 62 } : Room) [.ref (ad 0)] [(ad 0, .inr (0, [.ref (ad 1), .ref (ad 8), .int (zI C_answer)])), (ad 1, .inr (1, [.ref (ad 2), .ref (ad 3), .ref (ad 4), .ref (ad 5), .ref (ad 6), .int (zI T_nodes), .int (zI T_count)])), (ad 4, .inl (cI, 200, .inl (zA T_firsts)))] (some (.int (zI out.1))) [(ad 0, .inr (0, [.ref (ad 1), .ref (ad 8), .int (zI C_answer)])), (ad 1, .inr (1, [.ref (ad 2), .ref (ad 3), .ref (ad 4), .ref (ad 5), .ref (ad 6), .int (zI (out.2.1)), .int (zI (out.2.2))])), (ad 4, .inl (cI, 200, .inl (zA T_firsts)))] 0 0 := by
  refine CT_of_J (cc := b_Cek_drop) (maxL := 1) (ret := (some .boolean)) jF0_k (plainFor_of_name (by decide)) rfl (Nat.le_of_ble_eq_true rfl) ?_
  intro K hKl hKD X E
  subst hKl; subst hKD
  unfold f_Cek_drop at h
  refine J_aload_n X d_Cek_drop_0 rfl 0 rfl ?_
  refine J_get X (j_in in_Cek) 0 rfl rfl 0 (by decide) (j_m own_Cek_drop (by decide +kernel)) rfl d_Cek_drop_1 ?_
  obtain ⟨r1, T_nodes_2, T_count_3, q4, h⟩ := wk_b3 h
  refine J_afterI0 (ws' := [(ad 0, .inr (0, [.ref (ad 1), .ref (ad 8), .int (zI C_answer)])), (ad 1, .inr (1, [.ref (ad 2), .ref (ad 3), .ref (ad 4), .ref (ad 5), .ref (ad 6), .int (zI T_nodes_2), .int (zI T_count_3)])), (ad 4, .inl (cI, 200, .inl (zA T_firsts)))]) X (jrunV X (c_Terms_pop (ad := ad) q4) jF0_k (fun _ _ _ _ => trivial) (jgV own_Cek_drop (by decide +kernel)) rfl rfl rfl pd_Terms_pop (by decide) [1, 2] rfl (by decide) 0 1 rfl rfl rfl rfl (Nat.le_of_ble_eq_true rfl) d_Cek_drop_4 (by decide)) [1, 2] [0] [0, 1, 2] rfl rfl (by decide) (by decide) rfl (by decide) ?_
  obtain ⟨g5, h⟩ := wk_g h
  cases h
  exact J_ret E ⟨_, rfl, j_bool g5⟩ d_Cek_drop_7 (Nat.le_refl _) (Nat.le_refl _) rfl

theorem d_Cek_run_0 : decode b_Cek_run 0 = .ok (.aload_n 0, 1) := by decide +kernel
theorem d_Cek_run_1 : decode b_Cek_run 1 = .ok (.getfield 12, 3) := by decide +kernel
theorem d_Cek_run_4 : decode b_Cek_run 4 = .ok (.invokevirtual 43, 3) := by decide +kernel
theorem d_Cek_run_7 : decode b_Cek_run 7 = .ok (.ifCond .eq 13, 3) := by decide +kernel
theorem d_Cek_run_10 : decode b_Cek_run 10 = .ok (.aload_n 0, 1) := by decide +kernel
theorem d_Cek_run_11 : decode b_Cek_run 11 = .ok (.getfield 12, 3) := by decide +kernel
theorem d_Cek_run_14 : decode b_Cek_run 14 = .ok (.invokevirtual 79, 3) := by decide +kernel
theorem d_Cek_run_17 : decode b_Cek_run 17 = .ok (.ifCond .eq 13, 3) := by decide +kernel
theorem d_Cek_run_20 : decode b_Cek_run 20 = .ok (.new 55, 3) := by decide +kernel
theorem d_Cek_run_23 : decode b_Cek_run 23 = .ok (.dup, 1) := by decide +kernel
theorem d_Cek_run_24 : decode b_Cek_run 24 = .ok (.ldc 82, 2) := by decide +kernel
theorem d_Cek_run_26 : decode b_Cek_run 26 = .ok (.invokespecial 59, 3) := by decide +kernel
theorem d_Cek_run_29 : decode b_Cek_run 29 = .ok (.athrow, 1) := by decide +kernel
theorem d_Cek_run_30 : decode b_Cek_run 30 = .ok (.iload_n 1, 1) := by decide +kernel
theorem d_Cek_run_31 : decode b_Cek_run 31 = .ok (.ifCond .lt 21, 3) := by decide +kernel
theorem d_Cek_run_34 : decode b_Cek_run 34 = .ok (.iload_n 1, 1) := by decide +kernel
theorem d_Cek_run_35 : decode b_Cek_run 35 = .ok (.sipush 20000, 3) := by decide +kernel
theorem d_Cek_run_38 : decode b_Cek_run 38 = .ok (.if_icmp .gt 14, 3) := by decide +kernel
theorem d_Cek_run_41 : decode b_Cek_run 41 = .ok (.iload_n 2, 1) := by decide +kernel
theorem d_Cek_run_42 : decode b_Cek_run 42 = .ok (.ifCond .lt 10, 3) := by decide +kernel
theorem d_Cek_run_45 : decode b_Cek_run 45 = .ok (.iload_n 2, 1) := by decide +kernel
theorem d_Cek_run_46 : decode b_Cek_run 46 = .ok (.sipush 3000, 3) := by decide +kernel
theorem d_Cek_run_49 : decode b_Cek_run 49 = .ok (.if_icmp .le 13, 3) := by decide +kernel
theorem d_Cek_run_52 : decode b_Cek_run 52 = .ok (.new 36, 3) := by decide +kernel
theorem d_Cek_run_55 : decode b_Cek_run 55 = .ok (.dup, 1) := by decide +kernel
theorem d_Cek_run_56 : decode b_Cek_run 56 = .ok (.ldc 84, 2) := by decide +kernel
theorem d_Cek_run_58 : decode b_Cek_run 58 = .ok (.invokespecial 40, 3) := by decide +kernel
theorem d_Cek_run_61 : decode b_Cek_run 61 = .ok (.athrow, 1) := by decide +kernel
theorem d_Cek_run_62 : decode b_Cek_run 62 = .ok (.aload_n 0, 1) := by decide +kernel
theorem d_Cek_run_63 : decode b_Cek_run 63 = .ok (.aload_n 0, 1) := by decide +kernel
theorem d_Cek_run_64 : decode b_Cek_run 64 = .ok (.getfield 21, 3) := by decide +kernel
theorem d_Cek_run_67 : decode b_Cek_run 67 = .ok (.iload_n 1, 1) := by decide +kernel
theorem d_Cek_run_68 : decode b_Cek_run 68 = .ok (.iload_n 2, 1) := by decide +kernel
theorem d_Cek_run_69 : decode b_Cek_run 69 = .ok (.invokevirtual 86, 3) := by decide +kernel
theorem d_Cek_run_72 : decode b_Cek_run 72 = .ok (.putfield 25, 3) := by decide +kernel
theorem d_Cek_run_75 : decode b_Cek_run 75 = .ok (.aload_n 0, 1) := by decide +kernel
theorem d_Cek_run_76 : decode b_Cek_run 76 = .ok (.getfield 25, 3) := by decide +kernel
theorem d_Cek_run_79 : decode b_Cek_run 79 = .ok (.ireturn, 1) := by decide +kernel
def f_Cek_run (N : Nat) (C_answer : Int) (T_nodes : Int) (T_count : Int) (T_kinds : Int → Int) (T_args : Int → Int) (T_firsts : Int → Int) (T_lacks : Int → Int) (TB_row : Int → Int) (E_node : Int) (E_scope : Int) (E_value : Int) (V_top : Int) (V_kinds : Int → Int) (V_numbers : Int → Int) (V_parts : Int → Int) (V_links : Int → Int) (VB_top : Int) (VB_row : Int → Int) (D_top : Int) (D_forms : Int → Int) (D_counts : Int → Int) (D_numbers : Int → Int) (D_nodes : Int → Int) (D_depths : Int → Int) (D_weights : Int → Int) (M_steps : Int) (M_memory : Int) (M_mostSteps : Int) (M_mostMemory : Int) (M_fault : Int) (W_depth : Int) (W_most : Int) (W_nodes : Int → Int) (W_scopes : Int → Int) (W_functions : Int → Int) (S_top : Int) (S_bound : Int → Int) (S_outer : Int → Int) (B_ready : Int) (B_given : Int → Int) (p1 : Int) (p2 : Int) : Option (Int × Int × Int × Int × Int × Int × (Int → Int) × (Int → Int) × (Int → Int) × (Int → Int) × Int × (Int → Int) × Int × (Int → Int) × (Int → Int) × (Int → Int) × (Int → Int) × (Int → Int) × (Int → Int) × Int × Int × Int × Int × Int × Int × Int × (Int → Int) × (Int → Int) × (Int → Int) × Int × (Int → Int) × (Int → Int) × Int × (Int → Int)) :=
  Option.bind (f_Terms_count T_count) (fun r1 =>
   if rI r1 = true then (if r1 = 0 then (
    none) else (
    Option.bind (f_Terms_lacksOfLast T_nodes T_lacks) (fun r4 =>
     if rI r4 = true then (if r4 = 0 then (
      if rI p1 = true then (if p1 < 0 then (
       none) else (
       if jr2 p1 20000 = true then (if 20000 < p1 then (
        none) else (
        if rI p2 = true then (if p2 < 0 then (
         none) else (
         if jr2 p2 3000 = true then (if p2 ≤ 3000 then (
          ob33 (f_Evaluator_evaluateLast N T_nodes T_kinds T_args T_firsts TB_row E_node E_scope E_value V_top V_kinds V_numbers V_parts V_links VB_top VB_row D_top D_forms D_counts D_numbers D_nodes D_depths D_weights M_steps M_memory M_mostSteps M_mostMemory M_fault W_depth W_most W_nodes W_scopes W_functions S_top S_bound S_outer B_ready B_given p1 p2) (fun r11 E_node_12 E_scope_13 E_value_14 V_top_15 V_kinds_16 V_numbers_17 V_parts_18 V_links_19 VB_top_20 VB_row_21 D_top_22 D_forms_23 D_counts_24 D_numbers_25 D_nodes_26 D_depths_27 D_weights_28 M_steps_29 M_memory_30 M_mostSteps_31 M_mostMemory_32 M_fault_33 W_depth_34 W_most_35 W_nodes_36 W_scopes_37 W_functions_38 S_top_39 S_bound_40 S_outer_41 B_ready_42 B_given_43 =>
           some (r11, r11, E_node_12, E_scope_13, E_value_14, V_top_15, V_kinds_16, V_numbers_17, V_parts_18, V_links_19, VB_top_20, VB_row_21, D_top_22, D_forms_23, D_counts_24, D_numbers_25, D_nodes_26, D_depths_27, D_weights_28, M_steps_29, M_memory_30, M_mostSteps_31, M_mostMemory_32, M_fault_33, W_depth_34, W_most_35, W_nodes_36, W_scopes_37, W_functions_38, S_top_39, S_bound_40, S_outer_41, B_ready_42, B_given_43))) else (
          none)) else none)) else none)) else none)) else none) else (
      none)) else none))) else none)
set_option maxHeartbeats 4000000 in
set_option maxRecDepth 100000 in
theorem c_Cek_run {l : Launch} {D : va_G} {cI cL cB : ClassId} {ad : Nat → Nat} {adK adV : Nat → Nat} {ro : Nat} {N : Nat} {C_answer : Int} {T_nodes : Int} {T_count : Int} {T_kinds : Int → Int} {T_args : Int → Int} {T_firsts : Int → Int} {T_lacks : Int → Int} {TB_top : Int} {TB_row : Int → Int} {E_node : Int} {E_scope : Int} {E_value : Int} {V_top : Int} {V_kinds : Int → Int} {V_numbers : Int → Int} {V_parts : Int → Int} {V_links : Int → Int} {VB_top : Int} {VB_row : Int → Int} {D_top : Int} {D_forms : Int → Int} {D_counts : Int → Int} {D_numbers : Int → Int} {D_nodes : Int → Int} {D_depths : Int → Int} {D_weights : Int → Int} {M_steps : Int} {M_memory : Int} {M_mostSteps : Int} {M_mostMemory : Int} {M_fault : Int} {W_depth : Int} {W_most : Int} {W_nodes : Int → Int} {W_scopes : Int → Int} {W_functions : Int → Int} {S_top : Int} {S_bound : Int → Int} {S_outer : Int → Int} {B_ready : Int} {B_given : Int → Int} {p1 : Int} {p2 : Int} {out : Int × Int × Int × Int × Int × Int × (Int → Int) × (Int → Int) × (Int → Int) × (Int → Int) × Int × (Int → Int) × Int × (Int → Int) × (Int → Int) × (Int → Int) × (Int → Int) × (Int → Int) × (Int → Int) × Int × Int × Int × Int × Int × Int × Int × (Int → Int) × (Int → Int) × (Int → Int) × Int × (Int → Int) × (Int → Int) × Int × (Int → Int)} (h : f_Cek_run N C_answer T_nodes T_count T_kinds T_args T_firsts T_lacks TB_row E_node E_scope E_value V_top V_kinds V_numbers V_parts V_links VB_top VB_row D_top D_forms D_counts D_numbers D_nodes D_depths D_weights M_steps M_memory M_mostSteps M_mostMemory M_fault W_depth W_most W_nodes W_scopes W_functions S_top S_bound S_outer B_ready B_given p1 p2 = some out) : CT (jFs adK adV ro) false l D [(cI, .int), (cL, .long), (cB, .byte)] y_Cek_run w_Cek_run ({ frames := 7, cells := 0, slots := 0, locals := 200 } : Room) [.ref (ad 0), .int (zI p1), .int (zI p2)] [(ad 0, .inr (0, [.ref (ad 1), .ref (ad 8), .int (zI C_answer)])), (ad 1, .inr (1, [.ref (ad 2), .ref (ad 3), .ref (ad 4), .ref (ad 5), .ref (ad 6), .int (zI T_nodes), .int (zI T_count)])), (ad 2, .inl (cI, 200, .inl (zA T_kinds))), (ad 3, .inl (cL, 200, .inr (.inl (zB T_args)))), (ad 4, .inl (cI, 200, .inl (zA T_firsts))), (ad 5, .inl (cI, 200, .inl (zA T_lacks))), (ad 6, .inr (2, [.ref (ad 7), .int (zI TB_top)])), (ad 7, .inl (cB, 12800, .inl (zA TB_row))), (ad 8, .inr (3, [.ref (ad 9), .ref (ad 23), .ref (ad 24), .ref (ad 28), .ref (ad 31), .ref (ad 1), .int (zI E_node), .int (zI E_scope), .int (zI E_value)])), (ad 9, .inr (4, [.ref (ad 14), .ref (ad 16), .ref (ad 10), .ref (ad 11), .ref (ad 12), .ref (ad 13), .int (zI V_top)])), (ad 10, .inl (cI, 3201, .inl (zA V_kinds))), (ad 11, .inl (cL, 3201, .inr (.inl (zB V_numbers)))), (ad 12, .inl (cI, 3201, .inl (zA V_parts))), (ad 13, .inl (cI, 3201, .inl (zA V_links))), (ad 14, .inr (2, [.ref (ad 15), .int (zI VB_top)])), (ad 15, .inl (cB, 36864, .inl (zA VB_row))), (ad 16, .inr (5, [.ref (ad 17), .ref (ad 18), .ref (ad 19), .ref (ad 20), .ref (ad 21), .ref (ad 22), .int (zI D_top)])), (ad 17, .inl (cI, 3201, .inl (zA D_forms))), (ad 18, .inl (cI, 3201, .inl (zA D_counts))), (ad 19, .inl (cL, 3201, .inr (.inl (zB D_numbers)))), (ad 20, .inl (cI, 3201, .inl (zA D_nodes))), (ad 21, .inl (cI, 3201, .inl (zA D_depths))), (ad 22, .inl (cI, 3201, .inl (zA D_weights))), (ad 23, .inr (6, [.int (zI M_steps), .int (zI M_memory), .int (zI M_mostSteps), .int (zI M_mostMemory), .int (zI M_fault)])), (ad 24, .inr (7, [.ref (ad 25), .ref (ad 26), .ref (ad 27), .int (zI W_depth), .int (zI W_most)])), (ad 25, .inl (cI, 400, .inl (zA W_nodes))), (ad 26, .inl (cI, 400, .inl (zA W_scopes))), (ad 27, .inl (cI, 400, .inl (zA W_functions))), (ad 28, .inr (8, [.ref (ad 29), .ref (ad 30), .int (zI S_top)])), (ad 29, .inl (cI, 3000, .inl (zA S_bound))), (ad 30, .inl (cI, 3000, .inl (zA S_outer))), (ad 31, .inr (9, [.ref (ad 9), .ref (ad 23), .ref (ad 32), .int (zI B_ready)])), (ad 32, .inl (cI, 3, .inl (zA B_given)))] (some (.int (zI out.1))) [(ad 0, .inr (0, [.ref (ad 1), .ref (ad 8), .int (zI (out.2.1))])), (ad 1, .inr (1, [.ref (ad 2), .ref (ad 3), .ref (ad 4), .ref (ad 5), .ref (ad 6), .int (zI T_nodes), .int (zI T_count)])), (ad 2, .inl (cI, 200, .inl (zA T_kinds))), (ad 3, .inl (cL, 200, .inr (.inl (zB T_args)))), (ad 4, .inl (cI, 200, .inl (zA T_firsts))), (ad 5, .inl (cI, 200, .inl (zA T_lacks))), (ad 6, .inr (2, [.ref (ad 7), .int (zI TB_top)])), (ad 7, .inl (cB, 12800, .inl (zA TB_row))), (ad 8, .inr (3, [.ref (ad 9), .ref (ad 23), .ref (ad 24), .ref (ad 28), .ref (ad 31), .ref (ad 1), .int (zI (out.2.2.1)), .int (zI (out.2.2.2.1)), .int (zI (out.2.2.2.2.1))])), (ad 9, .inr (4, [.ref (ad 14), .ref (ad 16), .ref (ad 10), .ref (ad 11), .ref (ad 12), .ref (ad 13), .int (zI (out.2.2.2.2.2.1))])), (ad 10, .inl (cI, 3201, .inl (zA (out.2.2.2.2.2.2.1)))), (ad 11, .inl (cL, 3201, .inr (.inl (zB (out.2.2.2.2.2.2.2.1))))), (ad 12, .inl (cI, 3201, .inl (zA (out.2.2.2.2.2.2.2.2.1)))), (ad 13, .inl (cI, 3201, .inl (zA (out.2.2.2.2.2.2.2.2.2.1)))), (ad 14, .inr (2, [.ref (ad 15), .int (zI (out.2.2.2.2.2.2.2.2.2.2.1))])), (ad 15, .inl (cB, 36864, .inl (zA (out.2.2.2.2.2.2.2.2.2.2.2.1)))), (ad 16, .inr (5, [.ref (ad 17), .ref (ad 18), .ref (ad 19), .ref (ad 20), .ref (ad 21), .ref (ad 22), .int (zI (out.2.2.2.2.2.2.2.2.2.2.2.2.1))])), (ad 17, .inl (cI, 3201, .inl (zA (out.2.2.2.2.2.2.2.2.2.2.2.2.2.1)))), (ad 18, .inl (cI, 3201, .inl (zA (out.2.2.2.2.2.2.2.2.2.2.2.2.2.2.1)))), (ad 19, .inl (cL, 3201, .inr (.inl (zB (out.2.2.2.2.2.2.2.2.2.2.2.2.2.2.2.1))))), (ad 20, .inl (cI, 3201, .inl (zA (out.2.2.2.2.2.2.2.2.2.2.2.2.2.2.2.2.1)))), (ad 21, .inl (cI, 3201, .inl (zA (out.2.2.2.2.2.2.2.2.2.2.2.2.2.2.2.2.2.1)))), (ad 22, .inl (cI, 3201, .inl (zA (out.2.2.2.2.2.2.2.2.2.2.2.2.2.2.2.2.2.2.1)))), (ad 23, .inr (6, [.int (zI (out.2.2.2.2.2.2.2.2.2.2.2.2.2.2.2.2.2.2.2.1)), .int (zI (out.2.2.2.2.2.2.2.2.2.2.2.2.2.2.2.2.2.2.2.2.1)), .int (zI (out.2.2.2.2.2.2.2.2.2.2.2.2.2.2.2.2.2.2.2.2.2.1)), .int (zI (out.2.2.2.2.2.2.2.2.2.2.2.2.2.2.2.2.2.2.2.2.2.2.1)), .int (zI (out.2.2.2.2.2.2.2.2.2.2.2.2.2.2.2.2.2.2.2.2.2.2.2.1))])), (ad 24, .inr (7, [.ref (ad 25), .ref (ad 26), .ref (ad 27), .int (zI (out.2.2.2.2.2.2.2.2.2.2.2.2.2.2.2.2.2.2.2.2.2.2.2.2.1)), .int (zI (out.2.2.2.2.2.2.2.2.2.2.2.2.2.2.2.2.2.2.2.2.2.2.2.2.2.1))])), (ad 25, .inl (cI, 400, .inl (zA (out.2.2.2.2.2.2.2.2.2.2.2.2.2.2.2.2.2.2.2.2.2.2.2.2.2.2.1)))), (ad 26, .inl (cI, 400, .inl (zA (out.2.2.2.2.2.2.2.2.2.2.2.2.2.2.2.2.2.2.2.2.2.2.2.2.2.2.2.1)))), (ad 27, .inl (cI, 400, .inl (zA (out.2.2.2.2.2.2.2.2.2.2.2.2.2.2.2.2.2.2.2.2.2.2.2.2.2.2.2.2.1)))), (ad 28, .inr (8, [.ref (ad 29), .ref (ad 30), .int (zI (out.2.2.2.2.2.2.2.2.2.2.2.2.2.2.2.2.2.2.2.2.2.2.2.2.2.2.2.2.2.1))])), (ad 29, .inl (cI, 3000, .inl (zA (out.2.2.2.2.2.2.2.2.2.2.2.2.2.2.2.2.2.2.2.2.2.2.2.2.2.2.2.2.2.2.1)))), (ad 30, .inl (cI, 3000, .inl (zA (out.2.2.2.2.2.2.2.2.2.2.2.2.2.2.2.2.2.2.2.2.2.2.2.2.2.2.2.2.2.2.2.1)))), (ad 31, .inr (9, [.ref (ad 9), .ref (ad 23), .ref (ad 32), .int (zI (out.2.2.2.2.2.2.2.2.2.2.2.2.2.2.2.2.2.2.2.2.2.2.2.2.2.2.2.2.2.2.2.2.1))])), (ad 32, .inl (cI, 3, .inl (zA (out.2.2.2.2.2.2.2.2.2.2.2.2.2.2.2.2.2.2.2.2.2.2.2.2.2.2.2.2.2.2.2.2.2))))] 0 0 := by
  refine CT_of_J (cc := b_Cek_run) (maxL := 3) (ret := (some .int)) jFs_k (plainFor_of_name (by decide)) rfl (Nat.le_of_ble_eq_true rfl) ?_
  intro K hKl hKD X E
  subst hKl; subst hKD
  unfold f_Cek_run at h
  refine J_aload_n X d_Cek_run_0 rfl 0 rfl ?_
  refine J_get X (j_in in_Cek) 0 rfl rfl 0 (by decide) (j_m own_Cek_run (by decide +kernel)) rfl d_Cek_run_1 ?_
  obtain ⟨r1, q2, h⟩ := wk_b h
  refine J_afterP (jrunV X (c_Terms_count (ad := ad) q2) jF0_k (fun _ _ _ _ => trivial) (jgV own_Cek_run (by decide +kernel)) rfl rfl rfl pd_Terms_count (by decide) [1] rfl (by decide) 0 1 rfl rfl rfl rfl (Nat.le_of_ble_eq_true rfl) d_Cek_run_4 (by decide)) ?_
  refine J_if_eq (tgt := 20) X d_Cek_run_7 (by decide) h (fun c3 h => ?_) (fun c3 h => ?_)
  · cases h
  · refine J_aload_n X d_Cek_run_10 rfl 0 rfl ?_
    refine J_get X (j_in in_Cek) 0 rfl rfl 0 (by decide) (j_m own_Cek_run (by decide +kernel)) rfl d_Cek_run_11 ?_
    obtain ⟨r4, q5, h⟩ := wk_b h
    refine J_afterP (jrunV X (c_Terms_lacksOfLast (ad := ad) q5) jF0_k (fun _ _ _ _ => trivial) (jgV own_Cek_run (by decide +kernel)) rfl rfl rfl pd_Terms_lacksOfLast (by decide) [1, 5] rfl (by decide) 0 1 rfl rfl rfl rfl (Nat.le_of_ble_eq_true rfl) d_Cek_run_14 (by decide)) ?_
    refine J_if_eq (tgt := 30) X d_Cek_run_17 (by decide) h (fun c6 h => ?_) (fun c6 h => ?_)
    · refine J_iload_n X d_Cek_run_30 rfl 1 rfl ?_
      refine J_if_lt (tgt := 52) X d_Cek_run_31 (by decide) h (fun c7 h => ?_) (fun c7 h => ?_)
      · cases h
      · refine J_iload_n X d_Cek_run_34 rfl 1 rfl ?_
        refine J_sipush X d_Cek_run_35 (by decide) ?_
        refine J_icmp_gt (tgt := 52) X d_Cek_run_38 (by decide) h (fun c8 h => ?_) (fun c8 h => ?_)
        · cases h
        · refine J_iload_n X d_Cek_run_41 rfl 2 rfl ?_
          refine J_if_lt (tgt := 52) X d_Cek_run_42 (by decide) h (fun c9 h => ?_) (fun c9 h => ?_)
          · cases h
          · refine J_iload_n X d_Cek_run_45 rfl 2 rfl ?_
            refine J_sipush X d_Cek_run_46 (by decide) ?_
            refine J_icmp_le (tgt := 62) X d_Cek_run_49 (by decide) h (fun c10 h => ?_) (fun c10 h => ?_)
            · refine J_aload_n X d_Cek_run_62 rfl 0 rfl ?_
              refine J_aload_n X d_Cek_run_63 rfl 0 rfl ?_
              refine J_get X (j_in in_Cek) 0 rfl rfl 1 (by decide) (j_m own_Cek_run (by decide +kernel)) rfl d_Cek_run_64 ?_
              refine J_iload_n X d_Cek_run_67 rfl 1 rfl ?_
              refine J_iload_n X d_Cek_run_68 rfl 2 rfl ?_
              obtain ⟨r11, E_node_12, E_scope_13, E_value_14, V_top_15, V_kinds_16, V_numbers_17, V_parts_18, V_links_19, VB_top_20, VB_row_21, D_top_22, D_forms_23, D_counts_24, D_numbers_25, D_nodes_26, D_depths_27, D_weights_28, M_steps_29, M_memory_30, M_mostSteps_31, M_mostMemory_32, M_fault_33, W_depth_34, W_most_35, W_nodes_36, W_scopes_37, W_functions_38, S_top_39, S_bound_40, S_outer_41, B_ready_42, B_given_43, q44, h⟩ := wk_b33 h
              refine J_afterI0 (ws' := [(ad 0, .inr (0, [.ref (ad 1), .ref (ad 8), .int (zI C_answer)])), (ad 1, .inr (1, [.ref (ad 2), .ref (ad 3), .ref (ad 4), .ref (ad 5), .ref (ad 6), .int (zI T_nodes), .int (zI T_count)])), (ad 2, .inl (cI, 200, .inl (zA T_kinds))), (ad 3, .inl (cL, 200, .inr (.inl (zB T_args)))), (ad 4, .inl (cI, 200, .inl (zA T_firsts))), (ad 5, .inl (cI, 200, .inl (zA T_lacks))), (ad 6, .inr (2, [.ref (ad 7), .int (zI TB_top)])), (ad 7, .inl (cB, 12800, .inl (zA TB_row))), (ad 8, .inr (3, [.ref (ad 9), .ref (ad 23), .ref (ad 24), .ref (ad 28), .ref (ad 31), .ref (ad 1), .int (zI E_node_12), .int (zI E_scope_13), .int (zI E_value_14)])), (ad 9, .inr (4, [.ref (ad 14), .ref (ad 16), .ref (ad 10), .ref (ad 11), .ref (ad 12), .ref (ad 13), .int (zI V_top_15)])), (ad 10, .inl (cI, 3201, .inl (zA V_kinds_16))), (ad 11, .inl (cL, 3201, .inr (.inl (zB V_numbers_17)))), (ad 12, .inl (cI, 3201, .inl (zA V_parts_18))), (ad 13, .inl (cI, 3201, .inl (zA V_links_19))), (ad 14, .inr (2, [.ref (ad 15), .int (zI VB_top_20)])), (ad 15, .inl (cB, 36864, .inl (zA VB_row_21))), (ad 16, .inr (5, [.ref (ad 17), .ref (ad 18), .ref (ad 19), .ref (ad 20), .ref (ad 21), .ref (ad 22), .int (zI D_top_22)])), (ad 17, .inl (cI, 3201, .inl (zA D_forms_23))), (ad 18, .inl (cI, 3201, .inl (zA D_counts_24))), (ad 19, .inl (cL, 3201, .inr (.inl (zB D_numbers_25)))), (ad 20, .inl (cI, 3201, .inl (zA D_nodes_26))), (ad 21, .inl (cI, 3201, .inl (zA D_depths_27))), (ad 22, .inl (cI, 3201, .inl (zA D_weights_28))), (ad 23, .inr (6, [.int (zI M_steps_29), .int (zI M_memory_30), .int (zI M_mostSteps_31), .int (zI M_mostMemory_32), .int (zI M_fault_33)])), (ad 24, .inr (7, [.ref (ad 25), .ref (ad 26), .ref (ad 27), .int (zI W_depth_34), .int (zI W_most_35)])), (ad 25, .inl (cI, 400, .inl (zA W_nodes_36))), (ad 26, .inl (cI, 400, .inl (zA W_scopes_37))), (ad 27, .inl (cI, 400, .inl (zA W_functions_38))), (ad 28, .inr (8, [.ref (ad 29), .ref (ad 30), .int (zI S_top_39)])), (ad 29, .inl (cI, 3000, .inl (zA S_bound_40))), (ad 30, .inl (cI, 3000, .inl (zA S_outer_41))), (ad 31, .inr (9, [.ref (ad 9), .ref (ad 23), .ref (ad 32), .int (zI B_ready_42)])), (ad 32, .inl (cI, 3, .inl (zA B_given_43)))]) X (jrunV X (c_Evaluator_evaluateLast (ad := ad) q44) jFs_k (fun _ _ _ h => h) (jgV own_Cek_run (by decide +kernel)) rfl rfl rfl pd_Evaluator_evaluateLast (by decide) [1, 2, 3, 4, 6, 7, 8, 9, 10, 11, 12, 13, 14, 15, 16, 17, 18, 19, 20, 21, 22, 23, 24, 25, 26, 27, 28, 29, 30, 31, 32] rfl (by decide) 6 3 rfl rfl rfl rfl (Nat.le_of_ble_eq_true rfl) d_Cek_run_69 (by decide)) [1, 2, 3, 4, 6, 7, 8, 9, 10, 11, 12, 13, 14, 15, 16, 17, 18, 19, 20, 21, 22, 23, 24, 25, 26, 27, 28, 29, 30, 31, 32] [0, 5] [0, 2, 3, 4, 5, 1, 6, 7, 8, 9, 10, 11, 12, 13, 14, 15, 16, 17, 18, 19, 20, 21, 22, 23, 24, 25, 26, 27, 28, 29, 30, 31, 32] rfl rfl (by decide) (by decide) rfl (by decide) ?_
              refine J_put (ws' := [(ad 0, .inr (0, [.ref (ad 1), .ref (ad 8), .int (zI r11)])), (ad 1, .inr (1, [.ref (ad 2), .ref (ad 3), .ref (ad 4), .ref (ad 5), .ref (ad 6), .int (zI T_nodes), .int (zI T_count)])), (ad 2, .inl (cI, 200, .inl (zA T_kinds))), (ad 3, .inl (cL, 200, .inr (.inl (zB T_args)))), (ad 4, .inl (cI, 200, .inl (zA T_firsts))), (ad 5, .inl (cI, 200, .inl (zA T_lacks))), (ad 6, .inr (2, [.ref (ad 7), .int (zI TB_top)])), (ad 7, .inl (cB, 12800, .inl (zA TB_row))), (ad 8, .inr (3, [.ref (ad 9), .ref (ad 23), .ref (ad 24), .ref (ad 28), .ref (ad 31), .ref (ad 1), .int (zI E_node_12), .int (zI E_scope_13), .int (zI E_value_14)])), (ad 9, .inr (4, [.ref (ad 14), .ref (ad 16), .ref (ad 10), .ref (ad 11), .ref (ad 12), .ref (ad 13), .int (zI V_top_15)])), (ad 10, .inl (cI, 3201, .inl (zA V_kinds_16))), (ad 11, .inl (cL, 3201, .inr (.inl (zB V_numbers_17)))), (ad 12, .inl (cI, 3201, .inl (zA V_parts_18))), (ad 13, .inl (cI, 3201, .inl (zA V_links_19))), (ad 14, .inr (2, [.ref (ad 15), .int (zI VB_top_20)])), (ad 15, .inl (cB, 36864, .inl (zA VB_row_21))), (ad 16, .inr (5, [.ref (ad 17), .ref (ad 18), .ref (ad 19), .ref (ad 20), .ref (ad 21), .ref (ad 22), .int (zI D_top_22)])), (ad 17, .inl (cI, 3201, .inl (zA D_forms_23))), (ad 18, .inl (cI, 3201, .inl (zA D_counts_24))), (ad 19, .inl (cL, 3201, .inr (.inl (zB D_numbers_25)))), (ad 20, .inl (cI, 3201, .inl (zA D_nodes_26))), (ad 21, .inl (cI, 3201, .inl (zA D_depths_27))), (ad 22, .inl (cI, 3201, .inl (zA D_weights_28))), (ad 23, .inr (6, [.int (zI M_steps_29), .int (zI M_memory_30), .int (zI M_mostSteps_31), .int (zI M_mostMemory_32), .int (zI M_fault_33)])), (ad 24, .inr (7, [.ref (ad 25), .ref (ad 26), .ref (ad 27), .int (zI W_depth_34), .int (zI W_most_35)])), (ad 25, .inl (cI, 400, .inl (zA W_nodes_36))), (ad 26, .inl (cI, 400, .inl (zA W_scopes_37))), (ad 27, .inl (cI, 400, .inl (zA W_functions_38))), (ad 28, .inr (8, [.ref (ad 29), .ref (ad 30), .int (zI S_top_39)])), (ad 29, .inl (cI, 3000, .inl (zA S_bound_40))), (ad 30, .inl (cI, 3000, .inl (zA S_outer_41))), (ad 31, .inr (9, [.ref (ad 9), .ref (ad 23), .ref (ad 32), .int (zI B_ready_42)])), (ad 32, .inl (cI, 3, .inl (zA B_given_43)))]) X (j_in in_Cek) ty_Cek tok_Cek nm_Cek 0 rfl rfl 2 (by decide) (j_m own_Cek_run (by decide +kernel)) rfl rfl rfl (Nat.le_of_ble_eq_true rfl) d_Cek_run_72 rfl ?_
              refine J_aload_n X d_Cek_run_75 rfl 0 rfl ?_
              refine J_get X (j_in in_Cek) 0 rfl rfl 2 (by decide) (j_m own_Cek_run (by decide +kernel)) rfl d_Cek_run_76 ?_
              cases h
              exact J_ret E ⟨_, rfl, rfl⟩ d_Cek_run_79 (Nat.le_refl _) (Nat.le_refl _) rfl
            · cases h
    · cases h

theorem d_Cek_result_0 : decode b_Cek_result 0 = .ok (.aload_n 0, 1) := by decide +kernel
theorem d_Cek_result_1 : decode b_Cek_result 1 = .ok (.getfield 25, 3) := by decide +kernel
theorem d_Cek_result_4 : decode b_Cek_result 4 = .ok (.ifCond .ne 13, 3) := by decide +kernel
theorem d_Cek_result_7 : decode b_Cek_result 7 = .ok (.aload_n 0, 1) := by decide +kernel
theorem d_Cek_result_8 : decode b_Cek_result 8 = .ok (.getfield 21, 3) := by decide +kernel
theorem d_Cek_result_11 : decode b_Cek_result 11 = .ok (.invokevirtual 170, 3) := by decide +kernel
theorem d_Cek_result_14 : decode b_Cek_result 14 = .ok (.goto 4, 3) := by decide +kernel
theorem d_Cek_result_17 : decode b_Cek_result 17 = .ok (.iconst (-1), 1) := by decide +kernel
theorem d_Cek_result_18 : decode b_Cek_result 18 = .ok (.ireturn, 1) := by decide +kernel
def f_Cek_result (C_answer : Int) (E_value : Int) : Option (Int) :=
  if rI C_answer = true then (if C_answer = 0 then (
   Option.bind (f_Evaluator_outcome E_value) (fun r2 =>
    some r2)) else (
   some (-1))) else none
set_option maxHeartbeats 4000000 in
set_option maxRecDepth 100000 in
theorem c_Cek_result {l : Launch} {D : va_G} {cI cL cB : ClassId} {ad : Nat → Nat} {C_answer : Int} {E_node : Int} {E_scope : Int} {E_value : Int} {out : Int} (h : f_Cek_result C_answer E_value = some out) : CT jF0 true l D [(cI, .int), (cL, .long), (cB, .byte)] y_Cek_result w_Cek_result ({ frames := 1, cells := 0, slots := 0, locals := 20 } : Room) [.ref (ad 0)] [(ad 0, .inr (0, [.ref (ad 1), .ref (ad 8), .int (zI C_answer)])), (ad 8, .inr (3, [.ref (ad 9), .ref (ad 23), .ref (ad 24), .ref (ad 28), .ref (ad 31), .ref (ad 1), .int (zI E_node), .int (zI E_scope), .int (zI E_value)]))] (some (.int (zI out))) [(ad 0, .inr (0, [.ref (ad 1), .ref (ad 8), .int (zI C_answer)])), (ad 8, .inr (3, [.ref (ad 9), .ref (ad 23), .ref (ad 24), .ref (ad 28), .ref (ad 31), .ref (ad 1), .int (zI E_node), .int (zI E_scope), .int (zI E_value)]))] 0 0 := by
  refine CT_of_J (cc := b_Cek_result) (maxL := 1) (ret := (some .int)) jF0_k (plainFor_of_name (by decide)) rfl (Nat.le_of_ble_eq_true rfl) ?_
  intro K hKl hKD X E
  subst hKl; subst hKD
  unfold f_Cek_result at h
  refine J_aload_n X d_Cek_result_0 rfl 0 rfl ?_
  refine J_get X (j_in in_Cek) 0 rfl rfl 2 (by decide) (j_m own_Cek_result (by decide +kernel)) rfl d_Cek_result_1 ?_
  refine J_if_ne (tgt := 17) X d_Cek_result_4 (by decide) h (fun c1 h => ?_) (fun c1 h => ?_)
  · refine J_iconst X d_Cek_result_17 ?_
    cases h
    exact J_ret E ⟨_, rfl, rfl⟩ d_Cek_result_18 (Nat.le_refl _) (Nat.le_refl _) rfl
  · refine J_aload_n X d_Cek_result_7 rfl 0 rfl ?_
    refine J_get X (j_in in_Cek) 0 rfl rfl 1 (by decide) (j_m own_Cek_result (by decide +kernel)) rfl d_Cek_result_8 ?_
    obtain ⟨r2, q3, h⟩ := wk_b h
    refine J_afterP (jrunV X (c_Evaluator_outcome (ad := ad) q3) jF0_k (fun _ _ _ _ => trivial) (jgV own_Cek_result (by decide +kernel)) rfl rfl rfl pd_Evaluator_outcome (by decide) [1] rfl (by decide) 0 3 rfl rfl rfl rfl (Nat.le_of_ble_eq_true rfl) d_Cek_result_11 (by decide)) ?_
    refine J_goto (tgt := 18) X d_Cek_result_14 (by decide) ?_
    cases h
    exact J_ret E ⟨_, rfl, rfl⟩ d_Cek_result_18 (Nat.le_refl _) (Nat.le_refl _) rfl

theorem d_Cek_kind_0 : decode b_Cek_kind 0 = .ok (.aload_n 0, 1) := by decide +kernel
theorem d_Cek_kind_1 : decode b_Cek_kind 1 = .ok (.getfield 21, 3) := by decide +kernel
theorem d_Cek_kind_4 : decode b_Cek_kind 4 = .ok (.getfield 90, 3) := by decide +kernel
theorem d_Cek_kind_7 : decode b_Cek_kind 7 = .ok (.aload_n 0, 1) := by decide +kernel
theorem d_Cek_kind_8 : decode b_Cek_kind 8 = .ok (.invokevirtual 94, 3) := by decide +kernel
theorem d_Cek_kind_11 : decode b_Cek_kind 11 = .ok (.invokevirtual 97, 3) := by decide +kernel
theorem d_Cek_kind_14 : decode b_Cek_kind 14 = .ok (.ireturn, 1) := by decide +kernel
def f_Cek_kind (C_answer : Int) (E_value : Int) (V_top : Int) (V_kinds : Int → Int) : Option (Int) :=
  Option.bind (f_Cek_result C_answer E_value) (fun r1 =>
   Option.bind (f_Values_kindOf V_top V_kinds r1) (fun r3 =>
    some r3))
set_option maxHeartbeats 4000000 in
set_option maxRecDepth 100000 in
theorem c_Cek_kind {l : Launch} {D : va_G} {cI cL cB : ClassId} {ad : Nat → Nat} {C_answer : Int} {E_node : Int} {E_scope : Int} {E_value : Int} {V_top : Int} {V_kinds : Int → Int} {out : Int} (h : f_Cek_kind C_answer E_value V_top V_kinds = some out) : CT jF0 true l D [(cI, .int), (cL, .long), (cB, .byte)] y_Cek_kind w_Cek_kind ({ frames := 2, cells := 0, slots := 0, locals := 40 } : Room) [.ref (ad 0)] [(ad 0, .inr (0, [.ref (ad 1), .ref (ad 8), .int (zI C_answer)])), (ad 8, .inr (3, [.ref (ad 9), .ref (ad 23), .ref (ad 24), .ref (ad 28), .ref (ad 31), .ref (ad 1), .int (zI E_node), .int (zI E_scope), .int (zI E_value)])), (ad 9, .inr (4, [.ref (ad 14), .ref (ad 16), .ref (ad 10), .ref (ad 11), .ref (ad 12), .ref (ad 13), .int (zI V_top)])), (ad 10, .inl (cI, 3201, .inl (zA V_kinds)))] (some (.int (zI out))) [(ad 0, .inr (0, [.ref (ad 1), .ref (ad 8), .int (zI C_answer)])), (ad 8, .inr (3, [.ref (ad 9), .ref (ad 23), .ref (ad 24), .ref (ad 28), .ref (ad 31), .ref (ad 1), .int (zI E_node), .int (zI E_scope), .int (zI E_value)])), (ad 9, .inr (4, [.ref (ad 14), .ref (ad 16), .ref (ad 10), .ref (ad 11), .ref (ad 12), .ref (ad 13), .int (zI V_top)])), (ad 10, .inl (cI, 3201, .inl (zA V_kinds)))] 0 0 := by
  refine CT_of_J (cc := b_Cek_kind) (maxL := 1) (ret := (some .int)) jF0_k (plainFor_of_name (by decide)) rfl (Nat.le_of_ble_eq_true rfl) ?_
  intro K hKl hKD X E
  subst hKl; subst hKD
  unfold f_Cek_kind at h
  refine J_aload_n X d_Cek_kind_0 rfl 0 rfl ?_
  refine J_get X (j_in in_Cek) 0 rfl rfl 1 (by decide) (j_m own_Cek_kind (by decide +kernel)) rfl d_Cek_kind_1 ?_
  refine J_get X (j_in in_Evaluator) 1 rfl rfl 0 (by decide) (j_m own_Cek_kind (by decide +kernel)) rfl d_Cek_kind_4 ?_
  refine J_aload_n X d_Cek_kind_7 rfl 0 rfl ?_
  obtain ⟨r1, q2, h⟩ := wk_b h
  refine J_afterP (jrunV X (c_Cek_result (ad := ad) q2) jF0_k (fun _ _ _ _ => trivial) (jgV own_Cek_kind (by decide +kernel)) rfl rfl rfl pd_Cek_result (by decide) [0, 1] rfl (by decide) 0 0 rfl rfl rfl rfl (Nat.le_of_ble_eq_true rfl) d_Cek_kind_8 (by decide)) ?_
  obtain ⟨r3, q4, h⟩ := wk_b h
  refine J_afterP (jrunV X (c_Values_kindOf (ad := ad) q4) jF0_k (fun _ _ _ _ => trivial) (jgV own_Cek_kind (by decide +kernel)) rfl rfl rfl pd_Values_kindOf (by decide) [2, 3] rfl (by decide) 0 4 rfl rfl rfl rfl (Nat.le_of_ble_eq_true rfl) d_Cek_kind_11 (by decide)) ?_
  cases h
  exact J_ret E ⟨_, rfl, rfl⟩ d_Cek_kind_14 (Nat.le_refl _) (Nat.le_refl _) rfl

theorem d_Cek_number_0 : decode b_Cek_number 0 = .ok (.aload_n 0, 1) := by decide +kernel
theorem d_Cek_number_1 : decode b_Cek_number 1 = .ok (.invokevirtual 94, 3) := by decide +kernel
theorem d_Cek_number_4 : decode b_Cek_number 4 = .ok (.istore_n 1, 1) := by decide +kernel
theorem d_Cek_number_5 : decode b_Cek_number 5 = .ok (.iload_n 1, 1) := by decide +kernel
theorem d_Cek_number_6 : decode b_Cek_number 6 = .ok (.iconst (-1), 1) := by decide +kernel
theorem d_Cek_number_7 : decode b_Cek_number 7 = .ok (.if_icmp .ne 13, 3) := by decide +kernel
theorem d_Cek_number_10 : decode b_Cek_number 10 = .ok (.new 55, 3) := by decide +kernel
theorem d_Cek_number_13 : decode b_Cek_number 13 = .ok (.dup, 1) := by decide +kernel
theorem d_Cek_number_14 : decode b_Cek_number 14 = .ok (.ldc 102, 2) := by decide +kernel
theorem d_Cek_number_16 : decode b_Cek_number 16 = .ok (.invokespecial 59, 3) := by decide +kernel
theorem d_Cek_number_19 : decode b_Cek_number 19 = .ok (.athrow, 1) := by decide +kernel
theorem d_Cek_number_20 : decode b_Cek_number 20 = .ok (.aload_n 0, 1) := by decide +kernel
theorem d_Cek_number_21 : decode b_Cek_number 21 = .ok (.getfield 21, 3) := by decide +kernel
theorem d_Cek_number_24 : decode b_Cek_number 24 = .ok (.getfield 90, 3) := by decide +kernel
theorem d_Cek_number_27 : decode b_Cek_number 27 = .ok (.iload_n 1, 1) := by decide +kernel
theorem d_Cek_number_28 : decode b_Cek_number 28 = .ok (.invokevirtual 104, 3) := by decide +kernel
theorem d_Cek_number_31 : decode b_Cek_number 31 = .ok (.lreturn, 1) := by decide +kernel
def f_Cek_number (C_answer : Int) (E_value : Int) (V_top : Int) (V_kinds : Int → Int) (V_numbers : Int → Int) (V_parts : Int → Int) (V_links : Int → Int) (D_top : Int) (D_nodes : Int → Int) : Option (Int) :=
  Option.bind (f_Cek_result C_answer E_value) (fun r1 =>
   if jr2 r1 (-1) = true then (if r1 = (-1) then (
    none) else (
    Option.bind (f_Values_asNumber V_top V_kinds V_numbers V_parts V_links D_top D_nodes r1) (fun r4 =>
     some r4))) else none)
set_option maxHeartbeats 4000000 in
set_option maxRecDepth 100000 in
theorem c_Cek_number {l : Launch} {D : va_G} {cI cL cB : ClassId} {ad : Nat → Nat} {C_answer : Int} {E_node : Int} {E_scope : Int} {E_value : Int} {V_top : Int} {V_kinds : Int → Int} {V_numbers : Int → Int} {V_parts : Int → Int} {V_links : Int → Int} {D_top : Int} {D_nodes : Int → Int} {out : Int} (h : f_Cek_number C_answer E_value V_top V_kinds V_numbers V_parts V_links D_top D_nodes = some out) : CT jF0 true l D [(cI, .int), (cL, .long), (cB, .byte)] y_Cek_number w_Cek_number ({ frames := 3, cells := 0, slots := 0, locals := 63 } : Room) [.ref (ad 0)] [(ad 0, .inr (0, [.ref (ad 1), .ref (ad 8), .int (zI C_answer)])), (ad 8, .inr (3, [.ref (ad 9), .ref (ad 23), .ref (ad 24), .ref (ad 28), .ref (ad 31), .ref (ad 1), .int (zI E_node), .int (zI E_scope), .int (zI E_value)])), (ad 9, .inr (4, [.ref (ad 14), .ref (ad 16), .ref (ad 10), .ref (ad 11), .ref (ad 12), .ref (ad 13), .int (zI V_top)])), (ad 10, .inl (cI, 3201, .inl (zA V_kinds))), (ad 11, .inl (cL, 3201, .inr (.inl (zB V_numbers)))), (ad 12, .inl (cI, 3201, .inl (zA V_parts))), (ad 13, .inl (cI, 3201, .inl (zA V_links))), (ad 16, .inr (5, [.ref (ad 17), .ref (ad 18), .ref (ad 19), .ref (ad 20), .ref (ad 21), .ref (ad 22), .int (zI D_top)])), (ad 20, .inl (cI, 3201, .inl (zA D_nodes)))] (some (.long (zL out))) [(ad 0, .inr (0, [.ref (ad 1), .ref (ad 8), .int (zI C_answer)])), (ad 8, .inr (3, [.ref (ad 9), .ref (ad 23), .ref (ad 24), .ref (ad 28), .ref (ad 31), .ref (ad 1), .int (zI E_node), .int (zI E_scope), .int (zI E_value)])), (ad 9, .inr (4, [.ref (ad 14), .ref (ad 16), .ref (ad 10), .ref (ad 11), .ref (ad 12), .ref (ad 13), .int (zI V_top)])), (ad 10, .inl (cI, 3201, .inl (zA V_kinds))), (ad 11, .inl (cL, 3201, .inr (.inl (zB V_numbers)))), (ad 12, .inl (cI, 3201, .inl (zA V_parts))), (ad 13, .inl (cI, 3201, .inl (zA V_links))), (ad 16, .inr (5, [.ref (ad 17), .ref (ad 18), .ref (ad 19), .ref (ad 20), .ref (ad 21), .ref (ad 22), .int (zI D_top)])), (ad 20, .inl (cI, 3201, .inl (zA D_nodes)))] 0 0 := by
  refine CT_of_J (cc := b_Cek_number) (maxL := 2) (ret := (some .long)) jF0_k (plainFor_of_name (by decide)) rfl (Nat.le_of_ble_eq_true rfl) ?_
  intro K hKl hKD X E
  subst hKl; subst hKD
  unfold f_Cek_number at h
  refine J_aload_n X d_Cek_number_0 rfl 0 rfl ?_
  obtain ⟨r1, q2, h⟩ := wk_b h
  refine J_afterP (jrunV X (c_Cek_result (ad := ad) q2) jF0_k (fun _ _ _ _ => trivial) (jgV own_Cek_number (by decide +kernel)) rfl rfl rfl pd_Cek_result (by decide) [0, 1] rfl (by decide) 0 0 rfl rfl rfl rfl (Nat.le_of_ble_eq_true rfl) d_Cek_number_1 (by decide)) ?_
  refine J_istore_n (lv' := [(1, .int (zI r1)), (0, .ref (ad 0))]) X d_Cek_number_4 rfl (by decide) rfl ?_
  refine J_iload_n X d_Cek_number_5 rfl 0 rfl ?_
  refine J_iconst X d_Cek_number_6 ?_
  refine J_icmp_ne (tgt := 20) X d_Cek_number_7 (by decide) h (fun c3 h => ?_) (fun c3 h => ?_)
  · refine J_aload_n X d_Cek_number_20 rfl 1 rfl ?_
    refine J_get X (j_in in_Cek) 0 rfl rfl 1 (by decide) (j_m own_Cek_number (by decide +kernel)) rfl d_Cek_number_21 ?_
    refine J_get X (j_in in_Evaluator) 1 rfl rfl 0 (by decide) (j_m own_Cek_number (by decide +kernel)) rfl d_Cek_number_24 ?_
    refine J_iload_n X d_Cek_number_27 rfl 0 rfl ?_
    obtain ⟨r4, q5, h⟩ := wk_b h
    refine J_afterP (jrunV X (c_Values_asNumber (ad := ad) q5) jF0_k (fun _ _ _ _ => trivial) (jgV own_Cek_number (by decide +kernel)) rfl rfl rfl pd_Values_asNumber (by decide) [2, 3, 4, 5, 6, 7, 8] rfl (by decide) 0 4 rfl rfl rfl rfl (Nat.le_of_ble_eq_true rfl) d_Cek_number_28 (by decide)) ?_
    cases h
    exact J_ret E rfl d_Cek_number_31 (Nat.le_refl _) (Nat.le_refl _) rfl
  · cases h

theorem d_Cek_byteAt_0 : decode b_Cek_byteAt 0 = .ok (.aload_n 0, 1) := by decide +kernel
theorem d_Cek_byteAt_1 : decode b_Cek_byteAt 1 = .ok (.getfield 21, 3) := by decide +kernel
theorem d_Cek_byteAt_4 : decode b_Cek_byteAt 4 = .ok (.getfield 90, 3) := by decide +kernel
theorem d_Cek_byteAt_7 : decode b_Cek_byteAt 7 = .ok (.astore_n 2, 1) := by decide +kernel
theorem d_Cek_byteAt_8 : decode b_Cek_byteAt 8 = .ok (.aload_n 0, 1) := by decide +kernel
theorem d_Cek_byteAt_9 : decode b_Cek_byteAt 9 = .ok (.invokevirtual 94, 3) := by decide +kernel
theorem d_Cek_byteAt_12 : decode b_Cek_byteAt 12 = .ok (.istore_n 3, 1) := by decide +kernel
theorem d_Cek_byteAt_13 : decode b_Cek_byteAt 13 = .ok (.aload_n 2, 1) := by decide +kernel
theorem d_Cek_byteAt_14 : decode b_Cek_byteAt 14 = .ok (.iload_n 3, 1) := by decide +kernel
theorem d_Cek_byteAt_15 : decode b_Cek_byteAt 15 = .ok (.invokevirtual 97, 3) := by decide +kernel
theorem d_Cek_byteAt_18 : decode b_Cek_byteAt 18 = .ok (.iconst 1, 1) := by decide +kernel
theorem d_Cek_byteAt_19 : decode b_Cek_byteAt 19 = .ok (.if_icmp .ne 16, 3) := by decide +kernel
theorem d_Cek_byteAt_22 : decode b_Cek_byteAt 22 = .ok (.iload_n 1, 1) := by decide +kernel
theorem d_Cek_byteAt_23 : decode b_Cek_byteAt 23 = .ok (.ifCond .lt 12, 3) := by decide +kernel
theorem d_Cek_byteAt_26 : decode b_Cek_byteAt 26 = .ok (.iload_n 1, 1) := by decide +kernel
theorem d_Cek_byteAt_27 : decode b_Cek_byteAt 27 = .ok (.aload_n 2, 1) := by decide +kernel
theorem d_Cek_byteAt_28 : decode b_Cek_byteAt 28 = .ok (.iload_n 3, 1) := by decide +kernel
theorem d_Cek_byteAt_29 : decode b_Cek_byteAt 29 = .ok (.invokevirtual 108, 3) := by decide +kernel
theorem d_Cek_byteAt_32 : decode b_Cek_byteAt 32 = .ok (.if_icmp .lt 5, 3) := by decide +kernel
theorem d_Cek_byteAt_35 : decode b_Cek_byteAt 35 = .ok (.iconst (-1), 1) := by decide +kernel
theorem d_Cek_byteAt_36 : decode b_Cek_byteAt 36 = .ok (.ireturn, 1) := by decide +kernel
theorem d_Cek_byteAt_37 : decode b_Cek_byteAt 37 = .ok (.aload_n 2, 1) := by decide +kernel
theorem d_Cek_byteAt_38 : decode b_Cek_byteAt 38 = .ok (.getfield 111, 3) := by decide +kernel
theorem d_Cek_byteAt_41 : decode b_Cek_byteAt 41 = .ok (.aload_n 2, 1) := by decide +kernel
theorem d_Cek_byteAt_42 : decode b_Cek_byteAt 42 = .ok (.iload_n 3, 1) := by decide +kernel
theorem d_Cek_byteAt_43 : decode b_Cek_byteAt 43 = .ok (.invokevirtual 115, 3) := by decide +kernel
theorem d_Cek_byteAt_46 : decode b_Cek_byteAt 46 = .ok (.iload_n 1, 1) := by decide +kernel
theorem d_Cek_byteAt_47 : decode b_Cek_byteAt 47 = .ok (.iadd, 1) := by decide +kernel
theorem d_Cek_byteAt_48 : decode b_Cek_byteAt 48 = .ok (.invokevirtual 118, 3) := by decide +kernel
theorem d_Cek_byteAt_51 : decode b_Cek_byteAt 51 = .ok (.ireturn, 1) := by decide +kernel
def f_Cek_byteAt (C_answer : Int) (E_value : Int) (V_top : Int) (V_kinds : Int → Int) (V_parts : Int → Int) (V_links : Int → Int) (VB_row : Int → Int) (p1 : Int) : Option (Int) :=
  Option.bind (f_Cek_result C_answer E_value) (fun r1 =>
   Option.bind (f_Values_kindOf V_top V_kinds r1) (fun r3 =>
    if jr2 r3 1 = true then (if r3 = 1 then (
     if rI p1 = true then (if p1 < 0 then (
      some (-1)) else (
      Option.bind (f_Values_lengthOf V_top V_links r1) (fun r7 =>
       if jr2 p1 r7 = true then (if p1 < r7 then (
        Option.bind (f_Values_startOf V_top V_parts r1) (fun r10 =>
         Option.bind (f_ByteRow_at 36864 VB_row (r10 + p1)) (fun r12 =>
          some r12))) else (
        some (-1))) else none))) else none) else (
     some (-1))) else none))
set_option maxHeartbeats 4000000 in
set_option maxRecDepth 100000 in
theorem c_Cek_byteAt {l : Launch} {D : va_G} {cI cL cB : ClassId} {ad : Nat → Nat} {C_answer : Int} {E_node : Int} {E_scope : Int} {E_value : Int} {V_top : Int} {V_kinds : Int → Int} {V_parts : Int → Int} {V_links : Int → Int} {VB_top : Int} {VB_row : Int → Int} {p1 : Int} {out : Int} (h : f_Cek_byteAt C_answer E_value V_top V_kinds V_parts V_links VB_row p1 = some out) : CT jF0 true l D [(cI, .int), (cL, .long), (cB, .byte)] y_Cek_byteAt w_Cek_byteAt ({ frames := 2, cells := 0, slots := 0, locals := 42 } : Room) [.ref (ad 0), .int (zI p1)] [(ad 0, .inr (0, [.ref (ad 1), .ref (ad 8), .int (zI C_answer)])), (ad 8, .inr (3, [.ref (ad 9), .ref (ad 23), .ref (ad 24), .ref (ad 28), .ref (ad 31), .ref (ad 1), .int (zI E_node), .int (zI E_scope), .int (zI E_value)])), (ad 9, .inr (4, [.ref (ad 14), .ref (ad 16), .ref (ad 10), .ref (ad 11), .ref (ad 12), .ref (ad 13), .int (zI V_top)])), (ad 10, .inl (cI, 3201, .inl (zA V_kinds))), (ad 12, .inl (cI, 3201, .inl (zA V_parts))), (ad 13, .inl (cI, 3201, .inl (zA V_links))), (ad 14, .inr (2, [.ref (ad 15), .int (zI VB_top)])), (ad 15, .inl (cB, 36864, .inl (zA VB_row)))] (some (.int (zI out))) [(ad 0, .inr (0, [.ref (ad 1), .ref (ad 8), .int (zI C_answer)])), (ad 8, .inr (3, [.ref (ad 9), .ref (ad 23), .ref (ad 24), .ref (ad 28), .ref (ad 31), .ref (ad 1), .int (zI E_node), .int (zI E_scope), .int (zI E_value)])), (ad 9, .inr (4, [.ref (ad 14), .ref (ad 16), .ref (ad 10), .ref (ad 11), .ref (ad 12), .ref (ad 13), .int (zI V_top)])), (ad 10, .inl (cI, 3201, .inl (zA V_kinds))), (ad 12, .inl (cI, 3201, .inl (zA V_parts))), (ad 13, .inl (cI, 3201, .inl (zA V_links))), (ad 14, .inr (2, [.ref (ad 15), .int (zI VB_top)])), (ad 15, .inl (cB, 36864, .inl (zA VB_row)))] 0 0 := by
  refine CT_of_J (cc := b_Cek_byteAt) (maxL := 4) (ret := (some .int)) jF0_k (plainFor_of_name (by decide)) rfl (Nat.le_of_ble_eq_true rfl) ?_
  intro K hKl hKD X E
  subst hKl; subst hKD
  unfold f_Cek_byteAt at h
  refine J_aload_n X d_Cek_byteAt_0 rfl 0 rfl ?_
  refine J_get X (j_in in_Cek) 0 rfl rfl 1 (by decide) (j_m own_Cek_byteAt (by decide +kernel)) rfl d_Cek_byteAt_1 ?_
  refine J_get X (j_in in_Evaluator) 1 rfl rfl 0 (by decide) (j_m own_Cek_byteAt (by decide +kernel)) rfl d_Cek_byteAt_4 ?_
  refine J_astore_n (lv' := [(2, .ref (ad 9)), (0, .ref (ad 0)), (1, .int (zI p1))]) X d_Cek_byteAt_7 rfl (by decide) rfl ?_
  refine J_aload_n X d_Cek_byteAt_8 rfl 1 rfl ?_
  obtain ⟨r1, q2, h⟩ := wk_b h
  refine J_afterP (jrunV X (c_Cek_result (ad := ad) q2) jF0_k (fun _ _ _ _ => trivial) (jgV own_Cek_byteAt (by decide +kernel)) rfl rfl rfl pd_Cek_result (by decide) [0, 1] rfl (by decide) 0 0 rfl rfl rfl rfl (Nat.le_of_ble_eq_true rfl) d_Cek_byteAt_9 (by decide)) ?_
  refine J_istore_n (lv' := [(3, .int (zI r1)), (2, .ref (ad 9)), (0, .ref (ad 0)), (1, .int (zI p1))]) X d_Cek_byteAt_12 rfl (by decide) rfl ?_
  refine J_aload_n X d_Cek_byteAt_13 rfl 1 rfl ?_
  refine J_iload_n X d_Cek_byteAt_14 rfl 0 rfl ?_
  obtain ⟨r3, q4, h⟩ := wk_b h
  refine J_afterP (jrunV X (c_Values_kindOf (ad := ad) q4) jF0_k (fun _ _ _ _ => trivial) (jgV own_Cek_byteAt (by decide +kernel)) rfl rfl rfl pd_Values_kindOf (by decide) [2, 3] rfl (by decide) 0 4 rfl rfl rfl rfl (Nat.le_of_ble_eq_true rfl) d_Cek_byteAt_15 (by decide)) ?_
  refine J_iconst X d_Cek_byteAt_18 ?_
  refine J_icmp_ne (tgt := 35) X d_Cek_byteAt_19 (by decide) h (fun c5 h => ?_) (fun c5 h => ?_)
  · refine J_iconst X d_Cek_byteAt_35 ?_
    cases h
    exact J_ret E ⟨_, rfl, rfl⟩ d_Cek_byteAt_36 (Nat.le_refl _) (Nat.le_refl _) rfl
  · refine J_iload_n X d_Cek_byteAt_22 rfl 3 rfl ?_
    refine J_if_lt (tgt := 35) X d_Cek_byteAt_23 (by decide) h (fun c6 h => ?_) (fun c6 h => ?_)
    · refine J_iconst X d_Cek_byteAt_35 ?_
      cases h
      exact J_ret E ⟨_, rfl, rfl⟩ d_Cek_byteAt_36 (Nat.le_refl _) (Nat.le_refl _) rfl
    · refine J_iload_n X d_Cek_byteAt_26 rfl 3 rfl ?_
      refine J_aload_n X d_Cek_byteAt_27 rfl 1 rfl ?_
      refine J_iload_n X d_Cek_byteAt_28 rfl 0 rfl ?_
      obtain ⟨r7, q8, h⟩ := wk_b h
      refine J_afterP (jrunV X (c_Values_lengthOf (ad := ad) q8) jF0_k (fun _ _ _ _ => trivial) (jgV own_Cek_byteAt (by decide +kernel)) rfl rfl rfl pd_Values_lengthOf (by decide) [2, 5] rfl (by decide) 0 4 rfl rfl rfl rfl (Nat.le_of_ble_eq_true rfl) d_Cek_byteAt_29 (by decide)) ?_
      refine J_icmp_lt (tgt := 37) X d_Cek_byteAt_32 (by decide) h (fun c9 h => ?_) (fun c9 h => ?_)
      · refine J_aload_n X d_Cek_byteAt_37 rfl 1 rfl ?_
        refine J_get X (j_in in_Values) 2 rfl rfl 0 (by decide) (j_m own_Cek_byteAt (by decide +kernel)) rfl d_Cek_byteAt_38 ?_
        refine J_aload_n X d_Cek_byteAt_41 rfl 1 rfl ?_
        refine J_iload_n X d_Cek_byteAt_42 rfl 0 rfl ?_
        obtain ⟨r10, q11, h⟩ := wk_b h
        refine J_afterP (jrunV X (c_Values_startOf (ad := ad) q11) jF0_k (fun _ _ _ _ => trivial) (jgV own_Cek_byteAt (by decide +kernel)) rfl rfl rfl pd_Values_startOf (by decide) [2, 4] rfl (by decide) 0 4 rfl rfl rfl rfl (Nat.le_of_ble_eq_true rfl) d_Cek_byteAt_43 (by decide)) ?_
        refine J_iload_n X d_Cek_byteAt_46 rfl 3 rfl ?_
        refine J_iadd X d_Cek_byteAt_47 ?_
        obtain ⟨r12, q13, h⟩ := wk_b h
        refine J_afterP (jrunV X (c_ByteRow_at (xa := ad 14) (xb := ad 15) q13) jF0_k (fun _ _ _ _ => trivial) (jgV own_Cek_byteAt (by decide +kernel)) rfl rfl rfl pd_ByteRow_at (by decide) [6, 7] rfl (by decide) 0 2 rfl rfl rfl rfl (Nat.le_of_ble_eq_true rfl) d_Cek_byteAt_48 (by decide)) ?_
        cases h
        exact J_ret E ⟨_, rfl, rfl⟩ d_Cek_byteAt_51 (Nat.le_refl _) (Nat.le_refl _) rfl
      · refine J_iconst X d_Cek_byteAt_35 ?_
        cases h
        exact J_ret E ⟨_, rfl, rfl⟩ d_Cek_byteAt_36 (Nat.le_refl _) (Nat.le_refl _) rfl

theorem d_Cek_placeOfData_0 : decode b_Cek_placeOfData 0 = .ok (.aload_n 0, 1) := by decide +kernel
theorem d_Cek_placeOfData_1 : decode b_Cek_placeOfData 1 = .ok (.getfield 21, 3) := by decide +kernel
theorem d_Cek_placeOfData_4 : decode b_Cek_placeOfData 4 = .ok (.getfield 90, 3) := by decide +kernel
theorem d_Cek_placeOfData_7 : decode b_Cek_placeOfData 7 = .ok (.astore_n 2, 1) := by decide +kernel
theorem d_Cek_placeOfData_8 : decode b_Cek_placeOfData 8 = .ok (.aload_n 0, 1) := by decide +kernel
theorem d_Cek_placeOfData_9 : decode b_Cek_placeOfData 9 = .ok (.invokevirtual 94, 3) := by decide +kernel
theorem d_Cek_placeOfData_12 : decode b_Cek_placeOfData 12 = .ok (.istore_n 3, 1) := by decide +kernel
theorem d_Cek_placeOfData_13 : decode b_Cek_placeOfData 13 = .ok (.aload_n 2, 1) := by decide +kernel
theorem d_Cek_placeOfData_14 : decode b_Cek_placeOfData 14 = .ok (.iload_n 3, 1) := by decide +kernel
theorem d_Cek_placeOfData_15 : decode b_Cek_placeOfData 15 = .ok (.invokevirtual 97, 3) := by decide +kernel
theorem d_Cek_placeOfData_18 : decode b_Cek_placeOfData 18 = .ok (.iconst 4, 1) := by decide +kernel
theorem d_Cek_placeOfData_19 : decode b_Cek_placeOfData 19 = .ok (.if_icmp .eq 5, 3) := by decide +kernel
theorem d_Cek_placeOfData_22 : decode b_Cek_placeOfData 22 = .ok (.iconst (-1), 1) := by decide +kernel
theorem d_Cek_placeOfData_23 : decode b_Cek_placeOfData 23 = .ok (.ireturn, 1) := by decide +kernel
theorem d_Cek_placeOfData_24 : decode b_Cek_placeOfData 24 = .ok (.aload_n 2, 1) := by decide +kernel
theorem d_Cek_placeOfData_25 : decode b_Cek_placeOfData 25 = .ok (.iload_n 3, 1) := by decide +kernel
theorem d_Cek_placeOfData_26 : decode b_Cek_placeOfData 26 = .ok (.invokevirtual 173, 3) := by decide +kernel
theorem d_Cek_placeOfData_29 : decode b_Cek_placeOfData 29 = .ok (.istore 4, 2) := by decide +kernel
theorem d_Cek_placeOfData_31 : decode b_Cek_placeOfData 31 = .ok (.iload_n 1, 1) := by decide +kernel
theorem d_Cek_placeOfData_32 : decode b_Cek_placeOfData 32 = .ok (.ifCond .lt 23, 3) := by decide +kernel
theorem d_Cek_placeOfData_35 : decode b_Cek_placeOfData 35 = .ok (.iload_n 1, 1) := by decide +kernel
theorem d_Cek_placeOfData_36 : decode b_Cek_placeOfData 36 = .ok (.aload_n 2, 1) := by decide +kernel
theorem d_Cek_placeOfData_37 : decode b_Cek_placeOfData 37 = .ok (.getfield 123, 3) := by decide +kernel
theorem d_Cek_placeOfData_40 : decode b_Cek_placeOfData 40 = .ok (.iload 4, 2) := by decide +kernel
theorem d_Cek_placeOfData_42 : decode b_Cek_placeOfData 42 = .ok (.invokevirtual 176, 3) := by decide +kernel
theorem d_Cek_placeOfData_45 : decode b_Cek_placeOfData 45 = .ok (.if_icmp .ge 10, 3) := by decide +kernel
theorem d_Cek_placeOfData_48 : decode b_Cek_placeOfData 48 = .ok (.iload 4, 2) := by decide +kernel
theorem d_Cek_placeOfData_50 : decode b_Cek_placeOfData 50 = .ok (.iload_n 1, 1) := by decide +kernel
theorem d_Cek_placeOfData_51 : decode b_Cek_placeOfData 51 = .ok (.iadd, 1) := by decide +kernel
theorem d_Cek_placeOfData_52 : decode b_Cek_placeOfData 52 = .ok (.goto 4, 3) := by decide +kernel
theorem d_Cek_placeOfData_55 : decode b_Cek_placeOfData 55 = .ok (.iconst (-1), 1) := by decide +kernel
theorem d_Cek_placeOfData_56 : decode b_Cek_placeOfData 56 = .ok (.ireturn, 1) := by decide +kernel
def f_Cek_placeOfData (C_answer : Int) (E_value : Int) (V_top : Int) (V_kinds : Int → Int) (V_parts : Int → Int) (D_top : Int) (D_nodes : Int → Int) (p1 : Int) : Option (Int) :=
  Option.bind (f_Cek_result C_answer E_value) (fun r1 =>
   Option.bind (f_Values_kindOf V_top V_kinds r1) (fun r3 =>
    if jr2 r3 4 = true then (if r3 = 4 then (
     Option.bind (f_Values_rootOf V_top V_parts r1) (fun r6 =>
      if rI p1 = true then (if p1 < 0 then (
       some (-1)) else (
       Option.bind (f_DataRow_nodesOf D_top D_nodes r6) (fun r9 =>
        if jr2 p1 r9 = true then (if r9 ≤ p1 then (
         some (-1)) else (
         some (r6 + p1))) else none))) else none)) else (
     some (-1))) else none))
set_option maxHeartbeats 4000000 in
set_option maxRecDepth 100000 in
theorem c_Cek_placeOfData {l : Launch} {D : va_G} {cI cL cB : ClassId} {ad : Nat → Nat} {C_answer : Int} {E_node : Int} {E_scope : Int} {E_value : Int} {V_top : Int} {V_kinds : Int → Int} {V_parts : Int → Int} {D_top : Int} {D_nodes : Int → Int} {p1 : Int} {out : Int} (h : f_Cek_placeOfData C_answer E_value V_top V_kinds V_parts D_top D_nodes p1 = some out) : CT jF0 true l D [(cI, .int), (cL, .long), (cB, .byte)] y_Cek_placeOfData w_Cek_placeOfData ({ frames := 2, cells := 0, slots := 0, locals := 42 } : Room) [.ref (ad 0), .int (zI p1)] [(ad 0, .inr (0, [.ref (ad 1), .ref (ad 8), .int (zI C_answer)])), (ad 8, .inr (3, [.ref (ad 9), .ref (ad 23), .ref (ad 24), .ref (ad 28), .ref (ad 31), .ref (ad 1), .int (zI E_node), .int (zI E_scope), .int (zI E_value)])), (ad 9, .inr (4, [.ref (ad 14), .ref (ad 16), .ref (ad 10), .ref (ad 11), .ref (ad 12), .ref (ad 13), .int (zI V_top)])), (ad 10, .inl (cI, 3201, .inl (zA V_kinds))), (ad 12, .inl (cI, 3201, .inl (zA V_parts))), (ad 16, .inr (5, [.ref (ad 17), .ref (ad 18), .ref (ad 19), .ref (ad 20), .ref (ad 21), .ref (ad 22), .int (zI D_top)])), (ad 20, .inl (cI, 3201, .inl (zA D_nodes)))] (some (.int (zI out))) [(ad 0, .inr (0, [.ref (ad 1), .ref (ad 8), .int (zI C_answer)])), (ad 8, .inr (3, [.ref (ad 9), .ref (ad 23), .ref (ad 24), .ref (ad 28), .ref (ad 31), .ref (ad 1), .int (zI E_node), .int (zI E_scope), .int (zI E_value)])), (ad 9, .inr (4, [.ref (ad 14), .ref (ad 16), .ref (ad 10), .ref (ad 11), .ref (ad 12), .ref (ad 13), .int (zI V_top)])), (ad 10, .inl (cI, 3201, .inl (zA V_kinds))), (ad 12, .inl (cI, 3201, .inl (zA V_parts))), (ad 16, .inr (5, [.ref (ad 17), .ref (ad 18), .ref (ad 19), .ref (ad 20), .ref (ad 21), .ref (ad 22), .int (zI D_top)])), (ad 20, .inl (cI, 3201, .inl (zA D_nodes)))] 0 0 := by
  refine CT_of_J (cc := b_Cek_placeOfData) (maxL := 5) (ret := (some .int)) jF0_k (plainFor_of_name (by decide)) rfl (Nat.le_of_ble_eq_true rfl) ?_
  intro K hKl hKD X E
  subst hKl; subst hKD
  unfold f_Cek_placeOfData at h
  refine J_aload_n X d_Cek_placeOfData_0 rfl 0 rfl ?_
  refine J_get X (j_in in_Cek) 0 rfl rfl 1 (by decide) (j_m own_Cek_placeOfData (by decide +kernel)) rfl d_Cek_placeOfData_1 ?_
  refine J_get X (j_in in_Evaluator) 1 rfl rfl 0 (by decide) (j_m own_Cek_placeOfData (by decide +kernel)) rfl d_Cek_placeOfData_4 ?_
  refine J_astore_n (lv' := [(2, .ref (ad 9)), (0, .ref (ad 0)), (1, .int (zI p1))]) X d_Cek_placeOfData_7 rfl (by decide) rfl ?_
  refine J_aload_n X d_Cek_placeOfData_8 rfl 1 rfl ?_
  obtain ⟨r1, q2, h⟩ := wk_b h
  refine J_afterP (jrunV X (c_Cek_result (ad := ad) q2) jF0_k (fun _ _ _ _ => trivial) (jgV own_Cek_placeOfData (by decide +kernel)) rfl rfl rfl pd_Cek_result (by decide) [0, 1] rfl (by decide) 0 0 rfl rfl rfl rfl (Nat.le_of_ble_eq_true rfl) d_Cek_placeOfData_9 (by decide)) ?_
  refine J_istore_n (lv' := [(3, .int (zI r1)), (2, .ref (ad 9)), (0, .ref (ad 0)), (1, .int (zI p1))]) X d_Cek_placeOfData_12 rfl (by decide) rfl ?_
  refine J_aload_n X d_Cek_placeOfData_13 rfl 1 rfl ?_
  refine J_iload_n X d_Cek_placeOfData_14 rfl 0 rfl ?_
  obtain ⟨r3, q4, h⟩ := wk_b h
  refine J_afterP (jrunV X (c_Values_kindOf (ad := ad) q4) jF0_k (fun _ _ _ _ => trivial) (jgV own_Cek_placeOfData (by decide +kernel)) rfl rfl rfl pd_Values_kindOf (by decide) [2, 3] rfl (by decide) 0 4 rfl rfl rfl rfl (Nat.le_of_ble_eq_true rfl) d_Cek_placeOfData_15 (by decide)) ?_
  refine J_iconst X d_Cek_placeOfData_18 ?_
  refine J_icmp_eq (tgt := 24) X d_Cek_placeOfData_19 (by decide) h (fun c5 h => ?_) (fun c5 h => ?_)
  · refine J_aload_n X d_Cek_placeOfData_24 rfl 1 rfl ?_
    refine J_iload_n X d_Cek_placeOfData_25 rfl 0 rfl ?_
    obtain ⟨r6, q7, h⟩ := wk_b h
    refine J_afterP (jrunV X (c_Values_rootOf (ad := ad) q7) jF0_k (fun _ _ _ _ => trivial) (jgV own_Cek_placeOfData (by decide +kernel)) rfl rfl rfl pd_Values_rootOf (by decide) [2, 4] rfl (by decide) 0 4 rfl rfl rfl rfl (Nat.le_of_ble_eq_true rfl) d_Cek_placeOfData_26 (by decide)) ?_
    refine J_istore (lv' := [(4, .int (zI r6)), (3, .int (zI r1)), (2, .ref (ad 9)), (0, .ref (ad 0)), (1, .int (zI p1))]) X d_Cek_placeOfData_29 (by decide) rfl ?_
    refine J_iload_n X d_Cek_placeOfData_31 rfl 4 rfl ?_
    refine J_if_lt (tgt := 55) X d_Cek_placeOfData_32 (by decide) h (fun c8 h => ?_) (fun c8 h => ?_)
    · refine J_iconst X d_Cek_placeOfData_55 ?_
      cases h
      exact J_ret E ⟨_, rfl, rfl⟩ d_Cek_placeOfData_56 (Nat.le_refl _) (Nat.le_refl _) rfl
    · refine J_iload_n X d_Cek_placeOfData_35 rfl 4 rfl ?_
      refine J_aload_n X d_Cek_placeOfData_36 rfl 2 rfl ?_
      refine J_get X (j_in in_Values) 2 rfl rfl 1 (by decide) (j_m own_Cek_placeOfData (by decide +kernel)) rfl d_Cek_placeOfData_37 ?_
      refine J_iload X d_Cek_placeOfData_40 0 rfl ?_
      obtain ⟨r9, q10, h⟩ := wk_b h
      refine J_afterP (jrunV X (c_DataRow_nodesOf (ad := ad) q10) jF0_k (fun _ _ _ _ => trivial) (jgV own_Cek_placeOfData (by decide +kernel)) rfl rfl rfl pd_DataRow_nodesOf (by decide) [5, 6] rfl (by decide) 0 5 rfl rfl rfl rfl (Nat.le_of_ble_eq_true rfl) d_Cek_placeOfData_42 (by decide)) ?_
      refine J_icmp_ge (tgt := 55) X d_Cek_placeOfData_45 (by decide) h (fun c11 h => ?_) (fun c11 h => ?_)
      · refine J_iconst X d_Cek_placeOfData_55 ?_
        cases h
        exact J_ret E ⟨_, rfl, rfl⟩ d_Cek_placeOfData_56 (Nat.le_refl _) (Nat.le_refl _) rfl
      · refine J_iload X d_Cek_placeOfData_48 0 rfl ?_
        refine J_iload_n X d_Cek_placeOfData_50 rfl 4 rfl ?_
        refine J_iadd X d_Cek_placeOfData_51 ?_
        refine J_goto (tgt := 56) X d_Cek_placeOfData_52 (by decide) ?_
        cases h
        exact J_ret E ⟨_, rfl, rfl⟩ d_Cek_placeOfData_56 (Nat.le_refl _) (Nat.le_refl _) rfl
  · refine J_iconst X d_Cek_placeOfData_22 ?_
    cases h
    exact J_ret E ⟨_, rfl, rfl⟩ d_Cek_placeOfData_23 (Nat.le_refl _) (Nat.le_refl _) rfl

theorem d_Cek_data_0 : decode b_Cek_data 0 = .ok (.aload_n 0, 1) := by decide +kernel
theorem d_Cek_data_1 : decode b_Cek_data 1 = .ok (.getfield 21, 3) := by decide +kernel
theorem d_Cek_data_4 : decode b_Cek_data 4 = .ok (.getfield 90, 3) := by decide +kernel
theorem d_Cek_data_7 : decode b_Cek_data 7 = .ok (.getfield 123, 3) := by decide +kernel
theorem d_Cek_data_10 : decode b_Cek_data 10 = .ok (.astore_n 3, 1) := by decide +kernel
theorem d_Cek_data_11 : decode b_Cek_data 11 = .ok (.aload_n 0, 1) := by decide +kernel
theorem d_Cek_data_12 : decode b_Cek_data 12 = .ok (.iload_n 1, 1) := by decide +kernel
theorem d_Cek_data_13 : decode b_Cek_data 13 = .ok (.invokevirtual 127, 3) := by decide +kernel
theorem d_Cek_data_16 : decode b_Cek_data 16 = .ok (.istore 4, 2) := by decide +kernel
theorem d_Cek_data_18 : decode b_Cek_data 18 = .ok (.aload_n 3, 1) := by decide +kernel
theorem d_Cek_data_19 : decode b_Cek_data 19 = .ok (.iload 4, 2) := by decide +kernel
theorem d_Cek_data_21 : decode b_Cek_data 21 = .ok (.invokevirtual 130, 3) := by decide +kernel
theorem d_Cek_data_24 : decode b_Cek_data 24 = .ok (.istore 5, 2) := by decide +kernel
theorem d_Cek_data_26 : decode b_Cek_data 26 = .ok (.iload_n 2, 1) := by decide +kernel
theorem d_Cek_data_27 : decode b_Cek_data 27 = .ok (.tableswitch 73 0 3 #[29, 32, 49, 66], 29) := by decide +kernel
theorem d_Cek_data_56 : decode b_Cek_data 56 = .ok (.iload 5, 2) := by decide +kernel
theorem d_Cek_data_58 : decode b_Cek_data 58 = .ok (.ireturn, 1) := by decide +kernel
theorem d_Cek_data_59 : decode b_Cek_data 59 = .ok (.iload 5, 2) := by decide +kernel
theorem d_Cek_data_61 : decode b_Cek_data 61 = .ok (.iconst 3, 1) := by decide +kernel
theorem d_Cek_data_62 : decode b_Cek_data 62 = .ok (.if_icmp .ne 7, 3) := by decide +kernel
theorem d_Cek_data_65 : decode b_Cek_data 65 = .ok (.iconst (-1), 1) := by decide +kernel
theorem d_Cek_data_66 : decode b_Cek_data 66 = .ok (.goto 9, 3) := by decide +kernel
theorem d_Cek_data_69 : decode b_Cek_data 69 = .ok (.aload_n 3, 1) := by decide +kernel
theorem d_Cek_data_70 : decode b_Cek_data 70 = .ok (.iload 4, 2) := by decide +kernel
theorem d_Cek_data_72 : decode b_Cek_data 72 = .ok (.invokevirtual 135, 3) := by decide +kernel
theorem d_Cek_data_75 : decode b_Cek_data 75 = .ok (.ireturn, 1) := by decide +kernel
theorem d_Cek_data_76 : decode b_Cek_data 76 = .ok (.iload 5, 2) := by decide +kernel
theorem d_Cek_data_78 : decode b_Cek_data 78 = .ok (.ifCond .ne 13, 3) := by decide +kernel
theorem d_Cek_data_81 : decode b_Cek_data 81 = .ok (.aload_n 3, 1) := by decide +kernel
theorem d_Cek_data_82 : decode b_Cek_data 82 = .ok (.iload 4, 2) := by decide +kernel
theorem d_Cek_data_84 : decode b_Cek_data 84 = .ok (.invokevirtual 138, 3) := by decide +kernel
theorem d_Cek_data_87 : decode b_Cek_data 87 = .ok (.l2i, 1) := by decide +kernel
theorem d_Cek_data_88 : decode b_Cek_data 88 = .ok (.goto 4, 3) := by decide +kernel
theorem d_Cek_data_91 : decode b_Cek_data 91 = .ok (.iconst (-1), 1) := by decide +kernel
theorem d_Cek_data_92 : decode b_Cek_data 92 = .ok (.ireturn, 1) := by decide +kernel
theorem d_Cek_data_93 : decode b_Cek_data 93 = .ok (.aload_n 3, 1) := by decide +kernel
theorem d_Cek_data_94 : decode b_Cek_data 94 = .ok (.iload 4, 2) := by decide +kernel
theorem d_Cek_data_96 : decode b_Cek_data 96 = .ok (.invokevirtual 141, 3) := by decide +kernel
theorem d_Cek_data_99 : decode b_Cek_data 99 = .ok (.ireturn, 1) := by decide +kernel
theorem d_Cek_data_100 : decode b_Cek_data 100 = .ok (.iconst (-1), 1) := by decide +kernel
theorem d_Cek_data_101 : decode b_Cek_data 101 = .ok (.ireturn, 1) := by decide +kernel
def f_Cek_data (C_answer : Int) (E_value : Int) (V_top : Int) (V_kinds : Int → Int) (V_parts : Int → Int) (D_top : Int) (D_forms : Int → Int) (D_counts : Int → Int) (D_numbers : Int → Int) (D_nodes : Int → Int) (D_depths : Int → Int) (p1 : Int) (p2 : Int) : Option (Int) :=
  Option.bind (f_Cek_placeOfData C_answer E_value V_top V_kinds V_parts D_top D_nodes p1) (fun r1 =>
   Option.bind (f_DataRow_formOf D_top D_forms r1) (fun r3 =>
    if rI p2 = true then (
     if p2 = 0 then (
      some r3) else (
      if p2 = 1 then (
       if jr2 r3 3 = true then (if r3 = 3 then (
        some (-1)) else (
        Option.bind (f_DataRow_countOf D_top D_counts r1) (fun r9 =>
         some r9))) else none) else (
       if p2 = 2 then (
        if rI r3 = true then (if r3 = 0 then (
         Option.bind (f_DataRow_numberOf D_top D_numbers r1) (fun r13 =>
          some r13)) else (
         some (-1))) else none) else (
        if p2 = 3 then (
         Option.bind (f_DataRow_depthOf D_top D_depths r1) (fun r16 =>
          some r16)) else (
         some (-1)))))) else none))
set_option maxHeartbeats 4000000 in
set_option maxRecDepth 100000 in
theorem c_Cek_data {l : Launch} {D : va_G} {cI cL cB : ClassId} {ad : Nat → Nat} {C_answer : Int} {E_node : Int} {E_scope : Int} {E_value : Int} {V_top : Int} {V_kinds : Int → Int} {V_parts : Int → Int} {D_top : Int} {D_forms : Int → Int} {D_counts : Int → Int} {D_numbers : Int → Int} {D_nodes : Int → Int} {D_depths : Int → Int} {p1 : Int} {p2 : Int} {out : Int} (h : f_Cek_data C_answer E_value V_top V_kinds V_parts D_top D_forms D_counts D_numbers D_nodes D_depths p1 p2 = some out) : CT jF0 true l D [(cI, .int), (cL, .long), (cB, .byte)] y_Cek_data w_Cek_data ({ frames := 3, cells := 0, slots := 0, locals := 66 } : Room) [.ref (ad 0), .int (zI p1), .int (zI p2)] [(ad 0, .inr (0, [.ref (ad 1), .ref (ad 8), .int (zI C_answer)])), (ad 8, .inr (3, [.ref (ad 9), .ref (ad 23), .ref (ad 24), .ref (ad 28), .ref (ad 31), .ref (ad 1), .int (zI E_node), .int (zI E_scope), .int (zI E_value)])), (ad 9, .inr (4, [.ref (ad 14), .ref (ad 16), .ref (ad 10), .ref (ad 11), .ref (ad 12), .ref (ad 13), .int (zI V_top)])), (ad 10, .inl (cI, 3201, .inl (zA V_kinds))), (ad 12, .inl (cI, 3201, .inl (zA V_parts))), (ad 16, .inr (5, [.ref (ad 17), .ref (ad 18), .ref (ad 19), .ref (ad 20), .ref (ad 21), .ref (ad 22), .int (zI D_top)])), (ad 17, .inl (cI, 3201, .inl (zA D_forms))), (ad 18, .inl (cI, 3201, .inl (zA D_counts))), (ad 19, .inl (cL, 3201, .inr (.inl (zB D_numbers)))), (ad 20, .inl (cI, 3201, .inl (zA D_nodes))), (ad 21, .inl (cI, 3201, .inl (zA D_depths)))] (some (.int (zI out))) [(ad 0, .inr (0, [.ref (ad 1), .ref (ad 8), .int (zI C_answer)])), (ad 8, .inr (3, [.ref (ad 9), .ref (ad 23), .ref (ad 24), .ref (ad 28), .ref (ad 31), .ref (ad 1), .int (zI E_node), .int (zI E_scope), .int (zI E_value)])), (ad 9, .inr (4, [.ref (ad 14), .ref (ad 16), .ref (ad 10), .ref (ad 11), .ref (ad 12), .ref (ad 13), .int (zI V_top)])), (ad 10, .inl (cI, 3201, .inl (zA V_kinds))), (ad 12, .inl (cI, 3201, .inl (zA V_parts))), (ad 16, .inr (5, [.ref (ad 17), .ref (ad 18), .ref (ad 19), .ref (ad 20), .ref (ad 21), .ref (ad 22), .int (zI D_top)])), (ad 17, .inl (cI, 3201, .inl (zA D_forms))), (ad 18, .inl (cI, 3201, .inl (zA D_counts))), (ad 19, .inl (cL, 3201, .inr (.inl (zB D_numbers)))), (ad 20, .inl (cI, 3201, .inl (zA D_nodes))), (ad 21, .inl (cI, 3201, .inl (zA D_depths)))] 0 0 := by
  refine CT_of_J (cc := b_Cek_data) (maxL := 6) (ret := (some .int)) jF0_k (plainFor_of_name (by decide)) rfl (Nat.le_of_ble_eq_true rfl) ?_
  intro K hKl hKD X E
  subst hKl; subst hKD
  unfold f_Cek_data at h
  refine J_aload_n X d_Cek_data_0 rfl 0 rfl ?_
  refine J_get X (j_in in_Cek) 0 rfl rfl 1 (by decide) (j_m own_Cek_data (by decide +kernel)) rfl d_Cek_data_1 ?_
  refine J_get X (j_in in_Evaluator) 1 rfl rfl 0 (by decide) (j_m own_Cek_data (by decide +kernel)) rfl d_Cek_data_4 ?_
  refine J_get X (j_in in_Values) 2 rfl rfl 1 (by decide) (j_m own_Cek_data (by decide +kernel)) rfl d_Cek_data_7 ?_
  refine J_astore_n (lv' := [(3, .ref (ad 16)), (0, .ref (ad 0)), (1, .int (zI p1)), (2, .int (zI p2))]) X d_Cek_data_10 rfl (by decide) rfl ?_
  refine J_aload_n X d_Cek_data_11 rfl 1 rfl ?_
  refine J_iload_n X d_Cek_data_12 rfl 2 rfl ?_
  obtain ⟨r1, q2, h⟩ := wk_b h
  refine J_afterP (jrunV X (c_Cek_placeOfData (ad := ad) q2) jF0_k (fun _ _ _ _ => trivial) (jgV own_Cek_data (by decide +kernel)) rfl rfl rfl pd_Cek_placeOfData (by decide) [0, 1, 2, 3, 4, 5, 9] rfl (by decide) 0 0 rfl rfl rfl rfl (Nat.le_of_ble_eq_true rfl) d_Cek_data_13 (by decide)) ?_
  refine J_istore (lv' := [(4, .int (zI r1)), (3, .ref (ad 16)), (0, .ref (ad 0)), (1, .int (zI p1)), (2, .int (zI p2))]) X d_Cek_data_16 (by decide) rfl ?_
  refine J_aload_n X d_Cek_data_18 rfl 1 rfl ?_
  refine J_iload X d_Cek_data_19 0 rfl ?_
  obtain ⟨r3, q4, h⟩ := wk_b h
  refine J_afterP (jrunV X (c_DataRow_formOf (ad := ad) q4) jF0_k (fun _ _ _ _ => trivial) (jgV own_Cek_data (by decide +kernel)) rfl rfl rfl pd_DataRow_formOf (by decide) [5, 6] rfl (by decide) 0 5 rfl rfl rfl rfl (Nat.le_of_ble_eq_true rfl) d_Cek_data_21 (by decide)) ?_
  refine J_istore (lv' := [(5, .int (zI r3)), (4, .int (zI r1)), (3, .ref (ad 16)), (0, .ref (ad 0)), (1, .int (zI p1)), (2, .int (zI p2))]) X d_Cek_data_24 (by decide) rfl ?_
  refine J_iload_n X d_Cek_data_26 rfl 5 rfl ?_
  obtain ⟨g5, h⟩ := wk_g h
  rcases wk_c h with ⟨c6, h⟩ | ⟨c6, h⟩
  · refine J_tsIn (tgt := 56) X 0 c6 g5 d_Cek_data_27 (by decide) (by decide) rfl (by decide) ?_
    refine J_iload X d_Cek_data_56 0 rfl ?_
    cases h
    exact J_ret E ⟨_, rfl, rfl⟩ d_Cek_data_58 (Nat.le_refl _) (Nat.le_refl _) rfl
  · rcases wk_c h with ⟨c7, h⟩ | ⟨c7, h⟩
    · refine J_tsIn (tgt := 59) X 1 c7 g5 d_Cek_data_27 (by decide) (by decide) rfl (by decide) ?_
      refine J_iload X d_Cek_data_59 0 rfl ?_
      refine J_iconst X d_Cek_data_61 ?_
      refine J_icmp_ne (tgt := 69) X d_Cek_data_62 (by decide) h (fun c8 h => ?_) (fun c8 h => ?_)
      · refine J_aload_n X d_Cek_data_69 rfl 2 rfl ?_
        refine J_iload X d_Cek_data_70 1 rfl ?_
        obtain ⟨r9, q10, h⟩ := wk_b h
        refine J_afterP (jrunV X (c_DataRow_countOf (ad := ad) q10) jF0_k (fun _ _ _ _ => trivial) (jgV own_Cek_data (by decide +kernel)) rfl rfl rfl pd_DataRow_countOf (by decide) [5, 7] rfl (by decide) 0 5 rfl rfl rfl rfl (Nat.le_of_ble_eq_true rfl) d_Cek_data_72 (by decide)) ?_
        cases h
        exact J_ret E ⟨_, rfl, rfl⟩ d_Cek_data_75 (Nat.le_refl _) (Nat.le_refl _) rfl
      · refine J_iconst X d_Cek_data_65 ?_
        refine J_goto (tgt := 75) X d_Cek_data_66 (by decide) ?_
        cases h
        exact J_ret E ⟨_, rfl, rfl⟩ d_Cek_data_75 (Nat.le_refl _) (Nat.le_refl _) rfl
    · rcases wk_c h with ⟨c11, h⟩ | ⟨c11, h⟩
      · refine J_tsIn (tgt := 76) X 2 c11 g5 d_Cek_data_27 (by decide) (by decide) rfl (by decide) ?_
        refine J_iload X d_Cek_data_76 0 rfl ?_
        refine J_if_ne (tgt := 91) X d_Cek_data_78 (by decide) h (fun c12 h => ?_) (fun c12 h => ?_)
        · refine J_iconst X d_Cek_data_91 ?_
          cases h
          exact J_ret E ⟨_, rfl, rfl⟩ d_Cek_data_92 (Nat.le_refl _) (Nat.le_refl _) rfl
        · refine J_aload_n X d_Cek_data_81 rfl 2 rfl ?_
          refine J_iload X d_Cek_data_82 1 rfl ?_
          obtain ⟨r13, q14, h⟩ := wk_b h
          refine J_afterP (jrunV X (c_DataRow_numberOf (ad := ad) q14) jF0_k (fun _ _ _ _ => trivial) (jgV own_Cek_data (by decide +kernel)) rfl rfl rfl pd_DataRow_numberOf (by decide) [5, 8] rfl (by decide) 0 5 rfl rfl rfl rfl (Nat.le_of_ble_eq_true rfl) d_Cek_data_84 (by decide)) ?_
          refine J_l2i X d_Cek_data_87 ?_
          refine J_goto (tgt := 92) X d_Cek_data_88 (by decide) ?_
          cases h
          exact J_ret E ⟨_, rfl, rfl⟩ d_Cek_data_92 (Nat.le_refl _) (Nat.le_refl _) rfl
      · rcases wk_c h with ⟨c15, h⟩ | ⟨c15, h⟩
        · refine J_tsIn (tgt := 93) X 3 c15 g5 d_Cek_data_27 (by decide) (by decide) rfl (by decide) ?_
          refine J_aload_n X d_Cek_data_93 rfl 2 rfl ?_
          refine J_iload X d_Cek_data_94 1 rfl ?_
          obtain ⟨r16, q17, h⟩ := wk_b h
          refine J_afterP (jrunV X (c_DataRow_depthOf (ad := ad) q17) jF0_k (fun _ _ _ _ => trivial) (jgV own_Cek_data (by decide +kernel)) rfl rfl rfl pd_DataRow_depthOf (by decide) [5, 10] rfl (by decide) 0 5 rfl rfl rfl rfl (Nat.le_of_ble_eq_true rfl) d_Cek_data_96 (by decide)) ?_
          cases h
          exact J_ret E ⟨_, rfl, rfl⟩ d_Cek_data_99 (Nat.le_refl _) (Nat.le_refl _) rfl
        · refine J_tsOut (tgt := 100) X g5 d_Cek_data_27 (by omega) (by decide) ?_
          refine J_iconst X d_Cek_data_100 ?_
          cases h
          exact J_ret E ⟨_, rfl, rfl⟩ d_Cek_data_101 (Nat.le_refl _) (Nat.le_refl _) rfl

theorem d_Cek_dataValue_0 : decode b_Cek_dataValue 0 = .ok (.aload_n 0, 1) := by decide +kernel
theorem d_Cek_dataValue_1 : decode b_Cek_dataValue 1 = .ok (.getfield 21, 3) := by decide +kernel
theorem d_Cek_dataValue_4 : decode b_Cek_dataValue 4 = .ok (.getfield 90, 3) := by decide +kernel
theorem d_Cek_dataValue_7 : decode b_Cek_dataValue 7 = .ok (.getfield 123, 3) := by decide +kernel
theorem d_Cek_dataValue_10 : decode b_Cek_dataValue 10 = .ok (.astore_n 2, 1) := by decide +kernel
theorem d_Cek_dataValue_11 : decode b_Cek_dataValue 11 = .ok (.aload_n 0, 1) := by decide +kernel
theorem d_Cek_dataValue_12 : decode b_Cek_dataValue 12 = .ok (.iload_n 1, 1) := by decide +kernel
theorem d_Cek_dataValue_13 : decode b_Cek_dataValue 13 = .ok (.invokevirtual 127, 3) := by decide +kernel
theorem d_Cek_dataValue_16 : decode b_Cek_dataValue 16 = .ok (.istore_n 3, 1) := by decide +kernel
theorem d_Cek_dataValue_17 : decode b_Cek_dataValue 17 = .ok (.aload_n 2, 1) := by decide +kernel
theorem d_Cek_dataValue_18 : decode b_Cek_dataValue 18 = .ok (.iload_n 3, 1) := by decide +kernel
theorem d_Cek_dataValue_19 : decode b_Cek_dataValue 19 = .ok (.invokevirtual 130, 3) := by decide +kernel
theorem d_Cek_dataValue_22 : decode b_Cek_dataValue 22 = .ok (.iconst 3, 1) := by decide +kernel
theorem d_Cek_dataValue_23 : decode b_Cek_dataValue 23 = .ok (.if_icmp .eq 13, 3) := by decide +kernel
theorem d_Cek_dataValue_26 : decode b_Cek_dataValue 26 = .ok (.new 55, 3) := by decide +kernel
theorem d_Cek_dataValue_29 : decode b_Cek_dataValue 29 = .ok (.dup, 1) := by decide +kernel
theorem d_Cek_dataValue_30 : decode b_Cek_dataValue 30 = .ok (.ldc 144, 2) := by decide +kernel
theorem d_Cek_dataValue_32 : decode b_Cek_dataValue 32 = .ok (.invokespecial 59, 3) := by decide +kernel
theorem d_Cek_dataValue_35 : decode b_Cek_dataValue 35 = .ok (.athrow, 1) := by decide +kernel
theorem d_Cek_dataValue_36 : decode b_Cek_dataValue 36 = .ok (.aload_n 2, 1) := by decide +kernel
theorem d_Cek_dataValue_37 : decode b_Cek_dataValue 37 = .ok (.iload_n 3, 1) := by decide +kernel
theorem d_Cek_dataValue_38 : decode b_Cek_dataValue 38 = .ok (.invokevirtual 138, 3) := by decide +kernel
theorem d_Cek_dataValue_41 : decode b_Cek_dataValue 41 = .ok (.lreturn, 1) := by decide +kernel
def f_Cek_dataValue (C_answer : Int) (E_value : Int) (V_top : Int) (V_kinds : Int → Int) (V_parts : Int → Int) (D_top : Int) (D_forms : Int → Int) (D_numbers : Int → Int) (D_nodes : Int → Int) (p1 : Int) : Option (Int) :=
  Option.bind (f_Cek_placeOfData C_answer E_value V_top V_kinds V_parts D_top D_nodes p1) (fun r1 =>
   Option.bind (f_DataRow_formOf D_top D_forms r1) (fun r3 =>
    if jr2 r3 3 = true then (if r3 = 3 then (
     Option.bind (f_DataRow_numberOf D_top D_numbers r1) (fun r6 =>
      some r6)) else (
     none)) else none))
set_option maxHeartbeats 4000000 in
set_option maxRecDepth 100000 in
theorem c_Cek_dataValue {l : Launch} {D : va_G} {cI cL cB : ClassId} {ad : Nat → Nat} {C_answer : Int} {E_node : Int} {E_scope : Int} {E_value : Int} {V_top : Int} {V_kinds : Int → Int} {V_parts : Int → Int} {D_top : Int} {D_forms : Int → Int} {D_numbers : Int → Int} {D_nodes : Int → Int} {p1 : Int} {out : Int} (h : f_Cek_dataValue C_answer E_value V_top V_kinds V_parts D_top D_forms D_numbers D_nodes p1 = some out) : CT jF0 true l D [(cI, .int), (cL, .long), (cB, .byte)] y_Cek_dataValue w_Cek_dataValue ({ frames := 3, cells := 0, slots := 0, locals := 66 } : Room) [.ref (ad 0), .int (zI p1)] [(ad 0, .inr (0, [.ref (ad 1), .ref (ad 8), .int (zI C_answer)])), (ad 8, .inr (3, [.ref (ad 9), .ref (ad 23), .ref (ad 24), .ref (ad 28), .ref (ad 31), .ref (ad 1), .int (zI E_node), .int (zI E_scope), .int (zI E_value)])), (ad 9, .inr (4, [.ref (ad 14), .ref (ad 16), .ref (ad 10), .ref (ad 11), .ref (ad 12), .ref (ad 13), .int (zI V_top)])), (ad 10, .inl (cI, 3201, .inl (zA V_kinds))), (ad 12, .inl (cI, 3201, .inl (zA V_parts))), (ad 16, .inr (5, [.ref (ad 17), .ref (ad 18), .ref (ad 19), .ref (ad 20), .ref (ad 21), .ref (ad 22), .int (zI D_top)])), (ad 17, .inl (cI, 3201, .inl (zA D_forms))), (ad 19, .inl (cL, 3201, .inr (.inl (zB D_numbers)))), (ad 20, .inl (cI, 3201, .inl (zA D_nodes)))] (some (.long (zL out))) [(ad 0, .inr (0, [.ref (ad 1), .ref (ad 8), .int (zI C_answer)])), (ad 8, .inr (3, [.ref (ad 9), .ref (ad 23), .ref (ad 24), .ref (ad 28), .ref (ad 31), .ref (ad 1), .int (zI E_node), .int (zI E_scope), .int (zI E_value)])), (ad 9, .inr (4, [.ref (ad 14), .ref (ad 16), .ref (ad 10), .ref (ad 11), .ref (ad 12), .ref (ad 13), .int (zI V_top)])), (ad 10, .inl (cI, 3201, .inl (zA V_kinds))), (ad 12, .inl (cI, 3201, .inl (zA V_parts))), (ad 16, .inr (5, [.ref (ad 17), .ref (ad 18), .ref (ad 19), .ref (ad 20), .ref (ad 21), .ref (ad 22), .int (zI D_top)])), (ad 17, .inl (cI, 3201, .inl (zA D_forms))), (ad 19, .inl (cL, 3201, .inr (.inl (zB D_numbers)))), (ad 20, .inl (cI, 3201, .inl (zA D_nodes)))] 0 0 := by
  refine CT_of_J (cc := b_Cek_dataValue) (maxL := 4) (ret := (some .long)) jF0_k (plainFor_of_name (by decide)) rfl (Nat.le_of_ble_eq_true rfl) ?_
  intro K hKl hKD X E
  subst hKl; subst hKD
  unfold f_Cek_dataValue at h
  refine J_aload_n X d_Cek_dataValue_0 rfl 0 rfl ?_
  refine J_get X (j_in in_Cek) 0 rfl rfl 1 (by decide) (j_m own_Cek_dataValue (by decide +kernel)) rfl d_Cek_dataValue_1 ?_
  refine J_get X (j_in in_Evaluator) 1 rfl rfl 0 (by decide) (j_m own_Cek_dataValue (by decide +kernel)) rfl d_Cek_dataValue_4 ?_
  refine J_get X (j_in in_Values) 2 rfl rfl 1 (by decide) (j_m own_Cek_dataValue (by decide +kernel)) rfl d_Cek_dataValue_7 ?_
  refine J_astore_n (lv' := [(2, .ref (ad 16)), (0, .ref (ad 0)), (1, .int (zI p1))]) X d_Cek_dataValue_10 rfl (by decide) rfl ?_
  refine J_aload_n X d_Cek_dataValue_11 rfl 1 rfl ?_
  refine J_iload_n X d_Cek_dataValue_12 rfl 2 rfl ?_
  obtain ⟨r1, q2, h⟩ := wk_b h
  refine J_afterP (jrunV X (c_Cek_placeOfData (ad := ad) q2) jF0_k (fun _ _ _ _ => trivial) (jgV own_Cek_dataValue (by decide +kernel)) rfl rfl rfl pd_Cek_placeOfData (by decide) [0, 1, 2, 3, 4, 5, 8] rfl (by decide) 0 0 rfl rfl rfl rfl (Nat.le_of_ble_eq_true rfl) d_Cek_dataValue_13 (by decide)) ?_
  refine J_istore_n (lv' := [(3, .int (zI r1)), (2, .ref (ad 16)), (0, .ref (ad 0)), (1, .int (zI p1))]) X d_Cek_dataValue_16 rfl (by decide) rfl ?_
  refine J_aload_n X d_Cek_dataValue_17 rfl 1 rfl ?_
  refine J_iload_n X d_Cek_dataValue_18 rfl 0 rfl ?_
  obtain ⟨r3, q4, h⟩ := wk_b h
  refine J_afterP (jrunV X (c_DataRow_formOf (ad := ad) q4) jF0_k (fun _ _ _ _ => trivial) (jgV own_Cek_dataValue (by decide +kernel)) rfl rfl rfl pd_DataRow_formOf (by decide) [5, 6] rfl (by decide) 0 5 rfl rfl rfl rfl (Nat.le_of_ble_eq_true rfl) d_Cek_dataValue_19 (by decide)) ?_
  refine J_iconst X d_Cek_dataValue_22 ?_
  refine J_icmp_eq (tgt := 36) X d_Cek_dataValue_23 (by decide) h (fun c5 h => ?_) (fun c5 h => ?_)
  · refine J_aload_n X d_Cek_dataValue_36 rfl 1 rfl ?_
    refine J_iload_n X d_Cek_dataValue_37 rfl 0 rfl ?_
    obtain ⟨r6, q7, h⟩ := wk_b h
    refine J_afterP (jrunV X (c_DataRow_numberOf (ad := ad) q7) jF0_k (fun _ _ _ _ => trivial) (jgV own_Cek_dataValue (by decide +kernel)) rfl rfl rfl pd_DataRow_numberOf (by decide) [5, 7] rfl (by decide) 0 5 rfl rfl rfl rfl (Nat.le_of_ble_eq_true rfl) d_Cek_dataValue_38 (by decide)) ?_
    cases h
    exact J_ret E rfl d_Cek_dataValue_41 (Nat.le_refl _) (Nat.le_refl _) rfl
  · cases h

theorem d_Cek_dataByte_0 : decode b_Cek_dataByte 0 = .ok (.aload_n 0, 1) := by decide +kernel
theorem d_Cek_dataByte_1 : decode b_Cek_dataByte 1 = .ok (.getfield 21, 3) := by decide +kernel
theorem d_Cek_dataByte_4 : decode b_Cek_dataByte 4 = .ok (.getfield 90, 3) := by decide +kernel
theorem d_Cek_dataByte_7 : decode b_Cek_dataByte 7 = .ok (.getfield 123, 3) := by decide +kernel
theorem d_Cek_dataByte_10 : decode b_Cek_dataByte 10 = .ok (.astore_n 3, 1) := by decide +kernel
theorem d_Cek_dataByte_11 : decode b_Cek_dataByte 11 = .ok (.aload_n 0, 1) := by decide +kernel
theorem d_Cek_dataByte_12 : decode b_Cek_dataByte 12 = .ok (.iload_n 1, 1) := by decide +kernel
theorem d_Cek_dataByte_13 : decode b_Cek_dataByte 13 = .ok (.invokevirtual 127, 3) := by decide +kernel
theorem d_Cek_dataByte_16 : decode b_Cek_dataByte 16 = .ok (.istore 4, 2) := by decide +kernel
theorem d_Cek_dataByte_18 : decode b_Cek_dataByte 18 = .ok (.aload_n 3, 1) := by decide +kernel
theorem d_Cek_dataByte_19 : decode b_Cek_dataByte 19 = .ok (.iload 4, 2) := by decide +kernel
theorem d_Cek_dataByte_21 : decode b_Cek_dataByte 21 = .ok (.invokevirtual 130, 3) := by decide +kernel
theorem d_Cek_dataByte_24 : decode b_Cek_dataByte 24 = .ok (.iconst 4, 1) := by decide +kernel
theorem d_Cek_dataByte_25 : decode b_Cek_dataByte 25 = .ok (.if_icmp .ne 17, 3) := by decide +kernel
theorem d_Cek_dataByte_28 : decode b_Cek_dataByte 28 = .ok (.iload_n 2, 1) := by decide +kernel
theorem d_Cek_dataByte_29 : decode b_Cek_dataByte 29 = .ok (.ifCond .lt 13, 3) := by decide +kernel
theorem d_Cek_dataByte_32 : decode b_Cek_dataByte 32 = .ok (.iload_n 2, 1) := by decide +kernel
theorem d_Cek_dataByte_33 : decode b_Cek_dataByte 33 = .ok (.aload_n 3, 1) := by decide +kernel
theorem d_Cek_dataByte_34 : decode b_Cek_dataByte 34 = .ok (.iload 4, 2) := by decide +kernel
theorem d_Cek_dataByte_36 : decode b_Cek_dataByte 36 = .ok (.invokevirtual 135, 3) := by decide +kernel
theorem d_Cek_dataByte_39 : decode b_Cek_dataByte 39 = .ok (.if_icmp .lt 5, 3) := by decide +kernel
theorem d_Cek_dataByte_42 : decode b_Cek_dataByte 42 = .ok (.iconst (-1), 1) := by decide +kernel
theorem d_Cek_dataByte_43 : decode b_Cek_dataByte 43 = .ok (.ireturn, 1) := by decide +kernel
theorem d_Cek_dataByte_44 : decode b_Cek_dataByte 44 = .ok (.aload_n 0, 1) := by decide +kernel
theorem d_Cek_dataByte_45 : decode b_Cek_dataByte 45 = .ok (.getfield 21, 3) := by decide +kernel
theorem d_Cek_dataByte_48 : decode b_Cek_dataByte 48 = .ok (.getfield 90, 3) := by decide +kernel
theorem d_Cek_dataByte_51 : decode b_Cek_dataByte 51 = .ok (.getfield 111, 3) := by decide +kernel
theorem d_Cek_dataByte_54 : decode b_Cek_dataByte 54 = .ok (.aload_n 3, 1) := by decide +kernel
theorem d_Cek_dataByte_55 : decode b_Cek_dataByte 55 = .ok (.iload 4, 2) := by decide +kernel
theorem d_Cek_dataByte_57 : decode b_Cek_dataByte 57 = .ok (.invokevirtual 138, 3) := by decide +kernel
theorem d_Cek_dataByte_60 : decode b_Cek_dataByte 60 = .ok (.l2i, 1) := by decide +kernel
theorem d_Cek_dataByte_61 : decode b_Cek_dataByte 61 = .ok (.iload_n 2, 1) := by decide +kernel
theorem d_Cek_dataByte_62 : decode b_Cek_dataByte 62 = .ok (.iadd, 1) := by decide +kernel
theorem d_Cek_dataByte_63 : decode b_Cek_dataByte 63 = .ok (.invokevirtual 118, 3) := by decide +kernel
theorem d_Cek_dataByte_66 : decode b_Cek_dataByte 66 = .ok (.ireturn, 1) := by decide +kernel
def f_Cek_dataByte (C_answer : Int) (E_value : Int) (V_top : Int) (V_kinds : Int → Int) (V_parts : Int → Int) (VB_row : Int → Int) (D_top : Int) (D_forms : Int → Int) (D_counts : Int → Int) (D_numbers : Int → Int) (D_nodes : Int → Int) (p1 : Int) (p2 : Int) : Option (Int) :=
  Option.bind (f_Cek_placeOfData C_answer E_value V_top V_kinds V_parts D_top D_nodes p1) (fun r1 =>
   Option.bind (f_DataRow_formOf D_top D_forms r1) (fun r3 =>
    if jr2 r3 4 = true then (if r3 = 4 then (
     if rI p2 = true then (if p2 < 0 then (
      some (-1)) else (
      Option.bind (f_DataRow_countOf D_top D_counts r1) (fun r7 =>
       if jr2 p2 r7 = true then (if p2 < r7 then (
        Option.bind (f_DataRow_numberOf D_top D_numbers r1) (fun r10 =>
         Option.bind (f_ByteRow_at 36864 VB_row (r10 + p2)) (fun r12 =>
          some r12))) else (
        some (-1))) else none))) else none) else (
     some (-1))) else none))
set_option maxHeartbeats 4000000 in
set_option maxRecDepth 100000 in
theorem c_Cek_dataByte {l : Launch} {D : va_G} {cI cL cB : ClassId} {ad : Nat → Nat} {C_answer : Int} {E_node : Int} {E_scope : Int} {E_value : Int} {V_top : Int} {V_kinds : Int → Int} {V_parts : Int → Int} {VB_top : Int} {VB_row : Int → Int} {D_top : Int} {D_forms : Int → Int} {D_counts : Int → Int} {D_numbers : Int → Int} {D_nodes : Int → Int} {p1 : Int} {p2 : Int} {out : Int} (h : f_Cek_dataByte C_answer E_value V_top V_kinds V_parts VB_row D_top D_forms D_counts D_numbers D_nodes p1 p2 = some out) : CT jF0 true l D [(cI, .int), (cL, .long), (cB, .byte)] y_Cek_dataByte w_Cek_dataByte ({ frames := 3, cells := 0, slots := 0, locals := 66 } : Room) [.ref (ad 0), .int (zI p1), .int (zI p2)] [(ad 0, .inr (0, [.ref (ad 1), .ref (ad 8), .int (zI C_answer)])), (ad 8, .inr (3, [.ref (ad 9), .ref (ad 23), .ref (ad 24), .ref (ad 28), .ref (ad 31), .ref (ad 1), .int (zI E_node), .int (zI E_scope), .int (zI E_value)])), (ad 9, .inr (4, [.ref (ad 14), .ref (ad 16), .ref (ad 10), .ref (ad 11), .ref (ad 12), .ref (ad 13), .int (zI V_top)])), (ad 10, .inl (cI, 3201, .inl (zA V_kinds))), (ad 12, .inl (cI, 3201, .inl (zA V_parts))), (ad 14, .inr (2, [.ref (ad 15), .int (zI VB_top)])), (ad 15, .inl (cB, 36864, .inl (zA VB_row))), (ad 16, .inr (5, [.ref (ad 17), .ref (ad 18), .ref (ad 19), .ref (ad 20), .ref (ad 21), .ref (ad 22), .int (zI D_top)])), (ad 17, .inl (cI, 3201, .inl (zA D_forms))), (ad 18, .inl (cI, 3201, .inl (zA D_counts))), (ad 19, .inl (cL, 3201, .inr (.inl (zB D_numbers)))), (ad 20, .inl (cI, 3201, .inl (zA D_nodes)))] (some (.int (zI out))) [(ad 0, .inr (0, [.ref (ad 1), .ref (ad 8), .int (zI C_answer)])), (ad 8, .inr (3, [.ref (ad 9), .ref (ad 23), .ref (ad 24), .ref (ad 28), .ref (ad 31), .ref (ad 1), .int (zI E_node), .int (zI E_scope), .int (zI E_value)])), (ad 9, .inr (4, [.ref (ad 14), .ref (ad 16), .ref (ad 10), .ref (ad 11), .ref (ad 12), .ref (ad 13), .int (zI V_top)])), (ad 10, .inl (cI, 3201, .inl (zA V_kinds))), (ad 12, .inl (cI, 3201, .inl (zA V_parts))), (ad 14, .inr (2, [.ref (ad 15), .int (zI VB_top)])), (ad 15, .inl (cB, 36864, .inl (zA VB_row))), (ad 16, .inr (5, [.ref (ad 17), .ref (ad 18), .ref (ad 19), .ref (ad 20), .ref (ad 21), .ref (ad 22), .int (zI D_top)])), (ad 17, .inl (cI, 3201, .inl (zA D_forms))), (ad 18, .inl (cI, 3201, .inl (zA D_counts))), (ad 19, .inl (cL, 3201, .inr (.inl (zB D_numbers)))), (ad 20, .inl (cI, 3201, .inl (zA D_nodes)))] 0 0 := by
  refine CT_of_J (cc := b_Cek_dataByte) (maxL := 5) (ret := (some .int)) jF0_k (plainFor_of_name (by decide)) rfl (Nat.le_of_ble_eq_true rfl) ?_
  intro K hKl hKD X E
  subst hKl; subst hKD
  unfold f_Cek_dataByte at h
  refine J_aload_n X d_Cek_dataByte_0 rfl 0 rfl ?_
  refine J_get X (j_in in_Cek) 0 rfl rfl 1 (by decide) (j_m own_Cek_dataByte (by decide +kernel)) rfl d_Cek_dataByte_1 ?_
  refine J_get X (j_in in_Evaluator) 1 rfl rfl 0 (by decide) (j_m own_Cek_dataByte (by decide +kernel)) rfl d_Cek_dataByte_4 ?_
  refine J_get X (j_in in_Values) 2 rfl rfl 1 (by decide) (j_m own_Cek_dataByte (by decide +kernel)) rfl d_Cek_dataByte_7 ?_
  refine J_astore_n (lv' := [(3, .ref (ad 16)), (0, .ref (ad 0)), (1, .int (zI p1)), (2, .int (zI p2))]) X d_Cek_dataByte_10 rfl (by decide) rfl ?_
  refine J_aload_n X d_Cek_dataByte_11 rfl 1 rfl ?_
  refine J_iload_n X d_Cek_dataByte_12 rfl 2 rfl ?_
  obtain ⟨r1, q2, h⟩ := wk_b h
  refine J_afterP (jrunV X (c_Cek_placeOfData (ad := ad) q2) jF0_k (fun _ _ _ _ => trivial) (jgV own_Cek_dataByte (by decide +kernel)) rfl rfl rfl pd_Cek_placeOfData (by decide) [0, 1, 2, 3, 4, 7, 11] rfl (by decide) 0 0 rfl rfl rfl rfl (Nat.le_of_ble_eq_true rfl) d_Cek_dataByte_13 (by decide)) ?_
  refine J_istore (lv' := [(4, .int (zI r1)), (3, .ref (ad 16)), (0, .ref (ad 0)), (1, .int (zI p1)), (2, .int (zI p2))]) X d_Cek_dataByte_16 (by decide) rfl ?_
  refine J_aload_n X d_Cek_dataByte_18 rfl 1 rfl ?_
  refine J_iload X d_Cek_dataByte_19 0 rfl ?_
  obtain ⟨r3, q4, h⟩ := wk_b h
  refine J_afterP (jrunV X (c_DataRow_formOf (ad := ad) q4) jF0_k (fun _ _ _ _ => trivial) (jgV own_Cek_dataByte (by decide +kernel)) rfl rfl rfl pd_DataRow_formOf (by decide) [7, 8] rfl (by decide) 0 5 rfl rfl rfl rfl (Nat.le_of_ble_eq_true rfl) d_Cek_dataByte_21 (by decide)) ?_
  refine J_iconst X d_Cek_dataByte_24 ?_
  refine J_icmp_ne (tgt := 42) X d_Cek_dataByte_25 (by decide) h (fun c5 h => ?_) (fun c5 h => ?_)
  · refine J_iconst X d_Cek_dataByte_42 ?_
    cases h
    exact J_ret E ⟨_, rfl, rfl⟩ d_Cek_dataByte_43 (Nat.le_refl _) (Nat.le_refl _) rfl
  · refine J_iload_n X d_Cek_dataByte_28 rfl 4 rfl ?_
    refine J_if_lt (tgt := 42) X d_Cek_dataByte_29 (by decide) h (fun c6 h => ?_) (fun c6 h => ?_)
    · refine J_iconst X d_Cek_dataByte_42 ?_
      cases h
      exact J_ret E ⟨_, rfl, rfl⟩ d_Cek_dataByte_43 (Nat.le_refl _) (Nat.le_refl _) rfl
    · refine J_iload_n X d_Cek_dataByte_32 rfl 4 rfl ?_
      refine J_aload_n X d_Cek_dataByte_33 rfl 1 rfl ?_
      refine J_iload X d_Cek_dataByte_34 0 rfl ?_
      obtain ⟨r7, q8, h⟩ := wk_b h
      refine J_afterP (jrunV X (c_DataRow_countOf (ad := ad) q8) jF0_k (fun _ _ _ _ => trivial) (jgV own_Cek_dataByte (by decide +kernel)) rfl rfl rfl pd_DataRow_countOf (by decide) [7, 9] rfl (by decide) 0 5 rfl rfl rfl rfl (Nat.le_of_ble_eq_true rfl) d_Cek_dataByte_36 (by decide)) ?_
      refine J_icmp_lt (tgt := 44) X d_Cek_dataByte_39 (by decide) h (fun c9 h => ?_) (fun c9 h => ?_)
      · refine J_aload_n X d_Cek_dataByte_44 rfl 2 rfl ?_
        refine J_get X (j_in in_Cek) 0 rfl rfl 1 (by decide) (j_m own_Cek_dataByte (by decide +kernel)) rfl d_Cek_dataByte_45 ?_
        refine J_get X (j_in in_Evaluator) 1 rfl rfl 0 (by decide) (j_m own_Cek_dataByte (by decide +kernel)) rfl d_Cek_dataByte_48 ?_
        refine J_get X (j_in in_Values) 2 rfl rfl 0 (by decide) (j_m own_Cek_dataByte (by decide +kernel)) rfl d_Cek_dataByte_51 ?_
        refine J_aload_n X d_Cek_dataByte_54 rfl 1 rfl ?_
        refine J_iload X d_Cek_dataByte_55 0 rfl ?_
        obtain ⟨r10, q11, h⟩ := wk_b h
        refine J_afterP (jrunV X (c_DataRow_numberOf (ad := ad) q11) jF0_k (fun _ _ _ _ => trivial) (jgV own_Cek_dataByte (by decide +kernel)) rfl rfl rfl pd_DataRow_numberOf (by decide) [7, 10] rfl (by decide) 0 5 rfl rfl rfl rfl (Nat.le_of_ble_eq_true rfl) d_Cek_dataByte_57 (by decide)) ?_
        refine J_l2i X d_Cek_dataByte_60 ?_
        refine J_iload_n X d_Cek_dataByte_61 rfl 4 rfl ?_
        refine J_iadd X d_Cek_dataByte_62 ?_
        obtain ⟨r12, q13, h⟩ := wk_b h
        refine J_afterP (jrunV X (c_ByteRow_at (xa := ad 14) (xb := ad 15) q13) jF0_k (fun _ _ _ _ => trivial) (jgV own_Cek_dataByte (by decide +kernel)) rfl rfl rfl pd_ByteRow_at (by decide) [5, 6] rfl (by decide) 0 2 rfl rfl rfl rfl (Nat.le_of_ble_eq_true rfl) d_Cek_dataByte_63 (by decide)) ?_
        cases h
        exact J_ret E ⟨_, rfl, rfl⟩ d_Cek_dataByte_66 (Nat.le_refl _) (Nat.le_refl _) rfl
      · refine J_iconst X d_Cek_dataByte_42 ?_
        cases h
        exact J_ret E ⟨_, rfl, rfl⟩ d_Cek_dataByte_43 (Nat.le_refl _) (Nat.le_refl _) rfl

theorem d_Cek_look_0 : decode b_Cek_look 0 = .ok (.iload_n 1, 1) := by decide +kernel
theorem d_Cek_look_1 : decode b_Cek_look 1 = .ok (.tableswitch 141 0 6 #[43, 51, 59, 67, 72, 95, 118], 43) := by decide +kernel
theorem d_Cek_look_44 : decode b_Cek_look 44 = .ok (.aload_n 0, 1) := by decide +kernel
theorem d_Cek_look_45 : decode b_Cek_look 45 = .ok (.getfield 12, 3) := by decide +kernel
theorem d_Cek_look_48 : decode b_Cek_look 48 = .ok (.invokevirtual 43, 3) := by decide +kernel
theorem d_Cek_look_51 : decode b_Cek_look 51 = .ok (.ireturn, 1) := by decide +kernel
theorem d_Cek_look_52 : decode b_Cek_look 52 = .ok (.aload_n 0, 1) := by decide +kernel
theorem d_Cek_look_53 : decode b_Cek_look 53 = .ok (.getfield 12, 3) := by decide +kernel
theorem d_Cek_look_56 : decode b_Cek_look 56 = .ok (.invokevirtual 146, 3) := by decide +kernel
theorem d_Cek_look_59 : decode b_Cek_look 59 = .ok (.ireturn, 1) := by decide +kernel
theorem d_Cek_look_60 : decode b_Cek_look 60 = .ok (.aload_n 0, 1) := by decide +kernel
theorem d_Cek_look_61 : decode b_Cek_look 61 = .ok (.getfield 12, 3) := by decide +kernel
theorem d_Cek_look_64 : decode b_Cek_look 64 = .ok (.invokevirtual 79, 3) := by decide +kernel
theorem d_Cek_look_67 : decode b_Cek_look 67 = .ok (.ireturn, 1) := by decide +kernel
theorem d_Cek_look_68 : decode b_Cek_look 68 = .ok (.aload_n 0, 1) := by decide +kernel
theorem d_Cek_look_69 : decode b_Cek_look 69 = .ok (.getfield 25, 3) := by decide +kernel
theorem d_Cek_look_72 : decode b_Cek_look 72 = .ok (.ireturn, 1) := by decide +kernel
theorem d_Cek_look_73 : decode b_Cek_look 73 = .ok (.aload_n 0, 1) := by decide +kernel
theorem d_Cek_look_74 : decode b_Cek_look 74 = .ok (.getfield 25, 3) := by decide +kernel
theorem d_Cek_look_77 : decode b_Cek_look 77 = .ok (.iconst (-1), 1) := by decide +kernel
theorem d_Cek_look_78 : decode b_Cek_look 78 = .ok (.if_icmp .ne 7, 3) := by decide +kernel
theorem d_Cek_look_81 : decode b_Cek_look 81 = .ok (.iconst (-1), 1) := by decide +kernel
theorem d_Cek_look_82 : decode b_Cek_look 82 = .ok (.goto 13, 3) := by decide +kernel
theorem d_Cek_look_85 : decode b_Cek_look 85 = .ok (.aload_n 0, 1) := by decide +kernel
theorem d_Cek_look_86 : decode b_Cek_look 86 = .ok (.getfield 21, 3) := by decide +kernel
theorem d_Cek_look_89 : decode b_Cek_look 89 = .ok (.getfield 149, 3) := by decide +kernel
theorem d_Cek_look_92 : decode b_Cek_look 92 = .ok (.invokevirtual 153, 3) := by decide +kernel
theorem d_Cek_look_95 : decode b_Cek_look 95 = .ok (.ireturn, 1) := by decide +kernel
theorem d_Cek_look_96 : decode b_Cek_look 96 = .ok (.aload_n 0, 1) := by decide +kernel
theorem d_Cek_look_97 : decode b_Cek_look 97 = .ok (.getfield 25, 3) := by decide +kernel
theorem d_Cek_look_100 : decode b_Cek_look 100 = .ok (.iconst (-1), 1) := by decide +kernel
theorem d_Cek_look_101 : decode b_Cek_look 101 = .ok (.if_icmp .ne 7, 3) := by decide +kernel
theorem d_Cek_look_104 : decode b_Cek_look 104 = .ok (.iconst (-1), 1) := by decide +kernel
theorem d_Cek_look_105 : decode b_Cek_look 105 = .ok (.goto 13, 3) := by decide +kernel
theorem d_Cek_look_108 : decode b_Cek_look 108 = .ok (.aload_n 0, 1) := by decide +kernel
theorem d_Cek_look_109 : decode b_Cek_look 109 = .ok (.getfield 21, 3) := by decide +kernel
theorem d_Cek_look_112 : decode b_Cek_look 112 = .ok (.getfield 149, 3) := by decide +kernel
theorem d_Cek_look_115 : decode b_Cek_look 115 = .ok (.invokevirtual 158, 3) := by decide +kernel
theorem d_Cek_look_118 : decode b_Cek_look 118 = .ok (.ireturn, 1) := by decide +kernel
theorem d_Cek_look_119 : decode b_Cek_look 119 = .ok (.aload_n 0, 1) := by decide +kernel
theorem d_Cek_look_120 : decode b_Cek_look 120 = .ok (.getfield 25, 3) := by decide +kernel
theorem d_Cek_look_123 : decode b_Cek_look 123 = .ok (.iconst (-1), 1) := by decide +kernel
theorem d_Cek_look_124 : decode b_Cek_look 124 = .ok (.if_icmp .ne 7, 3) := by decide +kernel
theorem d_Cek_look_127 : decode b_Cek_look 127 = .ok (.iconst (-1), 1) := by decide +kernel
theorem d_Cek_look_128 : decode b_Cek_look 128 = .ok (.goto 13, 3) := by decide +kernel
theorem d_Cek_look_131 : decode b_Cek_look 131 = .ok (.aload_n 0, 1) := by decide +kernel
theorem d_Cek_look_132 : decode b_Cek_look 132 = .ok (.getfield 21, 3) := by decide +kernel
theorem d_Cek_look_135 : decode b_Cek_look 135 = .ok (.getfield 161, 3) := by decide +kernel
theorem d_Cek_look_138 : decode b_Cek_look 138 = .ok (.invokevirtual 165, 3) := by decide +kernel
theorem d_Cek_look_141 : decode b_Cek_look 141 = .ok (.ireturn, 1) := by decide +kernel
theorem d_Cek_look_142 : decode b_Cek_look 142 = .ok (.iconst (-1), 1) := by decide +kernel
theorem d_Cek_look_143 : decode b_Cek_look 143 = .ok (.ireturn, 1) := by decide +kernel
def f_Cek_look (C_answer : Int) (T_nodes : Int) (T_count : Int) (T_lacks : Int → Int) (M_steps : Int) (M_memory : Int) (W_most : Int) (p1 : Int) : Option (Int) :=
  if rI p1 = true then (
   if p1 = 0 then (
    Option.bind (f_Terms_count T_count) (fun r3 =>
     some r3)) else (
    if p1 = 1 then (
     Option.bind (f_Terms_nodeCount T_nodes) (fun r6 =>
      some r6)) else (
     if p1 = 2 then (
      Option.bind (f_Terms_lacksOfLast T_nodes T_lacks) (fun r9 =>
       some r9)) else (
      if p1 = 3 then (
       some C_answer) else (
       if p1 = 4 then (
        if jr2 C_answer (-1) = true then (if C_answer = (-1) then (
         some (-1)) else (
         Option.bind (f_Meter_steps M_steps) (fun r14 =>
          some r14))) else none) else (
        if p1 = 5 then (
         if jr2 C_answer (-1) = true then (if C_answer = (-1) then (
          some (-1)) else (
          Option.bind (f_Meter_memory M_memory) (fun r18 =>
           some r18))) else none) else (
         if p1 = 6 then (
          if jr2 C_answer (-1) = true then (if C_answer = (-1) then (
           some (-1)) else (
           Option.bind (f_Waiting_most W_most) (fun r22 =>
            some r22))) else none) else (
          some (-1))))))))) else none
set_option maxHeartbeats 4000000 in
set_option maxRecDepth 100000 in
theorem c_Cek_look {l : Launch} {D : va_G} {cI cL cB : ClassId} {ad : Nat → Nat} {C_answer : Int} {T_nodes : Int} {T_count : Int} {T_lacks : Int → Int} {E_node : Int} {E_scope : Int} {E_value : Int} {M_steps : Int} {M_memory : Int} {M_mostSteps : Int} {M_mostMemory : Int} {M_fault : Int} {W_depth : Int} {W_most : Int} {p1 : Int} {out : Int} (h : f_Cek_look C_answer T_nodes T_count T_lacks M_steps M_memory W_most p1 = some out) : CT jF0 true l D [(cI, .int), (cL, .long), (cB, .byte)] y_Cek_look w_Cek_look ({ frames := 3, cells := 0, slots := 0, locals := 62 } : Room) [.ref (ad 0), .int (zI p1)] [(ad 0, .inr (0, [.ref (ad 1), .ref (ad 8), .int (zI C_answer)])), (ad 1, .inr (1, [.ref (ad 2), .ref (ad 3), .ref (ad 4), .ref (ad 5), .ref (ad 6), .int (zI T_nodes), .int (zI T_count)])), (ad 5, .inl (cI, 200, .inl (zA T_lacks))), (ad 8, .inr (3, [.ref (ad 9), .ref (ad 23), .ref (ad 24), .ref (ad 28), .ref (ad 31), .ref (ad 1), .int (zI E_node), .int (zI E_scope), .int (zI E_value)])), (ad 23, .inr (6, [.int (zI M_steps), .int (zI M_memory), .int (zI M_mostSteps), .int (zI M_mostMemory), .int (zI M_fault)])), (ad 24, .inr (7, [.ref (ad 25), .ref (ad 26), .ref (ad 27), .int (zI W_depth), .int (zI W_most)]))] (some (.int (zI out))) [(ad 0, .inr (0, [.ref (ad 1), .ref (ad 8), .int (zI C_answer)])), (ad 1, .inr (1, [.ref (ad 2), .ref (ad 3), .ref (ad 4), .ref (ad 5), .ref (ad 6), .int (zI T_nodes), .int (zI T_count)])), (ad 5, .inl (cI, 200, .inl (zA T_lacks))), (ad 8, .inr (3, [.ref (ad 9), .ref (ad 23), .ref (ad 24), .ref (ad 28), .ref (ad 31), .ref (ad 1), .int (zI E_node), .int (zI E_scope), .int (zI E_value)])), (ad 23, .inr (6, [.int (zI M_steps), .int (zI M_memory), .int (zI M_mostSteps), .int (zI M_mostMemory), .int (zI M_fault)])), (ad 24, .inr (7, [.ref (ad 25), .ref (ad 26), .ref (ad 27), .int (zI W_depth), .int (zI W_most)]))] 0 0 := by
  refine CT_of_J (cc := b_Cek_look) (maxL := 2) (ret := (some .int)) jF0_k (plainFor_of_name (by decide)) rfl (Nat.le_of_ble_eq_true rfl) ?_
  intro K hKl hKD X E
  subst hKl; subst hKD
  unfold f_Cek_look at h
  refine J_iload_n X d_Cek_look_0 rfl 1 rfl ?_
  obtain ⟨g1, h⟩ := wk_g h
  rcases wk_c h with ⟨c2, h⟩ | ⟨c2, h⟩
  · refine J_tsIn (tgt := 44) X 0 c2 g1 d_Cek_look_1 (by decide) (by decide) rfl (by decide) ?_
    refine J_aload_n X d_Cek_look_44 rfl 0 rfl ?_
    refine J_get X (j_in in_Cek) 0 rfl rfl 0 (by decide) (j_m own_Cek_look (by decide +kernel)) rfl d_Cek_look_45 ?_
    obtain ⟨r3, q4, h⟩ := wk_b h
    refine J_afterP (jrunV X (c_Terms_count (ad := ad) q4) jF0_k (fun _ _ _ _ => trivial) (jgV own_Cek_look (by decide +kernel)) rfl rfl rfl pd_Terms_count (by decide) [1] rfl (by decide) 0 1 rfl rfl rfl rfl (Nat.le_of_ble_eq_true rfl) d_Cek_look_48 (by decide)) ?_
    cases h
    exact J_ret E ⟨_, rfl, rfl⟩ d_Cek_look_51 (Nat.le_refl _) (Nat.le_refl _) rfl
  · rcases wk_c h with ⟨c5, h⟩ | ⟨c5, h⟩
    · refine J_tsIn (tgt := 52) X 1 c5 g1 d_Cek_look_1 (by decide) (by decide) rfl (by decide) ?_
      refine J_aload_n X d_Cek_look_52 rfl 0 rfl ?_
      refine J_get X (j_in in_Cek) 0 rfl rfl 0 (by decide) (j_m own_Cek_look (by decide +kernel)) rfl d_Cek_look_53 ?_
      obtain ⟨r6, q7, h⟩ := wk_b h
      refine J_afterP (jrunV X (c_Terms_nodeCount (ad := ad) q7) jF0_k (fun _ _ _ _ => trivial) (jgV own_Cek_look (by decide +kernel)) rfl rfl rfl pd_Terms_nodeCount (by decide) [1] rfl (by decide) 0 1 rfl rfl rfl rfl (Nat.le_of_ble_eq_true rfl) d_Cek_look_56 (by decide)) ?_
      cases h
      exact J_ret E ⟨_, rfl, rfl⟩ d_Cek_look_59 (Nat.le_refl _) (Nat.le_refl _) rfl
    · rcases wk_c h with ⟨c8, h⟩ | ⟨c8, h⟩
      · refine J_tsIn (tgt := 60) X 2 c8 g1 d_Cek_look_1 (by decide) (by decide) rfl (by decide) ?_
        refine J_aload_n X d_Cek_look_60 rfl 0 rfl ?_
        refine J_get X (j_in in_Cek) 0 rfl rfl 0 (by decide) (j_m own_Cek_look (by decide +kernel)) rfl d_Cek_look_61 ?_
        obtain ⟨r9, q10, h⟩ := wk_b h
        refine J_afterP (jrunV X (c_Terms_lacksOfLast (ad := ad) q10) jF0_k (fun _ _ _ _ => trivial) (jgV own_Cek_look (by decide +kernel)) rfl rfl rfl pd_Terms_lacksOfLast (by decide) [1, 2] rfl (by decide) 0 1 rfl rfl rfl rfl (Nat.le_of_ble_eq_true rfl) d_Cek_look_64 (by decide)) ?_
        cases h
        exact J_ret E ⟨_, rfl, rfl⟩ d_Cek_look_67 (Nat.le_refl _) (Nat.le_refl _) rfl
      · rcases wk_c h with ⟨c11, h⟩ | ⟨c11, h⟩
        · refine J_tsIn (tgt := 68) X 3 c11 g1 d_Cek_look_1 (by decide) (by decide) rfl (by decide) ?_
          refine J_aload_n X d_Cek_look_68 rfl 0 rfl ?_
          refine J_get X (j_in in_Cek) 0 rfl rfl 2 (by decide) (j_m own_Cek_look (by decide +kernel)) rfl d_Cek_look_69 ?_
          cases h
          exact J_ret E ⟨_, rfl, rfl⟩ d_Cek_look_72 (Nat.le_refl _) (Nat.le_refl _) rfl
        · rcases wk_c h with ⟨c12, h⟩ | ⟨c12, h⟩
          · refine J_tsIn (tgt := 73) X 4 c12 g1 d_Cek_look_1 (by decide) (by decide) rfl (by decide) ?_
            refine J_aload_n X d_Cek_look_73 rfl 0 rfl ?_
            refine J_get X (j_in in_Cek) 0 rfl rfl 2 (by decide) (j_m own_Cek_look (by decide +kernel)) rfl d_Cek_look_74 ?_
            refine J_iconst X d_Cek_look_77 ?_
            refine J_icmp_ne (tgt := 85) X d_Cek_look_78 (by decide) h (fun c13 h => ?_) (fun c13 h => ?_)
            · refine J_aload_n X d_Cek_look_85 rfl 0 rfl ?_
              refine J_get X (j_in in_Cek) 0 rfl rfl 1 (by decide) (j_m own_Cek_look (by decide +kernel)) rfl d_Cek_look_86 ?_
              refine J_get X (j_in in_Evaluator) 3 rfl rfl 1 (by decide) (j_m own_Cek_look (by decide +kernel)) rfl d_Cek_look_89 ?_
              obtain ⟨r14, q15, h⟩ := wk_b h
              refine J_afterP (jrunV X (c_Meter_steps (ad := ad) q15) jF0_k (fun _ _ _ _ => trivial) (jgV own_Cek_look (by decide +kernel)) rfl rfl rfl pd_Meter_steps (by decide) [4] rfl (by decide) 0 6 rfl rfl rfl rfl (Nat.le_of_ble_eq_true rfl) d_Cek_look_92 (by decide)) ?_
              cases h
              exact J_ret E ⟨_, rfl, rfl⟩ d_Cek_look_95 (Nat.le_refl _) (Nat.le_refl _) rfl
            · refine J_iconst X d_Cek_look_81 ?_
              refine J_goto (tgt := 95) X d_Cek_look_82 (by decide) ?_
              cases h
              exact J_ret E ⟨_, rfl, rfl⟩ d_Cek_look_95 (Nat.le_refl _) (Nat.le_refl _) rfl
          · rcases wk_c h with ⟨c16, h⟩ | ⟨c16, h⟩
            · refine J_tsIn (tgt := 96) X 5 c16 g1 d_Cek_look_1 (by decide) (by decide) rfl (by decide) ?_
              refine J_aload_n X d_Cek_look_96 rfl 0 rfl ?_
              refine J_get X (j_in in_Cek) 0 rfl rfl 2 (by decide) (j_m own_Cek_look (by decide +kernel)) rfl d_Cek_look_97 ?_
              refine J_iconst X d_Cek_look_100 ?_
              refine J_icmp_ne (tgt := 108) X d_Cek_look_101 (by decide) h (fun c17 h => ?_) (fun c17 h => ?_)
              · refine J_aload_n X d_Cek_look_108 rfl 0 rfl ?_
                refine J_get X (j_in in_Cek) 0 rfl rfl 1 (by decide) (j_m own_Cek_look (by decide +kernel)) rfl d_Cek_look_109 ?_
                refine J_get X (j_in in_Evaluator) 3 rfl rfl 1 (by decide) (j_m own_Cek_look (by decide +kernel)) rfl d_Cek_look_112 ?_
                obtain ⟨r18, q19, h⟩ := wk_b h
                refine J_afterP (jrunV X (c_Meter_memory (ad := ad) q19) jF0_k (fun _ _ _ _ => trivial) (jgV own_Cek_look (by decide +kernel)) rfl rfl rfl pd_Meter_memory (by decide) [4] rfl (by decide) 0 6 rfl rfl rfl rfl (Nat.le_of_ble_eq_true rfl) d_Cek_look_115 (by decide)) ?_
                cases h
                exact J_ret E ⟨_, rfl, rfl⟩ d_Cek_look_118 (Nat.le_refl _) (Nat.le_refl _) rfl
              · refine J_iconst X d_Cek_look_104 ?_
                refine J_goto (tgt := 118) X d_Cek_look_105 (by decide) ?_
                cases h
                exact J_ret E ⟨_, rfl, rfl⟩ d_Cek_look_118 (Nat.le_refl _) (Nat.le_refl _) rfl
            · rcases wk_c h with ⟨c20, h⟩ | ⟨c20, h⟩
              · refine J_tsIn (tgt := 119) X 6 c20 g1 d_Cek_look_1 (by decide) (by decide) rfl (by decide) ?_
                refine J_aload_n X d_Cek_look_119 rfl 0 rfl ?_
                refine J_get X (j_in in_Cek) 0 rfl rfl 2 (by decide) (j_m own_Cek_look (by decide +kernel)) rfl d_Cek_look_120 ?_
                refine J_iconst X d_Cek_look_123 ?_
                refine J_icmp_ne (tgt := 131) X d_Cek_look_124 (by decide) h (fun c21 h => ?_) (fun c21 h => ?_)
                · refine J_aload_n X d_Cek_look_131 rfl 0 rfl ?_
                  refine J_get X (j_in in_Cek) 0 rfl rfl 1 (by decide) (j_m own_Cek_look (by decide +kernel)) rfl d_Cek_look_132 ?_
                  refine J_get X (j_in in_Evaluator) 3 rfl rfl 2 (by decide) (j_m own_Cek_look (by decide +kernel)) rfl d_Cek_look_135 ?_
                  obtain ⟨r22, q23, h⟩ := wk_b h
                  refine J_afterP (jrunV X (c_Waiting_most (ad := ad) q23) jF0_k (fun _ _ _ _ => trivial) (jgV own_Cek_look (by decide +kernel)) rfl rfl rfl pd_Waiting_most (by decide) [5] rfl (by decide) 0 7 rfl rfl rfl rfl (Nat.le_of_ble_eq_true rfl) d_Cek_look_138 (by decide)) ?_
                  cases h
                  exact J_ret E ⟨_, rfl, rfl⟩ d_Cek_look_141 (Nat.le_refl _) (Nat.le_refl _) rfl
                · refine J_iconst X d_Cek_look_127 ?_
                  refine J_goto (tgt := 141) X d_Cek_look_128 (by decide) ?_
                  cases h
                  exact J_ret E ⟨_, rfl, rfl⟩ d_Cek_look_141 (Nat.le_refl _) (Nat.le_refl _) rfl
              · refine J_tsOut (tgt := 142) X g1 d_Cek_look_1 (by omega) (by decide) ?_
                refine J_iconst X d_Cek_look_142 ?_
                cases h
                exact J_ret E ⟨_, rfl, rfl⟩ d_Cek_look_143 (Nat.le_refl _) (Nat.le_refl _) rfl
