abbrev wt_Cek_node : List Cond := .code y_Cek_node b_Cek_node 4 (some .int) :: (wX ++ wA)
def t_Cek_node (T_nodes : Int) (T_count : Int) (p1 : Int) (p2 : Int) : Option (Int) :=
  Option.bind (f_Terms_allows p1 p2) (fun r1 =>
   if rI r1 = true then (if r1 = 0 then (
    some 1) else (
    Option.bind (f_Terms_count T_count) (fun r4 =>
     Option.bind (f_Terms_partsOf p1) (fun r6 =>
      if jr2 r4 r6 = true then (if r4 < r6 then (
       some 2) else (
       Option.bind (f_Terms_isFull T_nodes) (fun r9 =>
        if rI r9 = true then (if r9 = 0 then (
         none) else (
         some 2)) else none))) else none)))) else none)
set_option maxHeartbeats 4000000 in
set_option maxRecDepth 100000 in
theorem ct_Cek_node {l : Launch} {D : va_G} {cI cL cB : ClassId} {ad : Nat → Nat} {adK adV : Nat → Nat} {ro : Nat} {C_answer : Int} {T_nodes : Int} {T_count : Int} {T_kinds : Int → Int} {T_args : Int → Int} {T_firsts : Int → Int} {T_lacks : Int → Int} {p1 : Int} {p2 : Int} {out : Int} (hfl : l.flags = pinnedFlags ++ [noTraceFlag]) (h : t_Cek_node T_nodes T_count p1 p2 = some out) : CTT (jFe adK adV ro) l D [(cI, .int), (cL, .long), (cB, .byte)] y_Cek_node wt_Cek_node ({ frames := 6, cells := 1, slots := 6, locals := 110 } : Room) [.ref (ad 0), .int (zI p1), .long (zL p2)] [(ad 0, .inr (0, [.ref (ad 1), .ref (ad 8), .int (zI C_answer)])), (ad 1, .inr (1, [.ref (ad 2), .ref (ad 3), .ref (ad 4), .ref (ad 5), .ref (ad 6), .int (zI T_nodes), .int (zI T_count)])), (ad 2, .inl (cI, 200, .inl (zA T_kinds))), (ad 3, .inl (cL, 200, .inr (.inl (zB T_args)))), (ad 4, .inl (cI, 200, .inl (zA T_firsts))), (ad 5, .inl (cI, 200, .inl (zA T_lacks)))] (exN out) := by
  refine CTT_of_J (adK := adK) (adV := adV) (ro := ro) (cc := b_Cek_node) (maxL := 4) (ret := (some .int)) hfl jFe_k (fun _ _ _ h => h) (plainFor_of_name (by decide)) rfl (Nat.le_of_ble_eq_true rfl) (ex_fit _) (ex_ins _) (ex_ini _) (by decide) ?_
  intro K hKl hKD X T
  subst hKl; subst hKD
  unfold t_Cek_node at h
  refine J_iload_n X d_Cek_node_0 rfl 1 rfl ?_
  refine J_lload_n X d_Cek_node_1 rfl 2 rfl ?_
  obtain ⟨r1, q2, h⟩ := wk_b h
  refine J_afterP (jrunS X (c_Terms_allows (ad := ad) q2) jF0_k (fun _ _ _ _ => trivial) (jtS own_Cek_node (by decide +kernel)) rfl rfl rfl pd_Terms_allows (by decide) [] rfl (by decide) rfl rfl (Nat.le_of_ble_eq_true rfl) d_Cek_node_2 (by decide)) ?_
  refine J_if_ne (tgt := 18) X d_Cek_node_5 (by decide) h (fun c3 h => ?_) (fun c3 h => ?_)
  · refine J_aload_n X d_Cek_node_18 rfl 0 rfl ?_
    refine J_get X (jt_in in_Cek) 0 rfl rfl 0 (by decide) (jt_m own_Cek_node (by decide +kernel)) rfl d_Cek_node_19 ?_
    obtain ⟨r4, q5, h⟩ := wk_b h
    refine J_afterP (jrunV X (c_Terms_count (ad := ad) q5) jF0_k (fun _ _ _ _ => trivial) (jtV own_Cek_node (by decide +kernel)) rfl rfl rfl pd_Terms_count (by decide) [1] rfl (by decide) 0 1 rfl rfl rfl rfl (Nat.le_of_ble_eq_true rfl) d_Cek_node_22 (by decide)) ?_
    refine J_iload_n X d_Cek_node_25 rfl 1 rfl ?_
    obtain ⟨r6, q7, h⟩ := wk_b h
    refine J_afterP (jrunS X (c_Terms_partsOf (ad := ad) q7) jF0_k (fun _ _ _ _ => trivial) (jtS own_Cek_node (by decide +kernel)) rfl rfl rfl pd_Terms_partsOf (by decide) [] rfl (by decide) rfl rfl (Nat.le_of_ble_eq_true rfl) d_Cek_node_26 (by decide)) ?_
    refine J_icmp_lt (tgt := 42) X d_Cek_node_29 (by decide) h (fun c8 h => ?_) (fun c8 h => ?_)
    · have h := Option.some.inj h
      subst h
      exact J_throw T d_Cek_node_42 d_Cek_node_45 d_Cek_node_46 d_Cek_node_48 d_Cek_node_51 1 rfl (jt_x (by decide +kernel)) ex_at2 (Nat.le_of_ble_eq_true rfl)
    · refine J_aload_n X d_Cek_node_32 rfl 0 rfl ?_
      refine J_get X (jt_in in_Cek) 0 rfl rfl 0 (by decide) (jt_m own_Cek_node (by decide +kernel)) rfl d_Cek_node_33 ?_
      obtain ⟨r9, q10, h⟩ := wk_b h
      refine J_afterP (jrunV X (c_Terms_isFull (ad := ad) q10) jF0_k (fun _ _ _ _ => trivial) (jtV own_Cek_node (by decide +kernel)) rfl rfl rfl pd_Terms_isFull (by decide) [1] rfl (by decide) 0 1 rfl rfl rfl rfl (Nat.le_of_ble_eq_true rfl) d_Cek_node_36 (by decide)) ?_
      refine J_if_eq (tgt := 52) X d_Cek_node_39 (by decide) h (fun c11 h => ?_) (fun c11 h => ?_)
      · refine J_aload_n X d_Cek_node_52 rfl 0 rfl ?_
        refine J_get X (jt_in in_Cek) 0 rfl rfl 0 (by decide) (jt_m own_Cek_node (by decide +kernel)) rfl d_Cek_node_53 ?_
        refine J_iload_n X d_Cek_node_56 rfl 1 rfl ?_
        refine J_lload_n X d_Cek_node_57 rfl 2 rfl ?_
        cases h
      · have h := Option.some.inj h
        subst h
        exact J_throw T d_Cek_node_42 d_Cek_node_45 d_Cek_node_46 d_Cek_node_48 d_Cek_node_51 1 rfl (jt_x (by decide +kernel)) ex_at2 (Nat.le_of_ble_eq_true rfl)
  · have h := Option.some.inj h
    subst h
    exact J_throw T d_Cek_node_8 d_Cek_node_11 d_Cek_node_12 d_Cek_node_14 d_Cek_node_17 0 rfl (jt_x (by decide +kernel)) ex_at1 (Nat.le_of_ble_eq_true rfl)

abbrev wt_Cek_bytes : List Cond := .code y_Cek_bytes b_Cek_bytes 4 (some .int) :: (wX ++ wA)
def t_Cek_bytes (T_nodes : Int) (p3 : Int) : Option (Int) :=
  if rI p3 = true then (if p3 < 0 then (
   some 1) else (
   if jr2 p3 8 = true then (if p3 ≤ 8 then (
    Option.bind (f_Terms_isFull T_nodes) (fun r3 =>
     if rI r3 = true then (if r3 = 0 then (
      none) else (
      some 2)) else none)) else (
    some 1)) else none)) else none
set_option maxHeartbeats 4000000 in
set_option maxRecDepth 100000 in
theorem ct_Cek_bytes {l : Launch} {D : va_G} {cI cL cB : ClassId} {ad : Nat → Nat} {adK adV : Nat → Nat} {ro : Nat} {C_answer : Int} {T_nodes : Int} {T_count : Int} {T_kinds : Int → Int} {T_args : Int → Int} {T_firsts : Int → Int} {T_lacks : Int → Int} {TB_top : Int} {TB_row : Int → Int} {p1 : Int} {p3 : Int} {out : Int} (hfl : l.flags = pinnedFlags ++ [noTraceFlag]) (h : t_Cek_bytes T_nodes p3 = some out) : CTT (jFe adK adV ro) l D [(cI, .int), (cL, .long), (cB, .byte)] y_Cek_bytes wt_Cek_bytes ({ frames := 6, cells := 1, slots := 6, locals := 110 } : Room) [.ref (ad 0), .long (zL p1), .int (zI p3)] [(ad 0, .inr (0, [.ref (ad 1), .ref (ad 8), .int (zI C_answer)])), (ad 1, .inr (1, [.ref (ad 2), .ref (ad 3), .ref (ad 4), .ref (ad 5), .ref (ad 6), .int (zI T_nodes), .int (zI T_count)])), (ad 2, .inl (cI, 200, .inl (zA T_kinds))), (ad 3, .inl (cL, 200, .inr (.inl (zB T_args)))), (ad 4, .inl (cI, 200, .inl (zA T_firsts))), (ad 5, .inl (cI, 200, .inl (zA T_lacks))), (ad 6, .inr (2, [.ref (ad 7), .int (zI TB_top)])), (ad 7, .inl (cB, 12800, .inl (zA TB_row)))] (exN out) := by
  refine CTT_of_J (adK := adK) (adV := adV) (ro := ro) (cc := b_Cek_bytes) (maxL := 4) (ret := (some .int)) hfl jFe_k (fun _ _ _ h => h) (plainFor_of_name (by decide)) rfl (Nat.le_of_ble_eq_true rfl) (ex_fit _) (ex_ins _) (ex_ini _) (by decide) ?_
  intro K hKl hKD X T
  subst hKl; subst hKD
  unfold t_Cek_bytes at h
  refine J_iload_n X d_Cek_bytes_0 rfl 2 rfl ?_
  refine J_if_lt (tgt := 10) X d_Cek_bytes_1 (by decide) h (fun c1 h => ?_) (fun c1 h => ?_)
  · have h := Option.some.inj h
    subst h
    exact J_throw T d_Cek_bytes_10 d_Cek_bytes_13 d_Cek_bytes_14 d_Cek_bytes_16 d_Cek_bytes_19 2 rfl (jt_x (by decide +kernel)) ex_at1 (Nat.le_of_ble_eq_true rfl)
  · refine J_iload_n X d_Cek_bytes_4 rfl 2 rfl ?_
    refine J_bipush X d_Cek_bytes_5 (by decide) ?_
    refine J_icmp_le (tgt := 20) X d_Cek_bytes_7 (by decide) h (fun c2 h => ?_) (fun c2 h => ?_)
    · refine J_aload_n X d_Cek_bytes_20 rfl 0 rfl ?_
      refine J_get X (jt_in in_Cek) 0 rfl rfl 0 (by decide) (jt_m own_Cek_bytes (by decide +kernel)) rfl d_Cek_bytes_21 ?_
      obtain ⟨r3, q4, h⟩ := wk_b h
      refine J_afterP (jrunV X (c_Terms_isFull (ad := ad) q4) jF0_k (fun _ _ _ _ => trivial) (jtV own_Cek_bytes (by decide +kernel)) rfl rfl rfl pd_Terms_isFull (by decide) [1] rfl (by decide) 0 1 rfl rfl rfl rfl (Nat.le_of_ble_eq_true rfl) d_Cek_bytes_24 (by decide)) ?_
      refine J_if_eq (tgt := 40) X d_Cek_bytes_27 (by decide) h (fun c5 h => ?_) (fun c5 h => ?_)
      · refine J_aload_n X d_Cek_bytes_40 rfl 0 rfl ?_
        refine J_get X (jt_in in_Cek) 0 rfl rfl 0 (by decide) (jt_m own_Cek_bytes (by decide +kernel)) rfl d_Cek_bytes_41 ?_
        refine J_bipush X d_Cek_bytes_44 (by decide) ?_
        refine J_lconst (v := 0) X d_Cek_bytes_46 (by decide) ?_
        cases h
      · have h := Option.some.inj h
        subst h
        exact J_throw T d_Cek_bytes_30 d_Cek_bytes_33 d_Cek_bytes_34 d_Cek_bytes_36 d_Cek_bytes_39 3 rfl (jt_x (by decide +kernel)) ex_at2 (Nat.le_of_ble_eq_true rfl)
    · have h := Option.some.inj h
      subst h
      exact J_throw T d_Cek_bytes_10 d_Cek_bytes_13 d_Cek_bytes_14 d_Cek_bytes_16 d_Cek_bytes_19 2 rfl (jt_x (by decide +kernel)) ex_at1 (Nat.le_of_ble_eq_true rfl)

abbrev wt_Cek_run : List Cond := .code y_Cek_run b_Cek_run 3 (some .int) :: (wX ++ wA)
def t_Cek_run (T_nodes : Int) (T_count : Int) (T_lacks : Int → Int) (p1 : Int) (p2 : Int) : Option (Int) :=
  Option.bind (f_Terms_count T_count) (fun r1 =>
   if rI r1 = true then (if r1 = 0 then (
    some 2) else (
    Option.bind (f_Terms_lacksOfLast T_nodes T_lacks) (fun r4 =>
     if rI r4 = true then (if r4 = 0 then (
      if rI p1 = true then (if p1 < 0 then (
       some 1) else (
       if jr2 p1 20000 = true then (if 20000 < p1 then (
        some 1) else (
        if rI p2 = true then (if p2 < 0 then (
         some 1) else (
         if jr2 p2 3000 = true then (if p2 ≤ 3000 then (
          none) else (
          some 1)) else none)) else none)) else none)) else none) else (
      some 2)) else none))) else none)
set_option maxHeartbeats 4000000 in
set_option maxRecDepth 100000 in
theorem ct_Cek_run {l : Launch} {D : va_G} {cI cL cB : ClassId} {ad : Nat → Nat} {adK adV : Nat → Nat} {ro : Nat} {C_answer : Int} {T_nodes : Int} {T_count : Int} {T_kinds : Int → Int} {T_args : Int → Int} {T_firsts : Int → Int} {T_lacks : Int → Int} {TB_top : Int} {TB_row : Int → Int} {E_node : Int} {E_scope : Int} {E_value : Int} {V_top : Int} {V_kinds : Int → Int} {V_numbers : Int → Int} {V_parts : Int → Int} {V_links : Int → Int} {VB_top : Int} {VB_row : Int → Int} {D_top : Int} {D_forms : Int → Int} {D_counts : Int → Int} {D_numbers : Int → Int} {D_nodes : Int → Int} {D_depths : Int → Int} {D_weights : Int → Int} {M_steps : Int} {M_memory : Int} {M_mostSteps : Int} {M_mostMemory : Int} {M_fault : Int} {W_depth : Int} {W_most : Int} {W_nodes : Int → Int} {W_scopes : Int → Int} {W_functions : Int → Int} {S_top : Int} {S_bound : Int → Int} {S_outer : Int → Int} {B_ready : Int} {B_given : Int → Int} {p1 : Int} {p2 : Int} {out : Int} (hfl : l.flags = pinnedFlags ++ [noTraceFlag]) (h : t_Cek_run T_nodes T_count T_lacks p1 p2 = some out) : CTT (jFe adK adV ro) l D [(cI, .int), (cL, .long), (cB, .byte)] y_Cek_run wt_Cek_run ({ frames := 7, cells := 1, slots := 6, locals := 200 } : Room) [.ref (ad 0), .int (zI p1), .int (zI p2)] [(ad 0, .inr (0, [.ref (ad 1), .ref (ad 8), .int (zI C_answer)])), (ad 1, .inr (1, [.ref (ad 2), .ref (ad 3), .ref (ad 4), .ref (ad 5), .ref (ad 6), .int (zI T_nodes), .int (zI T_count)])), (ad 2, .inl (cI, 200, .inl (zA T_kinds))), (ad 3, .inl (cL, 200, .inr (.inl (zB T_args)))), (ad 4, .inl (cI, 200, .inl (zA T_firsts))), (ad 5, .inl (cI, 200, .inl (zA T_lacks))), (ad 6, .inr (2, [.ref (ad 7), .int (zI TB_top)])), (ad 7, .inl (cB, 12800, .inl (zA TB_row))), (ad 8, .inr (3, [.ref (ad 9), .ref (ad 23), .ref (ad 24), .ref (ad 28), .ref (ad 31), .ref (ad 1), .int (zI E_node), .int (zI E_scope), .int (zI E_value)])), (ad 9, .inr (4, [.ref (ad 14), .ref (ad 16), .ref (ad 10), .ref (ad 11), .ref (ad 12), .ref (ad 13), .int (zI V_top)])), (ad 10, .inl (cI, 3201, .inl (zA V_kinds))), (ad 11, .inl (cL, 3201, .inr (.inl (zB V_numbers)))), (ad 12, .inl (cI, 3201, .inl (zA V_parts))), (ad 13, .inl (cI, 3201, .inl (zA V_links))), (ad 14, .inr (2, [.ref (ad 15), .int (zI VB_top)])), (ad 15, .inl (cB, 36864, .inl (zA VB_row))), (ad 16, .inr (5, [.ref (ad 17), .ref (ad 18), .ref (ad 19), .ref (ad 20), .ref (ad 21), .ref (ad 22), .int (zI D_top)])), (ad 17, .inl (cI, 3201, .inl (zA D_forms))), (ad 18, .inl (cI, 3201, .inl (zA D_counts))), (ad 19, .inl (cL, 3201, .inr (.inl (zB D_numbers)))), (ad 20, .inl (cI, 3201, .inl (zA D_nodes))), (ad 21, .inl (cI, 3201, .inl (zA D_depths))), (ad 22, .inl (cI, 3201, .inl (zA D_weights))), (ad 23, .inr (6, [.int (zI M_steps), .int (zI M_memory), .int (zI M_mostSteps), .int (zI M_mostMemory), .int (zI M_fault)])), (ad 24, .inr (7, [.ref (ad 25), .ref (ad 26), .ref (ad 27), .int (zI W_depth), .int (zI W_most)])), (ad 25, .inl (cI, 400, .inl (zA W_nodes))), (ad 26, .inl (cI, 400, .inl (zA W_scopes))), (ad 27, .inl (cI, 400, .inl (zA W_functions))), (ad 28, .inr (8, [.ref (ad 29), .ref (ad 30), .int (zI S_top)])), (ad 29, .inl (cI, 3000, .inl (zA S_bound))), (ad 30, .inl (cI, 3000, .inl (zA S_outer))), (ad 31, .inr (9, [.ref (ad 9), .ref (ad 23), .ref (ad 32), .int (zI B_ready)])), (ad 32, .inl (cI, 3, .inl (zA B_given)))] (exN out) := by
  refine CTT_of_J (adK := adK) (adV := adV) (ro := ro) (cc := b_Cek_run) (maxL := 3) (ret := (some .int)) hfl jFe_k (fun _ _ _ h => h) (plainFor_of_name (by decide)) rfl (Nat.le_of_ble_eq_true rfl) (ex_fit _) (ex_ins _) (ex_ini _) (by decide) ?_
  intro K hKl hKD X T
  subst hKl; subst hKD
  unfold t_Cek_run at h
  refine J_aload_n X d_Cek_run_0 rfl 0 rfl ?_
  refine J_get X (jt_in in_Cek) 0 rfl rfl 0 (by decide) (jt_m own_Cek_run (by decide +kernel)) rfl d_Cek_run_1 ?_
  obtain ⟨r1, q2, h⟩ := wk_b h
  refine J_afterP (jrunV X (c_Terms_count (ad := ad) q2) jF0_k (fun _ _ _ _ => trivial) (jtV own_Cek_run (by decide +kernel)) rfl rfl rfl pd_Terms_count (by decide) [1] rfl (by decide) 0 1 rfl rfl rfl rfl (Nat.le_of_ble_eq_true rfl) d_Cek_run_4 (by decide)) ?_
  refine J_if_eq (tgt := 20) X d_Cek_run_7 (by decide) h (fun c3 h => ?_) (fun c3 h => ?_)
  · have h := Option.some.inj h
    subst h
    exact J_throw T d_Cek_run_20 d_Cek_run_23 d_Cek_run_24 d_Cek_run_26 d_Cek_run_29 4 rfl (jt_x (by decide +kernel)) ex_at2 (Nat.le_of_ble_eq_true rfl)
  · refine J_aload_n X d_Cek_run_10 rfl 0 rfl ?_
    refine J_get X (jt_in in_Cek) 0 rfl rfl 0 (by decide) (jt_m own_Cek_run (by decide +kernel)) rfl d_Cek_run_11 ?_
    obtain ⟨r4, q5, h⟩ := wk_b h
    refine J_afterP (jrunV X (c_Terms_lacksOfLast (ad := ad) q5) jF0_k (fun _ _ _ _ => trivial) (jtV own_Cek_run (by decide +kernel)) rfl rfl rfl pd_Terms_lacksOfLast (by decide) [1, 5] rfl (by decide) 0 1 rfl rfl rfl rfl (Nat.le_of_ble_eq_true rfl) d_Cek_run_14 (by decide)) ?_
    refine J_if_eq (tgt := 30) X d_Cek_run_17 (by decide) h (fun c6 h => ?_) (fun c6 h => ?_)
    · refine J_iload_n X d_Cek_run_30 rfl 1 rfl ?_
      refine J_if_lt (tgt := 52) X d_Cek_run_31 (by decide) h (fun c7 h => ?_) (fun c7 h => ?_)
      · have h := Option.some.inj h
        subst h
        exact J_throw T d_Cek_run_52 d_Cek_run_55 d_Cek_run_56 d_Cek_run_58 d_Cek_run_61 5 rfl (jt_x (by decide +kernel)) ex_at1 (Nat.le_of_ble_eq_true rfl)
      · refine J_iload_n X d_Cek_run_34 rfl 1 rfl ?_
        refine J_sipush X d_Cek_run_35 (by decide) ?_
        refine J_icmp_gt (tgt := 52) X d_Cek_run_38 (by decide) h (fun c8 h => ?_) (fun c8 h => ?_)
        · have h := Option.some.inj h
          subst h
          exact J_throw T d_Cek_run_52 d_Cek_run_55 d_Cek_run_56 d_Cek_run_58 d_Cek_run_61 5 rfl (jt_x (by decide +kernel)) ex_at1 (Nat.le_of_ble_eq_true rfl)
        · refine J_iload_n X d_Cek_run_41 rfl 2 rfl ?_
          refine J_if_lt (tgt := 52) X d_Cek_run_42 (by decide) h (fun c9 h => ?_) (fun c9 h => ?_)
          · have h := Option.some.inj h
            subst h
            exact J_throw T d_Cek_run_52 d_Cek_run_55 d_Cek_run_56 d_Cek_run_58 d_Cek_run_61 5 rfl (jt_x (by decide +kernel)) ex_at1 (Nat.le_of_ble_eq_true rfl)
          · refine J_iload_n X d_Cek_run_45 rfl 2 rfl ?_
            refine J_sipush X d_Cek_run_46 (by decide) ?_
            refine J_icmp_le (tgt := 62) X d_Cek_run_49 (by decide) h (fun c10 h => ?_) (fun c10 h => ?_)
            · refine J_aload_n X d_Cek_run_62 rfl 0 rfl ?_
              refine J_aload_n X d_Cek_run_63 rfl 0 rfl ?_
              refine J_get X (jt_in in_Cek) 0 rfl rfl 1 (by decide) (jt_m own_Cek_run (by decide +kernel)) rfl d_Cek_run_64 ?_
              refine J_iload_n X d_Cek_run_67 rfl 1 rfl ?_
              refine J_iload_n X d_Cek_run_68 rfl 2 rfl ?_
              cases h
            · have h := Option.some.inj h
              subst h
              exact J_throw T d_Cek_run_52 d_Cek_run_55 d_Cek_run_56 d_Cek_run_58 d_Cek_run_61 5 rfl (jt_x (by decide +kernel)) ex_at1 (Nat.le_of_ble_eq_true rfl)
    · have h := Option.some.inj h
      subst h
      exact J_throw T d_Cek_run_20 d_Cek_run_23 d_Cek_run_24 d_Cek_run_26 d_Cek_run_29 4 rfl (jt_x (by decide +kernel)) ex_at2 (Nat.le_of_ble_eq_true rfl)

abbrev wt_Cek_number : List Cond := .code y_Cek_number b_Cek_number 2 (some .long) :: (wX ++ wA)
def t_Cek_number (C_answer : Int) (E_value : Int) (V_top : Int) (V_kinds : Int → Int) (V_numbers : Int → Int) (V_parts : Int → Int) (V_links : Int → Int) (D_top : Int) (D_nodes : Int → Int) : Option (Int) :=
  Option.bind (f_Cek_result C_answer E_value) (fun r1 =>
   if jr2 r1 (-1) = true then (if r1 = (-1) then (
    some 2) else (
    Option.bind (f_Values_asNumber V_top V_kinds V_numbers V_parts V_links D_top D_nodes r1) (fun r4 =>
     none))) else none)
set_option maxHeartbeats 4000000 in
set_option maxRecDepth 100000 in
theorem ct_Cek_number {l : Launch} {D : va_G} {cI cL cB : ClassId} {ad : Nat → Nat} {adK adV : Nat → Nat} {ro : Nat} {C_answer : Int} {E_node : Int} {E_scope : Int} {E_value : Int} {V_top : Int} {V_kinds : Int → Int} {V_numbers : Int → Int} {V_parts : Int → Int} {V_links : Int → Int} {D_top : Int} {D_nodes : Int → Int} {out : Int} (hfl : l.flags = pinnedFlags ++ [noTraceFlag]) (h : t_Cek_number C_answer E_value V_top V_kinds V_numbers V_parts V_links D_top D_nodes = some out) : CTT (jFe adK adV ro) l D [(cI, .int), (cL, .long), (cB, .byte)] y_Cek_number wt_Cek_number ({ frames := 6, cells := 1, slots := 6, locals := 100 } : Room) [.ref (ad 0)] [(ad 0, .inr (0, [.ref (ad 1), .ref (ad 8), .int (zI C_answer)])), (ad 8, .inr (3, [.ref (ad 9), .ref (ad 23), .ref (ad 24), .ref (ad 28), .ref (ad 31), .ref (ad 1), .int (zI E_node), .int (zI E_scope), .int (zI E_value)])), (ad 9, .inr (4, [.ref (ad 14), .ref (ad 16), .ref (ad 10), .ref (ad 11), .ref (ad 12), .ref (ad 13), .int (zI V_top)])), (ad 10, .inl (cI, 3201, .inl (zA V_kinds))), (ad 11, .inl (cL, 3201, .inr (.inl (zB V_numbers)))), (ad 12, .inl (cI, 3201, .inl (zA V_parts))), (ad 13, .inl (cI, 3201, .inl (zA V_links))), (ad 16, .inr (5, [.ref (ad 17), .ref (ad 18), .ref (ad 19), .ref (ad 20), .ref (ad 21), .ref (ad 22), .int (zI D_top)])), (ad 20, .inl (cI, 3201, .inl (zA D_nodes)))] (exN out) := by
  refine CTT_of_J (adK := adK) (adV := adV) (ro := ro) (cc := b_Cek_number) (maxL := 2) (ret := (some .long)) hfl jFe_k (fun _ _ _ h => h) (plainFor_of_name (by decide)) rfl (Nat.le_of_ble_eq_true rfl) (ex_fit _) (ex_ins _) (ex_ini _) (by decide) ?_
  intro K hKl hKD X T
  subst hKl; subst hKD
  unfold t_Cek_number at h
  refine J_aload_n X d_Cek_number_0 rfl 0 rfl ?_
  obtain ⟨r1, q2, h⟩ := wk_b h
  refine J_afterP (jrunV X (c_Cek_result (ad := ad) q2) jF0_k (fun _ _ _ _ => trivial) (jtV own_Cek_number (by decide +kernel)) rfl rfl rfl pd_Cek_result (by decide) [0, 1] rfl (by decide) 0 0 rfl rfl rfl rfl (Nat.le_of_ble_eq_true rfl) d_Cek_number_1 (by decide)) ?_
  refine J_istore_n (lv' := [(1, .int (zI r1)), (0, .ref (ad 0))]) X d_Cek_number_4 rfl (by decide) rfl ?_
  refine J_iload_n X d_Cek_number_5 rfl 0 rfl ?_
  refine J_iconst X d_Cek_number_6 ?_
  refine J_icmp_ne (tgt := 20) X d_Cek_number_7 (by decide) h (fun c3 h => ?_) (fun c3 h => ?_)
  · refine J_aload_n X d_Cek_number_20 rfl 1 rfl ?_
    refine J_get X (jt_in in_Cek) 0 rfl rfl 1 (by decide) (jt_m own_Cek_number (by decide +kernel)) rfl d_Cek_number_21 ?_
    refine J_get X (jt_in in_Evaluator) 1 rfl rfl 0 (by decide) (jt_m own_Cek_number (by decide +kernel)) rfl d_Cek_number_24 ?_
    refine J_iload_n X d_Cek_number_27 rfl 0 rfl ?_
    obtain ⟨r4, q5, h⟩ := wk_b h
    refine J_afterP (jrunV X (c_Values_asNumber (ad := ad) q5) jF0_k (fun _ _ _ _ => trivial) (jtV own_Cek_number (by decide +kernel)) rfl rfl rfl pd_Values_asNumber (by decide) [2, 3, 4, 5, 6, 7, 8] rfl (by decide) 0 4 rfl rfl rfl rfl (Nat.le_of_ble_eq_true rfl) d_Cek_number_28 (by decide)) ?_
    cases h
  · have h := Option.some.inj h
    subst h
    exact J_throw T d_Cek_number_10 d_Cek_number_13 d_Cek_number_14 d_Cek_number_16 d_Cek_number_19 6 rfl (jt_x (by decide +kernel)) ex_at2 (Nat.le_of_ble_eq_true rfl)

abbrev wt_Cek_dataValue : List Cond := .code y_Cek_dataValue b_Cek_dataValue 4 (some .long) :: (wX ++ wA)
def t_Cek_dataValue (C_answer : Int) (E_value : Int) (V_top : Int) (V_kinds : Int → Int) (V_parts : Int → Int) (D_top : Int) (D_forms : Int → Int) (D_numbers : Int → Int) (D_nodes : Int → Int) (p1 : Int) : Option (Int) :=
  Option.bind (f_Cek_placeOfData C_answer E_value V_top V_kinds V_parts D_top D_nodes p1) (fun r1 =>
   Option.bind (f_DataRow_formOf D_top D_forms r1) (fun r3 =>
    if jr2 r3 3 = true then (if r3 = 3 then (
     Option.bind (f_DataRow_numberOf D_top D_numbers r1) (fun r6 =>
      none)) else (
     some 2)) else none))
set_option maxHeartbeats 4000000 in
set_option maxRecDepth 100000 in
theorem ct_Cek_dataValue {l : Launch} {D : va_G} {cI cL cB : ClassId} {ad : Nat → Nat} {adK adV : Nat → Nat} {ro : Nat} {C_answer : Int} {E_node : Int} {E_scope : Int} {E_value : Int} {V_top : Int} {V_kinds : Int → Int} {V_parts : Int → Int} {D_top : Int} {D_forms : Int → Int} {D_numbers : Int → Int} {D_nodes : Int → Int} {p1 : Int} {out : Int} (hfl : l.flags = pinnedFlags ++ [noTraceFlag]) (h : t_Cek_dataValue C_answer E_value V_top V_kinds V_parts D_top D_forms D_numbers D_nodes p1 = some out) : CTT (jFe adK adV ro) l D [(cI, .int), (cL, .long), (cB, .byte)] y_Cek_dataValue wt_Cek_dataValue ({ frames := 6, cells := 1, slots := 6, locals := 100 } : Room) [.ref (ad 0), .int (zI p1)] [(ad 0, .inr (0, [.ref (ad 1), .ref (ad 8), .int (zI C_answer)])), (ad 8, .inr (3, [.ref (ad 9), .ref (ad 23), .ref (ad 24), .ref (ad 28), .ref (ad 31), .ref (ad 1), .int (zI E_node), .int (zI E_scope), .int (zI E_value)])), (ad 9, .inr (4, [.ref (ad 14), .ref (ad 16), .ref (ad 10), .ref (ad 11), .ref (ad 12), .ref (ad 13), .int (zI V_top)])), (ad 10, .inl (cI, 3201, .inl (zA V_kinds))), (ad 12, .inl (cI, 3201, .inl (zA V_parts))), (ad 16, .inr (5, [.ref (ad 17), .ref (ad 18), .ref (ad 19), .ref (ad 20), .ref (ad 21), .ref (ad 22), .int (zI D_top)])), (ad 17, .inl (cI, 3201, .inl (zA D_forms))), (ad 19, .inl (cL, 3201, .inr (.inl (zB D_numbers)))), (ad 20, .inl (cI, 3201, .inl (zA D_nodes)))] (exN out) := by
  refine CTT_of_J (adK := adK) (adV := adV) (ro := ro) (cc := b_Cek_dataValue) (maxL := 4) (ret := (some .long)) hfl jFe_k (fun _ _ _ h => h) (plainFor_of_name (by decide)) rfl (Nat.le_of_ble_eq_true rfl) (ex_fit _) (ex_ins _) (ex_ini _) (by decide) ?_
  intro K hKl hKD X T
  subst hKl; subst hKD
  unfold t_Cek_dataValue at h
  refine J_aload_n X d_Cek_dataValue_0 rfl 0 rfl ?_
  refine J_get X (jt_in in_Cek) 0 rfl rfl 1 (by decide) (jt_m own_Cek_dataValue (by decide +kernel)) rfl d_Cek_dataValue_1 ?_
  refine J_get X (jt_in in_Evaluator) 1 rfl rfl 0 (by decide) (jt_m own_Cek_dataValue (by decide +kernel)) rfl d_Cek_dataValue_4 ?_
  refine J_get X (jt_in in_Values) 2 rfl rfl 1 (by decide) (jt_m own_Cek_dataValue (by decide +kernel)) rfl d_Cek_dataValue_7 ?_
  refine J_astore_n (lv' := [(2, .ref (ad 16)), (0, .ref (ad 0)), (1, .int (zI p1))]) X d_Cek_dataValue_10 rfl (by decide) rfl ?_
  refine J_aload_n X d_Cek_dataValue_11 rfl 1 rfl ?_
  refine J_iload_n X d_Cek_dataValue_12 rfl 2 rfl ?_
  obtain ⟨r1, q2, h⟩ := wk_b h
  refine J_afterP (jrunV X (c_Cek_placeOfData (ad := ad) q2) jF0_k (fun _ _ _ _ => trivial) (jtV own_Cek_dataValue (by decide +kernel)) rfl rfl rfl pd_Cek_placeOfData (by decide) [0, 1, 2, 3, 4, 5, 8] rfl (by decide) 0 0 rfl rfl rfl rfl (Nat.le_of_ble_eq_true rfl) d_Cek_dataValue_13 (by decide)) ?_
  refine J_istore_n (lv' := [(3, .int (zI r1)), (2, .ref (ad 16)), (0, .ref (ad 0)), (1, .int (zI p1))]) X d_Cek_dataValue_16 rfl (by decide) rfl ?_
  refine J_aload_n X d_Cek_dataValue_17 rfl 1 rfl ?_
  refine J_iload_n X d_Cek_dataValue_18 rfl 0 rfl ?_
  obtain ⟨r3, q4, h⟩ := wk_b h
  refine J_afterP (jrunV X (c_DataRow_formOf (ad := ad) q4) jF0_k (fun _ _ _ _ => trivial) (jtV own_Cek_dataValue (by decide +kernel)) rfl rfl rfl pd_DataRow_formOf (by decide) [5, 6] rfl (by decide) 0 5 rfl rfl rfl rfl (Nat.le_of_ble_eq_true rfl) d_Cek_dataValue_19 (by decide)) ?_
  refine J_iconst X d_Cek_dataValue_22 ?_
  refine J_icmp_eq (tgt := 36) X d_Cek_dataValue_23 (by decide) h (fun c5 h => ?_) (fun c5 h => ?_)
  · refine J_aload_n X d_Cek_dataValue_36 rfl 1 rfl ?_
    refine J_iload_n X d_Cek_dataValue_37 rfl 0 rfl ?_
    obtain ⟨r6, q7, h⟩ := wk_b h
    refine J_afterP (jrunV X (c_DataRow_numberOf (ad := ad) q7) jF0_k (fun _ _ _ _ => trivial) (jtV own_Cek_dataValue (by decide +kernel)) rfl rfl rfl pd_DataRow_numberOf (by decide) [5, 7] rfl (by decide) 0 5 rfl rfl rfl rfl (Nat.le_of_ble_eq_true rfl) d_Cek_dataValue_38 (by decide)) ?_
    cases h
  · have h := Option.some.inj h
    subst h
    exact J_throw T d_Cek_dataValue_26 d_Cek_dataValue_29 d_Cek_dataValue_30 d_Cek_dataValue_32 d_Cek_dataValue_35 7 rfl (jt_x (by decide +kernel)) ex_at2 (Nat.le_of_ble_eq_true rfl)
