set_option maxRecDepth 100000 in
def tw_opC (N : Nat) (V_top : Int) (V_kinds : Int → Int) (V_numbers : Int → Int) (V_parts : Int → Int) (V_links : Int → Int) (VB_top : Int) (VB_row : Int → Int) (D_top : Int) (D_forms : Int → Int) (D_counts : Int → Int) (D_numbers : Int → Int) (D_nodes : Int → Int) (D_depths : Int → Int) (D_weights : Int → Int) (B_given : Int → Int) (op : Int) : Option (Int × Int × (Int → Int) × (Int → Int) × (Int → Int) × (Int → Int) × Int × (Int → Int) × Int × (Int → Int) × (Int → Int) × (Int → Int) × (Int → Int) × (Int → Int) × (Int → Int)) :=
  if 9 < op then (
   if 15 < op then (
    if op = 16 then (
     if V_numbers (B_given 0) = 1 then some (B_given 1,V_top, V_kinds, V_numbers, V_parts, V_links, VB_top, VB_row, D_top, D_forms, D_counts, D_numbers, D_nodes, D_depths, D_weights) else some (B_given 2,V_top, V_kinds, V_numbers, V_parts, V_links, VB_top, VB_row, D_top, D_forms, D_counts, D_numbers, D_nodes, D_depths, D_weights)) else (
     if 25 < op then ob13 (f_Builtins_onLists N V_top V_kinds V_numbers V_parts V_links D_top D_forms D_counts D_numbers D_nodes D_depths D_weights B_given op) (fun r V_top V_kinds V_numbers V_parts V_links D_top D_forms D_counts D_numbers D_nodes D_depths D_weights => some (r,V_top, V_kinds, V_numbers, V_parts, V_links, VB_top, VB_row, D_top, D_forms, D_counts, D_numbers, D_nodes, D_depths, D_weights))
     else ob13 (f_Builtins_onData N V_top V_kinds V_numbers V_parts V_links VB_row D_top D_forms D_counts D_numbers D_nodes D_depths D_weights B_given op) (fun r V_top V_kinds V_numbers V_parts V_links D_top D_forms D_counts D_numbers D_nodes D_depths D_weights => some (r,V_top, V_kinds, V_numbers, V_parts, V_links, VB_top, VB_row, D_top, D_forms, D_counts, D_numbers, D_nodes, D_depths, D_weights)))) else
    ob8 (f_Builtins_onBytes N V_top V_kinds V_numbers V_parts V_links VB_top VB_row B_given op) (fun r V_top V_kinds V_numbers V_parts V_links VB_top VB_row => some (r,V_top, V_kinds, V_numbers, V_parts, V_links, VB_top, VB_row, D_top, D_forms, D_counts, D_numbers, D_nodes, D_depths, D_weights))) else
   ob6 (f_Builtins_onIntegers V_top V_kinds V_numbers V_parts V_links op (V_numbers (B_given 0)) (V_numbers (B_given 1))) (fun r V_top V_kinds V_numbers V_parts V_links => some (r,V_top, V_kinds, V_numbers, V_parts, V_links, VB_top, VB_row, D_top, D_forms, D_counts, D_numbers, D_nodes, D_depths, D_weights))
set_option maxRecDepth 100000 in
def tw_opR (N : Nat) (R_values : Int) (R_textEnd : Int) (R_dataEnd : Int) (R_valueKinds : Int → Int) (R_valueNumbers : Int → Int) (R_from : Int → Int) (R_length : Int → Int) (R_given : Int → Int) (R_texts : Int → Int) (R_forms : Int → Int) (R_tags : Int → Int) (R_counts : Int → Int) (R_textsAt : Int → Int) (R_puts : Int) (R_of R_comes : Int → Int) (op : Int) : Option (Int × Int × Int × Int × Int × Int × (Int → Int) × (Int → Int) × (Int → Int) × (Int → Int) × (Int → Int) × (Int → Int) × (Int → Int) × (Int → Int) × (Int → Int) × (Int → Int) × (Int → Int)) :=
  if 10 ≤ op then (
   if 16 ≤ op then (
    if op = 16 then (
     if R_valueNumbers (R_of 0) = 1 then some (R_of 1, R_values, R_textEnd, R_dataEnd, 0, R_puts, R_valueKinds, R_valueNumbers, R_from, R_length, R_given, R_texts, R_forms, R_tags, R_counts, R_textsAt, R_comes) else some (R_of 2, R_values, R_textEnd, R_dataEnd, 0, R_puts, R_valueKinds, R_valueNumbers, R_from, R_length, R_given, R_texts, R_forms, R_tags, R_counts, R_textsAt, R_comes))
    else f_Mod_ofData N R_values R_textEnd R_dataEnd 0 R_puts R_valueKinds R_valueNumbers R_from R_length R_given R_texts R_forms R_tags R_counts R_textsAt R_of R_comes op) else
   ob11 (f_Mod_ofBytes N R_values R_textEnd 0 R_puts R_valueKinds R_valueNumbers R_from R_length R_given R_texts R_of op) (fun v R_values R_textEnd R_fault R_puts R_valueKinds R_valueNumbers R_from R_length R_given R_texts => some (v, R_values, R_textEnd, R_dataEnd, R_fault, R_puts, R_valueKinds, R_valueNumbers, R_from, R_length, R_given, R_texts, R_forms, R_tags, R_counts, R_textsAt, R_comes))) else
  ob6 (f_Mod_sums R_values 0 R_valueKinds R_valueNumbers R_given op (R_valueNumbers (R_of 0)) (R_valueNumbers (R_of 1))) (fun v R_values R_fault R_valueKinds R_valueNumbers R_given => some (v, R_values, R_textEnd, R_dataEnd, R_fault, R_puts, R_valueKinds, R_valueNumbers, R_from, R_length, R_given, R_texts, R_forms, R_tags, R_counts, R_textsAt, R_comes))
set_option maxRecDepth 100000 in
def tw_OUT (ok : Int → Int → Int → Prop) (cs : Int → Prop) (ps : Int → Int) (nc : Int) (R_values : Int) (R_nodeOf : Int → Int) (R_rowOf : Int → Int) (D_top : Int) (D_nodes : Int → Int) (R_dataEnd : Int) (VB_top : Int) (VB_row : Int → Int) (R_textEnd : Int) (R_texts : Int → Int) (D_forms : Int → Int) (D_counts : Int → Int) (D_numbers : Int → Int) (R_forms : Int → Int) (R_tags : Int → Int) (R_counts : Int → Int) (R_textsAt : Int → Int) (V_top : Int) (V_kinds : Int → Int) (V_numbers : Int → Int) (V_parts : Int → Int) (V_links : Int → Int) (R_valueKinds : Int → Int) (R_valueNumbers : Int → Int) (R_from : Int → Int) (R_length : Int → Int) (R_given : Int → Int) (R_firstGiven : Int → Int) (R_secondGiven : Int → Int) (D_depths : Int → Int) (D_weights : Int → Int) (N : Nat) (B_given : Int → Int) (R_puts : Int) (R_of R_comes : Int → Int) (op : Int) : Prop :=
  (∃ c a, tw_opC N V_top V_kinds V_numbers V_parts V_links VB_top VB_row D_top D_forms D_counts D_numbers D_nodes D_depths D_weights B_given op = some (-1, c) ∧ tw_opR N R_values R_textEnd R_dataEnd R_valueKinds R_valueNumbers R_from R_length R_given R_texts R_forms R_tags R_counts R_textsAt R_puts R_of R_comes op = some a ∧ a.2.2.2.2.1 = 3)
  ∨ (∃ (V_top' : Int) (V_kinds' : Int → Int) (V_numbers' : Int → Int) (V_parts' : Int → Int) (V_links' : Int → Int) (VB_top' : Int) (VB_row' : Int → Int) (D_top' : Int) (D_forms' : Int → Int) (D_counts' : Int → Int) (D_numbers' : Int → Int) (D_nodes' : Int → Int) (D_depths' : Int → Int) (D_weights' : Int → Int) (R_values' : Int) (R_textEnd' : Int) (R_dataEnd' : Int) (R_valueKinds' : Int → Int) (R_valueNumbers' : Int → Int) (R_from' : Int → Int) (R_length' : Int → Int) (R_given' : Int → Int) (R_texts' : Int → Int) (R_forms' : Int → Int) (R_tags' : Int → Int) (R_counts' : Int → Int) (R_textsAt' : Int → Int) (r v puts' : Int) (comes' : Int → Int), tw_opC N V_top V_kinds V_numbers V_parts V_links VB_top VB_row D_top D_forms D_counts D_numbers D_nodes D_depths D_weights B_given op = some (r,V_top', V_kinds', V_numbers', V_parts', V_links', VB_top', VB_row', D_top', D_forms', D_counts', D_numbers', D_nodes', D_depths', D_weights') ∧ tw_opR N R_values R_textEnd R_dataEnd R_valueKinds R_valueNumbers R_from R_length R_given R_texts R_forms R_tags R_counts R_textsAt R_puts R_of R_comes op = some (v, R_values', R_textEnd', R_dataEnd', 0, puts', R_valueKinds', R_valueNumbers', R_from', R_length', R_given', R_texts', R_forms', R_tags', R_counts', R_textsAt', comes')
     ∧ tw_RSL ok cs ps nc R_values R_nodeOf R_rowOf D_top D_nodes R_dataEnd VB_top VB_row R_textEnd R_texts D_forms D_counts D_numbers R_forms R_tags R_counts R_textsAt V_top V_kinds V_numbers V_parts V_links R_valueKinds R_valueNumbers R_from R_length R_given R_firstGiven R_secondGiven D_depths D_weights R_values' R_nodeOf R_rowOf D_top' D_nodes' R_dataEnd' VB_top' VB_row' R_textEnd' R_texts' D_forms' D_counts' D_numbers' R_forms' R_tags' R_counts' R_textsAt' V_top' V_kinds' V_numbers' V_parts' V_links' R_valueKinds' R_valueNumbers' R_from' R_length' R_given' R_firstGiven R_secondGiven D_depths' D_weights' r v)
set_option maxRecDepth 100000 in
theorem tw_TOPS_r {ok : Int → Int → Int → Prop} {cs : Int → Prop} {ps : Int → Int} {nc : Int} {R_values : Int} {R_nodeOf : Int → Int} {R_rowOf : Int → Int} {D_top : Int} {D_nodes : Int → Int} {R_dataEnd : Int} {VB_top : Int} {VB_row : Int → Int} {R_textEnd : Int} {R_texts : Int → Int} {D_forms : Int → Int} {D_counts : Int → Int} {D_numbers : Int → Int} {R_forms : Int → Int} {R_tags : Int → Int} {R_counts : Int → Int} {R_textsAt : Int → Int} {V_top : Int} {V_kinds : Int → Int} {V_numbers : Int → Int} {V_parts : Int → Int} {V_links : Int → Int} {R_valueKinds : Int → Int} {R_valueNumbers : Int → Int} {R_from : Int → Int} {R_length : Int → Int} {R_given : Int → Int} {R_firstGiven : Int → Int} {R_secondGiven : Int → Int} {D_depths : Int → Int} {D_weights : Int → Int} {m : Int} (h : tw_XV ok cs ps nc R_values R_nodeOf R_rowOf D_top D_nodes R_dataEnd VB_top VB_row R_textEnd R_texts D_forms D_counts D_numbers R_forms R_tags R_counts R_textsAt V_top V_kinds V_numbers V_parts V_links R_valueKinds R_valueNumbers R_from R_length R_given R_firstGiven R_secondGiven D_depths D_weights) (hT : tw_TOPS V_top D_top VB_top R_textEnd R_dataEnd m) : 200 ≤ V_top ∧ V_top ≤ 3200 ∧ 0 ≤ R_values ∧ R_values ≤ 3200 ∧ 1 ≤ D_top ∧ D_top ≤ 3001 ∧ 12800 ≤ VB_top ∧ VB_top ≤ 36800 ∧ 0 ≤ R_textEnd ∧ R_textEnd ≤ 36800 ∧ 0 ≤ R_dataEnd ∧ R_dataEnd ≤ 3200 := by
  obtain ⟨h1, h2, h3, h4, h5, h6, h7, h8, h9, h10, h11⟩ := h
  obtain ⟨t1, t2, t3, t4, t5, t6, t7⟩ := hT
  omega
set_option maxRecDepth 100000 in
theorem tw_out_I {ok : Int → Int → Int → Prop} {cs : Int → Prop} {ps : Int → Int} {nc : Int} {R_values : Int} {R_nodeOf : Int → Int} {R_rowOf : Int → Int} {D_top : Int} {D_nodes : Int → Int} {R_dataEnd : Int} {VB_top : Int} {VB_row : Int → Int} {R_textEnd : Int} {R_texts : Int → Int} {D_forms : Int → Int} {D_counts : Int → Int} {D_numbers : Int → Int} {R_forms : Int → Int} {R_tags : Int → Int} {R_counts : Int → Int} {R_textsAt : Int → Int} {V_top : Int} {V_kinds : Int → Int} {V_numbers : Int → Int} {V_parts : Int → Int} {V_links : Int → Int} {R_valueKinds : Int → Int} {R_valueNumbers : Int → Int} {R_from : Int → Int} {R_length : Int → Int} {R_given : Int → Int} {R_firstGiven : Int → Int} {R_secondGiven : Int → Int} {D_depths : Int → Int} {D_weights : Int → Int} {m op puts : Int} {N : Nat} {B_given R_of R_comes : Int → Int} (h : tw_XV ok cs ps nc R_values R_nodeOf R_rowOf D_top D_nodes R_dataEnd VB_top VB_row R_textEnd R_texts D_forms D_counts D_numbers R_forms R_tags R_counts R_textsAt V_top V_kinds V_numbers V_parts V_links R_valueKinds R_valueNumbers R_from R_length R_given R_firstGiven R_secondGiven D_depths D_weights) (hT : tw_TOPS V_top D_top VB_top R_textEnd R_dataEnd m) (g0 : tw_vok cs V_top (B_given 0)) (tw_g1 : tw_vok cs V_top (B_given 1)) (k0 : V_kinds (B_given 0) = 0) (k1 : V_kinds (B_given 1) = 0) (o0 : R_of 0 = ps (B_given 0)) (o1 : R_of 1 = ps (B_given 1)) (ho : 0 ≤ op ∧ op ≤ 9) : tw_OUT ok cs ps nc R_values R_nodeOf R_rowOf D_top D_nodes R_dataEnd VB_top VB_row R_textEnd R_texts D_forms D_counts D_numbers R_forms R_tags R_counts R_textsAt V_top V_kinds V_numbers V_parts V_links R_valueKinds R_valueNumbers R_from R_length R_given R_firstGiven R_secondGiven D_depths D_weights N B_given puts R_of R_comes op := by
  have tr := tw_TOPS_r h hT
  obtain ⟨v0, v0', ⟨-, -, -, n0, e0, -⟩, -⟩ := h.1 _ g0
  obtain ⟨v1, v1', ⟨-, -, -, n1, e1, -⟩, -⟩ := h.1 _ tw_g1
  have e0 := e0 (Or.inl k0)
  have e1 := e1 (Or.inl k1)
  have hc := tw_onInt (V_top := V_top) (V_kinds := V_kinds) (V_numbers := V_numbers) (V_parts := V_parts) (V_links := V_links) (by omega) (by omega) n0 n1 ho
  have hr := tw_sums_ok (R_values := R_values) (R_valueKinds := R_valueKinds) (R_valueNumbers := R_valueNumbers) (R_given := R_given) (by omega) (by omega) n0 n1 ho
  unfold tw_OUT tw_opC tw_opR
  rw [if_neg (show ¬ 9 < op by omega), if_neg (show ¬ 10 ≤ op by omega), o0, o1, ← e0, ← e1]
  cases ei : tw_iop op (V_numbers (B_given 0)) (V_numbers (B_given 1)) with
  | none =>
    rw [ei] at hc hr
    exact Or.inl ⟨_, _, tw_ob6_t hc rfl, tw_ob6_t hr rfl, rfl⟩
  | some r =>
    rw [ei] at hc hr
    obtain ⟨k, n⟩ := r
    have ir := tw_iop_r n0 n1 ei
    refine Or.inr ⟨V_top + 1, _, _, _, _, VB_top, VB_row, D_top, D_forms, D_counts, D_numbers, D_nodes, D_depths, D_weights, R_values + 1, R_textEnd, R_dataEnd, _, _, R_from, R_length, _, R_texts, R_forms, R_tags, R_counts, R_textsAt, _, _, puts, R_comes, tw_ob6_t hc rfl, tw_ob6_t hr rfl, ?_⟩
    exact tw_RSL_mk (sz := 1) (tw_XV_mid h) tw_GR_refl tw_GR_refl (by omega) ir.2.1 (fun _ => rfl) ir.2.2 (fun z => by omega) (fun z => by omega) (by rw [if_neg (by omega), if_neg (by omega)]) (by omega) (by omega) (by omega) (by omega) (by omega)
set_option maxRecDepth 100000 in
theorem tw_RSL_same {ok : Int → Int → Int → Prop} {cs : Int → Prop} {ps : Int → Int} {nc : Int} {R_values : Int} {R_nodeOf : Int → Int} {R_rowOf : Int → Int} {D_top : Int} {D_nodes : Int → Int} {R_dataEnd : Int} {VB_top : Int} {VB_row : Int → Int} {R_textEnd : Int} {R_texts : Int → Int} {D_forms : Int → Int} {D_counts : Int → Int} {D_numbers : Int → Int} {R_forms : Int → Int} {R_tags : Int → Int} {R_counts : Int → Int} {R_textsAt : Int → Int} {V_top : Int} {V_kinds : Int → Int} {V_numbers : Int → Int} {V_parts : Int → Int} {V_links : Int → Int} {R_valueKinds : Int → Int} {R_valueNumbers : Int → Int} {R_from : Int → Int} {R_length : Int → Int} {R_given : Int → Int} {R_firstGiven : Int → Int} {R_secondGiven : Int → Int} {D_depths : Int → Int} {D_weights : Int → Int} {p : Int} (h : tw_XV ok cs ps nc R_values R_nodeOf R_rowOf D_top D_nodes R_dataEnd VB_top VB_row R_textEnd R_texts D_forms D_counts D_numbers R_forms R_tags R_counts R_textsAt V_top V_kinds V_numbers V_parts V_links R_valueKinds R_valueNumbers R_from R_length R_given R_firstGiven R_secondGiven D_depths D_weights) (hp : tw_vok cs V_top p) (ht : V_top ≤ 3201) (hD : D_top ≤ 3201) : tw_RSL ok cs ps nc R_values R_nodeOf R_rowOf D_top D_nodes R_dataEnd VB_top VB_row R_textEnd R_texts D_forms D_counts D_numbers R_forms R_tags R_counts R_textsAt V_top V_kinds V_numbers V_parts V_links R_valueKinds R_valueNumbers R_from R_length R_given R_firstGiven R_secondGiven D_depths D_weights R_values R_nodeOf R_rowOf D_top D_nodes R_dataEnd VB_top VB_row R_textEnd R_texts D_forms D_counts D_numbers R_forms R_tags R_counts R_textsAt V_top V_kinds V_numbers V_parts V_links R_valueKinds R_valueNumbers R_from R_length R_given R_firstGiven R_secondGiven D_depths D_weights p (ps p) := by
  have := (tw_vSz h hp ht hD).2.1
  exact ⟨h, tw_GRV_refl, hp, rfl, by omega, by omega, by omega, by omega, by omega, by omega, by omega, by omega⟩
set_option maxRecDepth 100000 in
theorem tw_out_C {ok : Int → Int → Int → Prop} {cs : Int → Prop} {ps : Int → Int} {nc : Int} {R_values : Int} {R_nodeOf : Int → Int} {R_rowOf : Int → Int} {D_top : Int} {D_nodes : Int → Int} {R_dataEnd : Int} {VB_top : Int} {VB_row : Int → Int} {R_textEnd : Int} {R_texts : Int → Int} {D_forms : Int → Int} {D_counts : Int → Int} {D_numbers : Int → Int} {R_forms : Int → Int} {R_tags : Int → Int} {R_counts : Int → Int} {R_textsAt : Int → Int} {V_top : Int} {V_kinds : Int → Int} {V_numbers : Int → Int} {V_parts : Int → Int} {V_links : Int → Int} {R_valueKinds : Int → Int} {R_valueNumbers : Int → Int} {R_from : Int → Int} {R_length : Int → Int} {R_given : Int → Int} {R_firstGiven : Int → Int} {R_secondGiven : Int → Int} {D_depths : Int → Int} {D_weights : Int → Int} {m puts : Int} {N : Nat} {B_given R_of R_comes : Int → Int} (h : tw_XV ok cs ps nc R_values R_nodeOf R_rowOf D_top D_nodes R_dataEnd VB_top VB_row R_textEnd R_texts D_forms D_counts D_numbers R_forms R_tags R_counts R_textsAt V_top V_kinds V_numbers V_parts V_links R_valueKinds R_valueNumbers R_from R_length R_given R_firstGiven R_secondGiven D_depths D_weights) (hT : tw_TOPS V_top D_top VB_top R_textEnd R_dataEnd m) (g0 : tw_vok cs V_top (B_given 0)) (tw_g1 : tw_vok cs V_top (B_given 1)) (tw_g2 : tw_vok cs V_top (B_given 2)) (k0 : V_kinds (B_given 0) = 2) (o0 : R_of 0 = ps (B_given 0)) (o1 : R_of 1 = ps (B_given 1)) (o2 : R_of 2 = ps (B_given 2)) : tw_OUT ok cs ps nc R_values R_nodeOf R_rowOf D_top D_nodes R_dataEnd VB_top VB_row R_textEnd R_texts D_forms D_counts D_numbers R_forms R_tags R_counts R_textsAt V_top V_kinds V_numbers V_parts V_links R_valueKinds R_valueNumbers R_from R_length R_given R_firstGiven R_secondGiven D_depths D_weights N B_given puts R_of R_comes 16 := by
  have tr := tw_TOPS_r h hT
  obtain ⟨v0, v0', ⟨-, -, -, n0, e0, -⟩, -⟩ := h.1 _ g0
  have e0 := e0 (by omega)
  unfold tw_OUT tw_opC tw_opR
  rw [if_pos (show (9 : Int) < 16 by decide), if_pos (show (15 : Int) < 16 by decide), if_pos rfl, if_pos (show (10 : Int) ≤ 16 by decide), if_pos (show (16 : Int) ≤ 16 by decide), if_pos rfl, o0, o1, o2, ← e0]
  by_cases c : V_numbers (B_given 0) = 1
  · rw [if_pos c, if_pos c]
    exact Or.inr ⟨_, _, _, _, _, _, _, _, _, _, _, _, _, _, _, _, _, _, _, _, _, _, _, _, _, _, _, _, _, _, _, rfl, rfl, tw_RSL_same h tw_g1 (by omega) (by omega)⟩
  · rw [if_neg c, if_neg c]
    exact Or.inr ⟨_, _, _, _, _, _, _, _, _, _, _, _, _, _, _, _, _, _, _, _, _, _, _, _, _, _, _, _, _, _, _, rfl, rfl, tw_RSL_same h tw_g2 (by omega) (by omega)⟩
set_option maxRecDepth 100000 in
theorem tw_out_11 {ok : Int → Int → Int → Prop} {cs : Int → Prop} {ps : Int → Int} {nc : Int} {R_values : Int} {R_nodeOf : Int → Int} {R_rowOf : Int → Int} {D_top : Int} {D_nodes : Int → Int} {R_dataEnd : Int} {VB_top : Int} {VB_row : Int → Int} {R_textEnd : Int} {R_texts : Int → Int} {D_forms : Int → Int} {D_counts : Int → Int} {D_numbers : Int → Int} {R_forms : Int → Int} {R_tags : Int → Int} {R_counts : Int → Int} {R_textsAt : Int → Int} {V_top : Int} {V_kinds : Int → Int} {V_numbers : Int → Int} {V_parts : Int → Int} {V_links : Int → Int} {R_valueKinds : Int → Int} {R_valueNumbers : Int → Int} {R_from : Int → Int} {R_length : Int → Int} {R_given : Int → Int} {R_firstGiven : Int → Int} {R_secondGiven : Int → Int} {D_depths : Int → Int} {D_weights : Int → Int} {m puts : Int} {N : Nat} {B_given R_of R_comes : Int → Int} (hN : 300 ≤ N) (h : tw_XV ok cs ps nc R_values R_nodeOf R_rowOf D_top D_nodes R_dataEnd VB_top VB_row R_textEnd R_texts D_forms D_counts D_numbers R_forms R_tags R_counts R_textsAt V_top V_kinds V_numbers V_parts V_links R_valueKinds R_valueNumbers R_from R_length R_given R_firstGiven R_secondGiven D_depths D_weights) (hT : tw_TOPS V_top D_top VB_top R_textEnd R_dataEnd m) (g0 : tw_vok cs V_top (B_given 0)) (k0 : V_kinds (B_given 0) = 1) (o0 : R_of 0 = ps (B_given 0)) : tw_OUT ok cs ps nc R_values R_nodeOf R_rowOf D_top D_nodes R_dataEnd VB_top VB_row R_textEnd R_texts D_forms D_counts D_numbers R_forms R_tags R_counts R_textsAt V_top V_kinds V_numbers V_parts V_links R_valueKinds R_valueNumbers R_from R_length R_given R_firstGiven R_secondGiven D_depths D_weights N B_given puts R_of R_comes 11 := by
  have tr := tw_TOPS_r h hT
  obtain ⟨p0, q0, -⟩ := id g0
  obtain ⟨v0, v0', ⟨z0, -, -, n0, -, -, -, b0, -⟩, -⟩ := h.1 _ g0
  obtain ⟨bl0, bn0, bb0⟩ := b0 k0
  obtain ⟨bb01, bb02, bb03, bb04, bb05, bb06, bb07⟩ := id bb0
  clear b0
  have hc : f_Builtins_onBytes N V_top V_kinds V_numbers V_parts V_links VB_top VB_row B_given 11 = some (V_top, V_top + 1, upZ V_kinds V_top 0, upZ V_numbers V_top (V_links (B_given 0)), upZ V_parts V_top (-1), upZ V_links V_top (-1), VB_top, VB_row) := by
    unfold f_Builtins_onBytes
    (first | refine tw_ite_t (by first | omega | (simp only [tw_gq]; omega)) ?_ | refine tw_ite_f (by first | omega | (simp only [tw_gq]; omega)) ?_); (first | refine tw_ite_t (by first | omega | (simp only [tw_gq]; omega)) ?_ | refine tw_ite_f (by first | omega | (simp only [tw_gq]; omega)) ?_); (first | refine tw_ite_t (by first | omega | (simp only [tw_gq]; omega)) ?_ | refine tw_ite_f (by first | omega | (simp only [tw_gq]; omega)) ?_); (first | refine tw_ite_t (by first | omega | (simp only [tw_gq]; omega)) ?_ | refine tw_ite_f (by first | omega | (simp only [tw_gq]; omega)) ?_)
    refine tw_bind_t (tw_vLe p0 q0 (by omega)) ?_
    (first | refine tw_ite_t (by first | omega | (simp only [tw_gq]; omega)) ?_ | refine tw_ite_f (by first | omega | (simp only [tw_gq]; omega)) ?_)
    exact tw_ob6_t (tw_vOI (by omega) (by omega)) rfl
  have hr : f_Mod_ofBytes N R_values R_textEnd 0 puts R_valueKinds R_valueNumbers R_from R_length R_given R_texts R_of 11 = some (R_values, R_values + 1, R_textEnd, 0, 0, upZ R_valueKinds R_values 0, upZ R_valueNumbers R_values (V_links (B_given 0)), R_from, R_length, upZ R_given R_values 0, R_texts) := by
    unfold f_Mod_ofBytes
    rw [o0, bl0]
    (first | refine tw_ite_t (by first | omega | (simp only [tw_gq]; omega)) ?_ | refine tw_ite_f (by first | omega | (simp only [tw_gq]; omega)) ?_); (first | refine tw_ite_t (by first | omega | (simp only [tw_gq]; omega)) ?_ | refine tw_ite_f (by first | omega | (simp only [tw_gq]; omega)) ?_); (first | refine tw_ite_t (by first | omega | (simp only [tw_gq]; omega)) ?_ | refine tw_ite_f (by first | omega | (simp only [tw_gq]; omega)) ?_); (first | refine tw_ite_t (by first | omega | (simp only [tw_gq]; omega)) ?_ | refine tw_ite_f (by first | omega | (simp only [tw_gq]; omega)) ?_); (first | refine tw_ite_t (by first | omega | (simp only [tw_gq]; omega)) ?_ | refine tw_ite_f (by first | omega | (simp only [tw_gq]; omega)) ?_); (first | refine tw_ite_t (by first | omega | (simp only [tw_gq]; omega)) ?_ | refine tw_ite_f (by first | omega | (simp only [tw_gq]; omega)) ?_)
    exact tw_ob5_t (tw_rmake (by omega) (by omega)) rfl
  unfold tw_OUT tw_opC tw_opR
  rw [if_pos (show (9 : Int) < 11 by decide), if_neg (show ¬ (15 : Int) < 11 by decide), if_pos (show (10 : Int) ≤ 11 by decide), if_neg (show ¬ (16 : Int) ≤ 11 by decide)]
  exact Or.inr ⟨_, _, _, _, _, _, _, _, _, _, _, _, _, _, _, _, _, _, _, _, _, _, _, _, _, _, _, _, _, _, _, tw_ob8_t hc rfl, tw_ob11_t hr rfl, tw_RSL_mk (sz := 1) (tw_XV_mid h) tw_GR_refl tw_GR_refl (by omega) (by omega) (fun _ => rfl) (by omega) (fun z => by omega) (fun z => by omega) (by rw [if_neg (by omega), if_neg (by omega)]) (by omega) (by omega) (by omega) (by omega) (by omega)⟩
set_option maxRecDepth 100000 in
theorem tw_out_12 {ok : Int → Int → Int → Prop} {cs : Int → Prop} {ps : Int → Int} {nc : Int} {R_values : Int} {R_nodeOf : Int → Int} {R_rowOf : Int → Int} {D_top : Int} {D_nodes : Int → Int} {R_dataEnd : Int} {VB_top : Int} {VB_row : Int → Int} {R_textEnd : Int} {R_texts : Int → Int} {D_forms : Int → Int} {D_counts : Int → Int} {D_numbers : Int → Int} {R_forms : Int → Int} {R_tags : Int → Int} {R_counts : Int → Int} {R_textsAt : Int → Int} {V_top : Int} {V_kinds : Int → Int} {V_numbers : Int → Int} {V_parts : Int → Int} {V_links : Int → Int} {R_valueKinds : Int → Int} {R_valueNumbers : Int → Int} {R_from : Int → Int} {R_length : Int → Int} {R_given : Int → Int} {R_firstGiven : Int → Int} {R_secondGiven : Int → Int} {D_depths : Int → Int} {D_weights : Int → Int} {m puts : Int} {N : Nat} {B_given R_of R_comes : Int → Int} (hN : 300 ≤ N) (h : tw_XV ok cs ps nc R_values R_nodeOf R_rowOf D_top D_nodes R_dataEnd VB_top VB_row R_textEnd R_texts D_forms D_counts D_numbers R_forms R_tags R_counts R_textsAt V_top V_kinds V_numbers V_parts V_links R_valueKinds R_valueNumbers R_from R_length R_given R_firstGiven R_secondGiven D_depths D_weights) (hT : tw_TOPS V_top D_top VB_top R_textEnd R_dataEnd m) (g0 : tw_vok cs V_top (B_given 0)) (k0 : V_kinds (B_given 0) = 1) (o0 : R_of 0 = ps (B_given 0)) (tw_g1 : tw_vok cs V_top (B_given 1)) (k1 : V_kinds (B_given 1) = 0) (o1 : R_of 1 = ps (B_given 1)) : tw_OUT ok cs ps nc R_values R_nodeOf R_rowOf D_top D_nodes R_dataEnd VB_top VB_row R_textEnd R_texts D_forms D_counts D_numbers R_forms R_tags R_counts R_textsAt V_top V_kinds V_numbers V_parts V_links R_valueKinds R_valueNumbers R_from R_length R_given R_firstGiven R_secondGiven D_depths D_weights N B_given puts R_of R_comes 12 := by
  have tr := tw_TOPS_r h hT
  obtain ⟨p0, q0, -⟩ := id g0
  obtain ⟨v0, v0', ⟨z0, -, -, n0, -, -, -, b0, -⟩, -⟩ := h.1 _ g0
  obtain ⟨bl0, bn0, bb0⟩ := b0 k0
  obtain ⟨bb01, bb02, bb03, bb04, bb05, bb06, bb07⟩ := id bb0
  clear b0
  obtain ⟨p1, q1, -⟩ := id tw_g1
  obtain ⟨v1, v1', ⟨-, -, -, n1, e1, -⟩, -⟩ := h.1 _ tw_g1
  have e1 := e1 (Or.inl k1)
  by_cases c : 0 ≤ V_numbers (B_given 1) ∧ V_numbers (B_given 1) < R_length (ps (B_given 0))
  · have w := bb07 (V_numbers (B_given 1)) c.1 c.2
    have jr := tw_jand_r (x := VB_row (V_parts (B_given 0) + V_numbers (B_given 1))) w.2
    have hc : f_Builtins_onBytes N V_top V_kinds V_numbers V_parts V_links VB_top VB_row B_given 12 = some (V_top, V_top + 1, upZ V_kinds V_top 0, upZ V_numbers V_top (j_and (VB_row (V_parts (B_given 0) + V_numbers (B_given 1))) 255), upZ V_parts V_top (-1), upZ V_links V_top (-1), VB_top, VB_row) := by
      unfold f_Builtins_onBytes
      (first | refine tw_ite_t (by first | omega | (simp only [tw_gq]; omega)) ?_ | refine tw_ite_f (by first | omega | (simp only [tw_gq]; omega)) ?_); (first | refine tw_ite_t (by first | omega | (simp only [tw_gq]; omega)) ?_ | refine tw_ite_f (by first | omega | (simp only [tw_gq]; omega)) ?_); (first | refine tw_ite_t (by first | omega | (simp only [tw_gq]; omega)) ?_ | refine tw_ite_f (by first | omega | (simp only [tw_gq]; omega)) ?_); (first | refine tw_ite_t (by first | omega | (simp only [tw_gq]; omega)) ?_ | refine tw_ite_f (by first | omega | (simp only [tw_gq]; omega)) ?_); (first | refine tw_ite_t (by first | omega | (simp only [tw_gq]; omega)) ?_ | refine tw_ite_f (by first | omega | (simp only [tw_gq]; omega)) ?_); (first | refine tw_ite_t (by first | omega | (simp only [tw_gq]; omega)) ?_ | refine tw_ite_f (by first | omega | (simp only [tw_gq]; omega)) ?_)
      refine tw_bind_t (tw_vN p1 q1 (by omega)) ?_
      refine tw_ob6_t (a1 := V_top) (a2 := V_top + 1) (a3 := upZ V_kinds V_top 0) (a4 := upZ V_numbers V_top (j_and (VB_row (V_parts (B_given 0) + V_numbers (B_given 1))) 255)) (a5 := upZ V_parts V_top (-1)) (a6 := upZ V_links V_top (-1)) ?_ rfl
      unfold f_Builtins_byteOf
      (first | refine tw_ite_t (by first | omega | (simp only [tw_gq]; omega)) ?_ | refine tw_ite_f (by first | omega | (simp only [tw_gq]; omega)) ?_); (first | refine tw_ite_t (by first | omega | (simp only [tw_gq]; omega)) ?_ | refine tw_ite_f (by first | omega | (simp only [tw_gq]; omega)) ?_)
      refine tw_bind_t (tw_vLe p0 q0 (by omega)) ?_
      (first | refine tw_ite_t (by first | omega | (simp only [tw_gq]; omega)) ?_ | refine tw_ite_f (by first | omega | (simp only [tw_gq]; omega)) ?_); (first | refine tw_ite_t (by first | omega | (simp only [tw_gq]; omega)) ?_ | refine tw_ite_f (by first | omega | (simp only [tw_gq]; omega)) ?_); (first | refine tw_ite_t (by first | omega | (simp only [tw_gq]; omega)) ?_ | refine tw_ite_f (by first | omega | (simp only [tw_gq]; omega)) ?_)
      refine tw_bind_t (tw_vSt p0 q0 (by omega)) ?_
      refine tw_bind_t (tw_bat (by omega) (by omega) (by omega)) ?_
      (first | refine tw_ite_t (by first | omega | (simp only [tw_gq]; omega)) ?_ | refine tw_ite_f (by first | omega | (simp only [tw_gq]; omega)) ?_)
      exact tw_ob6_t (tw_vOI (by omega) (by omega)) rfl
    have hr : f_Mod_ofBytes N R_values R_textEnd 0 puts R_valueKinds R_valueNumbers R_from R_length R_given R_texts R_of 12 = some (R_values, R_values + 1, R_textEnd, 0, 0, upZ R_valueKinds R_values 0, upZ R_valueNumbers R_values (j_and (VB_row (V_parts (B_given 0) + V_numbers (B_given 1))) 255), R_from, R_length, upZ R_given R_values 0, R_texts) := by
      unfold f_Mod_ofBytes
      rw [o0, o1, ← e1]
      (first | refine tw_ite_t (by first | omega | (simp only [tw_gq]; omega)) ?_ | refine tw_ite_f (by first | omega | (simp only [tw_gq]; omega)) ?_); (first | refine tw_ite_t (by first | omega | (simp only [tw_gq]; omega)) ?_ | refine tw_ite_f (by first | omega | (simp only [tw_gq]; omega)) ?_); (first | refine tw_ite_t (by first | omega | (simp only [tw_gq]; omega)) ?_ | refine tw_ite_f (by first | omega | (simp only [tw_gq]; omega)) ?_); (first | refine tw_ite_t (by first | omega | (simp only [tw_gq]; omega)) ?_ | refine tw_ite_f (by first | omega | (simp only [tw_gq]; omega)) ?_); (first | refine tw_ite_t (by first | omega | (simp only [tw_gq]; omega)) ?_ | refine tw_ite_f (by first | omega | (simp only [tw_gq]; omega)) ?_); (first | refine tw_ite_t (by first | omega | (simp only [tw_gq]; omega)) ?_ | refine tw_ite_f (by first | omega | (simp only [tw_gq]; omega)) ?_); (first | refine tw_ite_t (by first | omega | (simp only [tw_gq]; omega)) ?_ | refine tw_ite_f (by first | omega | (simp only [tw_gq]; omega)) ?_); (first | refine tw_ite_t (by first | omega | (simp only [tw_gq]; omega)) ?_ | refine tw_ite_f (by first | omega | (simp only [tw_gq]; omega)) ?_); (first | refine tw_ite_t (by first | omega | (simp only [tw_gq]; omega)) ?_ | refine tw_ite_f (by first | omega | (simp only [tw_gq]; omega)) ?_); (first | refine tw_ite_t (by first | omega | (simp only [tw_gq]; omega)) ?_ | refine tw_ite_f (by first | omega | (simp only [tw_gq]; omega)) ?_); (first | refine tw_ite_t (by first | omega | (simp only [tw_gq]; omega)) ?_ | refine tw_ite_f (by first | omega | (simp only [tw_gq]; omega)) ?_); (first | refine tw_ite_t (by first | omega | (simp only [tw_gq]; omega)) ?_ | refine tw_ite_f (by first | omega | (simp only [tw_gq]; omega)) ?_); (first | refine tw_ite_t (by first | omega | (simp only [tw_gq]; omega)) ?_ | refine tw_ite_f (by first | omega | (simp only [tw_gq]; omega)) ?_)
      refine tw_bind_t (tw_rByt v0 (by omega) (by omega) (by omega)) ?_
      rw [← w.1]
      (first | refine tw_ite_t (by first | omega | (simp only [tw_gq]; omega)) ?_ | refine tw_ite_f (by first | omega | (simp only [tw_gq]; omega)) ?_)
      exact tw_ob5_t (tw_rmake (by omega) (by omega)) rfl
    unfold tw_OUT tw_opC tw_opR
    rw [if_pos (show (9 : Int) < 12 by decide), if_neg (show ¬ (15 : Int) < 12 by decide), if_pos (show (10 : Int) ≤ 12 by decide), if_neg (show ¬ (16 : Int) ≤ 12 by decide)]
    exact Or.inr ⟨_, _, _, _, _, _, _, _, _, _, _, _, _, _, _, _, _, _, _, _, _, _, _, _, _, _, _, _, _, _, _, tw_ob8_t hc rfl, tw_ob11_t hr rfl, tw_RSL_mk (sz := 1) (tw_XV_mid h) tw_GR_refl tw_GR_refl (by omega) (by omega) (fun _ => rfl) (by omega) (fun z => by omega) (fun z => by omega) (by rw [if_neg (by omega), if_neg (by omega)]) (by omega) (by omega) (by omega) (by omega) (by omega)⟩
  · have hc : f_Builtins_onBytes N V_top V_kinds V_numbers V_parts V_links VB_top VB_row B_given 12 = some (-1, V_top, V_kinds, V_numbers, V_parts, V_links, VB_top, VB_row) := by
      unfold f_Builtins_onBytes
      (first | refine tw_ite_t (by first | omega | (simp only [tw_gq]; omega)) ?_ | refine tw_ite_f (by first | omega | (simp only [tw_gq]; omega)) ?_); (first | refine tw_ite_t (by first | omega | (simp only [tw_gq]; omega)) ?_ | refine tw_ite_f (by first | omega | (simp only [tw_gq]; omega)) ?_); (first | refine tw_ite_t (by first | omega | (simp only [tw_gq]; omega)) ?_ | refine tw_ite_f (by first | omega | (simp only [tw_gq]; omega)) ?_); (first | refine tw_ite_t (by first | omega | (simp only [tw_gq]; omega)) ?_ | refine tw_ite_f (by first | omega | (simp only [tw_gq]; omega)) ?_); (first | refine tw_ite_t (by first | omega | (simp only [tw_gq]; omega)) ?_ | refine tw_ite_f (by first | omega | (simp only [tw_gq]; omega)) ?_); (first | refine tw_ite_t (by first | omega | (simp only [tw_gq]; omega)) ?_ | refine tw_ite_f (by first | omega | (simp only [tw_gq]; omega)) ?_)
      refine tw_bind_t (tw_vN p1 q1 (by omega)) ?_
      refine tw_ob6_t (a1 := -1) (a2 := V_top) (a3 := V_kinds) (a4 := V_numbers) (a5 := V_parts) (a6 := V_links) ?_ rfl
      unfold f_Builtins_byteOf
      by_cases c2 : V_numbers (B_given 1) < 0
      · (first | refine tw_ite_t (by first | omega | (simp only [tw_gq]; omega)) ?_ | refine tw_ite_f (by first | omega | (simp only [tw_gq]; omega)) ?_); (first | refine tw_ite_t (by first | omega | (simp only [tw_gq]; omega)) ?_ | refine tw_ite_f (by first | omega | (simp only [tw_gq]; omega)) ?_); rfl
      · (first | refine tw_ite_t (by first | omega | (simp only [tw_gq]; omega)) ?_ | refine tw_ite_f (by first | omega | (simp only [tw_gq]; omega)) ?_); (first | refine tw_ite_t (by first | omega | (simp only [tw_gq]; omega)) ?_ | refine tw_ite_f (by first | omega | (simp only [tw_gq]; omega)) ?_)
        refine tw_bind_t (tw_vLe p0 q0 (by omega)) ?_
        (first | refine tw_ite_t (by first | omega | (simp only [tw_gq]; omega)) ?_ | refine tw_ite_f (by first | omega | (simp only [tw_gq]; omega)) ?_); (first | refine tw_ite_t (by first | omega | (simp only [tw_gq]; omega)) ?_ | refine tw_ite_f (by first | omega | (simp only [tw_gq]; omega)) ?_); (first | refine tw_ite_t (by first | omega | (simp only [tw_gq]; omega)) ?_ | refine tw_ite_f (by first | omega | (simp only [tw_gq]; omega)) ?_)
        rfl
    have hr : f_Mod_ofBytes N R_values R_textEnd 0 puts R_valueKinds R_valueNumbers R_from R_length R_given R_texts R_of 12 = some (0, R_values, R_textEnd, 3, 0, R_valueKinds, R_valueNumbers, R_from, R_length, R_given, R_texts) := by
      unfold f_Mod_ofBytes
      rw [o0, o1, ← e1]
      by_cases c2 : V_numbers (B_given 1) < 0
      · (first | refine tw_ite_t (by first | omega | (simp only [tw_gq]; omega)) ?_ | refine tw_ite_f (by first | omega | (simp only [tw_gq]; omega)) ?_); (first | refine tw_ite_t (by first | omega | (simp only [tw_gq]; omega)) ?_ | refine tw_ite_f (by first | omega | (simp only [tw_gq]; omega)) ?_); (first | refine tw_ite_t (by first | omega | (simp only [tw_gq]; omega)) ?_ | refine tw_ite_f (by first | omega | (simp only [tw_gq]; omega)) ?_); (first | refine tw_ite_t (by first | omega | (simp only [tw_gq]; omega)) ?_ | refine tw_ite_f (by first | omega | (simp only [tw_gq]; omega)) ?_); (first | refine tw_ite_t (by first | omega | (simp only [tw_gq]; omega)) ?_ | refine tw_ite_f (by first | omega | (simp only [tw_gq]; omega)) ?_); (first | refine tw_ite_t (by first | omega | (simp only [tw_gq]; omega)) ?_ | refine tw_ite_f (by first | omega | (simp only [tw_gq]; omega)) ?_); (first | refine tw_ite_t (by first | omega | (simp only [tw_gq]; omega)) ?_ | refine tw_ite_f (by first | omega | (simp only [tw_gq]; omega)) ?_); (first | refine tw_ite_t (by first | omega | (simp only [tw_gq]; omega)) ?_ | refine tw_ite_f (by first | omega | (simp only [tw_gq]; omega)) ?_); (first | refine tw_ite_t (by first | omega | (simp only [tw_gq]; omega)) ?_ | refine tw_ite_f (by first | omega | (simp only [tw_gq]; omega)) ?_)
        exact tw_ob2_t (tw_fail_ok rfl) rfl
      · (first | refine tw_ite_t (by first | omega | (simp only [tw_gq]; omega)) ?_ | refine tw_ite_f (by first | omega | (simp only [tw_gq]; omega)) ?_); (first | refine tw_ite_t (by first | omega | (simp only [tw_gq]; omega)) ?_ | refine tw_ite_f (by first | omega | (simp only [tw_gq]; omega)) ?_); (first | refine tw_ite_t (by first | omega | (simp only [tw_gq]; omega)) ?_ | refine tw_ite_f (by first | omega | (simp only [tw_gq]; omega)) ?_); (first | refine tw_ite_t (by first | omega | (simp only [tw_gq]; omega)) ?_ | refine tw_ite_f (by first | omega | (simp only [tw_gq]; omega)) ?_); (first | refine tw_ite_t (by first | omega | (simp only [tw_gq]; omega)) ?_ | refine tw_ite_f (by first | omega | (simp only [tw_gq]; omega)) ?_); (first | refine tw_ite_t (by first | omega | (simp only [tw_gq]; omega)) ?_ | refine tw_ite_f (by first | omega | (simp only [tw_gq]; omega)) ?_); (first | refine tw_ite_t (by first | omega | (simp only [tw_gq]; omega)) ?_ | refine tw_ite_f (by first | omega | (simp only [tw_gq]; omega)) ?_); (first | refine tw_ite_t (by first | omega | (simp only [tw_gq]; omega)) ?_ | refine tw_ite_f (by first | omega | (simp only [tw_gq]; omega)) ?_); (first | refine tw_ite_t (by first | omega | (simp only [tw_gq]; omega)) ?_ | refine tw_ite_f (by first | omega | (simp only [tw_gq]; omega)) ?_); (first | refine tw_ite_t (by first | omega | (simp only [tw_gq]; omega)) ?_ | refine tw_ite_f (by first | omega | (simp only [tw_gq]; omega)) ?_); (first | refine tw_ite_t (by first | omega | (simp only [tw_gq]; omega)) ?_ | refine tw_ite_f (by first | omega | (simp only [tw_gq]; omega)) ?_); (first | refine tw_ite_t (by first | omega | (simp only [tw_gq]; omega)) ?_ | refine tw_ite_f (by first | omega | (simp only [tw_gq]; omega)) ?_); (first | refine tw_ite_t (by first | omega | (simp only [tw_gq]; omega)) ?_ | refine tw_ite_f (by first | omega | (simp only [tw_gq]; omega)) ?_)
        exact tw_ob2_t (tw_fail_ok rfl) rfl
    unfold tw_OUT tw_opC tw_opR
    rw [if_pos (show (9 : Int) < 12 by decide), if_neg (show ¬ (15 : Int) < 12 by decide), if_pos (show (10 : Int) ≤ 12 by decide), if_neg (show ¬ (16 : Int) ≤ 12 by decide)]
    exact Or.inl ⟨_, _, tw_ob8_t hc rfl, tw_ob11_t hr rfl, rfl⟩
set_option maxRecDepth 100000 in
theorem tw_out_14 {ok : Int → Int → Int → Prop} {cs : Int → Prop} {ps : Int → Int} {nc : Int} {R_values : Int} {R_nodeOf : Int → Int} {R_rowOf : Int → Int} {D_top : Int} {D_nodes : Int → Int} {R_dataEnd : Int} {VB_top : Int} {VB_row : Int → Int} {R_textEnd : Int} {R_texts : Int → Int} {D_forms : Int → Int} {D_counts : Int → Int} {D_numbers : Int → Int} {R_forms : Int → Int} {R_tags : Int → Int} {R_counts : Int → Int} {R_textsAt : Int → Int} {V_top : Int} {V_kinds : Int → Int} {V_numbers : Int → Int} {V_parts : Int → Int} {V_links : Int → Int} {R_valueKinds : Int → Int} {R_valueNumbers : Int → Int} {R_from : Int → Int} {R_length : Int → Int} {R_given : Int → Int} {R_firstGiven : Int → Int} {R_secondGiven : Int → Int} {D_depths : Int → Int} {D_weights : Int → Int} {m puts : Int} {N : Nat} {B_given R_of R_comes : Int → Int} (hN : 300 ≤ N) (h : tw_XV ok cs ps nc R_values R_nodeOf R_rowOf D_top D_nodes R_dataEnd VB_top VB_row R_textEnd R_texts D_forms D_counts D_numbers R_forms R_tags R_counts R_textsAt V_top V_kinds V_numbers V_parts V_links R_valueKinds R_valueNumbers R_from R_length R_given R_firstGiven R_secondGiven D_depths D_weights) (hT : tw_TOPS V_top D_top VB_top R_textEnd R_dataEnd m) (g0 : tw_vok cs V_top (B_given 0)) (k0 : V_kinds (B_given 0) = 1) (o0 : R_of 0 = ps (B_given 0)) (tw_g1 : tw_vok cs V_top (B_given 1)) (k1 : V_kinds (B_given 1) = 1) (o1 : R_of 1 = ps (B_given 1)) : tw_OUT ok cs ps nc R_values R_nodeOf R_rowOf D_top D_nodes R_dataEnd VB_top VB_row R_textEnd R_texts D_forms D_counts D_numbers R_forms R_tags R_counts R_textsAt V_top V_kinds V_numbers V_parts V_links R_valueKinds R_valueNumbers R_from R_length R_given R_firstGiven R_secondGiven D_depths D_weights N B_given puts R_of R_comes 14 := by
  have tr := tw_TOPS_r h hT
  obtain ⟨p0, q0, -⟩ := id g0
  obtain ⟨v0, v0', ⟨z0, -, -, n0, -, -, -, b0, -⟩, -⟩ := h.1 _ g0
  obtain ⟨bl0, bn0, bb0⟩ := b0 k0
  obtain ⟨bb01, bb02, bb03, bb04, bb05, bb06, bb07⟩ := id bb0
  clear b0
  obtain ⟨p1, q1, -⟩ := id tw_g1
  obtain ⟨v1, v1', ⟨z1, -, -, n1, -, -, -, b1, -⟩, -⟩ := h.1 _ tw_g1
  obtain ⟨bl1, bn1, bb1⟩ := b1 k1
  obtain ⟨bb11, bb12, bb13, bb14, bb15, bb16, bb17⟩ := id bb1
  clear b1
  obtain ⟨r, r1, r2, r3, r4⟩ := tw_cmp_L (a := V_parts (B_given 0)) (la := R_length (ps (B_given 0))) (b := V_parts (B_given 1)) (lb := R_length (ps (B_given 1))) (va := ps (B_given 0)) (vb := ps (B_given 1)) (VB := VB_row) (fr := R_from) (le := R_length) (tx := R_texts) (by omega) (by omega) (by omega) (by omega) (by omega) (by omega) rfl rfl (by omega) (by omega) (fun k x y => bb07 k x y) (fun k x y => bb17 k x y) N 0 (by omega) (by omega) (by omega)
  have hcc : f_Builtins_compareBytes N V_top V_parts V_links VB_row (B_given 0) (B_given 1) = some r := by
    unfold f_Builtins_compareBytes
    refine tw_bind_t (tw_vSt p0 q0 (by omega)) ?_
    refine tw_bind_t (tw_vLe p0 q0 (by omega)) ?_
    refine tw_bind_t (tw_vSt p1 q1 (by omega)) ?_
    refine tw_bind_t (tw_vLe p1 q1 (by omega)) ?_
    rw [bl0, bl1]
    refine tw_bind_t (r := r) ?_ rfl
    unfold f_ByteRow_compare
    (first | refine tw_ite_t (by first | omega | (simp only [tw_gq]; omega)) ?_ | refine tw_ite_f (by first | omega | (simp only [tw_gq]; omega)) ?_)
    exact r1
  have hrr : f_Mod_order N R_from R_length R_texts (ps (B_given 0)) (ps (B_given 1)) = some r := r2
  have tf : (if r = 0 then (1 : Int) else 0) = 0 ∨ (if r = 0 then (1 : Int) else 0) = 1 := by split <;> omega
  have hc : f_Builtins_onBytes N V_top V_kinds V_numbers V_parts V_links VB_top VB_row B_given 14 = some (V_top, V_top + 1, upZ V_kinds V_top 2, upZ V_numbers V_top (if r = 0 then 1 else 0), upZ V_parts V_top (-1), upZ V_links V_top (-1), VB_top, VB_row) := by
    unfold f_Builtins_onBytes
    (first | refine tw_ite_t (by first | omega | (simp only [tw_gq]; omega)) ?_ | refine tw_ite_f (by first | omega | (simp only [tw_gq]; omega)) ?_); (first | refine tw_ite_t (by first | omega | (simp only [tw_gq]; omega)) ?_ | refine tw_ite_f (by first | omega | (simp only [tw_gq]; omega)) ?_); (first | refine tw_ite_t (by first | omega | (simp only [tw_gq]; omega)) ?_ | refine tw_ite_f (by first | omega | (simp only [tw_gq]; omega)) ?_); (first | refine tw_ite_t (by first | omega | (simp only [tw_gq]; omega)) ?_ | refine tw_ite_f (by first | omega | (simp only [tw_gq]; omega)) ?_); (first | refine tw_ite_t (by first | omega | (simp only [tw_gq]; omega)) ?_ | refine tw_ite_f (by first | omega | (simp only [tw_gq]; omega)) ?_); (first | refine tw_ite_t (by first | omega | (simp only [tw_gq]; omega)) ?_ | refine tw_ite_f (by first | omega | (simp only [tw_gq]; omega)) ?_); (first | refine tw_ite_t (by first | omega | (simp only [tw_gq]; omega)) ?_ | refine tw_ite_f (by first | omega | (simp only [tw_gq]; omega)) ?_); (first | refine tw_ite_t (by first | omega | (simp only [tw_gq]; omega)) ?_ | refine tw_ite_f (by first | omega | (simp only [tw_gq]; omega)) ?_)
    refine tw_bind_t hcc ?_
    (first | refine tw_ite_t (by first | omega | (simp only [tw_gq]; omega)) ?_ | refine tw_ite_f (by first | omega | (simp only [tw_gq]; omega)) ?_)
    by_cases c : r = 0
    · refine tw_ite_t c ?_; rw [if_pos c]; exact tw_ob6_t (tw_vOT (by omega) (by omega) (by omega)) rfl
    · refine tw_ite_f c ?_; rw [if_neg c]; exact tw_ob6_t (tw_vOT (by omega) (by omega) (by omega)) rfl
  have hr : f_Mod_ofBytes N R_values R_textEnd 0 puts R_valueKinds R_valueNumbers R_from R_length R_given R_texts R_of 14 = some (R_values, R_values + 1, R_textEnd, 0, 0, upZ R_valueKinds R_values 2, upZ R_valueNumbers R_values (if r = 0 then 1 else 0), R_from, R_length, upZ R_given R_values 0, R_texts) := by
    unfold f_Mod_ofBytes
    rw [o0, o1]
    (first | refine tw_ite_t (by first | omega | (simp only [tw_gq]; omega)) ?_ | refine tw_ite_f (by first | omega | (simp only [tw_gq]; omega)) ?_); (first | refine tw_ite_t (by first | omega | (simp only [tw_gq]; omega)) ?_ | refine tw_ite_f (by first | omega | (simp only [tw_gq]; omega)) ?_); (first | refine tw_ite_t (by first | omega | (simp only [tw_gq]; omega)) ?_ | refine tw_ite_f (by first | omega | (simp only [tw_gq]; omega)) ?_); (first | refine tw_ite_t (by first | omega | (simp only [tw_gq]; omega)) ?_ | refine tw_ite_f (by first | omega | (simp only [tw_gq]; omega)) ?_); (first | refine tw_ite_t (by first | omega | (simp only [tw_gq]; omega)) ?_ | refine tw_ite_f (by first | omega | (simp only [tw_gq]; omega)) ?_); (first | refine tw_ite_t (by first | omega | (simp only [tw_gq]; omega)) ?_ | refine tw_ite_f (by first | omega | (simp only [tw_gq]; omega)) ?_); (first | refine tw_ite_t (by first | omega | (simp only [tw_gq]; omega)) ?_ | refine tw_ite_f (by first | omega | (simp only [tw_gq]; omega)) ?_); (first | refine tw_ite_t (by first | omega | (simp only [tw_gq]; omega)) ?_ | refine tw_ite_f (by first | omega | (simp only [tw_gq]; omega)) ?_)
    refine tw_bind_t hrr ?_
    (first | refine tw_ite_t (by first | omega | (simp only [tw_gq]; omega)) ?_ | refine tw_ite_f (by first | omega | (simp only [tw_gq]; omega)) ?_)
    by_cases c : r = 0
    · refine tw_ite_t c ?_; rw [if_pos c]; exact tw_ob5_t (tw_rTr (by omega) (by omega) (by omega)) rfl
    · refine tw_ite_f c ?_; rw [if_neg c]; exact tw_ob5_t (tw_rTr (by omega) (by omega) (by omega)) rfl
  unfold tw_OUT tw_opC tw_opR
  rw [if_pos (show (9 : Int) < 14 by decide), if_neg (show ¬ (15 : Int) < 14 by decide), if_pos (show (10 : Int) ≤ 14 by decide), if_neg (show ¬ (16 : Int) ≤ 14 by decide)]
  exact Or.inr ⟨_, _, _, _, _, _, _, _, _, _, _, _, _, _, _, _, _, _, _, _, _, _, _, _, _, _, _, _, _, _, _, tw_ob8_t hc rfl, tw_ob11_t hr rfl, tw_RSL_mk (sz := 1) (tw_XV_mid h) tw_GR_refl tw_GR_refl (by omega) (by omega) (fun _ => rfl) (fun _ => tf) (fun z => by omega) (fun z => by omega) (by rw [if_neg (by omega), if_neg (by omega)]) (by omega) (by omega) (by omega) (by omega) (by omega)⟩
set_option maxRecDepth 100000 in
theorem tw_out_15 {ok : Int → Int → Int → Prop} {cs : Int → Prop} {ps : Int → Int} {nc : Int} {R_values : Int} {R_nodeOf : Int → Int} {R_rowOf : Int → Int} {D_top : Int} {D_nodes : Int → Int} {R_dataEnd : Int} {VB_top : Int} {VB_row : Int → Int} {R_textEnd : Int} {R_texts : Int → Int} {D_forms : Int → Int} {D_counts : Int → Int} {D_numbers : Int → Int} {R_forms : Int → Int} {R_tags : Int → Int} {R_counts : Int → Int} {R_textsAt : Int → Int} {V_top : Int} {V_kinds : Int → Int} {V_numbers : Int → Int} {V_parts : Int → Int} {V_links : Int → Int} {R_valueKinds : Int → Int} {R_valueNumbers : Int → Int} {R_from : Int → Int} {R_length : Int → Int} {R_given : Int → Int} {R_firstGiven : Int → Int} {R_secondGiven : Int → Int} {D_depths : Int → Int} {D_weights : Int → Int} {m puts : Int} {N : Nat} {B_given R_of R_comes : Int → Int} (hN : 300 ≤ N) (h : tw_XV ok cs ps nc R_values R_nodeOf R_rowOf D_top D_nodes R_dataEnd VB_top VB_row R_textEnd R_texts D_forms D_counts D_numbers R_forms R_tags R_counts R_textsAt V_top V_kinds V_numbers V_parts V_links R_valueKinds R_valueNumbers R_from R_length R_given R_firstGiven R_secondGiven D_depths D_weights) (hT : tw_TOPS V_top D_top VB_top R_textEnd R_dataEnd m) (g0 : tw_vok cs V_top (B_given 0)) (k0 : V_kinds (B_given 0) = 1) (o0 : R_of 0 = ps (B_given 0)) (tw_g1 : tw_vok cs V_top (B_given 1)) (k1 : V_kinds (B_given 1) = 1) (o1 : R_of 1 = ps (B_given 1)) : tw_OUT ok cs ps nc R_values R_nodeOf R_rowOf D_top D_nodes R_dataEnd VB_top VB_row R_textEnd R_texts D_forms D_counts D_numbers R_forms R_tags R_counts R_textsAt V_top V_kinds V_numbers V_parts V_links R_valueKinds R_valueNumbers R_from R_length R_given R_firstGiven R_secondGiven D_depths D_weights N B_given puts R_of R_comes 15 := by
  have tr := tw_TOPS_r h hT
  obtain ⟨p0, q0, -⟩ := id g0
  obtain ⟨v0, v0', ⟨z0, -, -, n0, -, -, -, b0, -⟩, -⟩ := h.1 _ g0
  obtain ⟨bl0, bn0, bb0⟩ := b0 k0
  obtain ⟨bb01, bb02, bb03, bb04, bb05, bb06, bb07⟩ := id bb0
  clear b0
  obtain ⟨p1, q1, -⟩ := id tw_g1
  obtain ⟨v1, v1', ⟨z1, -, -, n1, -, -, -, b1, -⟩, -⟩ := h.1 _ tw_g1
  obtain ⟨bl1, bn1, bb1⟩ := b1 k1
  obtain ⟨bb11, bb12, bb13, bb14, bb15, bb16, bb17⟩ := id bb1
  clear b1
  obtain ⟨r, r1, r2, r3, r4⟩ := tw_cmp_L (a := V_parts (B_given 0)) (la := R_length (ps (B_given 0))) (b := V_parts (B_given 1)) (lb := R_length (ps (B_given 1))) (va := ps (B_given 0)) (vb := ps (B_given 1)) (VB := VB_row) (fr := R_from) (le := R_length) (tx := R_texts) (by omega) (by omega) (by omega) (by omega) (by omega) (by omega) rfl rfl (by omega) (by omega) (fun k x y => bb07 k x y) (fun k x y => bb17 k x y) N 0 (by omega) (by omega) (by omega)
  have hcc : f_Builtins_compareBytes N V_top V_parts V_links VB_row (B_given 0) (B_given 1) = some r := by
    unfold f_Builtins_compareBytes
    refine tw_bind_t (tw_vSt p0 q0 (by omega)) ?_
    refine tw_bind_t (tw_vLe p0 q0 (by omega)) ?_
    refine tw_bind_t (tw_vSt p1 q1 (by omega)) ?_
    refine tw_bind_t (tw_vLe p1 q1 (by omega)) ?_
    rw [bl0, bl1]
    refine tw_bind_t (r := r) ?_ rfl
    unfold f_ByteRow_compare
    (first | refine tw_ite_t (by first | omega | (simp only [tw_gq]; omega)) ?_ | refine tw_ite_f (by first | omega | (simp only [tw_gq]; omega)) ?_)
    exact r1
  have hrr : f_Mod_order N R_from R_length R_texts (ps (B_given 0)) (ps (B_given 1)) = some r := r2
  have tf : (if r < 0 then (1 : Int) else 0) = 0 ∨ (if r < 0 then (1 : Int) else 0) = 1 := by split <;> omega
  have hc : f_Builtins_onBytes N V_top V_kinds V_numbers V_parts V_links VB_top VB_row B_given 15 = some (V_top, V_top + 1, upZ V_kinds V_top 2, upZ V_numbers V_top (if r < 0 then 1 else 0), upZ V_parts V_top (-1), upZ V_links V_top (-1), VB_top, VB_row) := by
    unfold f_Builtins_onBytes
    (first | refine tw_ite_t (by first | omega | (simp only [tw_gq]; omega)) ?_ | refine tw_ite_f (by first | omega | (simp only [tw_gq]; omega)) ?_); (first | refine tw_ite_t (by first | omega | (simp only [tw_gq]; omega)) ?_ | refine tw_ite_f (by first | omega | (simp only [tw_gq]; omega)) ?_); (first | refine tw_ite_t (by first | omega | (simp only [tw_gq]; omega)) ?_ | refine tw_ite_f (by first | omega | (simp only [tw_gq]; omega)) ?_); (first | refine tw_ite_t (by first | omega | (simp only [tw_gq]; omega)) ?_ | refine tw_ite_f (by first | omega | (simp only [tw_gq]; omega)) ?_); (first | refine tw_ite_t (by first | omega | (simp only [tw_gq]; omega)) ?_ | refine tw_ite_f (by first | omega | (simp only [tw_gq]; omega)) ?_); (first | refine tw_ite_t (by first | omega | (simp only [tw_gq]; omega)) ?_ | refine tw_ite_f (by first | omega | (simp only [tw_gq]; omega)) ?_); (first | refine tw_ite_t (by first | omega | (simp only [tw_gq]; omega)) ?_ | refine tw_ite_f (by first | omega | (simp only [tw_gq]; omega)) ?_); (first | refine tw_ite_t (by first | omega | (simp only [tw_gq]; omega)) ?_ | refine tw_ite_f (by first | omega | (simp only [tw_gq]; omega)) ?_)
    refine tw_bind_t hcc ?_
    (first | refine tw_ite_t (by first | omega | (simp only [tw_gq]; omega)) ?_ | refine tw_ite_f (by first | omega | (simp only [tw_gq]; omega)) ?_)
    by_cases c : r < 0
    · refine tw_ite_f (by omega) ?_; rw [if_pos c]; exact tw_ob6_t (tw_vOT (by omega) (by omega) (by omega)) rfl
    · refine tw_ite_t (by omega) ?_; rw [if_neg c]; exact tw_ob6_t (tw_vOT (by omega) (by omega) (by omega)) rfl
  have hr : f_Mod_ofBytes N R_values R_textEnd 0 puts R_valueKinds R_valueNumbers R_from R_length R_given R_texts R_of 15 = some (R_values, R_values + 1, R_textEnd, 0, 0, upZ R_valueKinds R_values 2, upZ R_valueNumbers R_values (if r < 0 then 1 else 0), R_from, R_length, upZ R_given R_values 0, R_texts) := by
    unfold f_Mod_ofBytes
    rw [o0, o1]
    (first | refine tw_ite_t (by first | omega | (simp only [tw_gq]; omega)) ?_ | refine tw_ite_f (by first | omega | (simp only [tw_gq]; omega)) ?_); (first | refine tw_ite_t (by first | omega | (simp only [tw_gq]; omega)) ?_ | refine tw_ite_f (by first | omega | (simp only [tw_gq]; omega)) ?_); (first | refine tw_ite_t (by first | omega | (simp only [tw_gq]; omega)) ?_ | refine tw_ite_f (by first | omega | (simp only [tw_gq]; omega)) ?_); (first | refine tw_ite_t (by first | omega | (simp only [tw_gq]; omega)) ?_ | refine tw_ite_f (by first | omega | (simp only [tw_gq]; omega)) ?_); (first | refine tw_ite_t (by first | omega | (simp only [tw_gq]; omega)) ?_ | refine tw_ite_f (by first | omega | (simp only [tw_gq]; omega)) ?_); (first | refine tw_ite_t (by first | omega | (simp only [tw_gq]; omega)) ?_ | refine tw_ite_f (by first | omega | (simp only [tw_gq]; omega)) ?_); (first | refine tw_ite_t (by first | omega | (simp only [tw_gq]; omega)) ?_ | refine tw_ite_f (by first | omega | (simp only [tw_gq]; omega)) ?_); (first | refine tw_ite_t (by first | omega | (simp only [tw_gq]; omega)) ?_ | refine tw_ite_f (by first | omega | (simp only [tw_gq]; omega)) ?_)
    refine tw_bind_t hrr ?_
    (first | refine tw_ite_t (by first | omega | (simp only [tw_gq]; omega)) ?_ | refine tw_ite_f (by first | omega | (simp only [tw_gq]; omega)) ?_)
    by_cases c : r < 0
    · refine tw_ite_f (by omega) ?_; rw [if_pos c]; exact tw_ob5_t (tw_rTr (by omega) (by omega) (by omega)) rfl
    · refine tw_ite_t (by omega) ?_; rw [if_neg c]; exact tw_ob5_t (tw_rTr (by omega) (by omega) (by omega)) rfl
  unfold tw_OUT tw_opC tw_opR
  rw [if_pos (show (9 : Int) < 15 by decide), if_neg (show ¬ (15 : Int) < 15 by decide), if_pos (show (10 : Int) ≤ 15 by decide), if_neg (show ¬ (16 : Int) ≤ 15 by decide)]
  exact Or.inr ⟨_, _, _, _, _, _, _, _, _, _, _, _, _, _, _, _, _, _, _, _, _, _, _, _, _, _, _, _, _, _, _, tw_ob8_t hc rfl, tw_ob11_t hr rfl, tw_RSL_mk (sz := 1) (tw_XV_mid h) tw_GR_refl tw_GR_refl (by omega) (by omega) (fun _ => rfl) (fun _ => tf) (fun z => by omega) (fun z => by omega) (by rw [if_neg (by omega), if_neg (by omega)]) (by omega) (by omega) (by omega) (by omega) (by omega)⟩
set_option maxRecDepth 100000 in
theorem tw_out_10 {ok : Int → Int → Int → Prop} {cs : Int → Prop} {ps : Int → Int} {nc : Int} {R_values : Int} {R_nodeOf : Int → Int} {R_rowOf : Int → Int} {D_top : Int} {D_nodes : Int → Int} {R_dataEnd : Int} {VB_top : Int} {VB_row : Int → Int} {R_textEnd : Int} {R_texts : Int → Int} {D_forms : Int → Int} {D_counts : Int → Int} {D_numbers : Int → Int} {R_forms : Int → Int} {R_tags : Int → Int} {R_counts : Int → Int} {R_textsAt : Int → Int} {V_top : Int} {V_kinds : Int → Int} {V_numbers : Int → Int} {V_parts : Int → Int} {V_links : Int → Int} {R_valueKinds : Int → Int} {R_valueNumbers : Int → Int} {R_from : Int → Int} {R_length : Int → Int} {R_given : Int → Int} {R_firstGiven : Int → Int} {R_secondGiven : Int → Int} {D_depths : Int → Int} {D_weights : Int → Int} {m puts : Int} {N : Nat} {B_given R_of R_comes : Int → Int} (hN : 300 ≤ N) (h : tw_XV ok cs ps nc R_values R_nodeOf R_rowOf D_top D_nodes R_dataEnd VB_top VB_row R_textEnd R_texts D_forms D_counts D_numbers R_forms R_tags R_counts R_textsAt V_top V_kinds V_numbers V_parts V_links R_valueKinds R_valueNumbers R_from R_length R_given R_firstGiven R_secondGiven D_depths D_weights) (hT : tw_TOPS V_top D_top VB_top R_textEnd R_dataEnd m) (g0 : tw_vok cs V_top (B_given 0)) (k0 : V_kinds (B_given 0) = 1) (o0 : R_of 0 = ps (B_given 0)) (tw_g1 : tw_vok cs V_top (B_given 1)) (k1 : V_kinds (B_given 1) = 1) (o1 : R_of 1 = ps (B_given 1)) : tw_OUT ok cs ps nc R_values R_nodeOf R_rowOf D_top D_nodes R_dataEnd VB_top VB_row R_textEnd R_texts D_forms D_counts D_numbers R_forms R_tags R_counts R_textsAt V_top V_kinds V_numbers V_parts V_links R_valueKinds R_valueNumbers R_from R_length R_given R_firstGiven R_secondGiven D_depths D_weights N B_given puts R_of R_comes 10 := by
  have tr := tw_TOPS_r h hT
  obtain ⟨p0, q0, -⟩ := id g0
  obtain ⟨v0, v0', ⟨z0, -, -, n0, -, -, -, b0, -⟩, -⟩ := h.1 _ g0
  obtain ⟨bl0, bn0, bb0⟩ := b0 k0
  obtain ⟨bb01, bb02, bb03, bb04, bb05, bb06, bb07⟩ := id bb0
  clear b0
  obtain ⟨p1, q1, -⟩ := id tw_g1
  obtain ⟨v1, v1', ⟨z1, -, -, n1, -, -, -, b1, -⟩, -⟩ := h.1 _ tw_g1
  obtain ⟨bl1, bn1, bb1⟩ := b1 k1
  obtain ⟨bb11, bb12, bb13, bb14, bb15, bb16, bb17⟩ := id bb1
  clear b1
  by_cases c : R_length (ps (B_given 0)) + R_length (ps (B_given 1)) ≤ 64
  · obtain ⟨row1, w1, w2, w3⟩ := tw_app_ok (top := VB_top) (a := V_parts (B_given 0)) (n := R_length (ps (B_given 0))) (row := VB_row) bb03 bb01 bb02 bb04 (by omega) (fun k x y => (bb07 k x y).2) (N := N) (by omega)
    obtain ⟨row2, y1, y2, y3⟩ := tw_app_ok (top := VB_top + R_length (ps (B_given 0))) (a := V_parts (B_given 1)) (n := R_length (ps (B_given 1))) (row := row1) bb13 bb11 bb12 (by omega) (by omega) (fun k x y => by rw [w2 _ (by omega)]; exact (bb17 k x y).2) (N := N) (by omega)
    obtain ⟨tx, x1, x2, x3⟩ := tw_join_L (te := R_textEnd) (x1 := 10) (x2 := ps (B_given 0)) (fr := R_from) (le := R_length) (of := R_of) (tx0 := R_texts) (by omega) (by omega) (by rw [o1]; omega) bb01 (by rw [o1]; exact bb11) (by rw [o1]; exact c) (by omega) (by omega) (by rw [o1]; omega) (fun k x y => by rw [← (bb07 k x y).1]; exact (bb07 k x y).2) (by rw [o1]; exact fun k x y => by rw [← (bb17 k x y).1]; exact (bb17 k x y).2) N 0 R_texts (by omega) (by rw [o1]; omega) (by rw [o1]; omega) (fun _ _ => rfl) (fun k _ _ => by omega)
    rw [o1] at x1 x3
    have hc : f_Builtins_onBytes N V_top V_kinds V_numbers V_parts V_links VB_top VB_row B_given 10 = some (V_top, V_top + 1, upZ V_kinds V_top 1, upZ V_numbers V_top 0, upZ V_parts V_top VB_top, upZ V_links V_top (R_length (ps (B_given 0)) + R_length (ps (B_given 1))), VB_top + R_length (ps (B_given 0)) + R_length (ps (B_given 1)), row2) := by
      unfold f_Builtins_onBytes
      (first | refine tw_ite_t (by first | omega | (simp only [tw_gq]; omega)) ?_ | refine tw_ite_f (by first | omega | (simp only [tw_gq]; omega)) ?_); (first | refine tw_ite_t (by first | omega | (simp only [tw_gq]; omega)) ?_ | refine tw_ite_f (by first | omega | (simp only [tw_gq]; omega)) ?_); (first | refine tw_ite_t (by first | omega | (simp only [tw_gq]; omega)) ?_ | refine tw_ite_f (by first | omega | (simp only [tw_gq]; omega)) ?_); (first | refine tw_ite_t (by first | omega | (simp only [tw_gq]; omega)) ?_ | refine tw_ite_f (by first | omega | (simp only [tw_gq]; omega)) ?_)
      refine tw_ob8_t (a1 := V_top) (a2 := V_top + 1) (a3 := upZ V_kinds V_top 1) (a4 := upZ V_numbers V_top 0) (a5 := upZ V_parts V_top VB_top) (a6 := upZ V_links V_top (R_length (ps (B_given 0)) + R_length (ps (B_given 1)))) (a7 := VB_top + R_length (ps (B_given 0)) + R_length (ps (B_given 1))) (a8 := row2) ?_ rfl
      unfold f_Builtins_join
      refine tw_bind_t (tw_vLe p0 q0 (by omega)) ?_
      refine tw_bind_t (tw_vLe p1 q1 (by omega)) ?_
      rw [bl0, bl1]
      (first | refine tw_ite_t (by first | omega | (simp only [tw_gq]; omega)) ?_ | refine tw_ite_f (by first | omega | (simp only [tw_gq]; omega)) ?_); (first | refine tw_ite_t (by first | omega | (simp only [tw_gq]; omega)) ?_ | refine tw_ite_f (by first | omega | (simp only [tw_gq]; omega)) ?_)
      refine tw_bind_t (r := VB_top) rfl ?_
      refine tw_bind_t (tw_vSt p0 q0 (by omega)) ?_
      refine tw_bind_t (tw_vLe p0 q0 (by omega)) ?_
      rw [bl0]
      refine tw_ob2_t w1 ?_
      refine tw_bind_t (tw_vSt p1 q1 (by omega)) ?_
      refine tw_bind_t (tw_vLe p1 q1 (by omega)) ?_
      rw [bl1]
      refine tw_ob2_t y1 ?_
      exact tw_ob6_t (tw_vOB (by omega) (by omega)) rfl
    have hr : f_Mod_ofBytes N R_values R_textEnd 0 puts R_valueKinds R_valueNumbers R_from R_length R_given R_texts R_of 10 = some (R_values, R_values + 1, R_textEnd + (R_length (ps (B_given 0)) + R_length (ps (B_given 1))), 0, R_length (ps (B_given 0)) + R_length (ps (B_given 1)), upZ R_valueKinds R_values 1, upZ R_valueNumbers R_values (R_length (ps (B_given 0)) + R_length (ps (B_given 1))), upZ R_from R_values R_textEnd, upZ R_length R_values (R_length (ps (B_given 0)) + R_length (ps (B_given 1))), upZ R_given R_values 0, tx) := by
      unfold f_Mod_ofBytes
      rw [o0, o1]
      (first | refine tw_ite_t (by first | omega | (simp only [tw_gq]; omega)) ?_ | refine tw_ite_f (by first | omega | (simp only [tw_gq]; omega)) ?_); (first | refine tw_ite_t (by first | omega | (simp only [tw_gq]; omega)) ?_ | refine tw_ite_f (by first | omega | (simp only [tw_gq]; omega)) ?_); (first | refine tw_ite_t (by first | omega | (simp only [tw_gq]; omega)) ?_ | refine tw_ite_f (by first | omega | (simp only [tw_gq]; omega)) ?_); (first | refine tw_ite_t (by first | omega | (simp only [tw_gq]; omega)) ?_ | refine tw_ite_f (by first | omega | (simp only [tw_gq]; omega)) ?_); (first | refine tw_ite_t (by first | omega | (simp only [tw_gq]; omega)) ?_ | refine tw_ite_f (by first | omega | (simp only [tw_gq]; omega)) ?_); (first | refine tw_ite_t (by first | omega | (simp only [tw_gq]; omega)) ?_ | refine tw_ite_f (by first | omega | (simp only [tw_gq]; omega)) ?_); (first | refine tw_ite_t (by first | omega | (simp only [tw_gq]; omega)) ?_ | refine tw_ite_f (by first | omega | (simp only [tw_gq]; omega)) ?_); (first | refine tw_ite_t (by first | omega | (simp only [tw_gq]; omega)) ?_ | refine tw_ite_f (by first | omega | (simp only [tw_gq]; omega)) ?_)
      refine tw_ob3_t x1 ?_
      exact tw_ob8_t (tw_rMkB (by omega) (by omega) (by omega)) rfl
    have hb : tw_BB (VB_top + R_length (ps (B_given 0)) + R_length (ps (B_given 1))) row2 (R_textEnd + (R_length (ps (B_given 0)) + R_length (ps (B_given 1)))) tx VB_top R_textEnd (R_length (ps (B_given 0)) + R_length (ps (B_given 1))) := by
      refine ⟨by omega, by omega, by omega, by omega, by omega, by omega, fun k k0 k1 => ?_⟩
      rw [x3 k k0 k1]
      by_cases ck : k < R_length (ps (B_given 0))
      · rw [if_pos ck, y2 _ (by omega), w3 k k0 ck]
        exact bb07 k k0 ck
      · rw [if_neg ck]
        have e := y3 (k - R_length (ps (B_given 0))) (by omega) (by omega)
        rw [show VB_top + R_length (ps (B_given 0)) + (k - R_length (ps (B_given 0))) = VB_top + k by omega] at e
        rw [e, w2 _ (by omega)]
        exact bb17 (k - R_length (ps (B_given 0))) (by omega) (by omega)
    have hm := tw_XV_grow (VB_top' := VB_top + R_length (ps (B_given 0)) + R_length (ps (B_given 1))) (VB_row' := row2) (R_textEnd' := R_textEnd + (R_length (ps (B_given 0)) + R_length (ps (B_given 1)))) (R_texts' := tx) h h.2.1 (by omega) (by omega) (fun k hk => by rw [y2 k (by omega), w2 k hk]) (fun k hk => x2 k hk) (Int.le_refl _) (Int.le_refl _) tw_GR_refl tw_GR_refl tw_GR_refl tw_GR_refl tw_GR_refl tw_GR_refl tw_GR_refl tw_GR_refl
    unfold tw_OUT tw_opC tw_opR
    rw [if_pos (show (9 : Int) < 10 by decide), if_neg (show ¬ (15 : Int) < 10 by decide), if_pos (show (10 : Int) ≤ 10 by decide), if_neg (show ¬ (16 : Int) ≤ 10 by decide)]
    exact Or.inr ⟨_, _, _, _, _, _, _, _, _, _, _, _, _, _, _, _, _, _, _, _, _, _, _, _, _, _, _, _, _, _, _, tw_ob8_t hc rfl, tw_ob11_t hr rfl, tw_RSL_mk (sz := 1 + (R_length (ps (B_given 0)) + R_length (ps (B_given 1))) / 8) hm (tw_GR_up (by omega)) (tw_GR_up (by omega)) (by omega) (by omega) (fun z => by omega) (by omega) (fun z => by rw [tw_upS, tw_upS]; exact ⟨rfl, rfl, hb⟩) (fun z => by omega) (by rw [if_pos rfl]) (by omega) (by omega) (by omega) (by omega) (by omega)⟩
  · have hc : f_Builtins_onBytes N V_top V_kinds V_numbers V_parts V_links VB_top VB_row B_given 10 = some (-1, V_top, V_kinds, V_numbers, V_parts, V_links, VB_top, VB_row) := by
      unfold f_Builtins_onBytes
      (first | refine tw_ite_t (by first | omega | (simp only [tw_gq]; omega)) ?_ | refine tw_ite_f (by first | omega | (simp only [tw_gq]; omega)) ?_); (first | refine tw_ite_t (by first | omega | (simp only [tw_gq]; omega)) ?_ | refine tw_ite_f (by first | omega | (simp only [tw_gq]; omega)) ?_); (first | refine tw_ite_t (by first | omega | (simp only [tw_gq]; omega)) ?_ | refine tw_ite_f (by first | omega | (simp only [tw_gq]; omega)) ?_); (first | refine tw_ite_t (by first | omega | (simp only [tw_gq]; omega)) ?_ | refine tw_ite_f (by first | omega | (simp only [tw_gq]; omega)) ?_)
      refine tw_ob8_t (a1 := -1) (a2 := V_top) (a3 := V_kinds) (a4 := V_numbers) (a5 := V_parts) (a6 := V_links) (a7 := VB_top) (a8 := VB_row) ?_ rfl
      unfold f_Builtins_join
      refine tw_bind_t (tw_vLe p0 q0 (by omega)) ?_
      refine tw_bind_t (tw_vLe p1 q1 (by omega)) ?_
      rw [bl0, bl1]
      (first | refine tw_ite_t (by first | omega | (simp only [tw_gq]; omega)) ?_ | refine tw_ite_f (by first | omega | (simp only [tw_gq]; omega)) ?_); (first | refine tw_ite_t (by first | omega | (simp only [tw_gq]; omega)) ?_ | refine tw_ite_f (by first | omega | (simp only [tw_gq]; omega)) ?_)
      rfl
    have hr : f_Mod_ofBytes N R_values R_textEnd 0 puts R_valueKinds R_valueNumbers R_from R_length R_given R_texts R_of 10 = some (0, R_values, R_textEnd, 3, 0, R_valueKinds, R_valueNumbers, R_from, R_length, R_given, R_texts) := by
      unfold f_Mod_ofBytes
      rw [o0, o1]
      (first | refine tw_ite_t (by first | omega | (simp only [tw_gq]; omega)) ?_ | refine tw_ite_f (by first | omega | (simp only [tw_gq]; omega)) ?_); (first | refine tw_ite_t (by first | omega | (simp only [tw_gq]; omega)) ?_ | refine tw_ite_f (by first | omega | (simp only [tw_gq]; omega)) ?_); (first | refine tw_ite_t (by first | omega | (simp only [tw_gq]; omega)) ?_ | refine tw_ite_f (by first | omega | (simp only [tw_gq]; omega)) ?_); (first | refine tw_ite_t (by first | omega | (simp only [tw_gq]; omega)) ?_ | refine tw_ite_f (by first | omega | (simp only [tw_gq]; omega)) ?_); (first | refine tw_ite_t (by first | omega | (simp only [tw_gq]; omega)) ?_ | refine tw_ite_f (by first | omega | (simp only [tw_gq]; omega)) ?_); (first | refine tw_ite_t (by first | omega | (simp only [tw_gq]; omega)) ?_ | refine tw_ite_f (by first | omega | (simp only [tw_gq]; omega)) ?_); (first | refine tw_ite_t (by first | omega | (simp only [tw_gq]; omega)) ?_ | refine tw_ite_f (by first | omega | (simp only [tw_gq]; omega)) ?_); (first | refine tw_ite_t (by first | omega | (simp only [tw_gq]; omega)) ?_ | refine tw_ite_f (by first | omega | (simp only [tw_gq]; omega)) ?_)
      exact tw_ob2_t (tw_fail_ok rfl) rfl
    unfold tw_OUT tw_opC tw_opR
    rw [if_pos (show (9 : Int) < 10 by decide), if_neg (show ¬ (15 : Int) < 10 by decide), if_pos (show (10 : Int) ≤ 10 by decide), if_neg (show ¬ (16 : Int) ≤ 10 by decide)]
    exact Or.inl ⟨_, _, tw_ob8_t hc rfl, tw_ob11_t hr rfl, rfl⟩
set_option maxRecDepth 100000 in
theorem tw_out_13 {ok : Int → Int → Int → Prop} {cs : Int → Prop} {ps : Int → Int} {nc : Int} {R_values : Int} {R_nodeOf : Int → Int} {R_rowOf : Int → Int} {D_top : Int} {D_nodes : Int → Int} {R_dataEnd : Int} {VB_top : Int} {VB_row : Int → Int} {R_textEnd : Int} {R_texts : Int → Int} {D_forms : Int → Int} {D_counts : Int → Int} {D_numbers : Int → Int} {R_forms : Int → Int} {R_tags : Int → Int} {R_counts : Int → Int} {R_textsAt : Int → Int} {V_top : Int} {V_kinds : Int → Int} {V_numbers : Int → Int} {V_parts : Int → Int} {V_links : Int → Int} {R_valueKinds : Int → Int} {R_valueNumbers : Int → Int} {R_from : Int → Int} {R_length : Int → Int} {R_given : Int → Int} {R_firstGiven : Int → Int} {R_secondGiven : Int → Int} {D_depths : Int → Int} {D_weights : Int → Int} {m puts : Int} {N : Nat} {B_given R_of R_comes : Int → Int} (hN : 300 ≤ N) (h : tw_XV ok cs ps nc R_values R_nodeOf R_rowOf D_top D_nodes R_dataEnd VB_top VB_row R_textEnd R_texts D_forms D_counts D_numbers R_forms R_tags R_counts R_textsAt V_top V_kinds V_numbers V_parts V_links R_valueKinds R_valueNumbers R_from R_length R_given R_firstGiven R_secondGiven D_depths D_weights) (hT : tw_TOPS V_top D_top VB_top R_textEnd R_dataEnd m) (g0 : tw_vok cs V_top (B_given 0)) (k0 : V_kinds (B_given 0) = 0) (o0 : R_of 0 = ps (B_given 0)) (tw_g1 : tw_vok cs V_top (B_given 1)) (k1 : V_kinds (B_given 1) = 0) (o1 : R_of 1 = ps (B_given 1)) (tw_g2 : tw_vok cs V_top (B_given 2)) (k2 : V_kinds (B_given 2) = 1) (o2 : R_of 2 = ps (B_given 2)) : tw_OUT ok cs ps nc R_values R_nodeOf R_rowOf D_top D_nodes R_dataEnd VB_top VB_row R_textEnd R_texts D_forms D_counts D_numbers R_forms R_tags R_counts R_textsAt V_top V_kinds V_numbers V_parts V_links R_valueKinds R_valueNumbers R_from R_length R_given R_firstGiven R_secondGiven D_depths D_weights N B_given puts R_of R_comes 13 := by
  have tr := tw_TOPS_r h hT
  obtain ⟨p0, q0, -⟩ := id g0
  obtain ⟨v0, v0', ⟨-, -, -, n0, e0, -⟩, -⟩ := h.1 _ g0
  have e0 := e0 (Or.inl k0)
  obtain ⟨p1, q1, -⟩ := id tw_g1
  obtain ⟨v1, v1', ⟨-, -, -, n1, e1, -⟩, -⟩ := h.1 _ tw_g1
  have e1 := e1 (Or.inl k1)
  obtain ⟨p2, q2, -⟩ := id tw_g2
  obtain ⟨v2, v2', ⟨z2, -, -, n2, -, -, -, b2, -⟩, -⟩ := h.1 _ tw_g2
  obtain ⟨bl2, bn2, bb2⟩ := b2 k2
  obtain ⟨bb21, bb22, bb23, bb24, bb25, bb26, bb27⟩ := id bb2
  clear b2
  have hM : ∃ f n, f = (min (max 0 (V_numbers (B_given 0))) (R_length (ps (B_given 2)))) ∧ n = (min (max 0 (V_numbers (B_given 1))) (R_length (ps (B_given 2)) - (min (max 0 (V_numbers (B_given 0))) (R_length (ps (B_given 2)))))) ∧ 0 ≤ f ∧ 0 ≤ n ∧ f + n ≤ R_length (ps (B_given 2)) := ⟨_, _, rfl, rfl, by omega, by omega, by omega⟩
  obtain ⟨f, n, ef, en, f0, nn0, fn⟩ := hM
  rw [← ef] at en
  obtain ⟨tx, x1, x2, x3⟩ := tw_slice_L (te := R_textEnd) (x1 := 13) (x2 := ps (B_given 0)) (p := V_numbers (B_given 0)) (m := V_numbers (B_given 1)) (f := f) (n := n) (vn := R_valueNumbers) (fr := R_from) (le := R_length) (of := R_of) (tx0 := R_texts) (by omega) (by omega) (by rw [o1]; omega) (by rw [o2]; omega) (by rw [o2]; omega) (by omega) (by rw [o2]; omega) e0.symm (by rw [o1]; exact e1.symm) n0 n1 (by rw [o2]; exact ef) (by rw [o2]; exact en) (by rw [o2]; exact fun k x y => by rw [← (bb27 k x y).1]; exact (bb27 k x y).2) N 0 0 R_texts (by omega) (by rw [o2]; omega) (by rw [o2]; omega) (by omega) (fun _ _ => rfl) (fun k _ _ => by omega)
  rw [o2] at x1 x3
  have hc : f_Builtins_onBytes N V_top V_kinds V_numbers V_parts V_links VB_top VB_row B_given 13 = some (V_top, V_top + 1, upZ V_kinds V_top 1, upZ V_numbers V_top 0, upZ V_parts V_top (V_parts (B_given 2) + f), upZ V_links V_top n, VB_top, VB_row) := by
    unfold f_Builtins_onBytes
    (first | refine tw_ite_t (by first | omega | (simp only [tw_gq]; omega)) ?_ | refine tw_ite_f (by first | omega | (simp only [tw_gq]; omega)) ?_); (first | refine tw_ite_t (by first | omega | (simp only [tw_gq]; omega)) ?_ | refine tw_ite_f (by first | omega | (simp only [tw_gq]; omega)) ?_); (first | refine tw_ite_t (by first | omega | (simp only [tw_gq]; omega)) ?_ | refine tw_ite_f (by first | omega | (simp only [tw_gq]; omega)) ?_); (first | refine tw_ite_t (by first | omega | (simp only [tw_gq]; omega)) ?_ | refine tw_ite_f (by first | omega | (simp only [tw_gq]; omega)) ?_); (first | refine tw_ite_t (by first | omega | (simp only [tw_gq]; omega)) ?_ | refine tw_ite_f (by first | omega | (simp only [tw_gq]; omega)) ?_); (first | refine tw_ite_t (by first | omega | (simp only [tw_gq]; omega)) ?_ | refine tw_ite_f (by first | omega | (simp only [tw_gq]; omega)) ?_)
    refine tw_bind_t (tw_vN p0 q0 (by omega)) ?_
    (first | refine tw_ite_t (by first | omega | (simp only [tw_gq]; omega)) ?_ | refine tw_ite_f (by first | omega | (simp only [tw_gq]; omega)) ?_)
    refine tw_bind_t (tw_vN p1 q1 (by omega)) ?_
    (first | refine tw_ite_t (by first | omega | (simp only [tw_gq]; omega)) ?_ | refine tw_ite_f (by first | omega | (simp only [tw_gq]; omega)) ?_)
    refine tw_ob6_t (a1 := V_top) (a2 := V_top + 1) (a3 := upZ V_kinds V_top 1) (a4 := upZ V_numbers V_top 0) (a5 := upZ V_parts V_top (V_parts (B_given 2) + f)) (a6 := upZ V_links V_top n) ?_ rfl
    unfold f_Builtins_slice
    (first | refine tw_ite_t (by first | omega | (simp only [tw_gq]; omega)) ?_ | refine tw_ite_f (by first | omega | (simp only [tw_gq]; omega)) ?_)
    refine tw_bind_t (tw_vLe p2 q2 (by omega)) ?_
    rw [bl2, ← ef]
    (first | refine tw_ite_t (by first | omega | (simp only [tw_gq]; omega)) ?_ | refine tw_ite_f (by first | omega | (simp only [tw_gq]; omega)) ?_); (first | refine tw_ite_t (by first | omega | (simp only [tw_gq]; omega)) ?_ | refine tw_ite_f (by first | omega | (simp only [tw_gq]; omega)) ?_); (first | refine tw_ite_t (by first | omega | (simp only [tw_gq]; omega)) ?_ | refine tw_ite_f (by first | omega | (simp only [tw_gq]; omega)) ?_)
    refine tw_bind_t (tw_vLe p2 q2 (by omega)) ?_
    rw [bl2, ← en]
    (first | refine tw_ite_t (by first | omega | (simp only [tw_gq]; omega)) ?_ | refine tw_ite_f (by first | omega | (simp only [tw_gq]; omega)) ?_); (first | refine tw_ite_t (by first | omega | (simp only [tw_gq]; omega)) ?_ | refine tw_ite_f (by first | omega | (simp only [tw_gq]; omega)) ?_)
    refine tw_bind_t (tw_vSt p2 q2 (by omega)) ?_
    exact tw_ob6_t (tw_vOB (by omega) (by omega)) rfl
  have hr : f_Mod_ofBytes N R_values R_textEnd 0 puts R_valueKinds R_valueNumbers R_from R_length R_given R_texts R_of 13 = some (R_values, R_values + 1, R_textEnd + n, 0, n, upZ R_valueKinds R_values 1, upZ R_valueNumbers R_values n, upZ R_from R_values R_textEnd, upZ R_length R_values n, upZ R_given R_values 0, tx) := by
    unfold f_Mod_ofBytes
    rw [o0]
    (first | refine tw_ite_t (by first | omega | (simp only [tw_gq]; omega)) ?_ | refine tw_ite_f (by first | omega | (simp only [tw_gq]; omega)) ?_); (first | refine tw_ite_t (by first | omega | (simp only [tw_gq]; omega)) ?_ | refine tw_ite_f (by first | omega | (simp only [tw_gq]; omega)) ?_); (first | refine tw_ite_t (by first | omega | (simp only [tw_gq]; omega)) ?_ | refine tw_ite_f (by first | omega | (simp only [tw_gq]; omega)) ?_); (first | refine tw_ite_t (by first | omega | (simp only [tw_gq]; omega)) ?_ | refine tw_ite_f (by first | omega | (simp only [tw_gq]; omega)) ?_); (first | refine tw_ite_t (by first | omega | (simp only [tw_gq]; omega)) ?_ | refine tw_ite_f (by first | omega | (simp only [tw_gq]; omega)) ?_); (first | refine tw_ite_t (by first | omega | (simp only [tw_gq]; omega)) ?_ | refine tw_ite_f (by first | omega | (simp only [tw_gq]; omega)) ?_)
    refine tw_ob3_t x1 ?_
    exact tw_ob8_t (tw_rMkB (by omega) (by omega) (by omega)) rfl
  have hb : tw_BB VB_top VB_row (R_textEnd + n) tx (V_parts (B_given 2) + f) R_textEnd n := by
    refine ⟨by omega, by omega, by omega, by omega, by omega, by omega, fun k k0 k1 => ?_⟩
    rw [x3 k k0 k1]
    have e := bb27 (f + k) (by omega) (by omega)
    rw [show V_parts (B_given 2) + f + k = V_parts (B_given 2) + (f + k) by omega, show R_from (ps (B_given 2)) + f + k = R_from (ps (B_given 2)) + (f + k) by omega]
    exact e
  have hm := tw_XV_grow (VB_top' := VB_top) (VB_row' := VB_row) (R_textEnd' := R_textEnd + n) (R_texts' := tx) h h.2.1 (Int.le_refl _) (by omega) tw_GR_refl (fun k hk => x2 k hk) (Int.le_refl _) (Int.le_refl _) tw_GR_refl tw_GR_refl tw_GR_refl tw_GR_refl tw_GR_refl tw_GR_refl tw_GR_refl tw_GR_refl
  unfold tw_OUT tw_opC tw_opR
  rw [if_pos (show (9 : Int) < 13 by decide), if_neg (show ¬ (15 : Int) < 13 by decide), if_pos (show (10 : Int) ≤ 13 by decide), if_neg (show ¬ (16 : Int) ≤ 13 by decide)]
  exact Or.inr ⟨_, _, _, _, _, _, _, _, _, _, _, _, _, _, _, _, _, _, _, _, _, _, _, _, _, _, _, _, _, _, _, tw_ob8_t hc rfl, tw_ob11_t hr rfl, tw_RSL_mk (sz := 1 + n / 8) hm (tw_GR_up (by omega)) (tw_GR_up (by omega)) (by omega) (by omega) (fun z => by omega) (by omega) (fun z => by rw [tw_upS, tw_upS]; exact ⟨rfl, rfl, hb⟩) (fun z => by omega) (by rw [if_pos rfl]) (by omega) (by omega) (by omega) (by omega) (by omega)⟩
