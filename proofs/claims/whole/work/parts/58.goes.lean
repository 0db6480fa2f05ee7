set_option maxRecDepth 100000 in
def tw_AnS (N : Nat) (B_given : Int → Int) (puts : Int) (R_of R_comes : Int → Int) (cs : Int → Prop) (ps : Int → Int) (nc : Int) (R_values : Int) (R_nodeOf : Int → Int) (R_rowOf : Int → Int) (D_top : Int) (D_nodes : Int → Int) (R_dataEnd : Int) (VB_top : Int) (VB_row : Int → Int) (R_textEnd : Int) (R_texts : Int → Int) (D_forms : Int → Int) (D_counts : Int → Int) (D_numbers : Int → Int) (R_forms : Int → Int) (R_tags : Int → Int) (R_counts : Int → Int) (R_textsAt : Int → Int) (V_top : Int) (V_kinds : Int → Int) (V_numbers : Int → Int) (V_parts : Int → Int) (V_links : Int → Int) (R_valueKinds : Int → Int) (R_valueNumbers : Int → Int) (R_from : Int → Int) (R_length : Int → Int) (R_given : Int → Int) (R_firstGiven : Int → Int) (R_secondGiven : Int → Int) (D_depths : Int → Int) (D_weights : Int → Int) (S_top : Int) (S_bound : Int → Int) (S_outer : Int → Int) (R_rowEnd : Int) (R_rows : Int → Int) (R_rowBegins : Int → Int) (R_rowSizes : Int → Int) (lo : Int) (hi : Int) (T_lacks : Int → Int) (T_kinds : Int → Int) (W_depth : Int) (W_most : Int) (W_nodes : Int → Int) (W_scopes : Int → Int) (W_functions : Int → Int) (R_waitKinds : Int → Int) (R_waitNodes : Int → Int) (R_waitOf : Int → Int) (E_node : Int) (E_scope : Int) (E_value : Int) (R_nowRow : Int) (R_come : Int) (M_steps : Int) (M_memory : Int) (M_mostSteps : Int) (M_mostMemory : Int) (T_nodes : Int) (T_count : Int) (T_args : Int → Int) (T_firsts : Int → Int) (TB_row : Int → Int) (R_used : Int) (R_many : Int) (R_kinds : Int → Int) (R_numbers : Int → Int) (R_firsts : Int → Int) (R_seconds : Int → Int) (R_sizes : Int → Int) (R_nodeTexts : Int → Int) (R_terms : Int → Int) : Prop :=
  ∃ (E_node' E_scope' E_value' V_top' mem' fl W_depth' S_top' R_values' R_rowEnd' now' nowRow' come' : Int) (V_kinds' V_numbers' V_parts' V_links' W_functions' S_bound' S_outer' B_given' R_valueKinds' R_valueNumbers' R_given' R_firstGiven' R_secondGiven' R_rows' R_rowBegins' R_rowSizes' R_waitKinds' R_waitNodes' R_waitOf' : Int → Int),
    f_Evaluator_goOn N T_nodes T_kinds E_node E_scope E_value V_top V_kinds V_numbers V_parts V_links M_memory M_mostMemory 0 W_depth W_nodes W_scopes W_functions S_top S_bound S_outer (-1) B_given = some (E_node', E_scope', E_value', V_top', V_kinds', V_numbers', V_parts', V_links', mem', fl, W_depth', W_functions', S_top', S_bound', S_outer', -1, B_given')
    ∧ f_Mod_answered N R_values R_textEnd R_dataEnd R_rowEnd (S_top + 1) W_depth W_most M_steps M_memory M_mostSteps M_mostMemory 0 E_node R_nowRow R_come puts R_valueKinds R_valueNumbers R_from R_length R_nodeOf R_rowOf R_given R_firstGiven R_secondGiven R_texts R_forms R_tags R_counts R_textsAt R_rows R_rowBegins R_rowSizes R_waitKinds R_waitNodes R_waitOf R_of R_comes = some (R_values', R_textEnd, R_dataEnd, R_rowEnd', S_top' + 1, W_depth', W_most, M_steps, mem', fl, now', nowRow', come', puts, R_valueKinds', R_valueNumbers', R_from, R_length, R_given', R_firstGiven', R_secondGiven', R_texts, R_forms, R_tags, R_counts, R_textsAt, R_rows', R_rowBegins', R_rowSizes', R_waitKinds', R_waitNodes', R_waitOf', R_of, R_comes)
    ∧ 0 ≤ mem' ∧ mem' ≤ M_mostMemory
    ∧ ((1 ≤ fl ∧ fl ≤ 6 ∧ E_node' = -1 ∧ 0 ≤ W_depth' ∧ W_depth' ≤ 400) ∨ (fl = 0 ∧ now' = E_node' ∧ tw_RUN cs ps nc R_values' R_nodeOf R_rowOf D_top D_nodes R_dataEnd VB_top VB_row R_textEnd R_texts D_forms D_counts D_numbers R_forms R_tags R_counts R_textsAt V_top' V_kinds' V_numbers' V_parts' V_links' R_valueKinds' R_valueNumbers' R_from R_length R_given' R_firstGiven' R_secondGiven' D_depths D_weights S_top' S_bound' S_outer' R_rowEnd' R_rows' R_rowBegins' R_rowSizes' lo hi T_lacks T_kinds W_depth' W_most W_nodes W_scopes W_functions' R_waitKinds' R_waitNodes' R_waitOf' E_node' E_scope' E_value' nowRow' come' M_steps mem' M_mostSteps M_mostMemory ∧ tw_PHI M_steps M_mostSteps W_depth' R_waitKinds' + 1 ≤ tw_PHI M_steps M_mostSteps W_depth R_waitKinds))
set_option maxRecDepth 100000 in
theorem tw_an_0 {N : Nat} {R_constants B_given R_of R_comes : Int → Int} {puts : Int} {cs : Int → Prop} {ps : Int → Int} {nc : Int} {R_values : Int} {R_nodeOf : Int → Int} {R_rowOf : Int → Int} {D_top : Int} {D_nodes : Int → Int} {R_dataEnd : Int} {VB_top : Int} {VB_row : Int → Int} {R_textEnd : Int} {R_texts : Int → Int} {D_forms : Int → Int} {D_counts : Int → Int} {D_numbers : Int → Int} {R_forms : Int → Int} {R_tags : Int → Int} {R_counts : Int → Int} {R_textsAt : Int → Int} {V_top : Int} {V_kinds : Int → Int} {V_numbers : Int → Int} {V_parts : Int → Int} {V_links : Int → Int} {R_valueKinds : Int → Int} {R_valueNumbers : Int → Int} {R_from : Int → Int} {R_length : Int → Int} {R_given : Int → Int} {R_firstGiven : Int → Int} {R_secondGiven : Int → Int} {D_depths : Int → Int} {D_weights : Int → Int} {S_top : Int} {S_bound : Int → Int} {S_outer : Int → Int} {R_rowEnd : Int} {R_rows : Int → Int} {R_rowBegins : Int → Int} {R_rowSizes : Int → Int} {lo : Int} {hi : Int} {T_lacks : Int → Int} {T_kinds : Int → Int} {W_depth : Int} {W_most : Int} {W_nodes : Int → Int} {W_scopes : Int → Int} {W_functions : Int → Int} {R_waitKinds : Int → Int} {R_waitNodes : Int → Int} {R_waitOf : Int → Int} {E_node : Int} {E_scope : Int} {E_value : Int} {R_nowRow : Int} {R_come : Int} {M_steps : Int} {M_memory : Int} {M_mostSteps : Int} {M_mostMemory : Int} {T_nodes : Int} {T_count : Int} {T_args : Int → Int} {T_firsts : Int → Int} {TB_row : Int → Int} {R_used : Int} {R_many : Int} {R_kinds : Int → Int} {R_numbers : Int → Int} {R_firsts : Int → Int} {R_seconds : Int → Int} {R_sizes : Int → Int} {R_nodeTexts : Int → Int} {R_terms : Int → Int} (hN : 300 ≤ N) (ht : tw_TOK T_nodes T_count T_kinds T_args T_firsts T_lacks TB_row R_used R_many R_kinds R_numbers R_firsts R_seconds R_sizes R_nodeTexts R_terms lo hi cs ps R_constants) (h : tw_RUN cs ps nc R_values R_nodeOf R_rowOf D_top D_nodes R_dataEnd VB_top VB_row R_textEnd R_texts D_forms D_counts D_numbers R_forms R_tags R_counts R_textsAt V_top V_kinds V_numbers V_parts V_links R_valueKinds R_valueNumbers R_from R_length R_given R_firstGiven R_secondGiven D_depths D_weights S_top S_bound S_outer R_rowEnd R_rows R_rowBegins R_rowSizes lo hi T_lacks T_kinds W_depth W_most W_nodes W_scopes W_functions R_waitKinds R_waitNodes R_waitOf E_node E_scope E_value R_nowRow R_come M_steps M_memory M_mostSteps M_mostMemory) (hn : E_node = -1) (hd : 0 < W_depth) (hk : R_waitKinds (W_depth - 1) = 0) : tw_AnS N B_given puts R_of R_comes cs ps nc R_values R_nodeOf R_rowOf D_top D_nodes R_dataEnd VB_top VB_row R_textEnd R_texts D_forms D_counts D_numbers R_forms R_tags R_counts R_textsAt V_top V_kinds V_numbers V_parts V_links R_valueKinds R_valueNumbers R_from R_length R_given R_firstGiven R_secondGiven D_depths D_weights S_top S_bound S_outer R_rowEnd R_rows R_rowBegins R_rowSizes lo hi T_lacks T_kinds W_depth W_most W_nodes W_scopes W_functions R_waitKinds R_waitNodes R_waitOf E_node E_scope E_value R_nowRow R_come M_steps M_memory M_mostSteps M_mostMemory T_nodes T_count T_args T_firsts TB_row R_used R_many R_kinds R_numbers R_firsts R_seconds R_sizes R_nodeTexts R_terms := by
  obtain ⟨hx, hT, hsc, hsm, hw, hnow, hs1, hs2, hs3, hm1, hm2, hm3⟩ := id h
  have tr := tw_TOPS_r hx hT
  obtain ⟨hI, hM, hlo, hhi, hcs⟩ := ht
  obtain ⟨t1, t2, t3, t4, t5, t6, t7, t8, t9, t10⟩ := id hI
  have hco : tw_vok cs V_top E_value ∧ R_come = ps E_value := by
    rcases hnow with ⟨⟨e1, -⟩, b, c⟩ | ⟨-, a, b⟩
    · omega
    · exact ⟨a, b⟩
  obtain ⟨hvv, hcome⟩ := hco
  obtain ⟨hv0, hv1, -⟩ := id hvv
  obtain ⟨cv0, cv1, ⟨ck, ck0, ck1, -⟩, -⟩ := hx.1 _ hvv
  have w0 := hw.1
  have w1 := hw.2.1
  have w2 := hw.2.2.1
  have we := hw.2.2.2 (W_depth - 1) (by omega) (by omega)
  obtain ⟨wn0, wn1, wc⟩ := we
  have sc1 := hsc.1
  have sc2 := hsc.2.1
  have sc4 := hsc.2.2.2.1
  have f0 := (t10 (R_used - 1) (by omega) (by omega)).2.2.2.1
  have ln : f_Waiting_lastNode W_depth W_nodes = some (W_nodes (W_depth - 1)) := by
    unfold f_Waiting_lastNode
    refine tw_bind_t (r := 1) (by unfold f_Waiting_has; (repeat (first | refine tw_ite_t (by first | omega | (simp only [tw_gq]; omega)) ?_ | refine tw_ite_f (by first | omega | (simp only [tw_gq]; omega)) ?_)); rfl) ?_
    (repeat (first | refine tw_ite_t (by first | omega | (simp only [tw_gq]; omega)) ?_ | refine tw_ite_f (by first | omega | (simp only [tw_gq]; omega)) ?_))
    rfl
  have lf : f_Waiting_lastFunction W_depth W_functions = some (W_functions (W_depth - 1)) := by
    unfold f_Waiting_lastFunction
    refine tw_bind_t (r := 1) (by unfold f_Waiting_has; (repeat (first | refine tw_ite_t (by first | omega | (simp only [tw_gq]; omega)) ?_ | refine tw_ite_f (by first | omega | (simp only [tw_gq]; omega)) ?_)); rfl) ?_
    (repeat (first | refine tw_ite_t (by first | omega | (simp only [tw_gq]; omega)) ?_ | refine tw_ite_f (by first | omega | (simp only [tw_gq]; omega)) ?_))
    rfl
  have wph : tw_PHI M_steps M_mostSteps (W_depth - 1) R_waitKinds + (if R_waitKinds (W_depth - 1) = 0 then 2 else 1) = tw_PHI M_steps M_mostSteps W_depth R_waitKinds := by
    unfold tw_PHI
    have e : W_depth.toNat = (W_depth - 1).toNat + 1 := by omega
    rw [e]
    show _ = 4 * (M_mostSteps - M_steps) + (tw_wsum R_waitKinds (W_depth - 1).toNat + (if R_waitKinds ((W_depth - 1).toNat : Int) = 0 then 2 else 1))
    rw [show (((W_depth - 1).toNat : Nat) : Int) = W_depth - 1 by omega]
    omega
  have wc' : W_functions (W_depth - 1) = -1 ∧ T_kinds (W_nodes (W_depth - 1)) = 2 ∧ R_waitNodes (W_depth - 1) = W_nodes (W_depth - 1) - 1 ∧ R_waitOf (W_depth - 1) = W_scopes (W_depth - 1) + 1 ∧ tw_EV lo hi T_lacks S_top R_rowSizes (W_nodes (W_depth - 1) - 1) (W_scopes (W_depth - 1)) := by
    rcases wc with ⟨-, c⟩ | ⟨c, -⟩ | ⟨c, -⟩
    · exact c
    · omega
    · omega
  obtain ⟨c1, c2, c3, c4, c5⟩ := wc'
  clear wc
  have c6 := c5.1
  rw [if_pos hk] at wph
  have rp : f_Mod_wait (W_depth - 1) W_most R_waitKinds R_waitNodes R_waitOf 1 (-1) R_come = some (W_depth, W_most, upZ R_waitKinds (W_depth - 1) 1, upZ R_waitNodes (W_depth - 1) (-1), upZ R_waitOf (W_depth - 1) R_come) := by
    unfold f_Mod_wait
    (repeat (first | refine tw_ite_t (by first | omega | (simp only [tw_gq]; omega)) ?_ | refine tw_ite_f (by first | omega | (simp only [tw_gq]; omega)) ?_))
    rw [show W_depth - 1 + 1 = W_depth by omega]
  refine ⟨W_nodes (W_depth - 1) - 1, W_scopes (W_depth - 1), E_value, V_top, M_memory, 0, W_depth, S_top, R_values, R_rowEnd, W_nodes (W_depth - 1) - 1, W_scopes (W_depth - 1) + 1, R_come, V_kinds, V_numbers, V_parts, V_links, upZ W_functions (W_depth - 1) E_value, S_bound, S_outer, B_given, R_valueKinds, R_valueNumbers, R_given, R_firstGiven, R_secondGiven, R_rows, R_rowBegins, R_rowSizes, upZ R_waitKinds (W_depth - 1) 1, upZ R_waitNodes (W_depth - 1) (-1), upZ R_waitOf (W_depth - 1) R_come, ?_, ?_, by omega, by omega, Or.inr ?_⟩
  · unfold f_Evaluator_goOn
    refine tw_bind_t ln ?_
    refine tw_bind_t lf ?_
    refine tw_bind_t (tw_tKind (by omega) (by omega) (by omega)) ?_
    rw [c1, c2]
    (repeat (first | refine tw_ite_t (by first | omega | (simp only [tw_gq]; omega)) ?_ | refine tw_ite_f (by first | omega | (simp only [tw_gq]; omega)) ?_))
    refine tw_bind_t (r := upZ W_functions (W_depth - 1) E_value) (by unfold f_Waiting_setLastFunction; refine tw_bind_t (r := 1) (by unfold f_Waiting_has; (repeat (first | refine tw_ite_t (by first | omega | (simp only [tw_gq]; omega)) ?_ | refine tw_ite_f (by first | omega | (simp only [tw_gq]; omega)) ?_)); rfl) ?_; (repeat (first | refine tw_ite_t (by first | omega | (simp only [tw_gq]; omega)) ?_ | refine tw_ite_f (by first | omega | (simp only [tw_gq]; omega)) ?_)); rfl) ?_
    refine tw_bind_t (r := W_nodes (W_depth - 1) - 1) rfl ?_
    refine tw_bind_t (r := W_scopes (W_depth - 1)) (by unfold f_Waiting_lastScope; refine tw_bind_t (r := 1) (by unfold f_Waiting_has; (repeat (first | refine tw_ite_t (by first | omega | (simp only [tw_gq]; omega)) ?_ | refine tw_ite_f (by first | omega | (simp only [tw_gq]; omega)) ?_)); rfl) ?_; (repeat (first | refine tw_ite_t (by first | omega | (simp only [tw_gq]; omega)) ?_ | refine tw_ite_f (by first | omega | (simp only [tw_gq]; omega)) ?_)); rfl) ?_
    rfl
  · unfold f_Mod_answered
    (repeat (first | refine tw_ite_t (by first | omega | (simp only [tw_gq]; omega)) ?_ | refine tw_ite_f (by first | omega | (simp only [tw_gq]; omega)) ?_))
    refine tw_ob5_t rp ?_
    rw [c3, c4]
  · refine ⟨rfl, rfl, ⟨hx, hT, hsc, hsm, ⟨w0, w1, w2, fun i i0 i1 => ?_⟩, Or.inl ⟨c5, by omega, rfl⟩, hs1, hs2, hs3, hm1, hm2, hm3⟩, ?_⟩
    · by_cases ei : i = W_depth - 1
      · subst ei
        refine ⟨wn0, wn1, Or.inr (Or.inl ?_)⟩
        rw [tw_upS, tw_upS, tw_upS]
        exact ⟨rfl, hvv, c2, hcome⟩
      · have old := hw.2.2.2 i i0 i1
        unfold tw_WE at old ⊢
        rw [tw_upN _ ei, tw_upN _ ei, tw_upN _ ei, tw_upN _ ei]
        exact old
    · rw [← wph]
      unfold tw_PHI
      have e : W_depth.toNat = (W_depth - 1).toNat + 1 := by omega
      rw [e]
      show 4 * (M_mostSteps - M_steps) + (tw_wsum (upZ R_waitKinds (W_depth - 1) 1) (W_depth - 1).toNat + (if upZ R_waitKinds (W_depth - 1) 1 ((W_depth - 1).toNat : Int) = 0 then 2 else 1)) + 1 ≤ _
      rw [show (((W_depth - 1).toNat : Nat) : Int) = W_depth - 1 by omega, tw_upS, if_neg (by decide), tw_wsum_up _ (by omega)]
      omega
set_option maxRecDepth 100000 in
theorem tw_an_2 {N : Nat} {R_constants B_given R_of R_comes : Int → Int} {puts : Int} {cs : Int → Prop} {ps : Int → Int} {nc : Int} {R_values : Int} {R_nodeOf : Int → Int} {R_rowOf : Int → Int} {D_top : Int} {D_nodes : Int → Int} {R_dataEnd : Int} {VB_top : Int} {VB_row : Int → Int} {R_textEnd : Int} {R_texts : Int → Int} {D_forms : Int → Int} {D_counts : Int → Int} {D_numbers : Int → Int} {R_forms : Int → Int} {R_tags : Int → Int} {R_counts : Int → Int} {R_textsAt : Int → Int} {V_top : Int} {V_kinds : Int → Int} {V_numbers : Int → Int} {V_parts : Int → Int} {V_links : Int → Int} {R_valueKinds : Int → Int} {R_valueNumbers : Int → Int} {R_from : Int → Int} {R_length : Int → Int} {R_given : Int → Int} {R_firstGiven : Int → Int} {R_secondGiven : Int → Int} {D_depths : Int → Int} {D_weights : Int → Int} {S_top : Int} {S_bound : Int → Int} {S_outer : Int → Int} {R_rowEnd : Int} {R_rows : Int → Int} {R_rowBegins : Int → Int} {R_rowSizes : Int → Int} {lo : Int} {hi : Int} {T_lacks : Int → Int} {T_kinds : Int → Int} {W_depth : Int} {W_most : Int} {W_nodes : Int → Int} {W_scopes : Int → Int} {W_functions : Int → Int} {R_waitKinds : Int → Int} {R_waitNodes : Int → Int} {R_waitOf : Int → Int} {E_node : Int} {E_scope : Int} {E_value : Int} {R_nowRow : Int} {R_come : Int} {M_steps : Int} {M_memory : Int} {M_mostSteps : Int} {M_mostMemory : Int} {T_nodes : Int} {T_count : Int} {T_args : Int → Int} {T_firsts : Int → Int} {TB_row : Int → Int} {R_used : Int} {R_many : Int} {R_kinds : Int → Int} {R_numbers : Int → Int} {R_firsts : Int → Int} {R_seconds : Int → Int} {R_sizes : Int → Int} {R_nodeTexts : Int → Int} {R_terms : Int → Int} (hN : 300 ≤ N) (ht : tw_TOK T_nodes T_count T_kinds T_args T_firsts T_lacks TB_row R_used R_many R_kinds R_numbers R_firsts R_seconds R_sizes R_nodeTexts R_terms lo hi cs ps R_constants) (h : tw_RUN cs ps nc R_values R_nodeOf R_rowOf D_top D_nodes R_dataEnd VB_top VB_row R_textEnd R_texts D_forms D_counts D_numbers R_forms R_tags R_counts R_textsAt V_top V_kinds V_numbers V_parts V_links R_valueKinds R_valueNumbers R_from R_length R_given R_firstGiven R_secondGiven D_depths D_weights S_top S_bound S_outer R_rowEnd R_rows R_rowBegins R_rowSizes lo hi T_lacks T_kinds W_depth W_most W_nodes W_scopes W_functions R_waitKinds R_waitNodes R_waitOf E_node E_scope E_value R_nowRow R_come M_steps M_memory M_mostSteps M_mostMemory) (hn : E_node = -1) (hd : 0 < W_depth) (hk : R_waitKinds (W_depth - 1) = 2) : tw_AnS N B_given puts R_of R_comes cs ps nc R_values R_nodeOf R_rowOf D_top D_nodes R_dataEnd VB_top VB_row R_textEnd R_texts D_forms D_counts D_numbers R_forms R_tags R_counts R_textsAt V_top V_kinds V_numbers V_parts V_links R_valueKinds R_valueNumbers R_from R_length R_given R_firstGiven R_secondGiven D_depths D_weights S_top S_bound S_outer R_rowEnd R_rows R_rowBegins R_rowSizes lo hi T_lacks T_kinds W_depth W_most W_nodes W_scopes W_functions R_waitKinds R_waitNodes R_waitOf E_node E_scope E_value R_nowRow R_come M_steps M_memory M_mostSteps M_mostMemory T_nodes T_count T_args T_firsts TB_row R_used R_many R_kinds R_numbers R_firsts R_seconds R_sizes R_nodeTexts R_terms := by
  obtain ⟨hx, hT, hsc, hsm, hw, hnow, hs1, hs2, hs3, hm1, hm2, hm3⟩ := id h
  have tr := tw_TOPS_r hx hT
  obtain ⟨hI, hM, hlo, hhi, hcs⟩ := ht
  obtain ⟨t1, t2, t3, t4, t5, t6, t7, t8, t9, t10⟩ := id hI
  have hco : tw_vok cs V_top E_value ∧ R_come = ps E_value := by
    rcases hnow with ⟨⟨e1, -⟩, b, c⟩ | ⟨-, a, b⟩
    · omega
    · exact ⟨a, b⟩
  obtain ⟨hvv, hcome⟩ := hco
  obtain ⟨hv0, hv1, -⟩ := id hvv
  obtain ⟨cv0, cv1, ⟨ck, ck0, ck1, -⟩, -⟩ := hx.1 _ hvv
  have w0 := hw.1
  have w1 := hw.2.1
  have w2 := hw.2.2.1
  have we := hw.2.2.2 (W_depth - 1) (by omega) (by omega)
  obtain ⟨wn0, wn1, wc⟩ := we
  have sc1 := hsc.1
  have sc2 := hsc.2.1
  have sc4 := hsc.2.2.2.1
  have f0 := (t10 (R_used - 1) (by omega) (by omega)).2.2.2.1
  have ln : f_Waiting_lastNode W_depth W_nodes = some (W_nodes (W_depth - 1)) := by
    unfold f_Waiting_lastNode
    refine tw_bind_t (r := 1) (by unfold f_Waiting_has; (repeat (first | refine tw_ite_t (by first | omega | (simp only [tw_gq]; omega)) ?_ | refine tw_ite_f (by first | omega | (simp only [tw_gq]; omega)) ?_)); rfl) ?_
    (repeat (first | refine tw_ite_t (by first | omega | (simp only [tw_gq]; omega)) ?_ | refine tw_ite_f (by first | omega | (simp only [tw_gq]; omega)) ?_))
    rfl
  have lf : f_Waiting_lastFunction W_depth W_functions = some (W_functions (W_depth - 1)) := by
    unfold f_Waiting_lastFunction
    refine tw_bind_t (r := 1) (by unfold f_Waiting_has; (repeat (first | refine tw_ite_t (by first | omega | (simp only [tw_gq]; omega)) ?_ | refine tw_ite_f (by first | omega | (simp only [tw_gq]; omega)) ?_)); rfl) ?_
    (repeat (first | refine tw_ite_t (by first | omega | (simp only [tw_gq]; omega)) ?_ | refine tw_ite_f (by first | omega | (simp only [tw_gq]; omega)) ?_))
    rfl
  have wph : tw_PHI M_steps M_mostSteps (W_depth - 1) R_waitKinds + (if R_waitKinds (W_depth - 1) = 0 then 2 else 1) = tw_PHI M_steps M_mostSteps W_depth R_waitKinds := by
    unfold tw_PHI
    have e : W_depth.toNat = (W_depth - 1).toNat + 1 := by omega
    rw [e]
    show _ = 4 * (M_mostSteps - M_steps) + (tw_wsum R_waitKinds (W_depth - 1).toNat + (if R_waitKinds ((W_depth - 1).toNat : Int) = 0 then 2 else 1))
    rw [show (((W_depth - 1).toNat : Nat) : Int) = W_depth - 1 by omega]
    omega
  have c2 : T_kinds (W_nodes (W_depth - 1)) = 4 := by
    rcases wc with ⟨c, -⟩ | ⟨c, -⟩ | ⟨-, c, -⟩
    · omega
    · omega
    · exact c
  have c1 : W_functions (W_depth - 1) = -1 := by
    rcases wc with ⟨c, -⟩ | ⟨c, -⟩ | ⟨-, -, c⟩
    · omega
    · omega
    · exact c
  clear wc
  rw [if_neg (by omega)] at wph
  have pp : f_Waiting_pop W_depth = some (W_depth - 1) := by
    unfold f_Waiting_pop
    (repeat (first | refine tw_ite_t (by first | omega | (simp only [tw_gq]; omega)) ?_ | refine tw_ite_f (by first | omega | (simp only [tw_gq]; omega)) ?_))
    rw [show max 0 (W_depth - 1) = W_depth - 1 by omega]
  by_cases k6 : V_kinds E_value = 6
  · obtain ⟨-, -, -, hcl, -⟩ := hx.1 _ hvv
    obtain ⟨d1, d2, d3⟩ := hcl (by omega)
    obtain ⟨o1, o2, o3, o4, -, o6⟩ := d3
    have o7 := o6 k6
    clear hcl o6
    refine ⟨V_parts E_value, V_links E_value, E_value, V_top, M_memory, 0, W_depth - 1, S_top, R_values, R_rowEnd, V_parts E_value, V_links E_value + 1, ps E_value, V_kinds, V_numbers, V_parts, V_links, W_functions, S_bound, S_outer, B_given, R_valueKinds, R_valueNumbers, R_given, R_firstGiven, R_secondGiven, R_rows, R_rowBegins, R_rowSizes, R_waitKinds, R_waitNodes, R_waitOf, ?_, ?_, by omega, by omega, Or.inr ?_⟩
    · unfold f_Evaluator_goOn
      refine tw_bind_t ln ?_
      refine tw_bind_t lf ?_
      refine tw_bind_t (tw_tKind (by omega) (by omega) (by omega)) ?_
      rw [c1, c2]
      (repeat (first | refine tw_ite_t (by first | omega | (simp only [tw_gq]; omega)) ?_ | refine tw_ite_f (by first | omega | (simp only [tw_gq]; omega)) ?_))
      refine tw_bind_t pp ?_
      refine tw_ob3_t (a1 := V_parts E_value) (a2 := V_links E_value) (a3 := 0) ?_ rfl
      unfold f_Evaluator_force
      refine tw_bind_t (tw_vK hv0 hv1 (by omega)) ?_
      (repeat (first | refine tw_ite_t (by first | omega | (simp only [tw_gq]; omega)) ?_ | refine tw_ite_f (by first | omega | (simp only [tw_gq]; omega)) ?_))
      refine tw_bind_t (tw_vBo hv0 hv1 (by omega)) ?_
      refine tw_bind_t (tw_vSc hv0 hv1 (by omega)) ?_
      rfl
    · unfold f_Mod_answered
      rw [hcome, ← ck]
      (repeat (first | refine tw_ite_t (by first | omega | (simp only [tw_gq]; omega)) ?_ | refine tw_ite_f (by first | omega | (simp only [tw_gq]; omega)) ?_))
      rw [d1, d2]
    · exact ⟨rfl, rfl, ⟨hx, hT, hsc, hsm, ⟨by omega, by omega, w2, fun i i0 i1 => hw.2.2.2 i i0 (by omega)⟩, Or.inl ⟨⟨o1, o2, o3, o4, o7.1, o7.2⟩, by omega, rfl⟩, hs1, hs2, hs3, hm1, hm2, hm3⟩, by omega⟩
  · refine ⟨E_node, E_scope, E_value, V_top, M_memory, 2, W_depth - 1, S_top, R_values, R_rowEnd, E_node, R_nowRow, ps E_value, V_kinds, V_numbers, V_parts, V_links, W_functions, S_bound, S_outer, B_given, R_valueKinds, R_valueNumbers, R_given, R_firstGiven, R_secondGiven, R_rows, R_rowBegins, R_rowSizes, R_waitKinds, R_waitNodes, R_waitOf, ?_, ?_, by omega, by omega, Or.inl (by omega)⟩
    · unfold f_Evaluator_goOn
      refine tw_bind_t ln ?_
      refine tw_bind_t lf ?_
      refine tw_bind_t (tw_tKind (by omega) (by omega) (by omega)) ?_
      rw [c1, c2]
      (repeat (first | refine tw_ite_t (by first | omega | (simp only [tw_gq]; omega)) ?_ | refine tw_ite_f (by first | omega | (simp only [tw_gq]; omega)) ?_))
      refine tw_bind_t pp ?_
      refine tw_ob3_t (a1 := E_node) (a2 := E_scope) (a3 := 2) ?_ rfl
      unfold f_Evaluator_force
      refine tw_bind_t (tw_vK hv0 hv1 (by omega)) ?_
      (repeat (first | refine tw_ite_t (by first | omega | (simp only [tw_gq]; omega)) ?_ | refine tw_ite_f (by first | omega | (simp only [tw_gq]; omega)) ?_))
      rfl
    · unfold f_Mod_answered
      rw [hcome, ← ck]
      (repeat (first | refine tw_ite_t (by first | omega | (simp only [tw_gq]; omega)) ?_ | refine tw_ite_f (by first | omega | (simp only [tw_gq]; omega)) ?_))
      exact tw_ob2_t (tw_fail_ok rfl) rfl
set_option maxRecDepth 100000 in
theorem tw_row_L {e x1 x2 r : Int} {bg sz R0 : Int → Int} (r0 : 0 ≤ r ∧ r < 3200) (s0 : 0 ≤ sz r ∧ sz r ≤ 200) (b0 : 0 ≤ bg r) (b1 : bg r + sz r ≤ e) (e1 : e ≤ 600000) : ∀ (N : Nat) (i : Int) (R : Int → Int), 0 ≤ i → i ≤ sz r → (sz r - i).toNat < N → (∀ m, m < e → R m = R0 m) → (∀ k, 0 ≤ k → k < i → R (e + k) = R0 (bg r + k)) →
    ∃ R', f_Mod_callFunction_L49 e bg sz x1 x2 r N i R = some (sz r, R') ∧ (∀ m, m < e → R' m = R0 m) ∧ (∀ k, 0 ≤ k → k < sz r → R' (e + k) = R0 (bg r + k)) := by
  intro N
  induction N with
  | zero => intro i R i0 i1 hN; omega
  | succ N ih =>
    intro i R i0 i1 hN h1 h2
    unfold f_Mod_callFunction_L49
    by_cases c : i = sz r
    · subst c
      refine ⟨R, ?_, h1, h2⟩
      (repeat (first | refine tw_ite_t (by first | omega | (simp only [tw_gq]; omega)) ?_ | refine tw_ite_f (by first | omega | (simp only [tw_gq]; omega)) ?_))
      rfl
    · obtain ⟨R', x1', x2', x3'⟩ := ih (i + 1) (upZ R (e + i) (R (bg r + i))) (by omega) (by omega) (by omega) (fun m hm => by rw [tw_upN _ (by omega)]; exact h1 m hm) (fun k k0 k1 => by
        by_cases ek : k = i
        · rw [ek, tw_upS]; exact h1 _ (by omega)
        · rw [tw_upN _ (by omega)]; exact h2 k k0 (by omega))
      refine ⟨R', ?_, x2', x3'⟩
      (repeat (first | refine tw_ite_t (by first | omega | (simp only [tw_gq]; omega)) ?_ | refine tw_ite_f (by first | omega | (simp only [tw_gq]; omega)) ?_))
      exact x1'
set_option maxRecDepth 100000 in
theorem tw_an_1x {N : Nat} {R_constants B_given R_of R_comes : Int → Int} {puts : Int} {cs : Int → Prop} {ps : Int → Int} {nc : Int} {R_values : Int} {R_nodeOf : Int → Int} {R_rowOf : Int → Int} {D_top : Int} {D_nodes : Int → Int} {R_dataEnd : Int} {VB_top : Int} {VB_row : Int → Int} {R_textEnd : Int} {R_texts : Int → Int} {D_forms : Int → Int} {D_counts : Int → Int} {D_numbers : Int → Int} {R_forms : Int → Int} {R_tags : Int → Int} {R_counts : Int → Int} {R_textsAt : Int → Int} {V_top : Int} {V_kinds : Int → Int} {V_numbers : Int → Int} {V_parts : Int → Int} {V_links : Int → Int} {R_valueKinds : Int → Int} {R_valueNumbers : Int → Int} {R_from : Int → Int} {R_length : Int → Int} {R_given : Int → Int} {R_firstGiven : Int → Int} {R_secondGiven : Int → Int} {D_depths : Int → Int} {D_weights : Int → Int} {S_top : Int} {S_bound : Int → Int} {S_outer : Int → Int} {R_rowEnd : Int} {R_rows : Int → Int} {R_rowBegins : Int → Int} {R_rowSizes : Int → Int} {lo : Int} {hi : Int} {T_lacks : Int → Int} {T_kinds : Int → Int} {W_depth : Int} {W_most : Int} {W_nodes : Int → Int} {W_scopes : Int → Int} {W_functions : Int → Int} {R_waitKinds : Int → Int} {R_waitNodes : Int → Int} {R_waitOf : Int → Int} {E_node : Int} {E_scope : Int} {E_value : Int} {R_nowRow : Int} {R_come : Int} {M_steps : Int} {M_memory : Int} {M_mostSteps : Int} {M_mostMemory : Int} {T_nodes : Int} {T_count : Int} {T_args : Int → Int} {T_firsts : Int → Int} {TB_row : Int → Int} {R_used : Int} {R_many : Int} {R_kinds : Int → Int} {R_numbers : Int → Int} {R_firsts : Int → Int} {R_seconds : Int → Int} {R_sizes : Int → Int} {R_nodeTexts : Int → Int} {R_terms : Int → Int} (hN : 300 ≤ N) (ht : tw_TOK T_nodes T_count T_kinds T_args T_firsts T_lacks TB_row R_used R_many R_kinds R_numbers R_firsts R_seconds R_sizes R_nodeTexts R_terms lo hi cs ps R_constants) (h : tw_RUN cs ps nc R_values R_nodeOf R_rowOf D_top D_nodes R_dataEnd VB_top VB_row R_textEnd R_texts D_forms D_counts D_numbers R_forms R_tags R_counts R_textsAt V_top V_kinds V_numbers V_parts V_links R_valueKinds R_valueNumbers R_from R_length R_given R_firstGiven R_secondGiven D_depths D_weights S_top S_bound S_outer R_rowEnd R_rows R_rowBegins R_rowSizes lo hi T_lacks T_kinds W_depth W_most W_nodes W_scopes W_functions R_waitKinds R_waitNodes R_waitOf E_node E_scope E_value R_nowRow R_come M_steps M_memory M_mostSteps M_mostMemory) (hn : E_node = -1) (hd : 0 < W_depth) (hk : R_waitKinds (W_depth - 1) = 1) (k5 : ¬ V_kinds (W_functions (W_depth - 1)) = 5) (k7 : ¬ V_kinds (W_functions (W_depth - 1)) = 7) : tw_AnS N B_given puts R_of R_comes cs ps nc R_values R_nodeOf R_rowOf D_top D_nodes R_dataEnd VB_top VB_row R_textEnd R_texts D_forms D_counts D_numbers R_forms R_tags R_counts R_textsAt V_top V_kinds V_numbers V_parts V_links R_valueKinds R_valueNumbers R_from R_length R_given R_firstGiven R_secondGiven D_depths D_weights S_top S_bound S_outer R_rowEnd R_rows R_rowBegins R_rowSizes lo hi T_lacks T_kinds W_depth W_most W_nodes W_scopes W_functions R_waitKinds R_waitNodes R_waitOf E_node E_scope E_value R_nowRow R_come M_steps M_memory M_mostSteps M_mostMemory T_nodes T_count T_args T_firsts TB_row R_used R_many R_kinds R_numbers R_firsts R_seconds R_sizes R_nodeTexts R_terms := by
  obtain ⟨hx, hT, hsc, hsm, hw, hnow, hs1, hs2, hs3, hm1, hm2, hm3⟩ := id h
  have tr := tw_TOPS_r hx hT
  obtain ⟨hI, hM, hlo, hhi, hcs⟩ := ht
  obtain ⟨t1, t2, t3, t4, t5, t6, t7, t8, t9, t10⟩ := id hI
  have hco : tw_vok cs V_top E_value ∧ R_come = ps E_value := by
    rcases hnow with ⟨⟨e1, -⟩, b, c⟩ | ⟨-, a, b⟩
    · omega
    · exact ⟨a, b⟩
  obtain ⟨hvv, hcome⟩ := hco
  obtain ⟨hv0, hv1, -⟩ := id hvv
  obtain ⟨cv0, cv1, ⟨ck, ck0, ck1, -⟩, -⟩ := hx.1 _ hvv
  have w0 := hw.1
  have w1 := hw.2.1
  have w2 := hw.2.2.1
  have we := hw.2.2.2 (W_depth - 1) (by omega) (by omega)
  obtain ⟨wn0, wn1, wc⟩ := we
  have sc1 := hsc.1
  have sc2 := hsc.2.1
  have sc4 := hsc.2.2.2.1
  have f0 := (t10 (R_used - 1) (by omega) (by omega)).2.2.2.1
  have ln : f_Waiting_lastNode W_depth W_nodes = some (W_nodes (W_depth - 1)) := by
    unfold f_Waiting_lastNode
    refine tw_bind_t (r := 1) (by unfold f_Waiting_has; (repeat (first | refine tw_ite_t (by first | omega | (simp only [tw_gq]; omega)) ?_ | refine tw_ite_f (by first | omega | (simp only [tw_gq]; omega)) ?_)); rfl) ?_
    (repeat (first | refine tw_ite_t (by first | omega | (simp only [tw_gq]; omega)) ?_ | refine tw_ite_f (by first | omega | (simp only [tw_gq]; omega)) ?_))
    rfl
  have lf : f_Waiting_lastFunction W_depth W_functions = some (W_functions (W_depth - 1)) := by
    unfold f_Waiting_lastFunction
    refine tw_bind_t (r := 1) (by unfold f_Waiting_has; (repeat (first | refine tw_ite_t (by first | omega | (simp only [tw_gq]; omega)) ?_ | refine tw_ite_f (by first | omega | (simp only [tw_gq]; omega)) ?_)); rfl) ?_
    (repeat (first | refine tw_ite_t (by first | omega | (simp only [tw_gq]; omega)) ?_ | refine tw_ite_f (by first | omega | (simp only [tw_gq]; omega)) ?_))
    rfl
  have wph : tw_PHI M_steps M_mostSteps (W_depth - 1) R_waitKinds + (if R_waitKinds (W_depth - 1) = 0 then 2 else 1) = tw_PHI M_steps M_mostSteps W_depth R_waitKinds := by
    unfold tw_PHI
    have e : W_depth.toNat = (W_depth - 1).toNat + 1 := by omega
    rw [e]
    show _ = 4 * (M_mostSteps - M_steps) + (tw_wsum R_waitKinds (W_depth - 1).toNat + (if R_waitKinds ((W_depth - 1).toNat : Int) = 0 then 2 else 1))
    rw [show (((W_depth - 1).toNat : Nat) : Int) = W_depth - 1 by omega]
    omega
  have wc' : tw_vok cs V_top (W_functions (W_depth - 1)) ∧ T_kinds (W_nodes (W_depth - 1)) = 2 ∧ R_waitOf (W_depth - 1) = ps (W_functions (W_depth - 1)) := by
    rcases wc with ⟨c, -⟩ | ⟨-, c⟩ | ⟨c, -⟩
    · omega
    · exact c
    · omega
  obtain ⟨c1, c2, c3⟩ := wc'
  clear wc
  obtain ⟨fv0, fv1, -⟩ := id c1
  obtain ⟨fr0, fr1, ⟨fk, fk0, fk1, -⟩, -⟩ := hx.1 _ c1
  rw [if_neg (by omega)] at wph
  have pp : f_Waiting_pop W_depth = some (W_depth - 1) := by
    unfold f_Waiting_pop
    (repeat (first | refine tw_ite_t (by first | omega | (simp only [tw_gq]; omega)) ?_ | refine tw_ite_f (by first | omega | (simp only [tw_gq]; omega)) ?_))
    rw [show max 0 (W_depth - 1) = W_depth - 1 by omega]
  refine ⟨E_node, E_scope, E_value, V_top, M_memory, 2, W_depth - 1, S_top, R_values, R_rowEnd, E_node, R_nowRow, R_come, V_kinds, V_numbers, V_parts, V_links, W_functions, S_bound, S_outer, B_given, R_valueKinds, R_valueNumbers, R_given, R_firstGiven, R_secondGiven, R_rows, R_rowBegins, R_rowSizes, R_waitKinds, R_waitNodes, R_waitOf, ?_, ?_, by omega, by omega, Or.inl (by omega)⟩
  · unfold f_Evaluator_goOn
    refine tw_bind_t ln ?_
    refine tw_bind_t lf ?_
    refine tw_bind_t (tw_tKind (by omega) (by omega) (by omega)) ?_
    rw [c2]
    (repeat (first | refine tw_ite_t (by first | omega | (simp only [tw_gq]; omega)) ?_ | refine tw_ite_f (by first | omega | (simp only [tw_gq]; omega)) ?_))
    refine tw_bind_t pp ?_
    refine tw_ob15_t (a1 := E_node) (a2 := E_scope) (a3 := E_value) (a4 := V_top) (a5 := V_kinds) (a6 := V_numbers) (a7 := V_parts) (a8 := V_links) (a9 := M_memory) (a10 := 2) (a11 := S_top) (a12 := S_bound) (a13 := S_outer) (a14 := -1) (a15 := B_given) ?_ rfl
    unfold f_Evaluator_call
    refine tw_bind_t (tw_vK fv0 fv1 (by omega)) ?_
    (repeat (first | refine tw_ite_t (by first | omega | (simp only [tw_gq]; omega)) ?_ | refine tw_ite_f (by first | omega | (simp only [tw_gq]; omega)) ?_))
    rfl
  · unfold f_Mod_answered
    rw [c3, ← fk]
    (repeat (first | refine tw_ite_t (by first | omega | (simp only [tw_gq]; omega)) ?_ | refine tw_ite_f (by first | omega | (simp only [tw_gq]; omega)) ?_))
    exact tw_ob2_t (tw_fail_ok rfl) rfl
set_option maxRecDepth 100000 in
theorem tw_an_1f {N : Nat} {R_constants B_given R_of R_comes : Int → Int} {puts : Int} {cs : Int → Prop} {ps : Int → Int} {nc : Int} {R_values : Int} {R_nodeOf : Int → Int} {R_rowOf : Int → Int} {D_top : Int} {D_nodes : Int → Int} {R_dataEnd : Int} {VB_top : Int} {VB_row : Int → Int} {R_textEnd : Int} {R_texts : Int → Int} {D_forms : Int → Int} {D_counts : Int → Int} {D_numbers : Int → Int} {R_forms : Int → Int} {R_tags : Int → Int} {R_counts : Int → Int} {R_textsAt : Int → Int} {V_top : Int} {V_kinds : Int → Int} {V_numbers : Int → Int} {V_parts : Int → Int} {V_links : Int → Int} {R_valueKinds : Int → Int} {R_valueNumbers : Int → Int} {R_from : Int → Int} {R_length : Int → Int} {R_given : Int → Int} {R_firstGiven : Int → Int} {R_secondGiven : Int → Int} {D_depths : Int → Int} {D_weights : Int → Int} {S_top : Int} {S_bound : Int → Int} {S_outer : Int → Int} {R_rowEnd : Int} {R_rows : Int → Int} {R_rowBegins : Int → Int} {R_rowSizes : Int → Int} {lo : Int} {hi : Int} {T_lacks : Int → Int} {T_kinds : Int → Int} {W_depth : Int} {W_most : Int} {W_nodes : Int → Int} {W_scopes : Int → Int} {W_functions : Int → Int} {R_waitKinds : Int → Int} {R_waitNodes : Int → Int} {R_waitOf : Int → Int} {E_node : Int} {E_scope : Int} {E_value : Int} {R_nowRow : Int} {R_come : Int} {M_steps : Int} {M_memory : Int} {M_mostSteps : Int} {M_mostMemory : Int} {T_nodes : Int} {T_count : Int} {T_args : Int → Int} {T_firsts : Int → Int} {TB_row : Int → Int} {R_used : Int} {R_many : Int} {R_kinds : Int → Int} {R_numbers : Int → Int} {R_firsts : Int → Int} {R_seconds : Int → Int} {R_sizes : Int → Int} {R_nodeTexts : Int → Int} {R_terms : Int → Int} (hN : 300 ≤ N) (ht : tw_TOK T_nodes T_count T_kinds T_args T_firsts T_lacks TB_row R_used R_many R_kinds R_numbers R_firsts R_seconds R_sizes R_nodeTexts R_terms lo hi cs ps R_constants) (h : tw_RUN cs ps nc R_values R_nodeOf R_rowOf D_top D_nodes R_dataEnd VB_top VB_row R_textEnd R_texts D_forms D_counts D_numbers R_forms R_tags R_counts R_textsAt V_top V_kinds V_numbers V_parts V_links R_valueKinds R_valueNumbers R_from R_length R_given R_firstGiven R_secondGiven D_depths D_weights S_top S_bound S_outer R_rowEnd R_rows R_rowBegins R_rowSizes lo hi T_lacks T_kinds W_depth W_most W_nodes W_scopes W_functions R_waitKinds R_waitNodes R_waitOf E_node E_scope E_value R_nowRow R_come M_steps M_memory M_mostSteps M_mostMemory) (hn : E_node = -1) (hd : 0 < W_depth) (hk : R_waitKinds (W_depth - 1) = 1) (k5 : V_kinds (W_functions (W_depth - 1)) = 5) : tw_AnS N B_given puts R_of R_comes cs ps nc R_values R_nodeOf R_rowOf D_top D_nodes R_dataEnd VB_top VB_row R_textEnd R_texts D_forms D_counts D_numbers R_forms R_tags R_counts R_textsAt V_top V_kinds V_numbers V_parts V_links R_valueKinds R_valueNumbers R_from R_length R_given R_firstGiven R_secondGiven D_depths D_weights S_top S_bound S_outer R_rowEnd R_rows R_rowBegins R_rowSizes lo hi T_lacks T_kinds W_depth W_most W_nodes W_scopes W_functions R_waitKinds R_waitNodes R_waitOf E_node E_scope E_value R_nowRow R_come M_steps M_memory M_mostSteps M_mostMemory T_nodes T_count T_args T_firsts TB_row R_used R_many R_kinds R_numbers R_firsts R_seconds R_sizes R_nodeTexts R_terms := by
  obtain ⟨hx, hT, hsc, hsm, hw, hnow, hs1, hs2, hs3, hm1, hm2, hm3⟩ := id h
  have tr := tw_TOPS_r hx hT
  obtain ⟨hI, hM, hlo, hhi, hcs⟩ := ht
  obtain ⟨t1, t2, t3, t4, t5, t6, t7, t8, t9, t10⟩ := id hI
  have hco : tw_vok cs V_top E_value ∧ R_come = ps E_value := by
    rcases hnow with ⟨⟨e1, -⟩, b, c⟩ | ⟨-, a, b⟩
    · omega
    · exact ⟨a, b⟩
  obtain ⟨hvv, hcome⟩ := hco
  obtain ⟨hv0, hv1, -⟩ := id hvv
  obtain ⟨cv0, cv1, ⟨ck, ck0, ck1, -⟩, -⟩ := hx.1 _ hvv
  have w0 := hw.1
  have w1 := hw.2.1
  have w2 := hw.2.2.1
  have we := hw.2.2.2 (W_depth - 1) (by omega) (by omega)
  obtain ⟨wn0, wn1, wc⟩ := we
  have sc1 := hsc.1
  have sc2 := hsc.2.1
  have sc4 := hsc.2.2.2.1
  have f0 := (t10 (R_used - 1) (by omega) (by omega)).2.2.2.1
  have ln : f_Waiting_lastNode W_depth W_nodes = some (W_nodes (W_depth - 1)) := by
    unfold f_Waiting_lastNode
    refine tw_bind_t (r := 1) (by unfold f_Waiting_has; (repeat (first | refine tw_ite_t (by first | omega | (simp only [tw_gq]; omega)) ?_ | refine tw_ite_f (by first | omega | (simp only [tw_gq]; omega)) ?_)); rfl) ?_
    (repeat (first | refine tw_ite_t (by first | omega | (simp only [tw_gq]; omega)) ?_ | refine tw_ite_f (by first | omega | (simp only [tw_gq]; omega)) ?_))
    rfl
  have lf : f_Waiting_lastFunction W_depth W_functions = some (W_functions (W_depth - 1)) := by
    unfold f_Waiting_lastFunction
    refine tw_bind_t (r := 1) (by unfold f_Waiting_has; (repeat (first | refine tw_ite_t (by first | omega | (simp only [tw_gq]; omega)) ?_ | refine tw_ite_f (by first | omega | (simp only [tw_gq]; omega)) ?_)); rfl) ?_
    (repeat (first | refine tw_ite_t (by first | omega | (simp only [tw_gq]; omega)) ?_ | refine tw_ite_f (by first | omega | (simp only [tw_gq]; omega)) ?_))
    rfl
  have wph : tw_PHI M_steps M_mostSteps (W_depth - 1) R_waitKinds + (if R_waitKinds (W_depth - 1) = 0 then 2 else 1) = tw_PHI M_steps M_mostSteps W_depth R_waitKinds := by
    unfold tw_PHI
    have e : W_depth.toNat = (W_depth - 1).toNat + 1 := by omega
    rw [e]
    show _ = 4 * (M_mostSteps - M_steps) + (tw_wsum R_waitKinds (W_depth - 1).toNat + (if R_waitKinds ((W_depth - 1).toNat : Int) = 0 then 2 else 1))
    rw [show (((W_depth - 1).toNat : Nat) : Int) = W_depth - 1 by omega]
    omega
  have wc' : tw_vok cs V_top (W_functions (W_depth - 1)) ∧ T_kinds (W_nodes (W_depth - 1)) = 2 ∧ R_waitOf (W_depth - 1) = ps (W_functions (W_depth - 1)) := by
    rcases wc with ⟨c, -⟩ | ⟨-, c⟩ | ⟨c, -⟩
    · omega
    · exact c
    · omega
  obtain ⟨c1, c2, c3⟩ := wc'
  clear wc
  obtain ⟨fv0, fv1, -⟩ := id c1
  obtain ⟨fr0, fr1, ⟨fk, fk0, fk1, -⟩, -⟩ := hx.1 _ c1
  rw [if_neg (by omega)] at wph
  have pp : f_Waiting_pop W_depth = some (W_depth - 1) := by
    unfold f_Waiting_pop
    (repeat (first | refine tw_ite_t (by first | omega | (simp only [tw_gq]; omega)) ?_ | refine tw_ite_f (by first | omega | (simp only [tw_gq]; omega)) ?_))
    rw [show max 0 (W_depth - 1) = W_depth - 1 by omega]
  obtain ⟨-, -, -, hcl, -⟩ := hx.1 _ c1
  obtain ⟨d1, d2, d3⟩ := hcl (by omega)
  obtain ⟨o1, o2, o3, o4, o5, -⟩ := d3
  have o7 := o5 k5
  clear hcl o5
  have rr := tw_rs_r hsc o3 o4
  obtain ⟨q1, q2⟩ := tw_payM (st := M_memory) (ms := M_mostMemory) (n := 1) hm1 hm2 hm3 (by omega) (by omega)
  by_cases cm : 1 ≤ M_mostMemory - M_memory
  · rw [if_pos cm] at q1 q2
    have es : upZ R_rowSizes (S_top + 1) (R_rowSizes (V_links (W_functions (W_depth - 1)) + 1) + 1) (V_links (W_functions (W_depth - 1)) + 1) = R_rowSizes (V_links (W_functions (W_depth - 1)) + 1) := tw_upN _ (by omega)
    have eb : upZ R_rowBegins (S_top + 1) R_rowEnd (V_links (W_functions (W_depth - 1)) + 1) = R_rowBegins (V_links (W_functions (W_depth - 1)) + 1) := tw_upN _ (by omega)
    obtain ⟨R1, x1, x2, x3⟩ := tw_row_L (e := R_rowEnd) (x1 := ps (W_functions (W_depth - 1))) (x2 := R_come) (r := V_links (W_functions (W_depth - 1)) + 1) (bg := upZ R_rowBegins (S_top + 1) R_rowEnd) (sz := upZ R_rowSizes (S_top + 1) (R_rowSizes (V_links (W_functions (W_depth - 1)) + 1) + 1)) (R0 := R_rows) (by omega) (by rw [es]; omega) (by rw [eb]; omega) (by rw [es, eb]; omega) (by omega) N 0 R_rows (by omega) (by rw [es]; omega) (by rw [es]; omega) (fun _ _ => rfl) (fun k _ _ => by omega)
    rw [es, eb] at x3
    refine ⟨V_parts (W_functions (W_depth - 1)), S_top, E_value, V_top, M_memory + 1, 0, W_depth - 1, S_top + 1, R_values, R_rowEnd + (R_rowSizes (V_links (W_functions (W_depth - 1)) + 1) + 1), V_parts (W_functions (W_depth - 1)), S_top + 1, R_come, V_kinds, V_numbers, V_parts, V_links, W_functions, upZ S_bound S_top E_value, upZ S_outer S_top (V_links (W_functions (W_depth - 1))), B_given, R_valueKinds, R_valueNumbers, R_given, R_firstGiven, R_secondGiven, upZ R1 (R_rowEnd + (R_rowSizes (V_links (W_functions (W_depth - 1)) + 1) + 1) - 1) R_come, upZ R_rowBegins (S_top + 1) R_rowEnd, upZ R_rowSizes (S_top + 1) (R_rowSizes (V_links (W_functions (W_depth - 1)) + 1) + 1), R_waitKinds, R_waitNodes, R_waitOf, ?_, ?_, by omega, by omega, Or.inr ?_⟩
    · unfold f_Evaluator_goOn
      refine tw_bind_t ln ?_
      refine tw_bind_t lf ?_
      refine tw_bind_t (tw_tKind (by omega) (by omega) (by omega)) ?_
      rw [c2]
      (repeat (first | refine tw_ite_t (by first | omega | (simp only [tw_gq]; omega)) ?_ | refine tw_ite_f (by first | omega | (simp only [tw_gq]; omega)) ?_))
      refine tw_bind_t pp ?_
      refine tw_ob15_t (a1 := V_parts (W_functions (W_depth - 1))) (a2 := S_top) (a3 := E_value) (a4 := V_top) (a5 := V_kinds) (a6 := V_numbers) (a7 := V_parts) (a8 := V_links) (a9 := M_memory + 1) (a10 := 0) (a11 := S_top + 1) (a12 := upZ S_bound S_top E_value) (a13 := upZ S_outer S_top (V_links (W_functions (W_depth - 1)))) (a14 := -1) (a15 := B_given) ?_ rfl
      unfold f_Evaluator_call
      refine tw_bind_t (tw_vK fv0 fv1 (by omega)) ?_
      (repeat (first | refine tw_ite_t (by first | omega | (simp only [tw_gq]; omega)) ?_ | refine tw_ite_f (by first | omega | (simp only [tw_gq]; omega)) ?_))
      refine tw_ob3_t q1 ?_
      (first | refine tw_ite_t (by first | omega | (simp only [tw_gq]; omega)) ?_ | refine tw_ite_f (by first | omega | (simp only [tw_gq]; omega)) ?_); (first | refine tw_ite_t (by first | omega | (simp only [tw_gq]; omega)) ?_ | refine tw_ite_f (by first | omega | (simp only [tw_gq]; omega)) ?_)
      refine tw_bind_t (tw_vSc fv0 fv1 (by omega)) ?_
      refine tw_ob4_t (a1 := S_top) (a2 := S_top + 1) (a3 := upZ S_bound S_top E_value) (a4 := upZ S_outer S_top (V_links (W_functions (W_depth - 1)))) ?_ ?_
      · unfold f_Scopes_bind
        (repeat (first | refine tw_ite_t (by first | omega | (simp only [tw_gq]; omega)) ?_ | refine tw_ite_f (by first | omega | (simp only [tw_gq]; omega)) ?_))
        rw [show S_top + 1 - 1 = S_top by omega]
      · refine tw_bind_t (tw_vBo fv0 fv1 (by omega)) ?_
        rfl
    · unfold f_Mod_answered
      rw [c3, ← fk]
      (repeat (first | refine tw_ite_t (by first | omega | (simp only [tw_gq]; omega)) ?_ | refine tw_ite_f (by first | omega | (simp only [tw_gq]; omega)) ?_))
      refine tw_ob9_t (a1 := R_rowEnd + (R_rowSizes (V_links (W_functions (W_depth - 1)) + 1) + 1)) (a2 := S_top + 1 + 1) (a3 := M_memory + 1) (a4 := 0) (a5 := V_parts (W_functions (W_depth - 1))) (a6 := S_top + 1) (a7 := upZ R1 (R_rowEnd + (R_rowSizes (V_links (W_functions (W_depth - 1)) + 1) + 1) - 1) R_come) (a8 := upZ R_rowBegins (S_top + 1) R_rowEnd) (a9 := upZ R_rowSizes (S_top + 1) (R_rowSizes (V_links (W_functions (W_depth - 1)) + 1) + 1)) ?_ rfl
      unfold f_Mod_callFunction
      refine tw_ob3_t q2 ?_
      rw [d2]
      (first | refine tw_ite_t (by first | omega | (simp only [tw_gq]; omega)) ?_ | refine tw_ite_f (by first | omega | (simp only [tw_gq]; omega)) ?_); (first | refine tw_ite_t (by first | omega | (simp only [tw_gq]; omega)) ?_ | refine tw_ite_f (by first | omega | (simp only [tw_gq]; omega)) ?_); (first | refine tw_ite_t (by first | omega | (simp only [tw_gq]; omega)) ?_ | refine tw_ite_f (by first | omega | (simp only [tw_gq]; omega)) ?_); (first | refine tw_ite_t (by first | omega | (simp only [tw_gq]; omega)) ?_ | refine tw_ite_f (by first | omega | (simp only [tw_gq]; omega)) ?_); (first | refine tw_ite_t (by first | omega | (simp only [tw_gq]; omega)) ?_ | refine tw_ite_f (by first | omega | (simp only [tw_gq]; omega)) ?_); (first | refine tw_ite_t (by first | omega | (simp only [tw_gq]; omega)) ?_ | refine tw_ite_f (by first | omega | (simp only [tw_gq]; omega)) ?_)
      refine tw_ob2_t x1 ?_
      rw [es, d1]
      (first | refine tw_ite_t (by first | omega | (simp only [tw_gq]; omega)) ?_ | refine tw_ite_f (by first | omega | (simp only [tw_gq]; omega)) ?_); (first | refine tw_ite_t (by first | omega | (simp only [tw_gq]; omega)) ?_ | refine tw_ite_f (by first | omega | (simp only [tw_gq]; omega)) ?_); (first | refine tw_ite_t (by first | omega | (simp only [tw_gq]; omega)) ?_ | refine tw_ite_f (by first | omega | (simp only [tw_gq]; omega)) ?_)
      rfl
    · have hg2 : tw_GR (S_top + 1) R_rowSizes (upZ R_rowSizes (S_top + 1) (R_rowSizes (V_links (W_functions (W_depth - 1)) + 1) + 1)) := tw_GR_up (by omega)
      have hx' := tw_XV_ok (ok' := tw_OKC lo hi T_lacks (S_top + 1) (upZ R_rowSizes (S_top + 1) (R_rowSizes (V_links (W_functions (W_depth - 1)) + 1) + 1))) hx (fun a b c z => tw_OKC_mono z (by omega) hg2)
      obtain ⟨u1, u2, u3, u4, u5, u6, u7⟩ := hT
      obtain ⟨s1, s2, s3, s4, s5, s6, s7⟩ := hsc
      refine ⟨rfl, rfl, ⟨hx', ⟨by omega, by omega, by omega, by omega, by omega, by omega, by omega⟩, ⟨by omega, by omega, by omega, by omega, by rw [tw_upN _ (by omega)]; exact s5, by rw [tw_upN _ (by omega)]; exact s6, fun s z0 z1 => ?_⟩, by omega, tw_WT_mono (V_top' := V_top) ⟨by omega, by omega, w2, fun i i0 i1 => hw.2.2.2 i i0 (by omega)⟩ (Int.le_refl _) (by omega) hg2, Or.inl ⟨⟨o1, o2, by omega, by omega, by rw [tw_upS]; omega, by rw [tw_upS]; omega⟩, by omega, rfl⟩, hs1, hs2, hs3, by omega, by omega, hm3⟩, by omega⟩
      by_cases e : s = S_top
      · subst e
        rw [tw_upS, tw_upS, tw_upS, tw_upS, es]
        refine ⟨by omega, by omega, hvv, rfl, by omega, by omega, by omega, by omega, ?_, fun k k0 k1 => ?_⟩
        · rw [show R_rowEnd + (R_rowSizes (V_links (W_functions (W_depth - 1)) + 1) + 1) - 1 = R_rowEnd + R_rowSizes (V_links (W_functions (W_depth - 1)) + 1) by omega, tw_upS]; exact hcome
        · rw [eb, tw_upN _ (by omega), tw_upN _ (by omega), x3 k k0 k1, x2 _ (by omega)]
      · obtain ⟨b1, b2, b3, b4, b5, b6, b7, b8, b9, b10⟩ := s7 s z0 (by omega)
        have ro := tw_rs_r (S_bound := S_bound) (S_outer := S_outer) (R_rows := R_rows) ⟨s1, s2, s3, s4, s5, s6, s7⟩ (s := S_outer s) b1 (by omega)
        rw [tw_upN _ e, tw_upN _ e, tw_upN _ (show ¬ s + 1 = S_top + 1 by omega), tw_upN _ (show ¬ s + 1 = S_top + 1 by omega), tw_upN _ (show ¬ S_outer s + 1 = S_top + 1 by omega), tw_upN _ (show ¬ S_outer s + 1 = S_top + 1 by omega)]
        refine ⟨b1, b2, b3, b4, b5, b6, b7, by omega, ?_, fun k k0 k1 => ?_⟩
        · rw [tw_upN _ (by omega), x2 _ (by omega)]; exact b9
        · rw [tw_upN _ (by omega), tw_upN _ (by omega), x2 _ (by omega), x2 _ (by omega)]; exact b10 k k0 k1
  · rw [if_neg cm] at q1 q2
    refine ⟨E_node, E_scope, E_value, V_top, M_memory, 5, W_depth - 1, S_top, R_values, R_rowEnd, E_node, R_nowRow, R_come, V_kinds, V_numbers, V_parts, V_links, W_functions, S_bound, S_outer, B_given, R_valueKinds, R_valueNumbers, R_given, R_firstGiven, R_secondGiven, R_rows, R_rowBegins, R_rowSizes, R_waitKinds, R_waitNodes, R_waitOf, ?_, ?_, by omega, by omega, Or.inl (by omega)⟩
    · unfold f_Evaluator_goOn
      refine tw_bind_t ln ?_
      refine tw_bind_t lf ?_
      refine tw_bind_t (tw_tKind (by omega) (by omega) (by omega)) ?_
      rw [c2]
      (repeat (first | refine tw_ite_t (by first | omega | (simp only [tw_gq]; omega)) ?_ | refine tw_ite_f (by first | omega | (simp only [tw_gq]; omega)) ?_))
      refine tw_bind_t pp ?_
      refine tw_ob15_t (a1 := E_node) (a2 := E_scope) (a3 := E_value) (a4 := V_top) (a5 := V_kinds) (a6 := V_numbers) (a7 := V_parts) (a8 := V_links) (a9 := M_memory) (a10 := 5) (a11 := S_top) (a12 := S_bound) (a13 := S_outer) (a14 := -1) (a15 := B_given) ?_ rfl
      unfold f_Evaluator_call
      refine tw_bind_t (tw_vK fv0 fv1 (by omega)) ?_
      (repeat (first | refine tw_ite_t (by first | omega | (simp only [tw_gq]; omega)) ?_ | refine tw_ite_f (by first | omega | (simp only [tw_gq]; omega)) ?_))
      refine tw_ob3_t q1 ?_
      (first | refine tw_ite_t (by first | omega | (simp only [tw_gq]; omega)) ?_ | refine tw_ite_f (by first | omega | (simp only [tw_gq]; omega)) ?_); (first | refine tw_ite_t (by first | omega | (simp only [tw_gq]; omega)) ?_ | refine tw_ite_f (by first | omega | (simp only [tw_gq]; omega)) ?_); rfl
    · unfold f_Mod_answered
      rw [c3, ← fk]
      (repeat (first | refine tw_ite_t (by first | omega | (simp only [tw_gq]; omega)) ?_ | refine tw_ite_f (by first | omega | (simp only [tw_gq]; omega)) ?_))
      refine tw_ob9_t (a1 := R_rowEnd) (a2 := S_top + 1) (a3 := M_memory) (a4 := 5) (a5 := E_node) (a6 := R_nowRow) (a7 := R_rows) (a8 := R_rowBegins) (a9 := R_rowSizes) ?_ rfl
      unfold f_Mod_callFunction
      refine tw_ob3_t q2 ?_
      (first | refine tw_ite_t (by first | omega | (simp only [tw_gq]; omega)) ?_ | refine tw_ite_f (by first | omega | (simp only [tw_gq]; omega)) ?_); (first | refine tw_ite_t (by first | omega | (simp only [tw_gq]; omega)) ?_ | refine tw_ite_f (by first | omega | (simp only [tw_gq]; omega)) ?_); rfl
set_option maxRecDepth 100000 in
theorem tw_vLn {V_top : Int} {f : Int → Int} (h0 : 0 ≤ V_top) (ht : V_top ≤ 3201) : f_Values_linkOf V_top f (-1) = some (-1) := by
  unfold f_Values_linkOf; (first | refine tw_ite_t (by first | omega | (simp only [tw_gq]; omega)) ?_ | refine tw_ite_f (by first | omega | (simp only [tw_gq]; omega)) ?_); (first | refine tw_ite_t (by first | omega | (simp only [tw_gq]; omega)) ?_ | refine tw_ite_f (by first | omega | (simp only [tw_gq]; omega)) ?_); rfl
set_option maxRecDepth 100000 in
theorem tw_vPn {V_top : Int} {f : Int → Int} (h0 : 0 ≤ V_top) (ht : V_top ≤ 3201) : f_Values_partOf V_top f (-1) = some (-1) := by
  unfold f_Values_partOf; (first | refine tw_ite_t (by first | omega | (simp only [tw_gq]; omega)) ?_ | refine tw_ite_f (by first | omega | (simp only [tw_gq]; omega)) ?_); (first | refine tw_ite_t (by first | omega | (simp only [tw_gq]; omega)) ?_ | refine tw_ite_f (by first | omega | (simp only [tw_gq]; omega)) ?_); rfl
set_option maxRecDepth 100000 in
theorem tw_gt_ok {cs : Int → Prop} {ps : Int → Int} {V_top : Int} {V_parts : Int → Int} {V_links : Int → Int} {R_given : Int → Int} {R_firstGiven : Int → Int} {R_secondGiven : Int → Int} {p v : Int} {N : Nat} (hN : 300 ≤ N) (ht : V_top ≤ 3201) (p0 : 0 ≤ p) (p1 : p < V_top) (h : tw_BU cs ps V_top V_parts V_links R_given R_firstGiven R_secondGiven p v) : f_Values_givenTo N V_top V_links p = some (R_given v) := by
  obtain ⟨M, rfl⟩ : ∃ M, N = M + 10 := ⟨N - 10, by omega⟩
  unfold f_Values_givenTo
  rcases h with ⟨a1, a2⟩ | ⟨a1, a2, a3, -⟩ | ⟨a1, a2, a3, a4, -⟩
  · refine tw_ob2_t (a1 := 0) (a2 := p) ?_ (by rw [a1])
    rw [f_Values_givenTo_L4]; (first | refine tw_ite_t (by first | omega | (simp only [tw_gq]; omega)) ?_ | refine tw_ite_f (by first | omega | (simp only [tw_gq]; omega)) ?_); (first | refine tw_ite_t (by first | omega | (simp only [tw_gq]; omega)) ?_ | refine tw_ite_f (by first | omega | (simp only [tw_gq]; omega)) ?_)
    refine tw_bind_t (tw_vL p0 p1 ht) ?_
    (first | refine tw_ite_t (by first | omega | (simp only [tw_gq]; omega)) ?_ | refine tw_ite_f (by first | omega | (simp only [tw_gq]; omega)) ?_); (first | refine tw_ite_t (by first | omega | (simp only [tw_gq]; omega)) ?_ | refine tw_ite_f (by first | omega | (simp only [tw_gq]; omega)) ?_); rfl
  · refine tw_ob2_t (a1 := 1) (a2 := V_links p) ?_ (by rw [a1])
    obtain ⟨b0, b1, -⟩ := a2
    rw [f_Values_givenTo_L4]; (first | refine tw_ite_t (by first | omega | (simp only [tw_gq]; omega)) ?_ | refine tw_ite_f (by first | omega | (simp only [tw_gq]; omega)) ?_); (first | refine tw_ite_t (by first | omega | (simp only [tw_gq]; omega)) ?_ | refine tw_ite_f (by first | omega | (simp only [tw_gq]; omega)) ?_)
    refine tw_bind_t (tw_vL p0 p1 ht) ?_
    (first | refine tw_ite_t (by first | omega | (simp only [tw_gq]; omega)) ?_ | refine tw_ite_f (by first | omega | (simp only [tw_gq]; omega)) ?_); (first | refine tw_ite_t (by first | omega | (simp only [tw_gq]; omega)) ?_ | refine tw_ite_f (by first | omega | (simp only [tw_gq]; omega)) ?_)
    refine tw_bind_t (tw_vL p0 p1 ht) ?_
    rw [f_Values_givenTo_L4]; (first | refine tw_ite_t (by first | omega | (simp only [tw_gq]; omega)) ?_ | refine tw_ite_f (by first | omega | (simp only [tw_gq]; omega)) ?_); (first | refine tw_ite_t (by first | omega | (simp only [tw_gq]; omega)) ?_ | refine tw_ite_f (by first | omega | (simp only [tw_gq]; omega)) ?_)
    refine tw_bind_t (tw_vL b0 b1 ht) ?_
    (first | refine tw_ite_t (by first | omega | (simp only [tw_gq]; omega)) ?_ | refine tw_ite_f (by first | omega | (simp only [tw_gq]; omega)) ?_); (first | refine tw_ite_t (by first | omega | (simp only [tw_gq]; omega)) ?_ | refine tw_ite_f (by first | omega | (simp only [tw_gq]; omega)) ?_); rfl
  · refine tw_ob2_t (a1 := 2) (a2 := V_links (V_links p)) ?_ (by rw [a1])
    obtain ⟨b0, b1, -⟩ := a2
    obtain ⟨c0, c1, -⟩ := a3
    rw [f_Values_givenTo_L4]; (first | refine tw_ite_t (by first | omega | (simp only [tw_gq]; omega)) ?_ | refine tw_ite_f (by first | omega | (simp only [tw_gq]; omega)) ?_); (first | refine tw_ite_t (by first | omega | (simp only [tw_gq]; omega)) ?_ | refine tw_ite_f (by first | omega | (simp only [tw_gq]; omega)) ?_)
    refine tw_bind_t (tw_vL p0 p1 ht) ?_
    (first | refine tw_ite_t (by first | omega | (simp only [tw_gq]; omega)) ?_ | refine tw_ite_f (by first | omega | (simp only [tw_gq]; omega)) ?_); (first | refine tw_ite_t (by first | omega | (simp only [tw_gq]; omega)) ?_ | refine tw_ite_f (by first | omega | (simp only [tw_gq]; omega)) ?_)
    refine tw_bind_t (tw_vL p0 p1 ht) ?_
    rw [f_Values_givenTo_L4]; (first | refine tw_ite_t (by first | omega | (simp only [tw_gq]; omega)) ?_ | refine tw_ite_f (by first | omega | (simp only [tw_gq]; omega)) ?_); (first | refine tw_ite_t (by first | omega | (simp only [tw_gq]; omega)) ?_ | refine tw_ite_f (by first | omega | (simp only [tw_gq]; omega)) ?_)
    refine tw_bind_t (tw_vL b0 b1 ht) ?_
    (first | refine tw_ite_t (by first | omega | (simp only [tw_gq]; omega)) ?_ | refine tw_ite_f (by first | omega | (simp only [tw_gq]; omega)) ?_); (first | refine tw_ite_t (by first | omega | (simp only [tw_gq]; omega)) ?_ | refine tw_ite_f (by first | omega | (simp only [tw_gq]; omega)) ?_)
    refine tw_bind_t (tw_vL b0 b1 ht) ?_
    rw [f_Values_givenTo_L4]; (first | refine tw_ite_t (by first | omega | (simp only [tw_gq]; omega)) ?_ | refine tw_ite_f (by first | omega | (simp only [tw_gq]; omega)) ?_); (first | refine tw_ite_t (by first | omega | (simp only [tw_gq]; omega)) ?_ | refine tw_ite_f (by first | omega | (simp only [tw_gq]; omega)) ?_)
    refine tw_bind_t (tw_vL c0 c1 ht) ?_
    (first | refine tw_ite_t (by first | omega | (simp only [tw_gq]; omega)) ?_ | refine tw_ite_f (by first | omega | (simp only [tw_gq]; omega)) ?_); (first | refine tw_ite_t (by first | omega | (simp only [tw_gq]; omega)) ?_ | refine tw_ite_f (by first | omega | (simp only [tw_gq]; omega)) ?_); rfl
set_option maxRecDepth 100000 in
theorem tw_an_1p {N : Nat} {R_constants B_given R_of R_comes : Int → Int} {puts : Int} {cs : Int → Prop} {ps : Int → Int} {nc : Int} {R_values : Int} {R_nodeOf : Int → Int} {R_rowOf : Int → Int} {D_top : Int} {D_nodes : Int → Int} {R_dataEnd : Int} {VB_top : Int} {VB_row : Int → Int} {R_textEnd : Int} {R_texts : Int → Int} {D_forms : Int → Int} {D_counts : Int → Int} {D_numbers : Int → Int} {R_forms : Int → Int} {R_tags : Int → Int} {R_counts : Int → Int} {R_textsAt : Int → Int} {V_top : Int} {V_kinds : Int → Int} {V_numbers : Int → Int} {V_parts : Int → Int} {V_links : Int → Int} {R_valueKinds : Int → Int} {R_valueNumbers : Int → Int} {R_from : Int → Int} {R_length : Int → Int} {R_given : Int → Int} {R_firstGiven : Int → Int} {R_secondGiven : Int → Int} {D_depths : Int → Int} {D_weights : Int → Int} {S_top : Int} {S_bound : Int → Int} {S_outer : Int → Int} {R_rowEnd : Int} {R_rows : Int → Int} {R_rowBegins : Int → Int} {R_rowSizes : Int → Int} {lo : Int} {hi : Int} {T_lacks : Int → Int} {T_kinds : Int → Int} {W_depth : Int} {W_most : Int} {W_nodes : Int → Int} {W_scopes : Int → Int} {W_functions : Int → Int} {R_waitKinds : Int → Int} {R_waitNodes : Int → Int} {R_waitOf : Int → Int} {E_node : Int} {E_scope : Int} {E_value : Int} {R_nowRow : Int} {R_come : Int} {M_steps : Int} {M_memory : Int} {M_mostSteps : Int} {M_mostMemory : Int} {T_nodes : Int} {T_count : Int} {T_args : Int → Int} {T_firsts : Int → Int} {TB_row : Int → Int} {R_used : Int} {R_many : Int} {R_kinds : Int → Int} {R_numbers : Int → Int} {R_firsts : Int → Int} {R_seconds : Int → Int} {R_sizes : Int → Int} {R_nodeTexts : Int → Int} {R_terms : Int → Int} (hN : 300 ≤ N) (ht : tw_TOK T_nodes T_count T_kinds T_args T_firsts T_lacks TB_row R_used R_many R_kinds R_numbers R_firsts R_seconds R_sizes R_nodeTexts R_terms lo hi cs ps R_constants) (h : tw_RUN cs ps nc R_values R_nodeOf R_rowOf D_top D_nodes R_dataEnd VB_top VB_row R_textEnd R_texts D_forms D_counts D_numbers R_forms R_tags R_counts R_textsAt V_top V_kinds V_numbers V_parts V_links R_valueKinds R_valueNumbers R_from R_length R_given R_firstGiven R_secondGiven D_depths D_weights S_top S_bound S_outer R_rowEnd R_rows R_rowBegins R_rowSizes lo hi T_lacks T_kinds W_depth W_most W_nodes W_scopes W_functions R_waitKinds R_waitNodes R_waitOf E_node E_scope E_value R_nowRow R_come M_steps M_memory M_mostSteps M_mostMemory) (hn : E_node = -1) (hd : 0 < W_depth) (hk : R_waitKinds (W_depth - 1) = 1) (k7 : V_kinds (W_functions (W_depth - 1)) = 7) (hpa : R_given (ps (W_functions (W_depth - 1))) + 1 < tw_ar (V_numbers (W_functions (W_depth - 1)))) : tw_AnS N B_given puts R_of R_comes cs ps nc R_values R_nodeOf R_rowOf D_top D_nodes R_dataEnd VB_top VB_row R_textEnd R_texts D_forms D_counts D_numbers R_forms R_tags R_counts R_textsAt V_top V_kinds V_numbers V_parts V_links R_valueKinds R_valueNumbers R_from R_length R_given R_firstGiven R_secondGiven D_depths D_weights S_top S_bound S_outer R_rowEnd R_rows R_rowBegins R_rowSizes lo hi T_lacks T_kinds W_depth W_most W_nodes W_scopes W_functions R_waitKinds R_waitNodes R_waitOf E_node E_scope E_value R_nowRow R_come M_steps M_memory M_mostSteps M_mostMemory T_nodes T_count T_args T_firsts TB_row R_used R_many R_kinds R_numbers R_firsts R_seconds R_sizes R_nodeTexts R_terms := by
  obtain ⟨hx, hT, hsc, hsm, hw, hnow, hs1, hs2, hs3, hm1, hm2, hm3⟩ := id h
  have tr := tw_TOPS_r hx hT
  obtain ⟨hI, hM, hlo, hhi, hcs⟩ := ht
  obtain ⟨t1, t2, t3, t4, t5, t6, t7, t8, t9, t10⟩ := id hI
  have hco : tw_vok cs V_top E_value ∧ R_come = ps E_value := by
    rcases hnow with ⟨⟨e1, -⟩, b, c⟩ | ⟨-, a, b⟩
    · omega
    · exact ⟨a, b⟩
  obtain ⟨hvv, hcome⟩ := hco
  obtain ⟨hv0, hv1, -⟩ := id hvv
  obtain ⟨cv0, cv1, ⟨ck, ck0, ck1, -⟩, -⟩ := hx.1 _ hvv
  have w0 := hw.1
  have w1 := hw.2.1
  have w2 := hw.2.2.1
  have we := hw.2.2.2 (W_depth - 1) (by omega) (by omega)
  obtain ⟨wn0, wn1, wc⟩ := we
  have sc1 := hsc.1
  have sc2 := hsc.2.1
  have sc4 := hsc.2.2.2.1
  have f0 := (t10 (R_used - 1) (by omega) (by omega)).2.2.2.1
  have ln : f_Waiting_lastNode W_depth W_nodes = some (W_nodes (W_depth - 1)) := by
    unfold f_Waiting_lastNode
    refine tw_bind_t (r := 1) (by unfold f_Waiting_has; (repeat (first | refine tw_ite_t (by first | omega | (simp only [tw_gq]; omega)) ?_ | refine tw_ite_f (by first | omega | (simp only [tw_gq]; omega)) ?_)); rfl) ?_
    (repeat (first | refine tw_ite_t (by first | omega | (simp only [tw_gq]; omega)) ?_ | refine tw_ite_f (by first | omega | (simp only [tw_gq]; omega)) ?_))
    rfl
  have lf : f_Waiting_lastFunction W_depth W_functions = some (W_functions (W_depth - 1)) := by
    unfold f_Waiting_lastFunction
    refine tw_bind_t (r := 1) (by unfold f_Waiting_has; (repeat (first | refine tw_ite_t (by first | omega | (simp only [tw_gq]; omega)) ?_ | refine tw_ite_f (by first | omega | (simp only [tw_gq]; omega)) ?_)); rfl) ?_
    (repeat (first | refine tw_ite_t (by first | omega | (simp only [tw_gq]; omega)) ?_ | refine tw_ite_f (by first | omega | (simp only [tw_gq]; omega)) ?_))
    rfl
  have wph : tw_PHI M_steps M_mostSteps (W_depth - 1) R_waitKinds + (if R_waitKinds (W_depth - 1) = 0 then 2 else 1) = tw_PHI M_steps M_mostSteps W_depth R_waitKinds := by
    unfold tw_PHI
    have e : W_depth.toNat = (W_depth - 1).toNat + 1 := by omega
    rw [e]
    show _ = 4 * (M_mostSteps - M_steps) + (tw_wsum R_waitKinds (W_depth - 1).toNat + (if R_waitKinds ((W_depth - 1).toNat : Int) = 0 then 2 else 1))
    rw [show (((W_depth - 1).toNat : Nat) : Int) = W_depth - 1 by omega]
    omega
  have wc' : tw_vok cs V_top (W_functions (W_depth - 1)) ∧ T_kinds (W_nodes (W_depth - 1)) = 2 ∧ R_waitOf (W_depth - 1) = ps (W_functions (W_depth - 1)) := by
    rcases wc with ⟨c, -⟩ | ⟨-, c⟩ | ⟨c, -⟩
    · omega
    · exact c
    · omega
  obtain ⟨c1, c2, c3⟩ := wc'
  clear wc
  obtain ⟨fv0, fv1, -⟩ := id c1
  obtain ⟨fr0, fr1, ⟨fk, fk0, fk1, -⟩, -⟩ := hx.1 _ c1
  rw [if_neg (by omega)] at wph
  have pp : f_Waiting_pop W_depth = some (W_depth - 1) := by
    unfold f_Waiting_pop
    (repeat (first | refine tw_ite_t (by first | omega | (simp only [tw_gq]; omega)) ?_ | refine tw_ite_f (by first | omega | (simp only [tw_gq]; omega)) ?_))
    rw [show max 0 (W_depth - 1) = W_depth - 1 by omega]
  obtain ⟨-, -, ⟨-, -, -, nr, ne, -, nk, -⟩, -, hbu⟩ := hx.1 _ c1
  obtain ⟨hb, g0, tw_g1⟩ := hbu k7
  have ne := ne (by omega)
  have nk := nk k7
  clear hbu
  obtain ⟨tk1, tk2, tk3, tk4, tk5, tk6⟩ := tw_tk_ok nk
  have hgt := tw_gt_ok hN (by omega) fv0 fv1 hb
  obtain ⟨q1, q2⟩ := tw_payM (st := M_memory) (ms := M_mostMemory) (n := 1) hm1 hm2 hm3 (by omega) (by omega)
  by_cases cm : 1 ≤ M_mostMemory - M_memory
  · rw [if_pos cm] at q1 q2
    have efg : ∃ fg, fg = (if R_given (ps (W_functions (W_depth - 1))) = 0 then R_come else R_firstGiven (ps (W_functions (W_depth - 1)))) := ⟨_, rfl⟩
    obtain ⟨fg, efg⟩ := efg
    refine ⟨E_node, E_scope, V_top, V_top + 1, M_memory + 1, 0, W_depth - 1, S_top, R_values + 1, R_rowEnd, -1, R_nowRow, R_values, upZ V_kinds V_top 7, upZ V_numbers V_top (V_numbers (W_functions (W_depth - 1))), upZ V_parts V_top E_value, upZ V_links V_top (W_functions (W_depth - 1)), W_functions, S_bound, S_outer, B_given, upZ R_valueKinds R_values 7, upZ R_valueNumbers R_values (V_numbers (W_functions (W_depth - 1))), upZ (upZ R_given R_values 0) R_values (R_given (ps (W_functions (W_depth - 1))) + 1), upZ R_firstGiven R_values fg, upZ R_secondGiven R_values R_come, R_rows, R_rowBegins, R_rowSizes, R_waitKinds, R_waitNodes, R_waitOf, ?_, ?_, by omega, by omega, Or.inr ?_⟩
    · unfold f_Evaluator_goOn
      refine tw_bind_t ln ?_
      refine tw_bind_t lf ?_
      refine tw_bind_t (tw_tKind (by omega) (by omega) (by omega)) ?_
      rw [c2]
      (repeat (first | refine tw_ite_t (by first | omega | (simp only [tw_gq]; omega)) ?_ | refine tw_ite_f (by first | omega | (simp only [tw_gq]; omega)) ?_))
      refine tw_bind_t pp ?_
      refine tw_ob15_t (a1 := E_node) (a2 := E_scope) (a3 := V_top) (a4 := V_top + 1) (a5 := upZ V_kinds V_top 7) (a6 := upZ V_numbers V_top (V_numbers (W_functions (W_depth - 1)))) (a7 := upZ V_parts V_top E_value) (a8 := upZ V_links V_top (W_functions (W_depth - 1))) (a9 := M_memory + 1) (a10 := 0) (a11 := S_top) (a12 := S_bound) (a13 := S_outer) (a14 := -1) (a15 := B_given) ?_ rfl
      unfold f_Evaluator_call
      refine tw_bind_t (tw_vK fv0 fv1 (by omega)) ?_
      (repeat (first | refine tw_ite_t (by first | omega | (simp only [tw_gq]; omega)) ?_ | refine tw_ite_f (by first | omega | (simp only [tw_gq]; omega)) ?_))
      refine tw_ob10_t (a1 := V_top) (a2 := V_top + 1) (a3 := upZ V_kinds V_top 7) (a4 := upZ V_numbers V_top (V_numbers (W_functions (W_depth - 1)))) (a5 := upZ V_parts V_top E_value) (a6 := upZ V_links V_top (W_functions (W_depth - 1))) (a7 := M_memory + 1) (a8 := 0) (a9 := -1) (a10 := B_given) ?_ rfl
      unfold f_Builtins_take
      refine tw_bind_t (tw_vN fv0 fv1 (by omega)) ?_
      refine tw_bind_t hgt ?_
      obtain ⟨tv, tu, tu0, tu1⟩ := tk1 (R_given (ps (W_functions (W_depth - 1))) + 1) (by omega) (by omega)
      refine tw_bind_t tu ?_
      (first | refine tw_ite_t (by first | omega | (simp only [tw_gq]; omega)) ?_ | refine tw_ite_f (by first | omega | (simp only [tw_gq]; omega)) ?_); (first | refine tw_ite_t (by first | omega | (simp only [tw_gq]; omega)) ?_ | refine tw_ite_f (by first | omega | (simp only [tw_gq]; omega)) ?_)
      refine tw_ob3_t q1 ?_
      (first | refine tw_ite_t (by first | omega | (simp only [tw_gq]; omega)) ?_ | refine tw_ite_f (by first | omega | (simp only [tw_gq]; omega)) ?_); (first | refine tw_ite_t (by first | omega | (simp only [tw_gq]; omega)) ?_ | refine tw_ite_f (by first | omega | (simp only [tw_gq]; omega)) ?_); (first | refine tw_ite_t (by first | omega | (simp only [tw_gq]; omega)) ?_ | refine tw_ite_f (by first | omega | (simp only [tw_gq]; omega)) ?_)
      exact tw_ob6_t (tw_ob6_t (tw_vmake (by omega) (by omega)) rfl) rfl
    · unfold f_Mod_answered
      rw [c3, ← fk]
      (repeat (first | refine tw_ite_t (by first | omega | (simp only [tw_gq]; omega)) ?_ | refine tw_ite_f (by first | omega | (simp only [tw_gq]; omega)) ?_))
      refine tw_ob23_t (a1 := R_values + 1) (a2 := R_textEnd) (a3 := R_dataEnd) (a4 := M_steps) (a5 := M_memory + 1) (a6 := 0) (a7 := -1) (a8 := R_values) (a9 := puts) (a10 := upZ R_valueKinds R_values 7) (a11 := upZ R_valueNumbers R_values (V_numbers (W_functions (W_depth - 1)))) (a12 := R_from) (a13 := R_length) (a14 := upZ (upZ R_given R_values 0) R_values (R_given (ps (W_functions (W_depth - 1))) + 1)) (a15 := upZ R_firstGiven R_values fg) (a16 := upZ R_secondGiven R_values R_come) (a17 := R_texts) (a18 := R_forms) (a19 := R_tags) (a20 := R_counts) (a21 := R_textsAt) (a22 := R_of) (a23 := R_comes) ?_ rfl
      unfold f_Mod_callBuiltin
      rw [← ne]
      (first | refine tw_ite_t (by first | omega | (simp only [tw_gq]; omega)) ?_ | refine tw_ite_f (by first | omega | (simp only [tw_gq]; omega)) ?_); (first | refine tw_ite_t (by first | omega | (simp only [tw_gq]; omega)) ?_ | refine tw_ite_f (by first | omega | (simp only [tw_gq]; omega)) ?_)
      refine tw_bind_t tk4 ?_
      (first | refine tw_ite_t (by first | omega | (simp only [tw_gq]; omega)) ?_ | refine tw_ite_f (by first | omega | (simp only [tw_gq]; omega)) ?_); (first | refine tw_ite_t (by first | omega | (simp only [tw_gq]; omega)) ?_ | refine tw_ite_f (by first | omega | (simp only [tw_gq]; omega)) ?_)
      refine tw_ob3_t q2 ?_
      (first | refine tw_ite_t (by first | omega | (simp only [tw_gq]; omega)) ?_ | refine tw_ite_f (by first | omega | (simp only [tw_gq]; omega)) ?_); (first | refine tw_ite_t (by first | omega | (simp only [tw_gq]; omega)) ?_ | refine tw_ite_f (by first | omega | (simp only [tw_gq]; omega)) ?_); (first | refine tw_ite_t (by first | omega | (simp only [tw_gq]; omega)) ?_ | refine tw_ite_f (by first | omega | (simp only [tw_gq]; omega)) ?_)
      refine tw_ob5_t (tw_rmake (by omega) (by omega)) ?_
      (first | refine tw_ite_t (by first | omega | (simp only [tw_gq]; omega)) ?_ | refine tw_ite_f (by first | omega | (simp only [tw_gq]; omega)) ?_); (first | refine tw_ite_t (by first | omega | (simp only [tw_gq]; omega)) ?_ | refine tw_ite_f (by first | omega | (simp only [tw_gq]; omega)) ?_)
      by_cases cg : R_given (ps (W_functions (W_depth - 1))) = 0
      · rw [if_pos cg] at efg
        refine tw_ite_t cg ?_
        (first | refine tw_ite_t (by first | omega | (simp only [tw_gq]; omega)) ?_ | refine tw_ite_f (by first | omega | (simp only [tw_gq]; omega)) ?_); (first | refine tw_ite_t (by first | omega | (simp only [tw_gq]; omega)) ?_ | refine tw_ite_f (by first | omega | (simp only [tw_gq]; omega)) ?_)
        rw [efg]
        rfl
      · rw [if_neg cg] at efg
        refine tw_ite_f cg ?_
        (first | refine tw_ite_t (by first | omega | (simp only [tw_gq]; omega)) ?_ | refine tw_ite_f (by first | omega | (simp only [tw_gq]; omega)) ?_); (first | refine tw_ite_t (by first | omega | (simp only [tw_gq]; omega)) ?_ | refine tw_ite_f (by first | omega | (simp only [tw_gq]; omega)) ?_); (first | refine tw_ite_t (by first | omega | (simp only [tw_gq]; omega)) ?_ | refine tw_ite_f (by first | omega | (simp only [tw_gq]; omega)) ?_)
        rw [efg]
        rfl
    · have h10 := hx.2.2.2.2.2.2.2.2.2.1
      have h8 := hx.2.2.2.2.2.2.2.1
      have h11 := hx.2.2.2.2.2.2.2.2.2.2 V_top (by omega)
      have ep : ps V_top = R_values := by omega
      rw [tw_upUp]
      obtain ⟨y1, y2, y3, y4⟩ := tw_XV_new (k := 7) (n := V_numbers (W_functions (W_depth - 1))) (a := E_value) (b := (W_functions (W_depth - 1))) (n2 := V_numbers (W_functions (W_depth - 1))) (R_from' := R_from) (R_length' := R_length) (R_nodeOf' := R_nodeOf) (R_rowOf' := R_rowOf) (R_given' := upZ R_given R_values (R_given (ps (W_functions (W_depth - 1))) + 1)) (R_firstGiven' := upZ R_firstGiven R_values fg) (R_secondGiven' := upZ R_secondGiven R_values R_come) hx tw_GR_refl tw_GR_refl tw_GR_refl tw_GR_refl (tw_GR_up (by omega)) (tw_GR_up (by omega)) (tw_GR_up (by omega)) (by
          unfold tw_VR tw_OB
          simp only [ep, tw_upS]
          refine ⟨by omega, by omega, ⟨trivial, by omega, by omega, nr, fun _ => trivial, fun z => by omega, fun _ => nk, fun z => by omega, fun z => by omega⟩, fun z => by omega, fun _ => ⟨?_, by omega, by omega⟩⟩
          unfold tw_BU
          rw [tw_upS, tw_upS, tw_upS, tw_upS, tw_upS, tw_upN V_links (show ¬ (W_functions (W_depth - 1)) = V_top by omega), tw_upN V_parts (show ¬ (W_functions (W_depth - 1)) = V_top by omega)]
          rcases hb with ⟨a1, a2⟩ | ⟨a1, a2, a3, a4, a5⟩ | ⟨a1, -⟩
          · rw [if_pos a1] at efg
            exact Or.inr (Or.inl ⟨by omega, tw_vok_mono c1 (by omega), a2, tw_vok_mono hvv (by omega), by rw [efg, hcome]⟩)
          · rw [if_neg (by omega)] at efg
            rw [tw_upN V_links (show ¬ V_links (W_functions (W_depth - 1)) = V_top by have := a2.2.1; omega)]
            exact Or.inr (Or.inr ⟨by omega, tw_vok_mono c1 (by omega), tw_vok_mono a2 (by omega), a3, tw_vok_mono a4 (by omega), tw_vok_mono hvv (by omega), by rw [efg, a5], hcome⟩)
          · omega)
      obtain ⟨u1, u2, u3, u4, u5, u6, u7⟩ := hT
      refine ⟨rfl, hn.symm, ⟨y1, ⟨by omega, by omega, by omega, by omega, by omega, by omega, by omega⟩, tw_SC_mono hsc (by omega), by omega, tw_WT_mono ⟨by omega, by omega, w2, fun i i0 i1 => hw.2.2.2 i i0 (by omega)⟩ (by omega) (Int.le_refl _) tw_GR_refl, Or.inr ⟨hn, y3, y4.symm⟩, hs1, hs2, hs3, by omega, by omega, hm3⟩, by omega⟩
  · rw [if_neg cm] at q1 q2
    refine ⟨E_node, E_scope, -1, V_top, M_memory, 5, W_depth - 1, S_top, R_values, R_rowEnd, E_node, R_nowRow, R_come, V_kinds, V_numbers, V_parts, V_links, W_functions, S_bound, S_outer, B_given, R_valueKinds, R_valueNumbers, R_given, R_firstGiven, R_secondGiven, R_rows, R_rowBegins, R_rowSizes, R_waitKinds, R_waitNodes, R_waitOf, ?_, ?_, by omega, by omega, Or.inl (by omega)⟩
    · unfold f_Evaluator_goOn
      refine tw_bind_t ln ?_
      refine tw_bind_t lf ?_
      refine tw_bind_t (tw_tKind (by omega) (by omega) (by omega)) ?_
      rw [c2]
      (repeat (first | refine tw_ite_t (by first | omega | (simp only [tw_gq]; omega)) ?_ | refine tw_ite_f (by first | omega | (simp only [tw_gq]; omega)) ?_))
      refine tw_bind_t pp ?_
      refine tw_ob15_t (a1 := E_node) (a2 := E_scope) (a3 := -1) (a4 := V_top) (a5 := V_kinds) (a6 := V_numbers) (a7 := V_parts) (a8 := V_links) (a9 := M_memory) (a10 := 5) (a11 := S_top) (a12 := S_bound) (a13 := S_outer) (a14 := -1) (a15 := B_given) ?_ rfl
      unfold f_Evaluator_call
      refine tw_bind_t (tw_vK fv0 fv1 (by omega)) ?_
      (repeat (first | refine tw_ite_t (by first | omega | (simp only [tw_gq]; omega)) ?_ | refine tw_ite_f (by first | omega | (simp only [tw_gq]; omega)) ?_))
      refine tw_ob10_t (a1 := -1) (a2 := V_top) (a3 := V_kinds) (a4 := V_numbers) (a5 := V_parts) (a6 := V_links) (a7 := M_memory) (a8 := 5) (a9 := -1) (a10 := B_given) ?_ rfl
      unfold f_Builtins_take
      refine tw_bind_t (tw_vN fv0 fv1 (by omega)) ?_
      refine tw_bind_t hgt ?_
      obtain ⟨tv, tu, tu0, tu1⟩ := tk1 (R_given (ps (W_functions (W_depth - 1))) + 1) (by omega) (by omega)
      refine tw_bind_t tu ?_
      (first | refine tw_ite_t (by first | omega | (simp only [tw_gq]; omega)) ?_ | refine tw_ite_f (by first | omega | (simp only [tw_gq]; omega)) ?_); (first | refine tw_ite_t (by first | omega | (simp only [tw_gq]; omega)) ?_ | refine tw_ite_f (by first | omega | (simp only [tw_gq]; omega)) ?_)
      refine tw_ob3_t q1 ?_
      (first | refine tw_ite_t (by first | omega | (simp only [tw_gq]; omega)) ?_ | refine tw_ite_f (by first | omega | (simp only [tw_gq]; omega)) ?_); (first | refine tw_ite_t (by first | omega | (simp only [tw_gq]; omega)) ?_ | refine tw_ite_f (by first | omega | (simp only [tw_gq]; omega)) ?_); rfl
    · unfold f_Mod_answered
      rw [c3, ← fk]
      (repeat (first | refine tw_ite_t (by first | omega | (simp only [tw_gq]; omega)) ?_ | refine tw_ite_f (by first | omega | (simp only [tw_gq]; omega)) ?_))
      refine tw_ob23_t (a1 := R_values) (a2 := R_textEnd) (a3 := R_dataEnd) (a4 := M_steps) (a5 := M_memory) (a6 := 5) (a7 := E_node) (a8 := R_come) (a9 := puts) (a10 := R_valueKinds) (a11 := R_valueNumbers) (a12 := R_from) (a13 := R_length) (a14 := R_given) (a15 := R_firstGiven) (a16 := R_secondGiven) (a17 := R_texts) (a18 := R_forms) (a19 := R_tags) (a20 := R_counts) (a21 := R_textsAt) (a22 := R_of) (a23 := R_comes) ?_ rfl
      unfold f_Mod_callBuiltin
      rw [← ne]
      (first | refine tw_ite_t (by first | omega | (simp only [tw_gq]; omega)) ?_ | refine tw_ite_f (by first | omega | (simp only [tw_gq]; omega)) ?_); (first | refine tw_ite_t (by first | omega | (simp only [tw_gq]; omega)) ?_ | refine tw_ite_f (by first | omega | (simp only [tw_gq]; omega)) ?_)
      refine tw_bind_t tk4 ?_
      (first | refine tw_ite_t (by first | omega | (simp only [tw_gq]; omega)) ?_ | refine tw_ite_f (by first | omega | (simp only [tw_gq]; omega)) ?_); (first | refine tw_ite_t (by first | omega | (simp only [tw_gq]; omega)) ?_ | refine tw_ite_f (by first | omega | (simp only [tw_gq]; omega)) ?_)
      refine tw_ob3_t q2 ?_
      (first | refine tw_ite_t (by first | omega | (simp only [tw_gq]; omega)) ?_ | refine tw_ite_f (by first | omega | (simp only [tw_gq]; omega)) ?_); (first | refine tw_ite_t (by first | omega | (simp only [tw_gq]; omega)) ?_ | refine tw_ite_f (by first | omega | (simp only [tw_gq]; omega)) ?_); rfl
set_option maxRecDepth 100000 in
def tw_AnB (N : Nat) (B_given : Int → Int) (puts : Int) (R_of R_comes : Int → Int) (cs : Int → Prop) (ps : Int → Int) (nc : Int) (R_values : Int) (R_nodeOf : Int → Int) (R_rowOf : Int → Int) (D_top : Int) (D_nodes : Int → Int) (R_dataEnd : Int) (VB_top : Int) (VB_row : Int → Int) (R_textEnd : Int) (R_texts : Int → Int) (D_forms : Int → Int) (D_counts : Int → Int) (D_numbers : Int → Int) (R_forms : Int → Int) (R_tags : Int → Int) (R_counts : Int → Int) (R_textsAt : Int → Int) (V_top : Int) (V_kinds : Int → Int) (V_numbers : Int → Int) (V_parts : Int → Int) (V_links : Int → Int) (R_valueKinds : Int → Int) (R_valueNumbers : Int → Int) (R_from : Int → Int) (R_length : Int → Int) (R_given : Int → Int) (R_firstGiven : Int → Int) (R_secondGiven : Int → Int) (D_depths : Int → Int) (D_weights : Int → Int) (S_top : Int) (S_bound : Int → Int) (S_outer : Int → Int) (R_rowEnd : Int) (R_rows : Int → Int) (R_rowBegins : Int → Int) (R_rowSizes : Int → Int) (lo : Int) (hi : Int) (T_lacks : Int → Int) (T_kinds : Int → Int) (W_depth : Int) (W_most : Int) (W_nodes : Int → Int) (W_scopes : Int → Int) (W_functions : Int → Int) (R_waitKinds : Int → Int) (R_waitNodes : Int → Int) (R_waitOf : Int → Int) (E_node : Int) (E_scope : Int) (E_value : Int) (R_nowRow : Int) (R_come : Int) (M_steps : Int) (M_memory : Int) (M_mostSteps : Int) (M_mostMemory : Int) (T_nodes : Int) (T_count : Int) (T_args : Int → Int) (T_firsts : Int → Int) (TB_row : Int → Int) (R_used : Int) (R_many : Int) (R_kinds : Int → Int) (R_numbers : Int → Int) (R_firsts : Int → Int) (R_seconds : Int → Int) (R_sizes : Int → Int) (R_nodeTexts : Int → Int) (R_terms : Int → Int) : Prop :=
  ∃ (op r st' mem' fl now' come' puts' : Int) (B_given' of' comes' : Int → Int) (V_top' : Int) (V_kinds' : Int → Int) (V_numbers' : Int → Int) (V_parts' : Int → Int) (V_links' : Int → Int) (VB_top' : Int) (VB_row' : Int → Int) (D_top' : Int) (D_forms' : Int → Int) (D_counts' : Int → Int) (D_numbers' : Int → Int) (D_nodes' : Int → Int) (D_depths' : Int → Int) (D_weights' : Int → Int) (R_values' : Int) (R_textEnd' : Int) (R_dataEnd' : Int) (R_valueKinds' : Int → Int) (R_valueNumbers' : Int → Int) (R_from' : Int → Int) (R_length' : Int → Int) (R_given' : Int → Int) (R_texts' : Int → Int) (R_forms' : Int → Int) (R_tags' : Int → Int) (R_counts' : Int → Int) (R_textsAt' : Int → Int),
    f_Evaluator_goOn N T_nodes T_kinds E_node E_scope E_value V_top V_kinds V_numbers V_parts V_links M_memory M_mostMemory 0 W_depth W_nodes W_scopes W_functions S_top S_bound S_outer (-1) B_given = some (E_node, E_scope, -1, V_top, V_kinds, V_numbers, V_parts, V_links, M_memory, 0, W_depth - 1, W_functions, S_top, S_bound, S_outer, op, B_given')
    ∧ 0 ≤ op ∧ op ≤ 31
    ∧ f_Builtins_perform N V_top V_kinds V_numbers V_parts V_links VB_top VB_row D_top D_forms D_counts D_numbers D_nodes D_depths D_weights M_steps M_memory M_mostSteps M_mostMemory 0 op B_given' = some (r,V_top', V_kinds', V_numbers', V_parts', V_links', VB_top', VB_row', D_top', D_forms', D_counts', D_numbers', D_nodes', D_depths', D_weights', st', mem', fl, -1)
    ∧ f_Mod_answered N R_values R_textEnd R_dataEnd R_rowEnd (S_top + 1) W_depth W_most M_steps M_memory M_mostSteps M_mostMemory 0 E_node R_nowRow R_come puts R_valueKinds R_valueNumbers R_from R_length R_nodeOf R_rowOf R_given R_firstGiven R_secondGiven R_texts R_forms R_tags R_counts R_textsAt R_rows R_rowBegins R_rowSizes R_waitKinds R_waitNodes R_waitOf R_of R_comes = some (R_values', R_textEnd', R_dataEnd', R_rowEnd, S_top + 1, W_depth - 1, W_most, st', mem', fl, now', R_nowRow, come', puts', R_valueKinds', R_valueNumbers', R_from', R_length', R_given', R_firstGiven, R_secondGiven, R_texts', R_forms', R_tags', R_counts', R_textsAt', R_rows, R_rowBegins, R_rowSizes, R_waitKinds, R_waitNodes, R_waitOf, of', comes')
    ∧ 0 ≤ st' ∧ st' ≤ M_mostSteps ∧ 0 ≤ mem' ∧ mem' ≤ M_mostMemory
    ∧ ((1 ≤ fl ∧ fl ≤ 6) ∨ (fl = 0 ∧ now' = -1 ∧ tw_RUN cs ps nc R_values' R_nodeOf R_rowOf D_top' D_nodes' R_dataEnd' VB_top' VB_row' R_textEnd' R_texts' D_forms' D_counts' D_numbers' R_forms' R_tags' R_counts' R_textsAt' V_top' V_kinds' V_numbers' V_parts' V_links' R_valueKinds' R_valueNumbers' R_from' R_length' R_given' R_firstGiven R_secondGiven D_depths' D_weights' S_top S_bound S_outer R_rowEnd R_rows R_rowBegins R_rowSizes lo hi T_lacks T_kinds (W_depth - 1) W_most W_nodes W_scopes W_functions R_waitKinds R_waitNodes R_waitOf E_node E_scope r R_nowRow come' st' mem' M_mostSteps M_mostMemory ∧ tw_PHI st' M_mostSteps (W_depth - 1) R_waitKinds + 1 ≤ tw_PHI M_steps M_mostSteps W_depth R_waitKinds))
set_option maxRecDepth 100000 in
theorem tw_gather_ok {cs : Int → Prop} {ps : Int → Int} {V_top : Int} {V_parts : Int → Int} {V_links : Int → Int} {R_given : Int → Int} {R_firstGiven : Int → Int} {R_secondGiven : Int → Int} {p v arg : Int} {N : Nat} {B_given : Int → Int} (hN : 300 ≤ N) (h0 : 0 ≤ V_top) (ht : V_top ≤ 3201) (p0 : 0 ≤ p) (p1 : p < V_top) (h : tw_BU cs ps V_top V_parts V_links R_given R_firstGiven R_secondGiven p v) (ha : tw_vok cs V_top arg) :
    ∃ B', f_Builtins_gather N V_top V_parts V_links B_given p arg (R_given v) = some B' ∧ ∀ (R_of : Int → Int), ∀ i, 0 ≤ i → i < R_given v + 1 → tw_vok cs V_top (B' i) ∧ upZ (upZ (upZ R_of 0 (if R_given v = 0 then ps arg else R_firstGiven v)) 1 (if R_given v = 1 then ps arg else R_secondGiven v)) 2 (ps arg) i = ps (B' i) := by
  obtain ⟨M, rfl⟩ : ∃ M, N = M + 10 := ⟨N - 10, by omega⟩
  rcases h with ⟨a1, a2⟩ | ⟨a1, a2, a3, a4, a5⟩ | ⟨a1, a2, a3, a4, a5, a6, a7, a8⟩
  · rw [a1]
    refine ⟨upZ B_given 0 arg, ?_, fun R_of i i0 i1 => ?_⟩
    · unfold f_Builtins_gather
      (first | refine tw_ite_t (by first | omega | (simp only [tw_gq]; omega)) ?_ | refine tw_ite_f (by first | omega | (simp only [tw_gq]; omega)) ?_)
      refine tw_ob4_t (a1 := V_parts p) (a2 := V_links p) (a3 := -1) (a4 := upZ B_given 0 arg) ?_ rfl
      rw [show min (0 : Int) 2 = 0 by omega]
      rw [f_Builtins_gather_L13]; (first | refine tw_ite_t (by first | omega | (simp only [tw_gq]; omega)) ?_ | refine tw_ite_f (by first | omega | (simp only [tw_gq]; omega)) ?_); (first | refine tw_ite_t (by first | omega | (simp only [tw_gq]; omega)) ?_ | refine tw_ite_f (by first | omega | (simp only [tw_gq]; omega)) ?_); (first | refine tw_ite_t (by first | omega | (simp only [tw_gq]; omega)) ?_ | refine tw_ite_f (by first | omega | (simp only [tw_gq]; omega)) ?_)
      refine tw_bind_t (tw_vAr p0 p1 ht) ?_
      refine tw_bind_t (tw_vBe p0 p1 ht) ?_
      rw [f_Builtins_gather_L13]; (first | refine tw_ite_t (by first | omega | (simp only [tw_gq]; omega)) ?_ | refine tw_ite_f (by first | omega | (simp only [tw_gq]; omega)) ?_); (first | refine tw_ite_t (by first | omega | (simp only [tw_gq]; omega)) ?_ | refine tw_ite_f (by first | omega | (simp only [tw_gq]; omega)) ?_); rfl
    · have : i = 0 := by omega
      subst this
      rw [tw_upS, tw_upN _ (by decide), tw_upN _ (by decide), tw_upS, if_pos rfl]
      exact ⟨ha, rfl⟩
  · obtain ⟨b0, b1, -⟩ := a2
    rw [a1]
    refine ⟨upZ (upZ B_given 1 arg) 0 (V_parts p), ?_, fun R_of i i0 i1 => ?_⟩
    · unfold f_Builtins_gather
      (first | refine tw_ite_t (by first | omega | (simp only [tw_gq]; omega)) ?_ | refine tw_ite_f (by first | omega | (simp only [tw_gq]; omega)) ?_)
      refine tw_ob4_t (a1 := V_parts (V_links p)) (a2 := V_links (V_links p)) (a3 := -1) (a4 := upZ (upZ B_given 1 arg) 0 (V_parts p)) ?_ rfl
      rw [show min (1 : Int) 2 = 1 by omega]
      rw [f_Builtins_gather_L13]; (first | refine tw_ite_t (by first | omega | (simp only [tw_gq]; omega)) ?_ | refine tw_ite_f (by first | omega | (simp only [tw_gq]; omega)) ?_); (first | refine tw_ite_t (by first | omega | (simp only [tw_gq]; omega)) ?_ | refine tw_ite_f (by first | omega | (simp only [tw_gq]; omega)) ?_); (first | refine tw_ite_t (by first | omega | (simp only [tw_gq]; omega)) ?_ | refine tw_ite_f (by first | omega | (simp only [tw_gq]; omega)) ?_)
      refine tw_bind_t (tw_vAr p0 p1 ht) ?_
      refine tw_bind_t (tw_vBe p0 p1 ht) ?_
      rw [f_Builtins_gather_L13]; (first | refine tw_ite_t (by first | omega | (simp only [tw_gq]; omega)) ?_ | refine tw_ite_f (by first | omega | (simp only [tw_gq]; omega)) ?_); (first | refine tw_ite_t (by first | omega | (simp only [tw_gq]; omega)) ?_ | refine tw_ite_f (by first | omega | (simp only [tw_gq]; omega)) ?_); (first | refine tw_ite_t (by first | omega | (simp only [tw_gq]; omega)) ?_ | refine tw_ite_f (by first | omega | (simp only [tw_gq]; omega)) ?_)
      refine tw_bind_t (tw_vAr b0 b1 ht) ?_
      refine tw_bind_t (tw_vBe b0 b1 ht) ?_
      rw [f_Builtins_gather_L13]; (first | refine tw_ite_t (by first | omega | (simp only [tw_gq]; omega)) ?_ | refine tw_ite_f (by first | omega | (simp only [tw_gq]; omega)) ?_); (first | refine tw_ite_t (by first | omega | (simp only [tw_gq]; omega)) ?_ | refine tw_ite_f (by first | omega | (simp only [tw_gq]; omega)) ?_); rfl
    · have : i = 0 ∨ i = 1 := by omega
      rcases this with e | e <;> subst e
      · rw [tw_upS, tw_upN _ (by decide), tw_upN _ (by decide), tw_upS, if_neg (by decide)]
        exact ⟨a4, a5⟩
      · rw [tw_upN _ (by decide), tw_upS, tw_upN _ (by decide), tw_upS, if_pos rfl]
        exact ⟨ha, rfl⟩
  · obtain ⟨b0, b1, -⟩ := a2
    obtain ⟨d0, d1, -⟩ := a3
    rw [a1]
    refine ⟨upZ (upZ (upZ B_given 2 arg) 1 (V_parts p)) 0 (V_parts (V_links p)), ?_, fun R_of i i0 i1 => ?_⟩
    · unfold f_Builtins_gather
      (first | refine tw_ite_t (by first | omega | (simp only [tw_gq]; omega)) ?_ | refine tw_ite_f (by first | omega | (simp only [tw_gq]; omega)) ?_)
      refine tw_ob4_t (a1 := V_parts (V_links (V_links p))) (a2 := V_links (V_links (V_links p))) (a3 := -1) (a4 := upZ (upZ (upZ B_given 2 arg) 1 (V_parts p)) 0 (V_parts (V_links p))) ?_ rfl
      rw [show min (2 : Int) 2 = 2 by omega]
      rw [f_Builtins_gather_L13]; (first | refine tw_ite_t (by first | omega | (simp only [tw_gq]; omega)) ?_ | refine tw_ite_f (by first | omega | (simp only [tw_gq]; omega)) ?_); (first | refine tw_ite_t (by first | omega | (simp only [tw_gq]; omega)) ?_ | refine tw_ite_f (by first | omega | (simp only [tw_gq]; omega)) ?_); (first | refine tw_ite_t (by first | omega | (simp only [tw_gq]; omega)) ?_ | refine tw_ite_f (by first | omega | (simp only [tw_gq]; omega)) ?_)
      refine tw_bind_t (tw_vAr p0 p1 ht) ?_
      refine tw_bind_t (tw_vBe p0 p1 ht) ?_
      rw [f_Builtins_gather_L13]; (first | refine tw_ite_t (by first | omega | (simp only [tw_gq]; omega)) ?_ | refine tw_ite_f (by first | omega | (simp only [tw_gq]; omega)) ?_); (first | refine tw_ite_t (by first | omega | (simp only [tw_gq]; omega)) ?_ | refine tw_ite_f (by first | omega | (simp only [tw_gq]; omega)) ?_); (first | refine tw_ite_t (by first | omega | (simp only [tw_gq]; omega)) ?_ | refine tw_ite_f (by first | omega | (simp only [tw_gq]; omega)) ?_)
      refine tw_bind_t (tw_vAr b0 b1 ht) ?_
      refine tw_bind_t (tw_vBe b0 b1 ht) ?_
      rw [f_Builtins_gather_L13]; (first | refine tw_ite_t (by first | omega | (simp only [tw_gq]; omega)) ?_ | refine tw_ite_f (by first | omega | (simp only [tw_gq]; omega)) ?_); (first | refine tw_ite_t (by first | omega | (simp only [tw_gq]; omega)) ?_ | refine tw_ite_f (by first | omega | (simp only [tw_gq]; omega)) ?_); (first | refine tw_ite_t (by first | omega | (simp only [tw_gq]; omega)) ?_ | refine tw_ite_f (by first | omega | (simp only [tw_gq]; omega)) ?_)
      refine tw_bind_t (tw_vAr d0 d1 ht) ?_
      refine tw_bind_t (tw_vBe d0 d1 ht) ?_
      rw [f_Builtins_gather_L13]; (first | refine tw_ite_t (by first | omega | (simp only [tw_gq]; omega)) ?_ | refine tw_ite_f (by first | omega | (simp only [tw_gq]; omega)) ?_); (first | refine tw_ite_t (by first | omega | (simp only [tw_gq]; omega)) ?_ | refine tw_ite_f (by first | omega | (simp only [tw_gq]; omega)) ?_); rfl
    · have : i = 0 ∨ i = 1 ∨ i = 2 := by omega
      rcases this with e | e | e <;> subst e
      · rw [tw_upS, tw_upN _ (by decide), tw_upN _ (by decide), tw_upS, if_neg (by decide)]
        exact ⟨a5, a7⟩
      · rw [tw_upN _ (by decide), tw_upS, tw_upN _ (by decide), tw_upS, if_neg (by decide)]
        exact ⟨a6, a8⟩
      · rw [tw_upN _ (by decide), tw_upN _ (by decide), tw_upS, tw_upS]
        exact ⟨ha, rfl⟩
set_option maxRecDepth 100000 in
theorem tw_an_1b {N : Nat} {R_constants B_given R_of R_comes : Int → Int} {puts : Int} {cs : Int → Prop} {ps : Int → Int} {nc : Int} {R_values : Int} {R_nodeOf : Int → Int} {R_rowOf : Int → Int} {D_top : Int} {D_nodes : Int → Int} {R_dataEnd : Int} {VB_top : Int} {VB_row : Int → Int} {R_textEnd : Int} {R_texts : Int → Int} {D_forms : Int → Int} {D_counts : Int → Int} {D_numbers : Int → Int} {R_forms : Int → Int} {R_tags : Int → Int} {R_counts : Int → Int} {R_textsAt : Int → Int} {V_top : Int} {V_kinds : Int → Int} {V_numbers : Int → Int} {V_parts : Int → Int} {V_links : Int → Int} {R_valueKinds : Int → Int} {R_valueNumbers : Int → Int} {R_from : Int → Int} {R_length : Int → Int} {R_given : Int → Int} {R_firstGiven : Int → Int} {R_secondGiven : Int → Int} {D_depths : Int → Int} {D_weights : Int → Int} {S_top : Int} {S_bound : Int → Int} {S_outer : Int → Int} {R_rowEnd : Int} {R_rows : Int → Int} {R_rowBegins : Int → Int} {R_rowSizes : Int → Int} {lo : Int} {hi : Int} {T_lacks : Int → Int} {T_kinds : Int → Int} {W_depth : Int} {W_most : Int} {W_nodes : Int → Int} {W_scopes : Int → Int} {W_functions : Int → Int} {R_waitKinds : Int → Int} {R_waitNodes : Int → Int} {R_waitOf : Int → Int} {E_node : Int} {E_scope : Int} {E_value : Int} {R_nowRow : Int} {R_come : Int} {M_steps : Int} {M_memory : Int} {M_mostSteps : Int} {M_mostMemory : Int} {T_nodes : Int} {T_count : Int} {T_args : Int → Int} {T_firsts : Int → Int} {TB_row : Int → Int} {R_used : Int} {R_many : Int} {R_kinds : Int → Int} {R_numbers : Int → Int} {R_firsts : Int → Int} {R_seconds : Int → Int} {R_sizes : Int → Int} {R_nodeTexts : Int → Int} {R_terms : Int → Int} (hN : 300 ≤ N) (ht : tw_TOK T_nodes T_count T_kinds T_args T_firsts T_lacks TB_row R_used R_many R_kinds R_numbers R_firsts R_seconds R_sizes R_nodeTexts R_terms lo hi cs ps R_constants) (h : tw_RUN cs ps nc R_values R_nodeOf R_rowOf D_top D_nodes R_dataEnd VB_top VB_row R_textEnd R_texts D_forms D_counts D_numbers R_forms R_tags R_counts R_textsAt V_top V_kinds V_numbers V_parts V_links R_valueKinds R_valueNumbers R_from R_length R_given R_firstGiven R_secondGiven D_depths D_weights S_top S_bound S_outer R_rowEnd R_rows R_rowBegins R_rowSizes lo hi T_lacks T_kinds W_depth W_most W_nodes W_scopes W_functions R_waitKinds R_waitNodes R_waitOf E_node E_scope E_value R_nowRow R_come M_steps M_memory M_mostSteps M_mostMemory) (hn : E_node = -1) (hd : 0 < W_depth) (hk : R_waitKinds (W_depth - 1) = 1) (k7 : V_kinds (W_functions (W_depth - 1)) = 7) (hpa : ¬ R_given (ps (W_functions (W_depth - 1))) + 1 < tw_ar (V_numbers (W_functions (W_depth - 1)))) : tw_AnB N B_given puts R_of R_comes cs ps nc R_values R_nodeOf R_rowOf D_top D_nodes R_dataEnd VB_top VB_row R_textEnd R_texts D_forms D_counts D_numbers R_forms R_tags R_counts R_textsAt V_top V_kinds V_numbers V_parts V_links R_valueKinds R_valueNumbers R_from R_length R_given R_firstGiven R_secondGiven D_depths D_weights S_top S_bound S_outer R_rowEnd R_rows R_rowBegins R_rowSizes lo hi T_lacks T_kinds W_depth W_most W_nodes W_scopes W_functions R_waitKinds R_waitNodes R_waitOf E_node E_scope E_value R_nowRow R_come M_steps M_memory M_mostSteps M_mostMemory T_nodes T_count T_args T_firsts TB_row R_used R_many R_kinds R_numbers R_firsts R_seconds R_sizes R_nodeTexts R_terms := by
  obtain ⟨hx, hT, hsc, hsm, hw, hnow, hs1, hs2, hs3, hm1, hm2, hm3⟩ := id h
  have tr := tw_TOPS_r hx hT
  obtain ⟨hI, hM, hlo, hhi, hcs⟩ := ht
  obtain ⟨t1, t2, t3, t4, t5, t6, t7, t8, t9, t10⟩ := id hI
  have hco : tw_vok cs V_top E_value ∧ R_come = ps E_value := by
    rcases hnow with ⟨⟨e1, -⟩, b, c⟩ | ⟨-, a, b⟩
    · omega
    · exact ⟨a, b⟩
  obtain ⟨hvv, hcome⟩ := hco
  obtain ⟨hv0, hv1, -⟩ := id hvv
  obtain ⟨cv0, cv1, ⟨ck, ck0, ck1, -⟩, -⟩ := hx.1 _ hvv
  have w0 := hw.1
  have w1 := hw.2.1
  have w2 := hw.2.2.1
  have we := hw.2.2.2 (W_depth - 1) (by omega) (by omega)
  obtain ⟨wn0, wn1, wc⟩ := we
  have sc1 := hsc.1
  have sc2 := hsc.2.1
  have sc4 := hsc.2.2.2.1
  have f0 := (t10 (R_used - 1) (by omega) (by omega)).2.2.2.1
  have ln : f_Waiting_lastNode W_depth W_nodes = some (W_nodes (W_depth - 1)) := by
    unfold f_Waiting_lastNode
    refine tw_bind_t (r := 1) (by unfold f_Waiting_has; (repeat (first | refine tw_ite_t (by first | omega | (simp only [tw_gq]; omega)) ?_ | refine tw_ite_f (by first | omega | (simp only [tw_gq]; omega)) ?_)); rfl) ?_
    (repeat (first | refine tw_ite_t (by first | omega | (simp only [tw_gq]; omega)) ?_ | refine tw_ite_f (by first | omega | (simp only [tw_gq]; omega)) ?_))
    rfl
  have lf : f_Waiting_lastFunction W_depth W_functions = some (W_functions (W_depth - 1)) := by
    unfold f_Waiting_lastFunction
    refine tw_bind_t (r := 1) (by unfold f_Waiting_has; (repeat (first | refine tw_ite_t (by first | omega | (simp only [tw_gq]; omega)) ?_ | refine tw_ite_f (by first | omega | (simp only [tw_gq]; omega)) ?_)); rfl) ?_
    (repeat (first | refine tw_ite_t (by first | omega | (simp only [tw_gq]; omega)) ?_ | refine tw_ite_f (by first | omega | (simp only [tw_gq]; omega)) ?_))
    rfl
  have wph : tw_PHI M_steps M_mostSteps (W_depth - 1) R_waitKinds + (if R_waitKinds (W_depth - 1) = 0 then 2 else 1) = tw_PHI M_steps M_mostSteps W_depth R_waitKinds := by
    unfold tw_PHI
    have e : W_depth.toNat = (W_depth - 1).toNat + 1 := by omega
    rw [e]
    show _ = 4 * (M_mostSteps - M_steps) + (tw_wsum R_waitKinds (W_depth - 1).toNat + (if R_waitKinds ((W_depth - 1).toNat : Int) = 0 then 2 else 1))
    rw [show (((W_depth - 1).toNat : Nat) : Int) = W_depth - 1 by omega]
    omega
  have wc' : tw_vok cs V_top (W_functions (W_depth - 1)) ∧ T_kinds (W_nodes (W_depth - 1)) = 2 ∧ R_waitOf (W_depth - 1) = ps (W_functions (W_depth - 1)) := by
    rcases wc with ⟨c, -⟩ | ⟨-, c⟩ | ⟨c, -⟩
    · omega
    · exact c
    · omega
  obtain ⟨c1, c2, c3⟩ := wc'
  clear wc
  obtain ⟨fv0, fv1, -⟩ := id c1
  obtain ⟨fr0, fr1, ⟨fk, fk0, fk1, -⟩, -⟩ := hx.1 _ c1
  rw [if_neg (by omega)] at wph
  have pp : f_Waiting_pop W_depth = some (W_depth - 1) := by
    unfold f_Waiting_pop
    (repeat (first | refine tw_ite_t (by first | omega | (simp only [tw_gq]; omega)) ?_ | refine tw_ite_f (by first | omega | (simp only [tw_gq]; omega)) ?_))
    rw [show max 0 (W_depth - 1) = W_depth - 1 by omega]
  obtain ⟨-, -, ⟨-, -, -, nr, ne, -, nk, -⟩, -, hbu⟩ := hx.1 _ c1
  obtain ⟨hb, g0, tw_g1⟩ := hbu k7
  have ne := ne (by omega)
  have nk := nk k7
  clear hbu
  obtain ⟨tk1, tk2, tk3, tk4, tk5, tk6⟩ := tw_tk_ok nk
  have hgt := tw_gt_ok hN (by omega) fv0 fv1 hb
  obtain ⟨B', x1, x2⟩ := tw_gather_ok (arg := E_value) (B_given := B_given) hN (by omega) (by omega) fv0 fv1 hb hvv
  have eg : R_given (ps (W_functions (W_depth - 1))) + 1 = tw_ar (V_numbers (W_functions (W_depth - 1))) := by omega
  have x3 := x2 R_of
  rw [eg, ← hcome] at x3
  obtain ⟨r, st', mem', fl, now', come', puts', comes', V_top', V_kinds', V_numbers', V_parts', V_links', VB_top', VB_row', D_top', D_forms', D_counts', D_numbers', D_nodes', D_depths', D_weights', R_values', R_textEnd', R_dataEnd', R_valueKinds', R_valueNumbers', R_from', R_length', R_given', R_texts', R_forms', R_tags', R_counts', R_textsAt', y1, y2, y3, y4, y5, y6, y7⟩ := tw_perf (f := ps (W_functions (W_depth - 1))) (arg := R_come) (puts := puts) (R_now := E_node) (R_come := R_come) (R_comes := R_comes) hN hx hT nk x3 ne.symm ⟨hs1, hs2, hs3⟩ ⟨hm1, hm2, hm3⟩
  have hcb : f_Mod_callBuiltin N R_values R_textEnd R_dataEnd M_steps M_memory M_mostSteps M_mostMemory 0 E_node R_come puts R_valueKinds R_valueNumbers R_from R_length R_given R_firstGiven R_secondGiven R_texts R_forms R_tags R_counts R_textsAt R_of R_comes (ps (W_functions (W_depth - 1))) R_come = tw_cbT N R_values R_textEnd R_dataEnd M_steps M_memory M_mostSteps M_mostMemory 0 E_node R_come puts R_valueKinds R_valueNumbers R_from R_length R_given R_firstGiven R_secondGiven R_texts R_forms R_tags R_counts R_textsAt (upZ (upZ (upZ R_of 0 (if R_given (ps (W_functions (W_depth - 1))) = 0 then R_come else R_firstGiven (ps (W_functions (W_depth - 1))))) 1 (if R_given (ps (W_functions (W_depth - 1))) = 1 then R_come else R_secondGiven (ps (W_functions (W_depth - 1))))) 2 R_come) R_comes (ps (W_functions (W_depth - 1))) R_come := by
    conv => lhs; unfold f_Mod_callBuiltin
    (first | refine tw_ite_t (by first | omega | (simp only [tw_gq]; omega)) ?_ | refine tw_ite_f (by first | omega | (simp only [tw_gq]; omega)) ?_); (first | refine tw_ite_t (by first | omega | (simp only [tw_gq]; omega)) ?_ | refine tw_ite_f (by first | omega | (simp only [tw_gq]; omega)) ?_)
    refine tw_bind_t (by rw [← ne]; exact tk4) ?_
    (first | refine tw_ite_t (by first | omega | (simp only [tw_gq]; omega)) ?_ | refine tw_ite_f (by first | omega | (simp only [tw_gq]; omega)) ?_); (first | refine tw_ite_t (by first | omega | (simp only [tw_gq]; omega)) ?_ | refine tw_ite_f (by first | omega | (simp only [tw_gq]; omega)) ?_); (first | refine tw_ite_t (by first | omega | (simp only [tw_gq]; omega)) ?_ | refine tw_ite_f (by first | omega | (simp only [tw_gq]; omega)) ?_)
    by_cases cg : R_given (ps (W_functions (W_depth - 1))) = 0
    · refine tw_ite_t cg ?_
      rw [if_pos cg]
      (first | refine tw_ite_t (by first | omega | (simp only [tw_gq]; omega)) ?_ | refine tw_ite_f (by first | omega | (simp only [tw_gq]; omega)) ?_); (first | refine tw_ite_t (by first | omega | (simp only [tw_gq]; omega)) ?_ | refine tw_ite_f (by first | omega | (simp only [tw_gq]; omega)) ?_); (first | refine tw_ite_t (by first | omega | (simp only [tw_gq]; omega)) ?_ | refine tw_ite_f (by first | omega | (simp only [tw_gq]; omega)) ?_); (first | refine tw_ite_t (by first | omega | (simp only [tw_gq]; omega)) ?_ | refine tw_ite_f (by first | omega | (simp only [tw_gq]; omega)) ?_); (first | refine tw_ite_t (by first | omega | (simp only [tw_gq]; omega)) ?_ | refine tw_ite_f (by first | omega | (simp only [tw_gq]; omega)) ?_); (first | refine tw_ite_t (by first | omega | (simp only [tw_gq]; omega)) ?_ | refine tw_ite_f (by first | omega | (simp only [tw_gq]; omega)) ?_)
      rw [if_neg (show ¬ R_given (ps (W_functions (W_depth - 1))) = 1 by omega)]
      rfl
    · refine tw_ite_f cg ?_
      rw [if_neg cg]
      (first | refine tw_ite_t (by first | omega | (simp only [tw_gq]; omega)) ?_ | refine tw_ite_f (by first | omega | (simp only [tw_gq]; omega)) ?_); (first | refine tw_ite_t (by first | omega | (simp only [tw_gq]; omega)) ?_ | refine tw_ite_f (by first | omega | (simp only [tw_gq]; omega)) ?_); (first | refine tw_ite_t (by first | omega | (simp only [tw_gq]; omega)) ?_ | refine tw_ite_f (by first | omega | (simp only [tw_gq]; omega)) ?_)
      by_cases cg1 : R_given (ps (W_functions (W_depth - 1))) = 1
      · refine tw_ite_t cg1 ?_
        rw [if_pos cg1]
        (first | refine tw_ite_t (by first | omega | (simp only [tw_gq]; omega)) ?_ | refine tw_ite_f (by first | omega | (simp only [tw_gq]; omega)) ?_); (first | refine tw_ite_t (by first | omega | (simp only [tw_gq]; omega)) ?_ | refine tw_ite_f (by first | omega | (simp only [tw_gq]; omega)) ?_)
        rfl
      · refine tw_ite_f cg1 ?_
        rw [if_neg cg1]
        (first | refine tw_ite_t (by first | omega | (simp only [tw_gq]; omega)) ?_ | refine tw_ite_f (by first | omega | (simp only [tw_gq]; omega)) ?_); (first | refine tw_ite_t (by first | omega | (simp only [tw_gq]; omega)) ?_ | refine tw_ite_f (by first | omega | (simp only [tw_gq]; omega)) ?_); (first | refine tw_ite_t (by first | omega | (simp only [tw_gq]; omega)) ?_ | refine tw_ite_f (by first | omega | (simp only [tw_gq]; omega)) ?_)
        rfl
  rw [← hcb] at y2
  refine ⟨V_numbers (W_functions (W_depth - 1)), r, st', mem', fl, now', come', puts', B', _, comes', V_top', V_kinds', V_numbers', V_parts', V_links', VB_top', VB_row', D_top', D_forms', D_counts', D_numbers', D_nodes', D_depths', D_weights', R_values', R_textEnd', R_dataEnd', R_valueKinds', R_valueNumbers', R_from', R_length', R_given', R_texts', R_forms', R_tags', R_counts', R_textsAt', ?_, nk.1, nk.2, y1, (?_ : _ = some (R_values', R_textEnd', R_dataEnd', R_rowEnd, S_top + 1, W_depth - 1, W_most, st', mem', fl, now', R_nowRow, come', puts', R_valueKinds', R_valueNumbers', R_from', R_length', R_given', R_firstGiven, R_secondGiven, R_texts', R_forms', R_tags', R_counts', R_textsAt', R_rows, R_rowBegins, R_rowSizes, R_waitKinds, R_waitNodes, R_waitOf, upZ (upZ (upZ R_of 0 (if R_given (ps (W_functions (W_depth - 1))) = 0 then R_come else R_firstGiven (ps (W_functions (W_depth - 1))))) 1 (if R_given (ps (W_functions (W_depth - 1))) = 1 then R_come else R_secondGiven (ps (W_functions (W_depth - 1))))) 2 R_come, comes')), by omega, by omega, by omega, by omega, ?_⟩
  · unfold f_Evaluator_goOn
    refine tw_bind_t ln ?_
    refine tw_bind_t lf ?_
    refine tw_bind_t (tw_tKind (by omega) (by omega) (by omega)) ?_
    rw [c2]
    (repeat (first | refine tw_ite_t (by first | omega | (simp only [tw_gq]; omega)) ?_ | refine tw_ite_f (by first | omega | (simp only [tw_gq]; omega)) ?_))
    refine tw_bind_t pp ?_
    refine tw_ob15_t (a1 := E_node) (a2 := E_scope) (a3 := -1) (a4 := V_top) (a5 := V_kinds) (a6 := V_numbers) (a7 := V_parts) (a8 := V_links) (a9 := M_memory) (a10 := 0) (a11 := S_top) (a12 := S_bound) (a13 := S_outer) (a14 := V_numbers (W_functions (W_depth - 1))) (a15 := B') ?_ rfl
    unfold f_Evaluator_call
    refine tw_bind_t (tw_vK fv0 fv1 (by omega)) ?_
    (repeat (first | refine tw_ite_t (by first | omega | (simp only [tw_gq]; omega)) ?_ | refine tw_ite_f (by first | omega | (simp only [tw_gq]; omega)) ?_))
    refine tw_ob10_t (a1 := -1) (a2 := V_top) (a3 := V_kinds) (a4 := V_numbers) (a5 := V_parts) (a6 := V_links) (a7 := M_memory) (a8 := 0) (a9 := V_numbers (W_functions (W_depth - 1))) (a10 := B') ?_ rfl
    unfold f_Builtins_take
    refine tw_bind_t (tw_vN fv0 fv1 (by omega)) ?_
    refine tw_bind_t hgt ?_
    refine tw_bind_t (r := -1) (by rw [eg]; exact tk2) ?_
    (first | refine tw_ite_t (by first | omega | (simp only [tw_gq]; omega)) ?_ | refine tw_ite_f (by first | omega | (simp only [tw_gq]; omega)) ?_); (first | refine tw_ite_t (by first | omega | (simp only [tw_gq]; omega)) ?_ | refine tw_ite_f (by first | omega | (simp only [tw_gq]; omega)) ?_)
    refine tw_bind_t x1 ?_
    rfl
  · unfold f_Mod_answered
    rw [c3, ← fk]
    (repeat (first | refine tw_ite_t (by first | omega | (simp only [tw_gq]; omega)) ?_ | refine tw_ite_f (by first | omega | (simp only [tw_gq]; omega)) ?_))
    exact tw_ob23_t y2 rfl
  · rcases y7 with y7 | ⟨e1, e2, e3, e4, e5, e6, e7⟩
    · exact Or.inl y7
    · have vt := e5.2.2.2.2.2.2.2.2.2.2.2.2.2.2.1
      refine Or.inr ⟨e1, e2, ⟨e4, e7, tw_SC_mono hsc vt, by omega, tw_WT_mono ⟨by omega, by omega, w2, fun i i0 i1 => hw.2.2.2 i i0 (by omega)⟩ vt (Int.le_refl _) tw_GR_refl, Or.inr ⟨hn, e6, e3⟩, by omega, by omega, hs3, by omega, by omega, hm3⟩, ?_⟩
      have z : tw_PHI st' M_mostSteps (W_depth - 1) R_waitKinds ≤ tw_PHI M_steps M_mostSteps (W_depth - 1) R_waitKinds := by unfold tw_PHI; omega
      omega
set_option maxRecDepth 100000 in
theorem tw_an_step {N : Nat} {R_constants B_given R_of R_comes : Int → Int} {puts : Int} {cs : Int → Prop} {ps : Int → Int} {nc : Int} {R_values : Int} {R_nodeOf : Int → Int} {R_rowOf : Int → Int} {D_top : Int} {D_nodes : Int → Int} {R_dataEnd : Int} {VB_top : Int} {VB_row : Int → Int} {R_textEnd : Int} {R_texts : Int → Int} {D_forms : Int → Int} {D_counts : Int → Int} {D_numbers : Int → Int} {R_forms : Int → Int} {R_tags : Int → Int} {R_counts : Int → Int} {R_textsAt : Int → Int} {V_top : Int} {V_kinds : Int → Int} {V_numbers : Int → Int} {V_parts : Int → Int} {V_links : Int → Int} {R_valueKinds : Int → Int} {R_valueNumbers : Int → Int} {R_from : Int → Int} {R_length : Int → Int} {R_given : Int → Int} {R_firstGiven : Int → Int} {R_secondGiven : Int → Int} {D_depths : Int → Int} {D_weights : Int → Int} {S_top : Int} {S_bound : Int → Int} {S_outer : Int → Int} {R_rowEnd : Int} {R_rows : Int → Int} {R_rowBegins : Int → Int} {R_rowSizes : Int → Int} {lo : Int} {hi : Int} {T_lacks : Int → Int} {T_kinds : Int → Int} {W_depth : Int} {W_most : Int} {W_nodes : Int → Int} {W_scopes : Int → Int} {W_functions : Int → Int} {R_waitKinds : Int → Int} {R_waitNodes : Int → Int} {R_waitOf : Int → Int} {E_node : Int} {E_scope : Int} {E_value : Int} {R_nowRow : Int} {R_come : Int} {M_steps : Int} {M_memory : Int} {M_mostSteps : Int} {M_mostMemory : Int} {T_nodes : Int} {T_count : Int} {T_args : Int → Int} {T_firsts : Int → Int} {TB_row : Int → Int} {R_used : Int} {R_many : Int} {R_kinds : Int → Int} {R_numbers : Int → Int} {R_firsts : Int → Int} {R_seconds : Int → Int} {R_sizes : Int → Int} {R_nodeTexts : Int → Int} {R_terms : Int → Int} (hN : 300 ≤ N) (ht : tw_TOK T_nodes T_count T_kinds T_args T_firsts T_lacks TB_row R_used R_many R_kinds R_numbers R_firsts R_seconds R_sizes R_nodeTexts R_terms lo hi cs ps R_constants) (h : tw_RUN cs ps nc R_values R_nodeOf R_rowOf D_top D_nodes R_dataEnd VB_top VB_row R_textEnd R_texts D_forms D_counts D_numbers R_forms R_tags R_counts R_textsAt V_top V_kinds V_numbers V_parts V_links R_valueKinds R_valueNumbers R_from R_length R_given R_firstGiven R_secondGiven D_depths D_weights S_top S_bound S_outer R_rowEnd R_rows R_rowBegins R_rowSizes lo hi T_lacks T_kinds W_depth W_most W_nodes W_scopes W_functions R_waitKinds R_waitNodes R_waitOf E_node E_scope E_value R_nowRow R_come M_steps M_memory M_mostSteps M_mostMemory) (hn : E_node = -1) (hd : 0 < W_depth) : tw_AnS N B_given puts R_of R_comes cs ps nc R_values R_nodeOf R_rowOf D_top D_nodes R_dataEnd VB_top VB_row R_textEnd R_texts D_forms D_counts D_numbers R_forms R_tags R_counts R_textsAt V_top V_kinds V_numbers V_parts V_links R_valueKinds R_valueNumbers R_from R_length R_given R_firstGiven R_secondGiven D_depths D_weights S_top S_bound S_outer R_rowEnd R_rows R_rowBegins R_rowSizes lo hi T_lacks T_kinds W_depth W_most W_nodes W_scopes W_functions R_waitKinds R_waitNodes R_waitOf E_node E_scope E_value R_nowRow R_come M_steps M_memory M_mostSteps M_mostMemory T_nodes T_count T_args T_firsts TB_row R_used R_many R_kinds R_numbers R_firsts R_seconds R_sizes R_nodeTexts R_terms ∨ tw_AnB N B_given puts R_of R_comes cs ps nc R_values R_nodeOf R_rowOf D_top D_nodes R_dataEnd VB_top VB_row R_textEnd R_texts D_forms D_counts D_numbers R_forms R_tags R_counts R_textsAt V_top V_kinds V_numbers V_parts V_links R_valueKinds R_valueNumbers R_from R_length R_given R_firstGiven R_secondGiven D_depths D_weights S_top S_bound S_outer R_rowEnd R_rows R_rowBegins R_rowSizes lo hi T_lacks T_kinds W_depth W_most W_nodes W_scopes W_functions R_waitKinds R_waitNodes R_waitOf E_node E_scope E_value R_nowRow R_come M_steps M_memory M_mostSteps M_mostMemory T_nodes T_count T_args T_firsts TB_row R_used R_many R_kinds R_numbers R_firsts R_seconds R_sizes R_nodeTexts R_terms := by
  have wc := (id h).2.2.2.2.1.2.2.2 (W_depth - 1) (by omega) (by omega)
  rcases wc.2.2 with ⟨c, -⟩ | ⟨c, -⟩ | ⟨c, -⟩
  · exact Or.inl (tw_an_0 hN ht h hn hd c)
  · by_cases k5 : V_kinds (W_functions (W_depth - 1)) = 5
    · exact Or.inl (tw_an_1f hN ht h hn hd c k5)
    · by_cases k7 : V_kinds (W_functions (W_depth - 1)) = 7
      · by_cases hp : R_given (ps (W_functions (W_depth - 1))) + 1 < tw_ar (V_numbers (W_functions (W_depth - 1)))
        · exact Or.inl (tw_an_1p hN ht h hn hd c k7 hp)
        · exact Or.inr (tw_an_1b hN ht h hn hd c k7 hp)
      · exact Or.inl (tw_an_1x hN ht h hn hd c k5 k7)
  · exact Or.inl (tw_an_2 hN ht h hn hd c)
