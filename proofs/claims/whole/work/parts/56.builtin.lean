set_option maxRecDepth 100000 in
theorem tw_w32_r (z : Int) : -2147483648 ≤ j_w32 z ∧ j_w32 z ≤ 2147483647 := by
  unfold j_w32; rw [tw_zI_toInt, tw_bm32]; omega
set_option maxRecDepth 100000 in
theorem tw_w32_id {z : Int} (h0 : -2147483648 ≤ z) (h1 : z ≤ 2147483647) : j_w32 z = z := by
  unfold j_w32; rw [tw_zI_toInt, tw_bm32]; omega
set_option maxRecDepth 100000 in
theorem tw_dF_w {t q : Int} {f : Int → Int} (h0 : 0 ≤ q) (h1 : q < t) (ht : t ≤ 3201) : f_DataRow_formOf t f (j_w32 q) = some (f q) := by
  rw [tw_w32_id (by omega) (by omega)]
  exact tw_dF_in h0 h1 ht
set_option maxRecDepth 100000 in
theorem tw_dF_any {t : Int} {f : Int → Int} (q : Int) (ht : 0 ≤ t ∧ t ≤ 3201) : ∃ x, f_DataRow_formOf t f (j_w32 q) = some x := by
  have hr := tw_w32_r q
  generalize j_w32 q = y at *
  by_cases a : 0 ≤ y
  · by_cases b : y < t
    · exact ⟨_, tw_dF_in a b ht.2⟩
    · refine ⟨-1, ?_⟩
      unfold f_DataRow_formOf
      (repeat (first | refine tw_ite_t (by first | omega | (simp only [tw_gq]; omega)) ?_ | refine tw_ite_f (by first | omega | (simp only [tw_gq]; omega)) ?_)); rfl
  · refine ⟨-1, ?_⟩
    unfold f_DataRow_formOf
    (repeat (first | refine tw_ite_t (by first | omega | (simp only [tw_gq]; omega)) ?_ | refine tw_ite_f (by first | omega | (simp only [tw_gq]; omega)) ?_)); rfl
set_option maxRecDepth 100000 in
theorem tw_kind_r {ok : Int → Int → Int → Prop} {cs : Int → Prop} {ps : Int → Int} {nc : Int} {R_values : Int} {R_nodeOf : Int → Int} {R_rowOf : Int → Int} {D_top : Int} {D_nodes : Int → Int} {R_dataEnd : Int} {VB_top : Int} {VB_row : Int → Int} {R_textEnd : Int} {R_texts : Int → Int} {D_forms : Int → Int} {D_counts : Int → Int} {D_numbers : Int → Int} {R_forms : Int → Int} {R_tags : Int → Int} {R_counts : Int → Int} {R_textsAt : Int → Int} {V_top : Int} {V_kinds : Int → Int} {V_numbers : Int → Int} {V_parts : Int → Int} {V_links : Int → Int} {R_valueKinds : Int → Int} {R_valueNumbers : Int → Int} {R_from : Int → Int} {R_length : Int → Int} {R_given : Int → Int} {R_firstGiven : Int → Int} {R_secondGiven : Int → Int} {D_depths : Int → Int} {D_weights : Int → Int} {m p : Int} {N : Nat} (hN : 300 ≤ N) (h : tw_XV ok cs ps nc R_values R_nodeOf R_rowOf D_top D_nodes R_dataEnd VB_top VB_row R_textEnd R_texts D_forms D_counts D_numbers R_forms R_tags R_counts R_textsAt V_top V_kinds V_numbers V_parts V_links R_valueKinds R_valueNumbers R_from R_length R_given R_firstGiven R_secondGiven D_depths D_weights) (hT : tw_TOPS V_top D_top VB_top R_textEnd R_dataEnd m) (g : tw_vok cs V_top p) : 0 ≤ V_kinds p ∧ V_kinds p ≤ 7 := by
  obtain ⟨-, -, ⟨-, a, b, -⟩, -⟩ := h.1 _ g
  exact ⟨a, b⟩
set_option maxRecDepth 100000 in
theorem tw_fl_v {ok : Int → Int → Int → Prop} {cs : Int → Prop} {ps : Int → Int} {nc : Int} {R_values : Int} {R_nodeOf : Int → Int} {R_rowOf : Int → Int} {D_top : Int} {D_nodes : Int → Int} {R_dataEnd : Int} {VB_top : Int} {VB_row : Int → Int} {R_textEnd : Int} {R_texts : Int → Int} {D_forms : Int → Int} {D_counts : Int → Int} {D_numbers : Int → Int} {R_forms : Int → Int} {R_tags : Int → Int} {R_counts : Int → Int} {R_textsAt : Int → Int} {V_top : Int} {V_kinds : Int → Int} {V_numbers : Int → Int} {V_parts : Int → Int} {V_links : Int → Int} {R_valueKinds : Int → Int} {R_valueNumbers : Int → Int} {R_from : Int → Int} {R_length : Int → Int} {R_given : Int → Int} {R_firstGiven : Int → Int} {R_secondGiven : Int → Int} {D_depths : Int → Int} {D_weights : Int → Int} {m p : Int} {N : Nat} (hN : 300 ≤ N) (h : tw_XV ok cs ps nc R_values R_nodeOf R_rowOf D_top D_nodes R_dataEnd VB_top VB_row R_textEnd R_texts D_forms D_counts D_numbers R_forms R_tags R_counts R_textsAt V_top V_kinds V_numbers V_parts V_links R_valueKinds R_valueNumbers R_from R_length R_given R_firstGiven R_secondGiven D_depths D_weights) (hT : tw_TOPS V_top D_top VB_top R_textEnd R_dataEnd m) (g : tw_vok cs V_top p) : f_Builtins_fits V_top V_kinds V_parts D_top D_forms 8 p = some 1 := by
  have tr := tw_TOPS_r h hT
  obtain ⟨p0, p1, -⟩ := id g
  unfold f_Builtins_fits
  refine tw_bind_t (tw_vK p0 p1 (by omega)) ?_
  (first | refine tw_ite_t (by first | omega | (simp only [tw_gq]; omega)) ?_ | refine tw_ite_f (by first | omega | (simp only [tw_gq]; omega)) ?_); (first | refine tw_ite_t (by first | omega | (simp only [tw_gq]; omega)) ?_ | refine tw_ite_f (by first | omega | (simp only [tw_gq]; omega)) ?_); (first | refine tw_ite_t (by first | omega | (simp only [tw_gq]; omega)) ?_ | refine tw_ite_f (by first | omega | (simp only [tw_gq]; omega)) ?_); (first | refine tw_ite_t (by first | omega | (simp only [tw_gq]; omega)) ?_ | refine tw_ite_f (by first | omega | (simp only [tw_gq]; omega)) ?_); rfl
set_option maxRecDepth 100000 in
theorem tw_fl_i {ok : Int → Int → Int → Prop} {cs : Int → Prop} {ps : Int → Int} {nc : Int} {R_values : Int} {R_nodeOf : Int → Int} {R_rowOf : Int → Int} {D_top : Int} {D_nodes : Int → Int} {R_dataEnd : Int} {VB_top : Int} {VB_row : Int → Int} {R_textEnd : Int} {R_texts : Int → Int} {D_forms : Int → Int} {D_counts : Int → Int} {D_numbers : Int → Int} {R_forms : Int → Int} {R_tags : Int → Int} {R_counts : Int → Int} {R_textsAt : Int → Int} {V_top : Int} {V_kinds : Int → Int} {V_numbers : Int → Int} {V_parts : Int → Int} {V_links : Int → Int} {R_valueKinds : Int → Int} {R_valueNumbers : Int → Int} {R_from : Int → Int} {R_length : Int → Int} {R_given : Int → Int} {R_firstGiven : Int → Int} {R_secondGiven : Int → Int} {D_depths : Int → Int} {D_weights : Int → Int} {m p : Int} {N : Nat} (hN : 300 ≤ N) (h : tw_XV ok cs ps nc R_values R_nodeOf R_rowOf D_top D_nodes R_dataEnd VB_top VB_row R_textEnd R_texts D_forms D_counts D_numbers R_forms R_tags R_counts R_textsAt V_top V_kinds V_numbers V_parts V_links R_valueKinds R_valueNumbers R_from R_length R_given R_firstGiven R_secondGiven D_depths D_weights) (hT : tw_TOPS V_top D_top VB_top R_textEnd R_dataEnd m) (g : tw_vok cs V_top p) : f_Builtins_fits V_top V_kinds V_parts D_top D_forms 0 p = some (if V_kinds p = 0 then 1 else 0) := by
  have tr := tw_TOPS_r h hT
  have kr := tw_kind_r hN h hT g
  obtain ⟨p0, p1, -⟩ := id g
  unfold f_Builtins_fits
  refine tw_bind_t (tw_vK p0 p1 (by omega)) ?_
  (first | refine tw_ite_t (by first | omega | (simp only [tw_gq]; omega)) ?_ | refine tw_ite_f (by first | omega | (simp only [tw_gq]; omega)) ?_); (first | refine tw_ite_t (by first | omega | (simp only [tw_gq]; omega)) ?_ | refine tw_ite_f (by first | omega | (simp only [tw_gq]; omega)) ?_); (first | refine tw_ite_t (by first | omega | (simp only [tw_gq]; omega)) ?_ | refine tw_ite_f (by first | omega | (simp only [tw_gq]; omega)) ?_); (first | refine tw_ite_t (by first | omega | (simp only [tw_gq]; omega)) ?_ | refine tw_ite_f (by first | omega | (simp only [tw_gq]; omega)) ?_); (first | refine tw_ite_t (by first | omega | (simp only [tw_gq]; omega)) ?_ | refine tw_ite_f (by first | omega | (simp only [tw_gq]; omega)) ?_)
  by_cases e : V_kinds p = 0
  · (first | refine tw_ite_t (by first | omega | (simp only [tw_gq]; omega)) ?_ | refine tw_ite_f (by first | omega | (simp only [tw_gq]; omega)) ?_); rw [if_pos e]
  · (first | refine tw_ite_t (by first | omega | (simp only [tw_gq]; omega)) ?_ | refine tw_ite_f (by first | omega | (simp only [tw_gq]; omega)) ?_); rw [if_neg e]
set_option maxRecDepth 100000 in
theorem tw_fl_s {ok : Int → Int → Int → Prop} {cs : Int → Prop} {ps : Int → Int} {nc : Int} {R_values : Int} {R_nodeOf : Int → Int} {R_rowOf : Int → Int} {D_top : Int} {D_nodes : Int → Int} {R_dataEnd : Int} {VB_top : Int} {VB_row : Int → Int} {R_textEnd : Int} {R_texts : Int → Int} {D_forms : Int → Int} {D_counts : Int → Int} {D_numbers : Int → Int} {R_forms : Int → Int} {R_tags : Int → Int} {R_counts : Int → Int} {R_textsAt : Int → Int} {V_top : Int} {V_kinds : Int → Int} {V_numbers : Int → Int} {V_parts : Int → Int} {V_links : Int → Int} {R_valueKinds : Int → Int} {R_valueNumbers : Int → Int} {R_from : Int → Int} {R_length : Int → Int} {R_given : Int → Int} {R_firstGiven : Int → Int} {R_secondGiven : Int → Int} {D_depths : Int → Int} {D_weights : Int → Int} {m p : Int} {N : Nat} (hN : 300 ≤ N) (h : tw_XV ok cs ps nc R_values R_nodeOf R_rowOf D_top D_nodes R_dataEnd VB_top VB_row R_textEnd R_texts D_forms D_counts D_numbers R_forms R_tags R_counts R_textsAt V_top V_kinds V_numbers V_parts V_links R_valueKinds R_valueNumbers R_from R_length R_given R_firstGiven R_secondGiven D_depths D_weights) (hT : tw_TOPS V_top D_top VB_top R_textEnd R_dataEnd m) (g : tw_vok cs V_top p) : f_Builtins_fits V_top V_kinds V_parts D_top D_forms 1 p = some (if V_kinds p = 1 then 1 else 0) := by
  have tr := tw_TOPS_r h hT
  have kr := tw_kind_r hN h hT g
  obtain ⟨p0, p1, -⟩ := id g
  unfold f_Builtins_fits
  refine tw_bind_t (tw_vK p0 p1 (by omega)) ?_
  (first | refine tw_ite_t (by first | omega | (simp only [tw_gq]; omega)) ?_ | refine tw_ite_f (by first | omega | (simp only [tw_gq]; omega)) ?_); (first | refine tw_ite_t (by first | omega | (simp only [tw_gq]; omega)) ?_ | refine tw_ite_f (by first | omega | (simp only [tw_gq]; omega)) ?_); (first | refine tw_ite_t (by first | omega | (simp only [tw_gq]; omega)) ?_ | refine tw_ite_f (by first | omega | (simp only [tw_gq]; omega)) ?_); (first | refine tw_ite_t (by first | omega | (simp only [tw_gq]; omega)) ?_ | refine tw_ite_f (by first | omega | (simp only [tw_gq]; omega)) ?_); (first | refine tw_ite_t (by first | omega | (simp only [tw_gq]; omega)) ?_ | refine tw_ite_f (by first | omega | (simp only [tw_gq]; omega)) ?_)
  by_cases e : V_kinds p = 1
  · (first | refine tw_ite_t (by first | omega | (simp only [tw_gq]; omega)) ?_ | refine tw_ite_f (by first | omega | (simp only [tw_gq]; omega)) ?_); rw [if_pos e]
  · (first | refine tw_ite_t (by first | omega | (simp only [tw_gq]; omega)) ?_ | refine tw_ite_f (by first | omega | (simp only [tw_gq]; omega)) ?_); rw [if_neg e]
set_option maxRecDepth 100000 in
theorem tw_fl_t {ok : Int → Int → Int → Prop} {cs : Int → Prop} {ps : Int → Int} {nc : Int} {R_values : Int} {R_nodeOf : Int → Int} {R_rowOf : Int → Int} {D_top : Int} {D_nodes : Int → Int} {R_dataEnd : Int} {VB_top : Int} {VB_row : Int → Int} {R_textEnd : Int} {R_texts : Int → Int} {D_forms : Int → Int} {D_counts : Int → Int} {D_numbers : Int → Int} {R_forms : Int → Int} {R_tags : Int → Int} {R_counts : Int → Int} {R_textsAt : Int → Int} {V_top : Int} {V_kinds : Int → Int} {V_numbers : Int → Int} {V_parts : Int → Int} {V_links : Int → Int} {R_valueKinds : Int → Int} {R_valueNumbers : Int → Int} {R_from : Int → Int} {R_length : Int → Int} {R_given : Int → Int} {R_firstGiven : Int → Int} {R_secondGiven : Int → Int} {D_depths : Int → Int} {D_weights : Int → Int} {m p : Int} {N : Nat} (hN : 300 ≤ N) (h : tw_XV ok cs ps nc R_values R_nodeOf R_rowOf D_top D_nodes R_dataEnd VB_top VB_row R_textEnd R_texts D_forms D_counts D_numbers R_forms R_tags R_counts R_textsAt V_top V_kinds V_numbers V_parts V_links R_valueKinds R_valueNumbers R_from R_length R_given R_firstGiven R_secondGiven D_depths D_weights) (hT : tw_TOPS V_top D_top VB_top R_textEnd R_dataEnd m) (g : tw_vok cs V_top p) : f_Builtins_fits V_top V_kinds V_parts D_top D_forms 2 p = some (if V_kinds p = 2 then 1 else 0) := by
  have tr := tw_TOPS_r h hT
  have kr := tw_kind_r hN h hT g
  obtain ⟨p0, p1, -⟩ := id g
  unfold f_Builtins_fits
  refine tw_bind_t (tw_vK p0 p1 (by omega)) ?_
  (first | refine tw_ite_t (by first | omega | (simp only [tw_gq]; omega)) ?_ | refine tw_ite_f (by first | omega | (simp only [tw_gq]; omega)) ?_); (first | refine tw_ite_t (by first | omega | (simp only [tw_gq]; omega)) ?_ | refine tw_ite_f (by first | omega | (simp only [tw_gq]; omega)) ?_); (first | refine tw_ite_t (by first | omega | (simp only [tw_gq]; omega)) ?_ | refine tw_ite_f (by first | omega | (simp only [tw_gq]; omega)) ?_); (first | refine tw_ite_t (by first | omega | (simp only [tw_gq]; omega)) ?_ | refine tw_ite_f (by first | omega | (simp only [tw_gq]; omega)) ?_); (first | refine tw_ite_t (by first | omega | (simp only [tw_gq]; omega)) ?_ | refine tw_ite_f (by first | omega | (simp only [tw_gq]; omega)) ?_)
  by_cases e : V_kinds p = 2
  · (first | refine tw_ite_t (by first | omega | (simp only [tw_gq]; omega)) ?_ | refine tw_ite_f (by first | omega | (simp only [tw_gq]; omega)) ?_); rw [if_pos e]
  · (first | refine tw_ite_t (by first | omega | (simp only [tw_gq]; omega)) ?_ | refine tw_ite_f (by first | omega | (simp only [tw_gq]; omega)) ?_); rw [if_neg e]
set_option maxRecDepth 100000 in
theorem tw_fl_d {ok : Int → Int → Int → Prop} {cs : Int → Prop} {ps : Int → Int} {nc : Int} {R_values : Int} {R_nodeOf : Int → Int} {R_rowOf : Int → Int} {D_top : Int} {D_nodes : Int → Int} {R_dataEnd : Int} {VB_top : Int} {VB_row : Int → Int} {R_textEnd : Int} {R_texts : Int → Int} {D_forms : Int → Int} {D_counts : Int → Int} {D_numbers : Int → Int} {R_forms : Int → Int} {R_tags : Int → Int} {R_counts : Int → Int} {R_textsAt : Int → Int} {V_top : Int} {V_kinds : Int → Int} {V_numbers : Int → Int} {V_parts : Int → Int} {V_links : Int → Int} {R_valueKinds : Int → Int} {R_valueNumbers : Int → Int} {R_from : Int → Int} {R_length : Int → Int} {R_given : Int → Int} {R_firstGiven : Int → Int} {R_secondGiven : Int → Int} {D_depths : Int → Int} {D_weights : Int → Int} {m p : Int} {N : Nat} (hN : 300 ≤ N) (h : tw_XV ok cs ps nc R_values R_nodeOf R_rowOf D_top D_nodes R_dataEnd VB_top VB_row R_textEnd R_texts D_forms D_counts D_numbers R_forms R_tags R_counts R_textsAt V_top V_kinds V_numbers V_parts V_links R_valueKinds R_valueNumbers R_from R_length R_given R_firstGiven R_secondGiven D_depths D_weights) (hT : tw_TOPS V_top D_top VB_top R_textEnd R_dataEnd m) (g : tw_vok cs V_top p) : f_Builtins_fits V_top V_kinds V_parts D_top D_forms 4 p = some (if V_kinds p = 4 then 1 else 0) := by
  have tr := tw_TOPS_r h hT
  have kr := tw_kind_r hN h hT g
  obtain ⟨p0, p1, -⟩ := id g
  unfold f_Builtins_fits
  refine tw_bind_t (tw_vK p0 p1 (by omega)) ?_
  (first | refine tw_ite_t (by first | omega | (simp only [tw_gq]; omega)) ?_ | refine tw_ite_f (by first | omega | (simp only [tw_gq]; omega)) ?_); (first | refine tw_ite_t (by first | omega | (simp only [tw_gq]; omega)) ?_ | refine tw_ite_f (by first | omega | (simp only [tw_gq]; omega)) ?_); (first | refine tw_ite_t (by first | omega | (simp only [tw_gq]; omega)) ?_ | refine tw_ite_f (by first | omega | (simp only [tw_gq]; omega)) ?_); (first | refine tw_ite_t (by first | omega | (simp only [tw_gq]; omega)) ?_ | refine tw_ite_f (by first | omega | (simp only [tw_gq]; omega)) ?_); (first | refine tw_ite_t (by first | omega | (simp only [tw_gq]; omega)) ?_ | refine tw_ite_f (by first | omega | (simp only [tw_gq]; omega)) ?_)
  by_cases e : V_kinds p = 4
  · (first | refine tw_ite_t (by first | omega | (simp only [tw_gq]; omega)) ?_ | refine tw_ite_f (by first | omega | (simp only [tw_gq]; omega)) ?_); rw [if_pos e]
  · (first | refine tw_ite_t (by first | omega | (simp only [tw_gq]; omega)) ?_ | refine tw_ite_f (by first | omega | (simp only [tw_gq]; omega)) ?_); rw [if_neg e]
set_option maxRecDepth 100000 in
theorem tw_fl_c {ok : Int → Int → Int → Prop} {cs : Int → Prop} {ps : Int → Int} {nc : Int} {R_values : Int} {R_nodeOf : Int → Int} {R_rowOf : Int → Int} {D_top : Int} {D_nodes : Int → Int} {R_dataEnd : Int} {VB_top : Int} {VB_row : Int → Int} {R_textEnd : Int} {R_texts : Int → Int} {D_forms : Int → Int} {D_counts : Int → Int} {D_numbers : Int → Int} {R_forms : Int → Int} {R_tags : Int → Int} {R_counts : Int → Int} {R_textsAt : Int → Int} {V_top : Int} {V_kinds : Int → Int} {V_numbers : Int → Int} {V_parts : Int → Int} {V_links : Int → Int} {R_valueKinds : Int → Int} {R_valueNumbers : Int → Int} {R_from : Int → Int} {R_length : Int → Int} {R_given : Int → Int} {R_firstGiven : Int → Int} {R_secondGiven : Int → Int} {D_depths : Int → Int} {D_weights : Int → Int} {m p : Int} {N : Nat} (hN : 300 ≤ N) (h : tw_XV ok cs ps nc R_values R_nodeOf R_rowOf D_top D_nodes R_dataEnd VB_top VB_row R_textEnd R_texts D_forms D_counts D_numbers R_forms R_tags R_counts R_textsAt V_top V_kinds V_numbers V_parts V_links R_valueKinds R_valueNumbers R_from R_length R_given R_firstGiven R_secondGiven D_depths D_weights) (hT : tw_TOPS V_top D_top VB_top R_textEnd R_dataEnd m) (g : tw_vok cs V_top p) : f_Builtins_fits V_top V_kinds V_parts D_top D_forms 9 p = some (if V_kinds p = 4 ∧ D_forms (V_parts p) = 0 then 1 else 0) := by
  have tr := tw_TOPS_r h hT
  have kr := tw_kind_r hN h hT g
  obtain ⟨p0, p1, -⟩ := id g
  unfold f_Builtins_fits
  refine tw_bind_t (tw_vK p0 p1 (by omega)) ?_
  (first | refine tw_ite_t (by first | omega | (simp only [tw_gq]; omega)) ?_ | refine tw_ite_f (by first | omega | (simp only [tw_gq]; omega)) ?_); (first | refine tw_ite_t (by first | omega | (simp only [tw_gq]; omega)) ?_ | refine tw_ite_f (by first | omega | (simp only [tw_gq]; omega)) ?_)
  refine tw_bind_t (tw_vRo p0 p1 (by omega)) ?_
  by_cases e : V_kinds p = 4
  · obtain ⟨-, -, ⟨-, -, -, -, -, -, -, -, d⟩, -⟩ := h.1 _ g
    have d2 := (d e).2
    have d3 := (h.2.1 _ d2.1 d2.2.1).2.2.2.2.2.1
    have d4 := (h.2.1 _ d2.1 d2.2.1).2.2.2.2.2.2.1
    clear d
    refine tw_bind_t (tw_dF_w d2.1 d2.2.1 (by omega)) ?_
    (first | refine tw_ite_t (by first | omega | (simp only [tw_gq]; omega)) ?_ | refine tw_ite_f (by first | omega | (simp only [tw_gq]; omega)) ?_); (first | refine tw_ite_t (by first | omega | (simp only [tw_gq]; omega)) ?_ | refine tw_ite_f (by first | omega | (simp only [tw_gq]; omega)) ?_); (first | refine tw_ite_t (by first | omega | (simp only [tw_gq]; omega)) ?_ | refine tw_ite_f (by first | omega | (simp only [tw_gq]; omega)) ?_)
    by_cases e2 : D_forms (V_parts p) = 0
    · (first | refine tw_ite_t (by first | omega | (simp only [tw_gq]; omega)) ?_ | refine tw_ite_f (by first | omega | (simp only [tw_gq]; omega)) ?_); rw [if_pos ⟨e, e2⟩]
    · (first | refine tw_ite_t (by first | omega | (simp only [tw_gq]; omega)) ?_ | refine tw_ite_f (by first | omega | (simp only [tw_gq]; omega)) ?_); rw [if_neg (fun z => e2 z.2)]
  · have ht : 0 ≤ D_top ∧ D_top ≤ 3201 := by
      have := h.2.2.2.1
      omega
    obtain ⟨x, ex⟩ := tw_dF_any (t := D_top) (f := D_forms) (V_parts p) ht
    refine tw_bind_t ex ?_
    (first | refine tw_ite_t (by first | omega | (simp only [tw_gq]; omega)) ?_ | refine tw_ite_f (by first | omega | (simp only [tw_gq]; omega)) ?_); (first | refine tw_ite_t (by first | omega | (simp only [tw_gq]; omega)) ?_ | refine tw_ite_f (by first | omega | (simp only [tw_gq]; omega)) ?_); rw [if_neg (fun z => e z.1)]
set_option maxRecDepth 100000 in
theorem tw_fl_m {ok : Int → Int → Int → Prop} {cs : Int → Prop} {ps : Int → Int} {nc : Int} {R_values : Int} {R_nodeOf : Int → Int} {R_rowOf : Int → Int} {D_top : Int} {D_nodes : Int → Int} {R_dataEnd : Int} {VB_top : Int} {VB_row : Int → Int} {R_textEnd : Int} {R_texts : Int → Int} {D_forms : Int → Int} {D_counts : Int → Int} {D_numbers : Int → Int} {R_forms : Int → Int} {R_tags : Int → Int} {R_counts : Int → Int} {R_textsAt : Int → Int} {V_top : Int} {V_kinds : Int → Int} {V_numbers : Int → Int} {V_parts : Int → Int} {V_links : Int → Int} {R_valueKinds : Int → Int} {R_valueNumbers : Int → Int} {R_from : Int → Int} {R_length : Int → Int} {R_given : Int → Int} {R_firstGiven : Int → Int} {R_secondGiven : Int → Int} {D_depths : Int → Int} {D_weights : Int → Int} {m p : Int} {N : Nat} (hN : 300 ≤ N) (h : tw_XV ok cs ps nc R_values R_nodeOf R_rowOf D_top D_nodes R_dataEnd VB_top VB_row R_textEnd R_texts D_forms D_counts D_numbers R_forms R_tags R_counts R_textsAt V_top V_kinds V_numbers V_parts V_links R_valueKinds R_valueNumbers R_from R_length R_given R_firstGiven R_secondGiven D_depths D_weights) (hT : tw_TOPS V_top D_top VB_top R_textEnd R_dataEnd m) (g : tw_vok cs V_top p) : f_Builtins_fits V_top V_kinds V_parts D_top D_forms 10 p = some (if V_kinds p = 4 ∧ D_forms (V_parts p) = 1 then 1 else 0) := by
  have tr := tw_TOPS_r h hT
  have kr := tw_kind_r hN h hT g
  obtain ⟨p0, p1, -⟩ := id g
  unfold f_Builtins_fits
  refine tw_bind_t (tw_vK p0 p1 (by omega)) ?_
  (first | refine tw_ite_t (by first | omega | (simp only [tw_gq]; omega)) ?_ | refine tw_ite_f (by first | omega | (simp only [tw_gq]; omega)) ?_); (first | refine tw_ite_t (by first | omega | (simp only [tw_gq]; omega)) ?_ | refine tw_ite_f (by first | omega | (simp only [tw_gq]; omega)) ?_)
  refine tw_bind_t (tw_vRo p0 p1 (by omega)) ?_
  by_cases e : V_kinds p = 4
  · obtain ⟨-, -, ⟨-, -, -, -, -, -, -, -, d⟩, -⟩ := h.1 _ g
    have d2 := (d e).2
    have d3 := (h.2.1 _ d2.1 d2.2.1).2.2.2.2.2.1
    have d4 := (h.2.1 _ d2.1 d2.2.1).2.2.2.2.2.2.1
    clear d
    refine tw_bind_t (tw_dF_w d2.1 d2.2.1 (by omega)) ?_
    (first | refine tw_ite_t (by first | omega | (simp only [tw_gq]; omega)) ?_ | refine tw_ite_f (by first | omega | (simp only [tw_gq]; omega)) ?_); (first | refine tw_ite_t (by first | omega | (simp only [tw_gq]; omega)) ?_ | refine tw_ite_f (by first | omega | (simp only [tw_gq]; omega)) ?_); (first | refine tw_ite_t (by first | omega | (simp only [tw_gq]; omega)) ?_ | refine tw_ite_f (by first | omega | (simp only [tw_gq]; omega)) ?_)
    by_cases e2 : D_forms (V_parts p) = 1
    · (first | refine tw_ite_t (by first | omega | (simp only [tw_gq]; omega)) ?_ | refine tw_ite_f (by first | omega | (simp only [tw_gq]; omega)) ?_); rw [if_pos ⟨e, e2⟩]
    · (first | refine tw_ite_t (by first | omega | (simp only [tw_gq]; omega)) ?_ | refine tw_ite_f (by first | omega | (simp only [tw_gq]; omega)) ?_); rw [if_neg (fun z => e2 z.2)]
  · have ht : 0 ≤ D_top ∧ D_top ≤ 3201 := by
      have := h.2.2.2.1
      omega
    obtain ⟨x, ex⟩ := tw_dF_any (t := D_top) (f := D_forms) (V_parts p) ht
    refine tw_bind_t ex ?_
    (first | refine tw_ite_t (by first | omega | (simp only [tw_gq]; omega)) ?_ | refine tw_ite_f (by first | omega | (simp only [tw_gq]; omega)) ?_); (first | refine tw_ite_t (by first | omega | (simp only [tw_gq]; omega)) ?_ | refine tw_ite_f (by first | omega | (simp only [tw_gq]; omega)) ?_); rw [if_neg (fun z => e z.1)]
set_option maxRecDepth 100000 in
theorem tw_fl_l {ok : Int → Int → Int → Prop} {cs : Int → Prop} {ps : Int → Int} {nc : Int} {R_values : Int} {R_nodeOf : Int → Int} {R_rowOf : Int → Int} {D_top : Int} {D_nodes : Int → Int} {R_dataEnd : Int} {VB_top : Int} {VB_row : Int → Int} {R_textEnd : Int} {R_texts : Int → Int} {D_forms : Int → Int} {D_counts : Int → Int} {D_numbers : Int → Int} {R_forms : Int → Int} {R_tags : Int → Int} {R_counts : Int → Int} {R_textsAt : Int → Int} {V_top : Int} {V_kinds : Int → Int} {V_numbers : Int → Int} {V_parts : Int → Int} {V_links : Int → Int} {R_valueKinds : Int → Int} {R_valueNumbers : Int → Int} {R_from : Int → Int} {R_length : Int → Int} {R_given : Int → Int} {R_firstGiven : Int → Int} {R_secondGiven : Int → Int} {D_depths : Int → Int} {D_weights : Int → Int} {m p : Int} {N : Nat} (hN : 300 ≤ N) (h : tw_XV ok cs ps nc R_values R_nodeOf R_rowOf D_top D_nodes R_dataEnd VB_top VB_row R_textEnd R_texts D_forms D_counts D_numbers R_forms R_tags R_counts R_textsAt V_top V_kinds V_numbers V_parts V_links R_valueKinds R_valueNumbers R_from R_length R_given R_firstGiven R_secondGiven D_depths D_weights) (hT : tw_TOPS V_top D_top VB_top R_textEnd R_dataEnd m) (g : tw_vok cs V_top p) : f_Builtins_fits V_top V_kinds V_parts D_top D_forms 11 p = some (if V_kinds p = 4 ∧ D_forms (V_parts p) = 2 then 1 else 0) := by
  have tr := tw_TOPS_r h hT
  have kr := tw_kind_r hN h hT g
  obtain ⟨p0, p1, -⟩ := id g
  unfold f_Builtins_fits
  refine tw_bind_t (tw_vK p0 p1 (by omega)) ?_
  (first | refine tw_ite_t (by first | omega | (simp only [tw_gq]; omega)) ?_ | refine tw_ite_f (by first | omega | (simp only [tw_gq]; omega)) ?_); (first | refine tw_ite_t (by first | omega | (simp only [tw_gq]; omega)) ?_ | refine tw_ite_f (by first | omega | (simp only [tw_gq]; omega)) ?_)
  refine tw_bind_t (tw_vRo p0 p1 (by omega)) ?_
  by_cases e : V_kinds p = 4
  · obtain ⟨-, -, ⟨-, -, -, -, -, -, -, -, d⟩, -⟩ := h.1 _ g
    have d2 := (d e).2
    have d3 := (h.2.1 _ d2.1 d2.2.1).2.2.2.2.2.1
    have d4 := (h.2.1 _ d2.1 d2.2.1).2.2.2.2.2.2.1
    clear d
    refine tw_bind_t (tw_dF_w d2.1 d2.2.1 (by omega)) ?_
    (first | refine tw_ite_t (by first | omega | (simp only [tw_gq]; omega)) ?_ | refine tw_ite_f (by first | omega | (simp only [tw_gq]; omega)) ?_); (first | refine tw_ite_t (by first | omega | (simp only [tw_gq]; omega)) ?_ | refine tw_ite_f (by first | omega | (simp only [tw_gq]; omega)) ?_); (first | refine tw_ite_t (by first | omega | (simp only [tw_gq]; omega)) ?_ | refine tw_ite_f (by first | omega | (simp only [tw_gq]; omega)) ?_)
    by_cases e2 : D_forms (V_parts p) = 2
    · (first | refine tw_ite_t (by first | omega | (simp only [tw_gq]; omega)) ?_ | refine tw_ite_f (by first | omega | (simp only [tw_gq]; omega)) ?_); rw [if_pos ⟨e, e2⟩]
    · (first | refine tw_ite_t (by first | omega | (simp only [tw_gq]; omega)) ?_ | refine tw_ite_f (by first | omega | (simp only [tw_gq]; omega)) ?_); rw [if_neg (fun z => e2 z.2)]
  · have ht : 0 ≤ D_top ∧ D_top ≤ 3201 := by
      have := h.2.2.2.1
      omega
    obtain ⟨x, ex⟩ := tw_dF_any (t := D_top) (f := D_forms) (V_parts p) ht
    refine tw_bind_t ex ?_
    (first | refine tw_ite_t (by first | omega | (simp only [tw_gq]; omega)) ?_ | refine tw_ite_f (by first | omega | (simp only [tw_gq]; omega)) ?_); (first | refine tw_ite_t (by first | omega | (simp only [tw_gq]; omega)) ?_ | refine tw_ite_f (by first | omega | (simp only [tw_gq]; omega)) ?_); rw [if_neg (fun z => e z.1)]
set_option maxRecDepth 100000 in
theorem tw_fl_n {ok : Int → Int → Int → Prop} {cs : Int → Prop} {ps : Int → Int} {nc : Int} {R_values : Int} {R_nodeOf : Int → Int} {R_rowOf : Int → Int} {D_top : Int} {D_nodes : Int → Int} {R_dataEnd : Int} {VB_top : Int} {VB_row : Int → Int} {R_textEnd : Int} {R_texts : Int → Int} {D_forms : Int → Int} {D_counts : Int → Int} {D_numbers : Int → Int} {R_forms : Int → Int} {R_tags : Int → Int} {R_counts : Int → Int} {R_textsAt : Int → Int} {V_top : Int} {V_kinds : Int → Int} {V_numbers : Int → Int} {V_parts : Int → Int} {V_links : Int → Int} {R_valueKinds : Int → Int} {R_valueNumbers : Int → Int} {R_from : Int → Int} {R_length : Int → Int} {R_given : Int → Int} {R_firstGiven : Int → Int} {R_secondGiven : Int → Int} {D_depths : Int → Int} {D_weights : Int → Int} {m p : Int} {N : Nat} (hN : 300 ≤ N) (h : tw_XV ok cs ps nc R_values R_nodeOf R_rowOf D_top D_nodes R_dataEnd VB_top VB_row R_textEnd R_texts D_forms D_counts D_numbers R_forms R_tags R_counts R_textsAt V_top V_kinds V_numbers V_parts V_links R_valueKinds R_valueNumbers R_from R_length R_given R_firstGiven R_secondGiven D_depths D_weights) (hT : tw_TOPS V_top D_top VB_top R_textEnd R_dataEnd m) (g : tw_vok cs V_top p) : f_Builtins_fits V_top V_kinds V_parts D_top D_forms 12 p = some (if V_kinds p = 4 ∧ D_forms (V_parts p) = 3 then 1 else 0) := by
  have tr := tw_TOPS_r h hT
  have kr := tw_kind_r hN h hT g
  obtain ⟨p0, p1, -⟩ := id g
  unfold f_Builtins_fits
  refine tw_bind_t (tw_vK p0 p1 (by omega)) ?_
  (first | refine tw_ite_t (by first | omega | (simp only [tw_gq]; omega)) ?_ | refine tw_ite_f (by first | omega | (simp only [tw_gq]; omega)) ?_); (first | refine tw_ite_t (by first | omega | (simp only [tw_gq]; omega)) ?_ | refine tw_ite_f (by first | omega | (simp only [tw_gq]; omega)) ?_)
  refine tw_bind_t (tw_vRo p0 p1 (by omega)) ?_
  by_cases e : V_kinds p = 4
  · obtain ⟨-, -, ⟨-, -, -, -, -, -, -, -, d⟩, -⟩ := h.1 _ g
    have d2 := (d e).2
    have d3 := (h.2.1 _ d2.1 d2.2.1).2.2.2.2.2.1
    have d4 := (h.2.1 _ d2.1 d2.2.1).2.2.2.2.2.2.1
    clear d
    refine tw_bind_t (tw_dF_w d2.1 d2.2.1 (by omega)) ?_
    (first | refine tw_ite_t (by first | omega | (simp only [tw_gq]; omega)) ?_ | refine tw_ite_f (by first | omega | (simp only [tw_gq]; omega)) ?_); (first | refine tw_ite_t (by first | omega | (simp only [tw_gq]; omega)) ?_ | refine tw_ite_f (by first | omega | (simp only [tw_gq]; omega)) ?_); (first | refine tw_ite_t (by first | omega | (simp only [tw_gq]; omega)) ?_ | refine tw_ite_f (by first | omega | (simp only [tw_gq]; omega)) ?_)
    by_cases e2 : D_forms (V_parts p) = 3
    · (first | refine tw_ite_t (by first | omega | (simp only [tw_gq]; omega)) ?_ | refine tw_ite_f (by first | omega | (simp only [tw_gq]; omega)) ?_); rw [if_pos ⟨e, e2⟩]
    · (first | refine tw_ite_t (by first | omega | (simp only [tw_gq]; omega)) ?_ | refine tw_ite_f (by first | omega | (simp only [tw_gq]; omega)) ?_); rw [if_neg (fun z => e2 z.2)]
  · have ht : 0 ≤ D_top ∧ D_top ≤ 3201 := by
      have := h.2.2.2.1
      omega
    obtain ⟨x, ex⟩ := tw_dF_any (t := D_top) (f := D_forms) (V_parts p) ht
    refine tw_bind_t ex ?_
    (first | refine tw_ite_t (by first | omega | (simp only [tw_gq]; omega)) ?_ | refine tw_ite_f (by first | omega | (simp only [tw_gq]; omega)) ?_); (first | refine tw_ite_t (by first | omega | (simp only [tw_gq]; omega)) ?_ | refine tw_ite_f (by first | omega | (simp only [tw_gq]; omega)) ?_); rw [if_neg (fun z => e z.1)]
set_option maxRecDepth 100000 in
theorem tw_fl_b {ok : Int → Int → Int → Prop} {cs : Int → Prop} {ps : Int → Int} {nc : Int} {R_values : Int} {R_nodeOf : Int → Int} {R_rowOf : Int → Int} {D_top : Int} {D_nodes : Int → Int} {R_dataEnd : Int} {VB_top : Int} {VB_row : Int → Int} {R_textEnd : Int} {R_texts : Int → Int} {D_forms : Int → Int} {D_counts : Int → Int} {D_numbers : Int → Int} {R_forms : Int → Int} {R_tags : Int → Int} {R_counts : Int → Int} {R_textsAt : Int → Int} {V_top : Int} {V_kinds : Int → Int} {V_numbers : Int → Int} {V_parts : Int → Int} {V_links : Int → Int} {R_valueKinds : Int → Int} {R_valueNumbers : Int → Int} {R_from : Int → Int} {R_length : Int → Int} {R_given : Int → Int} {R_firstGiven : Int → Int} {R_secondGiven : Int → Int} {D_depths : Int → Int} {D_weights : Int → Int} {m p : Int} {N : Nat} (hN : 300 ≤ N) (h : tw_XV ok cs ps nc R_values R_nodeOf R_rowOf D_top D_nodes R_dataEnd VB_top VB_row R_textEnd R_texts D_forms D_counts D_numbers R_forms R_tags R_counts R_textsAt V_top V_kinds V_numbers V_parts V_links R_valueKinds R_valueNumbers R_from R_length R_given R_firstGiven R_secondGiven D_depths D_weights) (hT : tw_TOPS V_top D_top VB_top R_textEnd R_dataEnd m) (g : tw_vok cs V_top p) : f_Builtins_fits V_top V_kinds V_parts D_top D_forms 13 p = some (if V_kinds p = 4 ∧ D_forms (V_parts p) = 4 then 1 else 0) := by
  have tr := tw_TOPS_r h hT
  have kr := tw_kind_r hN h hT g
  obtain ⟨p0, p1, -⟩ := id g
  unfold f_Builtins_fits
  refine tw_bind_t (tw_vK p0 p1 (by omega)) ?_
  (first | refine tw_ite_t (by first | omega | (simp only [tw_gq]; omega)) ?_ | refine tw_ite_f (by first | omega | (simp only [tw_gq]; omega)) ?_); (first | refine tw_ite_t (by first | omega | (simp only [tw_gq]; omega)) ?_ | refine tw_ite_f (by first | omega | (simp only [tw_gq]; omega)) ?_)
  refine tw_bind_t (tw_vRo p0 p1 (by omega)) ?_
  by_cases e : V_kinds p = 4
  · obtain ⟨-, -, ⟨-, -, -, -, -, -, -, -, d⟩, -⟩ := h.1 _ g
    have d2 := (d e).2
    have d3 := (h.2.1 _ d2.1 d2.2.1).2.2.2.2.2.1
    have d4 := (h.2.1 _ d2.1 d2.2.1).2.2.2.2.2.2.1
    clear d
    refine tw_bind_t (tw_dF_w d2.1 d2.2.1 (by omega)) ?_
    (first | refine tw_ite_t (by first | omega | (simp only [tw_gq]; omega)) ?_ | refine tw_ite_f (by first | omega | (simp only [tw_gq]; omega)) ?_); (first | refine tw_ite_t (by first | omega | (simp only [tw_gq]; omega)) ?_ | refine tw_ite_f (by first | omega | (simp only [tw_gq]; omega)) ?_); (first | refine tw_ite_t (by first | omega | (simp only [tw_gq]; omega)) ?_ | refine tw_ite_f (by first | omega | (simp only [tw_gq]; omega)) ?_)
    by_cases e2 : D_forms (V_parts p) = 4
    · (first | refine tw_ite_t (by first | omega | (simp only [tw_gq]; omega)) ?_ | refine tw_ite_f (by first | omega | (simp only [tw_gq]; omega)) ?_); rw [if_pos ⟨e, e2⟩]
    · (first | refine tw_ite_t (by first | omega | (simp only [tw_gq]; omega)) ?_ | refine tw_ite_f (by first | omega | (simp only [tw_gq]; omega)) ?_); rw [if_neg (fun z => e2 z.2)]
  · have ht : 0 ≤ D_top ∧ D_top ≤ 3201 := by
      have := h.2.2.2.1
      omega
    obtain ⟨x, ex⟩ := tw_dF_any (t := D_top) (f := D_forms) (V_parts p) ht
    refine tw_bind_t ex ?_
    (first | refine tw_ite_t (by first | omega | (simp only [tw_gq]; omega)) ?_ | refine tw_ite_f (by first | omega | (simp only [tw_gq]; omega)) ?_); (first | refine tw_ite_t (by first | omega | (simp only [tw_gq]; omega)) ?_ | refine tw_ite_f (by first | omega | (simp only [tw_gq]; omega)) ?_); rw [if_neg (fun z => e z.1)]
set_option maxRecDepth 100000 in
theorem tw_af1 {N : Nat} {V_top : Int} {V_kinds V_parts : Int → Int} {D_top : Int} {D_forms B_given : Int → Int} {op : Int} (hN : 300 ≤ N) {c0 b0 : Int} (t0 : f_Builtins_takes op 0 = some c0) (m0 : 0 ≤ c0 ∧ c0 ≤ 13) (f0 : f_Builtins_fits V_top V_kinds V_parts D_top D_forms c0 (B_given 0) = some b0) (r0 : b0 = 0 ∨ b0 = 1) (te : f_Builtins_takes op 1 = some (-1)) : f_Builtins_allFit N V_top V_kinds V_parts D_top D_forms B_given op = some b0 := by
  obtain ⟨M, rfl⟩ : ∃ M, N = M + 10 := ⟨N - 10, by omega⟩
  unfold f_Builtins_allFit
  rw [f_Builtins_allFit_L2]
  (first | refine tw_ite_t (by first | omega | (simp only [tw_gq]; omega)) ?_ | refine tw_ite_f (by first | omega | (simp only [tw_gq]; omega)) ?_); (first | refine tw_ite_t (by first | omega | (simp only [tw_gq]; omega)) ?_ | refine tw_ite_f (by first | omega | (simp only [tw_gq]; omega)) ?_)
  refine tw_bind_t (r := c0) (by first | exact t0 | simpa using t0) ?_
  (first | refine tw_ite_t (by first | omega | (simp only [tw_gq]; omega)) ?_ | refine tw_ite_f (by first | omega | (simp only [tw_gq]; omega)) ?_); (first | refine tw_ite_t (by first | omega | (simp only [tw_gq]; omega)) ?_ | refine tw_ite_f (by first | omega | (simp only [tw_gq]; omega)) ?_)
  refine tw_bind_t (r := c0) (by first | exact t0 | simpa using t0) ?_
  (first | refine tw_ite_t (by first | omega | (simp only [tw_gq]; omega)) ?_ | refine tw_ite_f (by first | omega | (simp only [tw_gq]; omega)) ?_)
  refine tw_bind_t (r := b0) (by first | exact f0 | simpa using f0) ?_
  refine tw_ite_t (by rcases r0 with z | z <;> rw [z] <;> decide) ?_
  by_cases z0 : b0 = 0
  · rw [if_pos z0, z0]
  rw [if_neg z0]
  rw [f_Builtins_allFit_L2]
  (first | refine tw_ite_t (by first | omega | (simp only [tw_gq]; omega)) ?_ | refine tw_ite_f (by first | omega | (simp only [tw_gq]; omega)) ?_); (first | refine tw_ite_t (by first | omega | (simp only [tw_gq]; omega)) ?_ | refine tw_ite_f (by first | omega | (simp only [tw_gq]; omega)) ?_)
  refine tw_bind_t (r := -1) (by first | exact te | simpa using te) ?_
  (first | refine tw_ite_t (by first | omega | (simp only [tw_gq]; omega)) ?_ | refine tw_ite_f (by first | omega | (simp only [tw_gq]; omega)) ?_); (first | refine tw_ite_t (by first | omega | (simp only [tw_gq]; omega)) ?_ | refine tw_ite_f (by first | omega | (simp only [tw_gq]; omega)) ?_)
  rcases r0 with y | y
  · exact absurd y z0
  · rw [y]
set_option maxRecDepth 100000 in
theorem tw_af2 {N : Nat} {V_top : Int} {V_kinds V_parts : Int → Int} {D_top : Int} {D_forms B_given : Int → Int} {op : Int} (hN : 300 ≤ N) {c0 b0 : Int} {c1 b1 : Int} (t0 : f_Builtins_takes op 0 = some c0) (m0 : 0 ≤ c0 ∧ c0 ≤ 13) (f0 : f_Builtins_fits V_top V_kinds V_parts D_top D_forms c0 (B_given 0) = some b0) (r0 : b0 = 0 ∨ b0 = 1) (t1 : f_Builtins_takes op 1 = some c1) (m1 : 0 ≤ c1 ∧ c1 ≤ 13) (f1 : f_Builtins_fits V_top V_kinds V_parts D_top D_forms c1 (B_given 1) = some b1) (r1 : b1 = 0 ∨ b1 = 1) (te : f_Builtins_takes op 2 = some (-1)) : f_Builtins_allFit N V_top V_kinds V_parts D_top D_forms B_given op = some (if b0 = 0 then 0 else b1) := by
  obtain ⟨M, rfl⟩ : ∃ M, N = M + 10 := ⟨N - 10, by omega⟩
  unfold f_Builtins_allFit
  rw [f_Builtins_allFit_L2]
  (first | refine tw_ite_t (by first | omega | (simp only [tw_gq]; omega)) ?_ | refine tw_ite_f (by first | omega | (simp only [tw_gq]; omega)) ?_); (first | refine tw_ite_t (by first | omega | (simp only [tw_gq]; omega)) ?_ | refine tw_ite_f (by first | omega | (simp only [tw_gq]; omega)) ?_)
  refine tw_bind_t (r := c0) (by first | exact t0 | simpa using t0) ?_
  (first | refine tw_ite_t (by first | omega | (simp only [tw_gq]; omega)) ?_ | refine tw_ite_f (by first | omega | (simp only [tw_gq]; omega)) ?_); (first | refine tw_ite_t (by first | omega | (simp only [tw_gq]; omega)) ?_ | refine tw_ite_f (by first | omega | (simp only [tw_gq]; omega)) ?_)
  refine tw_bind_t (r := c0) (by first | exact t0 | simpa using t0) ?_
  (first | refine tw_ite_t (by first | omega | (simp only [tw_gq]; omega)) ?_ | refine tw_ite_f (by first | omega | (simp only [tw_gq]; omega)) ?_)
  refine tw_bind_t (r := b0) (by first | exact f0 | simpa using f0) ?_
  refine tw_ite_t (by rcases r0 with z | z <;> rw [z] <;> decide) ?_
  by_cases z0 : b0 = 0
  · rw [if_pos z0, if_pos z0]
  rw [if_neg z0, if_neg z0]
  rw [f_Builtins_allFit_L2]
  (first | refine tw_ite_t (by first | omega | (simp only [tw_gq]; omega)) ?_ | refine tw_ite_f (by first | omega | (simp only [tw_gq]; omega)) ?_); (first | refine tw_ite_t (by first | omega | (simp only [tw_gq]; omega)) ?_ | refine tw_ite_f (by first | omega | (simp only [tw_gq]; omega)) ?_)
  refine tw_bind_t (r := c1) (by first | exact t1 | simpa using t1) ?_
  (first | refine tw_ite_t (by first | omega | (simp only [tw_gq]; omega)) ?_ | refine tw_ite_f (by first | omega | (simp only [tw_gq]; omega)) ?_); (first | refine tw_ite_t (by first | omega | (simp only [tw_gq]; omega)) ?_ | refine tw_ite_f (by first | omega | (simp only [tw_gq]; omega)) ?_)
  refine tw_bind_t (r := c1) (by first | exact t1 | simpa using t1) ?_
  (first | refine tw_ite_t (by first | omega | (simp only [tw_gq]; omega)) ?_ | refine tw_ite_f (by first | omega | (simp only [tw_gq]; omega)) ?_)
  refine tw_bind_t (r := b1) (by first | exact f1 | simpa using f1) ?_
  refine tw_ite_t (by rcases r1 with z | z <;> rw [z] <;> decide) ?_
  by_cases z1 : b1 = 0
  · rw [if_pos z1, z1]
  rw [if_neg z1]
  rw [f_Builtins_allFit_L2]
  (first | refine tw_ite_t (by first | omega | (simp only [tw_gq]; omega)) ?_ | refine tw_ite_f (by first | omega | (simp only [tw_gq]; omega)) ?_); (first | refine tw_ite_t (by first | omega | (simp only [tw_gq]; omega)) ?_ | refine tw_ite_f (by first | omega | (simp only [tw_gq]; omega)) ?_)
  refine tw_bind_t (r := -1) (by first | exact te | simpa using te) ?_
  (first | refine tw_ite_t (by first | omega | (simp only [tw_gq]; omega)) ?_ | refine tw_ite_f (by first | omega | (simp only [tw_gq]; omega)) ?_); (first | refine tw_ite_t (by first | omega | (simp only [tw_gq]; omega)) ?_ | refine tw_ite_f (by first | omega | (simp only [tw_gq]; omega)) ?_)
  rcases r1 with y | y
  · exact absurd y z1
  · rw [y]
set_option maxRecDepth 100000 in
theorem tw_af3 {N : Nat} {V_top : Int} {V_kinds V_parts : Int → Int} {D_top : Int} {D_forms B_given : Int → Int} {op : Int} (hN : 300 ≤ N) {c0 b0 : Int} {c1 b1 : Int} {c2 b2 : Int} (t0 : f_Builtins_takes op 0 = some c0) (m0 : 0 ≤ c0 ∧ c0 ≤ 13) (f0 : f_Builtins_fits V_top V_kinds V_parts D_top D_forms c0 (B_given 0) = some b0) (r0 : b0 = 0 ∨ b0 = 1) (t1 : f_Builtins_takes op 1 = some c1) (m1 : 0 ≤ c1 ∧ c1 ≤ 13) (f1 : f_Builtins_fits V_top V_kinds V_parts D_top D_forms c1 (B_given 1) = some b1) (r1 : b1 = 0 ∨ b1 = 1) (t2 : f_Builtins_takes op 2 = some c2) (m2 : 0 ≤ c2 ∧ c2 ≤ 13) (f2 : f_Builtins_fits V_top V_kinds V_parts D_top D_forms c2 (B_given 2) = some b2) (r2 : b2 = 0 ∨ b2 = 1) : f_Builtins_allFit N V_top V_kinds V_parts D_top D_forms B_given op = some (if b0 = 0 then 0 else if b1 = 0 then 0 else b2) := by
  obtain ⟨M, rfl⟩ : ∃ M, N = M + 10 := ⟨N - 10, by omega⟩
  unfold f_Builtins_allFit
  rw [f_Builtins_allFit_L2]
  (first | refine tw_ite_t (by first | omega | (simp only [tw_gq]; omega)) ?_ | refine tw_ite_f (by first | omega | (simp only [tw_gq]; omega)) ?_); (first | refine tw_ite_t (by first | omega | (simp only [tw_gq]; omega)) ?_ | refine tw_ite_f (by first | omega | (simp only [tw_gq]; omega)) ?_)
  refine tw_bind_t (r := c0) (by first | exact t0 | simpa using t0) ?_
  (first | refine tw_ite_t (by first | omega | (simp only [tw_gq]; omega)) ?_ | refine tw_ite_f (by first | omega | (simp only [tw_gq]; omega)) ?_); (first | refine tw_ite_t (by first | omega | (simp only [tw_gq]; omega)) ?_ | refine tw_ite_f (by first | omega | (simp only [tw_gq]; omega)) ?_)
  refine tw_bind_t (r := c0) (by first | exact t0 | simpa using t0) ?_
  (first | refine tw_ite_t (by first | omega | (simp only [tw_gq]; omega)) ?_ | refine tw_ite_f (by first | omega | (simp only [tw_gq]; omega)) ?_)
  refine tw_bind_t (r := b0) (by first | exact f0 | simpa using f0) ?_
  refine tw_ite_t (by rcases r0 with z | z <;> rw [z] <;> decide) ?_
  by_cases z0 : b0 = 0
  · rw [if_pos z0, if_pos z0]
  rw [if_neg z0, if_neg z0]
  rw [f_Builtins_allFit_L2]
  (first | refine tw_ite_t (by first | omega | (simp only [tw_gq]; omega)) ?_ | refine tw_ite_f (by first | omega | (simp only [tw_gq]; omega)) ?_); (first | refine tw_ite_t (by first | omega | (simp only [tw_gq]; omega)) ?_ | refine tw_ite_f (by first | omega | (simp only [tw_gq]; omega)) ?_)
  refine tw_bind_t (r := c1) (by first | exact t1 | simpa using t1) ?_
  (first | refine tw_ite_t (by first | omega | (simp only [tw_gq]; omega)) ?_ | refine tw_ite_f (by first | omega | (simp only [tw_gq]; omega)) ?_); (first | refine tw_ite_t (by first | omega | (simp only [tw_gq]; omega)) ?_ | refine tw_ite_f (by first | omega | (simp only [tw_gq]; omega)) ?_)
  refine tw_bind_t (r := c1) (by first | exact t1 | simpa using t1) ?_
  (first | refine tw_ite_t (by first | omega | (simp only [tw_gq]; omega)) ?_ | refine tw_ite_f (by first | omega | (simp only [tw_gq]; omega)) ?_)
  refine tw_bind_t (r := b1) (by first | exact f1 | simpa using f1) ?_
  refine tw_ite_t (by rcases r1 with z | z <;> rw [z] <;> decide) ?_
  by_cases z1 : b1 = 0
  · rw [if_pos z1, if_pos z1]
  rw [if_neg z1, if_neg z1]
  rw [f_Builtins_allFit_L2]
  (first | refine tw_ite_t (by first | omega | (simp only [tw_gq]; omega)) ?_ | refine tw_ite_f (by first | omega | (simp only [tw_gq]; omega)) ?_); (first | refine tw_ite_t (by first | omega | (simp only [tw_gq]; omega)) ?_ | refine tw_ite_f (by first | omega | (simp only [tw_gq]; omega)) ?_)
  refine tw_bind_t (r := c2) (by first | exact t2 | simpa using t2) ?_
  (first | refine tw_ite_t (by first | omega | (simp only [tw_gq]; omega)) ?_ | refine tw_ite_f (by first | omega | (simp only [tw_gq]; omega)) ?_); (first | refine tw_ite_t (by first | omega | (simp only [tw_gq]; omega)) ?_ | refine tw_ite_f (by first | omega | (simp only [tw_gq]; omega)) ?_)
  refine tw_bind_t (r := c2) (by first | exact t2 | simpa using t2) ?_
  (first | refine tw_ite_t (by first | omega | (simp only [tw_gq]; omega)) ?_ | refine tw_ite_f (by first | omega | (simp only [tw_gq]; omega)) ?_)
  refine tw_bind_t (r := b2) (by first | exact f2 | simpa using f2) ?_
  refine tw_ite_t (by rcases r2 with z | z <;> rw [z] <;> decide) ?_
  by_cases z2 : b2 = 0
  · rw [if_pos z2, z2]
  rw [if_neg z2]
  rw [f_Builtins_allFit_L2]
  (first | refine tw_ite_t (by first | omega | (simp only [tw_gq]; omega)) ?_ | refine tw_ite_f (by first | omega | (simp only [tw_gq]; omega)) ?_); (first | refine tw_ite_t (by first | omega | (simp only [tw_gq]; omega)) ?_ | refine tw_ite_f (by first | omega | (simp only [tw_gq]; omega)) ?_)
  rcases r2 with y | y
  · exact absurd y z2
  · rw [y]
set_option maxRecDepth 100000 in
theorem tw_isK {ok : Int → Int → Int → Prop} {cs : Int → Prop} {ps : Int → Int} {nc : Int} {R_values : Int} {R_nodeOf : Int → Int} {R_rowOf : Int → Int} {D_top : Int} {D_nodes : Int → Int} {R_dataEnd : Int} {VB_top : Int} {VB_row : Int → Int} {R_textEnd : Int} {R_texts : Int → Int} {D_forms : Int → Int} {D_counts : Int → Int} {D_numbers : Int → Int} {R_forms : Int → Int} {R_tags : Int → Int} {R_counts : Int → Int} {R_textsAt : Int → Int} {V_top : Int} {V_kinds : Int → Int} {V_numbers : Int → Int} {V_parts : Int → Int} {V_links : Int → Int} {R_valueKinds : Int → Int} {R_valueNumbers : Int → Int} {R_from : Int → Int} {R_length : Int → Int} {R_given : Int → Int} {R_firstGiven : Int → Int} {R_secondGiven : Int → Int} {D_depths : Int → Int} {D_weights : Int → Int} {m i k : Int} {B_given R_of : Int → Int} (h : tw_XV ok cs ps nc R_values R_nodeOf R_rowOf D_top D_nodes R_dataEnd VB_top VB_row R_textEnd R_texts D_forms D_counts D_numbers R_forms R_tags R_counts R_textsAt V_top V_kinds V_numbers V_parts V_links R_valueKinds R_valueNumbers R_from R_length R_given R_firstGiven R_secondGiven D_depths D_weights) (hT : tw_TOPS V_top D_top VB_top R_textEnd R_dataEnd m) (g : tw_vok cs V_top (B_given i)) (og : R_of i = ps (B_given i)) (hi : 0 ≤ i ∧ i < 3) (hk : 0 ≤ k ∧ k ≤ 7) : f_Mod_isKind R_valueKinds R_of i k = some (if V_kinds (B_given i) = k then 1 else 0) := by
  have tr := tw_TOPS_r h hT
  obtain ⟨v0, v1, ⟨a, b, c, -⟩, -⟩ := h.1 _ g
  unfold f_Mod_isKind
  rw [og, ← a]
  (first | refine tw_ite_t (by first | omega | (simp only [tw_gq]; omega)) ?_ | refine tw_ite_f (by first | omega | (simp only [tw_gq]; omega)) ?_); (first | refine tw_ite_t (by first | omega | (simp only [tw_gq]; omega)) ?_ | refine tw_ite_f (by first | omega | (simp only [tw_gq]; omega)) ?_); (first | refine tw_ite_t (by first | omega | (simp only [tw_gq]; omega)) ?_ | refine tw_ite_f (by first | omega | (simp only [tw_gq]; omega)) ?_)
  by_cases e : V_kinds (B_given i) = k
  · rw [if_pos e, if_pos e]
  · rw [if_neg e, if_neg e]
set_option maxRecDepth 100000 in
theorem tw_isF {ok : Int → Int → Int → Prop} {cs : Int → Prop} {ps : Int → Int} {nc : Int} {R_values : Int} {R_nodeOf : Int → Int} {R_rowOf : Int → Int} {D_top : Int} {D_nodes : Int → Int} {R_dataEnd : Int} {VB_top : Int} {VB_row : Int → Int} {R_textEnd : Int} {R_texts : Int → Int} {D_forms : Int → Int} {D_counts : Int → Int} {D_numbers : Int → Int} {R_forms : Int → Int} {R_tags : Int → Int} {R_counts : Int → Int} {R_textsAt : Int → Int} {V_top : Int} {V_kinds : Int → Int} {V_numbers : Int → Int} {V_parts : Int → Int} {V_links : Int → Int} {R_valueKinds : Int → Int} {R_valueNumbers : Int → Int} {R_from : Int → Int} {R_length : Int → Int} {R_given : Int → Int} {R_firstGiven : Int → Int} {R_secondGiven : Int → Int} {D_depths : Int → Int} {D_weights : Int → Int} {m i f : Int} {B_given R_of : Int → Int} (h : tw_XV ok cs ps nc R_values R_nodeOf R_rowOf D_top D_nodes R_dataEnd VB_top VB_row R_textEnd R_texts D_forms D_counts D_numbers R_forms R_tags R_counts R_textsAt V_top V_kinds V_numbers V_parts V_links R_valueKinds R_valueNumbers R_from R_length R_given R_firstGiven R_secondGiven D_depths D_weights) (hT : tw_TOPS V_top D_top VB_top R_textEnd R_dataEnd m) (g : tw_vok cs V_top (B_given i)) (og : R_of i = ps (B_given i)) (hi : 0 ≤ i ∧ i < 3) (hf : 0 ≤ f ∧ f ≤ 4) : f_Mod_isForm R_valueKinds R_from R_forms R_of i f = some (if V_kinds (B_given i) = 4 ∧ D_forms (V_parts (B_given i)) = f then 1 else 0) := by
  have tr := tw_TOPS_r h hT
  obtain ⟨v0, v1, ⟨a, b, c, -, -, -, -, -, d⟩, -⟩ := h.1 _ g
  unfold f_Mod_isForm
  refine tw_bind_t (tw_isK h hT g og hi (by omega)) ?_
  by_cases e : V_kinds (B_given i) = 4
  · have d2 := (d e).2
    have d5 := d2.2.2.2.2 0 (by omega) (by have := (h.2.1 _ d2.1 d2.2.1).1; omega)
    rw [show V_parts (B_given i) + 0 = V_parts (B_given i) by omega, show R_from (ps (B_given i)) + 0 = R_from (ps (B_given i)) by omega] at d5
    have d6 := d5.1
    have d3 := (h.2.1 _ d2.1 d2.2.1).2.2.2.2.2.1
    have d4 := (h.2.1 _ d2.1 d2.2.1).2.2.2.2.2.2.1
    have n1 := (h.2.1 _ d2.1 d2.2.1).1
    have d7 := d2.2.2.1
    have d8 := d2.2.2.2.1
    clear d
    rw [if_pos e]
    (first | refine tw_ite_t (by first | omega | (simp only [tw_gq]; omega)) ?_ | refine tw_ite_f (by first | omega | (simp only [tw_gq]; omega)) ?_); (first | refine tw_ite_t (by first | omega | (simp only [tw_gq]; omega)) ?_ | refine tw_ite_f (by first | omega | (simp only [tw_gq]; omega)) ?_); (first | refine tw_ite_t (by first | omega | (simp only [tw_gq]; omega)) ?_ | refine tw_ite_f (by first | omega | (simp only [tw_gq]; omega)) ?_)
    rw [og, d6]
    (first | refine tw_ite_t (by first | omega | (simp only [tw_gq]; omega)) ?_ | refine tw_ite_f (by first | omega | (simp only [tw_gq]; omega)) ?_); (first | refine tw_ite_t (by first | omega | (simp only [tw_gq]; omega)) ?_ | refine tw_ite_f (by first | omega | (simp only [tw_gq]; omega)) ?_); (first | refine tw_ite_t (by first | omega | (simp only [tw_gq]; omega)) ?_ | refine tw_ite_f (by first | omega | (simp only [tw_gq]; omega)) ?_)
    by_cases e2 : D_forms (V_parts (B_given i)) = f
    · rw [if_pos e2, if_pos ⟨e, e2⟩]
    · rw [if_neg e2, if_neg (fun z => e2 z.2)]
  · rw [if_neg e]
    (first | refine tw_ite_t (by first | omega | (simp only [tw_gq]; omega)) ?_ | refine tw_ite_f (by first | omega | (simp only [tw_gq]; omega)) ?_); (first | refine tw_ite_t (by first | omega | (simp only [tw_gq]; omega)) ?_ | refine tw_ite_f (by first | omega | (simp only [tw_gq]; omega)) ?_); rw [if_neg (fun z => e z.1)]
set_option maxRecDepth 100000 in
theorem tw_tkI {op : Int} (ho : 0 ≤ op ∧ op ≤ 9) : f_Builtins_takes op 0 = some 0 ∧ f_Builtins_takes op 1 = some 0 ∧ f_Builtins_takes op 2 = some (-1) := by
  have : op = 0 ∨ op = 1 ∨ op = 2 ∨ op = 3 ∨ op = 4 ∨ op = 5 ∨ op = 6 ∨ op = 7 ∨ op = 8 ∨ op = 9 := by omega
  rcases this with e | e | e | e | e | e | e | e | e | e <;> subst e <;> exact ⟨rfl, rfl, rfl⟩
set_option maxRecDepth 100000 in
theorem tw_b01 {P : Prop} [Decidable P] : (if P then (1 : Int) else 0) = 0 ∨ (if P then (1 : Int) else 0) = 1 := by split <;> omega
set_option maxRecDepth 100000 in
theorem tw_do_I {ok : Int → Int → Int → Prop} {cs : Int → Prop} {ps : Int → Int} {nc : Int} {R_values : Int} {R_nodeOf : Int → Int} {R_rowOf : Int → Int} {D_top : Int} {D_nodes : Int → Int} {R_dataEnd : Int} {VB_top : Int} {VB_row : Int → Int} {R_textEnd : Int} {R_texts : Int → Int} {D_forms : Int → Int} {D_counts : Int → Int} {D_numbers : Int → Int} {R_forms : Int → Int} {R_tags : Int → Int} {R_counts : Int → Int} {R_textsAt : Int → Int} {V_top : Int} {V_kinds : Int → Int} {V_numbers : Int → Int} {V_parts : Int → Int} {V_links : Int → Int} {R_valueKinds : Int → Int} {R_valueNumbers : Int → Int} {R_from : Int → Int} {R_length : Int → Int} {R_given : Int → Int} {R_firstGiven : Int → Int} {R_secondGiven : Int → Int} {D_depths : Int → Int} {D_weights : Int → Int} {m puts op : Int} {N : Nat} {B_given R_of R_comes : Int → Int} (hN : 300 ≤ N) (h : tw_XV ok cs ps nc R_values R_nodeOf R_rowOf D_top D_nodes R_dataEnd VB_top VB_row R_textEnd R_texts D_forms D_counts D_numbers R_forms R_tags R_counts R_textsAt V_top V_kinds V_numbers V_parts V_links R_valueKinds R_valueNumbers R_from R_length R_given R_firstGiven R_secondGiven D_depths D_weights) (hT : tw_TOPS V_top D_top VB_top R_textEnd R_dataEnd m) (g0 : tw_vok cs V_top (B_given 0)) (o0 : R_of 0 = ps (B_given 0)) (tw_g1 : tw_vok cs V_top (B_given 1)) (o1 : R_of 1 = ps (B_given 1)) (ho : 0 ≤ op ∧ op ≤ 9) : (f_Builtins_allFit N V_top V_kinds V_parts D_top D_forms B_given op = some 0 ∧ f_Mod_fits R_valueKinds R_from R_forms R_of op = some 0) ∨ (f_Builtins_allFit N V_top V_kinds V_parts D_top D_forms B_given op = some 1 ∧ f_Mod_fits R_valueKinds R_from R_forms R_of op = some 1 ∧ tw_OUT ok cs ps nc R_values R_nodeOf R_rowOf D_top D_nodes R_dataEnd VB_top VB_row R_textEnd R_texts D_forms D_counts D_numbers R_forms R_tags R_counts R_textsAt V_top V_kinds V_numbers V_parts V_links R_valueKinds R_valueNumbers R_from R_length R_given R_firstGiven R_secondGiven D_depths D_weights N B_given puts R_of R_comes op) := by
  have hc := tw_af2 (op := op) (B_given := B_given) (c0 := 0) (c1 := 0) hN (tw_tkI ho).1 (by decide) (tw_fl_i hN h hT g0) tw_b01 (tw_tkI ho).2.1 (by decide) (tw_fl_i hN h hT tw_g1) tw_b01 (tw_tkI ho).2.2
  have hr : f_Mod_fits R_valueKinds R_from R_forms R_of op = some (if (V_kinds (B_given 0) = 0) ∧ (V_kinds (B_given 1) = 0) then 1 else 0) := by
    unfold f_Mod_fits
    (repeat (first | refine tw_ite_t (by first | omega | (simp only [tw_gq]; omega)) ?_ | refine tw_ite_f (by first | omega | (simp only [tw_gq]; omega)) ?_))
    refine tw_bind_t (tw_isK h hT g0 o0 (by omega) (by omega)) ?_
    refine tw_ite_t (by rcases (tw_b01 (P := V_kinds (B_given 0) = 0)) with z | z <;> rw [z] <;> decide) ?_
    by_cases n0 : ¬ (V_kinds (B_given 0) = 0)
    · rw [if_neg n0]; refine tw_ite_t rfl ?_; rw [if_neg (fun z => n0 z.1)]
    have e0 := Classical.not_not.mp n0
    rw [if_pos e0]; refine tw_ite_f (by decide) ?_
    refine tw_bind_t (tw_isK h hT tw_g1 o1 (by omega) (by omega)) ?_
    refine tw_ite_t (by rcases (tw_b01 (P := V_kinds (B_given 1) = 0)) with z | z <;> rw [z] <;> decide) ?_
    by_cases n1 : ¬ (V_kinds (B_given 1) = 0)
    · rw [if_neg n1]; refine tw_ite_t rfl ?_; rw [if_neg (fun z => n1 z.2)]
    have e1 := Classical.not_not.mp n1
    rw [if_pos e1]; refine tw_ite_f (by decide) ?_
    rw [if_pos ⟨e0, e1⟩]
  by_cases c : (V_kinds (B_given 0) = 0) ∧ (V_kinds (B_given 1) = 0)
  · rw [if_pos c] at hr
    refine Or.inr ⟨?_, hr, tw_out_I h hT g0 tw_g1 c.1 c.2 o0 o1 ho⟩
    rw [hc]; rw [if_pos c.1, if_pos c.2]; rfl
  · rw [if_neg c] at hr
    refine Or.inl ⟨?_, hr⟩
    rw [hc]; by_cases d0 : V_kinds (B_given 0) = 0
    · rw [if_pos d0]
      rw [if_neg (fun z => c ⟨d0, z⟩)]; rfl
    · rw [if_neg d0]; rfl
set_option maxRecDepth 100000 in
theorem tw_do_10 {ok : Int → Int → Int → Prop} {cs : Int → Prop} {ps : Int → Int} {nc : Int} {R_values : Int} {R_nodeOf : Int → Int} {R_rowOf : Int → Int} {D_top : Int} {D_nodes : Int → Int} {R_dataEnd : Int} {VB_top : Int} {VB_row : Int → Int} {R_textEnd : Int} {R_texts : Int → Int} {D_forms : Int → Int} {D_counts : Int → Int} {D_numbers : Int → Int} {R_forms : Int → Int} {R_tags : Int → Int} {R_counts : Int → Int} {R_textsAt : Int → Int} {V_top : Int} {V_kinds : Int → Int} {V_numbers : Int → Int} {V_parts : Int → Int} {V_links : Int → Int} {R_valueKinds : Int → Int} {R_valueNumbers : Int → Int} {R_from : Int → Int} {R_length : Int → Int} {R_given : Int → Int} {R_firstGiven : Int → Int} {R_secondGiven : Int → Int} {D_depths : Int → Int} {D_weights : Int → Int} {m puts : Int} {N : Nat} {B_given R_of R_comes : Int → Int} (hN : 300 ≤ N) (h : tw_XV ok cs ps nc R_values R_nodeOf R_rowOf D_top D_nodes R_dataEnd VB_top VB_row R_textEnd R_texts D_forms D_counts D_numbers R_forms R_tags R_counts R_textsAt V_top V_kinds V_numbers V_parts V_links R_valueKinds R_valueNumbers R_from R_length R_given R_firstGiven R_secondGiven D_depths D_weights) (hT : tw_TOPS V_top D_top VB_top R_textEnd R_dataEnd m) (g0 : tw_vok cs V_top (B_given 0)) (o0 : R_of 0 = ps (B_given 0)) (tw_g1 : tw_vok cs V_top (B_given 1)) (o1 : R_of 1 = ps (B_given 1)) : (f_Builtins_allFit N V_top V_kinds V_parts D_top D_forms B_given 10 = some 0 ∧ f_Mod_fits R_valueKinds R_from R_forms R_of 10 = some 0) ∨ (f_Builtins_allFit N V_top V_kinds V_parts D_top D_forms B_given 10 = some 1 ∧ f_Mod_fits R_valueKinds R_from R_forms R_of 10 = some 1 ∧ tw_OUT ok cs ps nc R_values R_nodeOf R_rowOf D_top D_nodes R_dataEnd VB_top VB_row R_textEnd R_texts D_forms D_counts D_numbers R_forms R_tags R_counts R_textsAt V_top V_kinds V_numbers V_parts V_links R_valueKinds R_valueNumbers R_from R_length R_given R_firstGiven R_secondGiven D_depths D_weights N B_given puts R_of R_comes 10) := by
  have hc := tw_af2 (op := 10) (B_given := B_given) (c0 := 1) (c1 := 1) hN rfl (by decide) (tw_fl_s hN h hT g0) tw_b01 rfl (by decide) (tw_fl_s hN h hT tw_g1) tw_b01 rfl
  have hr : f_Mod_fits R_valueKinds R_from R_forms R_of 10 = some (if (V_kinds (B_given 0) = 1) ∧ (V_kinds (B_given 1) = 1) then 1 else 0) := by
    unfold f_Mod_fits
    (repeat (first | refine tw_ite_t (by first | omega | (simp only [tw_gq]; omega)) ?_ | refine tw_ite_f (by first | omega | (simp only [tw_gq]; omega)) ?_))
    refine tw_bind_t (tw_isK h hT g0 o0 (by omega) (by omega)) ?_
    refine tw_ite_t (by rcases (tw_b01 (P := V_kinds (B_given 0) = 1)) with z | z <;> rw [z] <;> decide) ?_
    by_cases n0 : ¬ (V_kinds (B_given 0) = 1)
    · rw [if_neg n0]; refine tw_ite_t rfl ?_; rw [if_neg (fun z => n0 z.1)]
    have e0 := Classical.not_not.mp n0
    rw [if_pos e0]; refine tw_ite_f (by decide) ?_
    refine tw_bind_t (tw_isK h hT tw_g1 o1 (by omega) (by omega)) ?_
    refine tw_ite_t (by rcases (tw_b01 (P := V_kinds (B_given 1) = 1)) with z | z <;> rw [z] <;> decide) ?_
    by_cases n1 : ¬ (V_kinds (B_given 1) = 1)
    · rw [if_neg n1]; refine tw_ite_t rfl ?_; rw [if_neg (fun z => n1 z.2)]
    have e1 := Classical.not_not.mp n1
    rw [if_pos e1]; refine tw_ite_f (by decide) ?_
    rw [if_pos ⟨e0, e1⟩]
  by_cases c : (V_kinds (B_given 0) = 1) ∧ (V_kinds (B_given 1) = 1)
  · rw [if_pos c] at hr
    refine Or.inr ⟨?_, hr, tw_out_10 hN h hT g0 c.1 o0 tw_g1 c.2 o1 ⟩
    rw [hc]; rw [if_pos c.1, if_pos c.2]; rfl
  · rw [if_neg c] at hr
    refine Or.inl ⟨?_, hr⟩
    rw [hc]; by_cases d0 : V_kinds (B_given 0) = 1
    · rw [if_pos d0]
      rw [if_neg (fun z => c ⟨d0, z⟩)]; rfl
    · rw [if_neg d0]; rfl
set_option maxRecDepth 100000 in
theorem tw_do_11 {ok : Int → Int → Int → Prop} {cs : Int → Prop} {ps : Int → Int} {nc : Int} {R_values : Int} {R_nodeOf : Int → Int} {R_rowOf : Int → Int} {D_top : Int} {D_nodes : Int → Int} {R_dataEnd : Int} {VB_top : Int} {VB_row : Int → Int} {R_textEnd : Int} {R_texts : Int → Int} {D_forms : Int → Int} {D_counts : Int → Int} {D_numbers : Int → Int} {R_forms : Int → Int} {R_tags : Int → Int} {R_counts : Int → Int} {R_textsAt : Int → Int} {V_top : Int} {V_kinds : Int → Int} {V_numbers : Int → Int} {V_parts : Int → Int} {V_links : Int → Int} {R_valueKinds : Int → Int} {R_valueNumbers : Int → Int} {R_from : Int → Int} {R_length : Int → Int} {R_given : Int → Int} {R_firstGiven : Int → Int} {R_secondGiven : Int → Int} {D_depths : Int → Int} {D_weights : Int → Int} {m puts : Int} {N : Nat} {B_given R_of R_comes : Int → Int} (hN : 300 ≤ N) (h : tw_XV ok cs ps nc R_values R_nodeOf R_rowOf D_top D_nodes R_dataEnd VB_top VB_row R_textEnd R_texts D_forms D_counts D_numbers R_forms R_tags R_counts R_textsAt V_top V_kinds V_numbers V_parts V_links R_valueKinds R_valueNumbers R_from R_length R_given R_firstGiven R_secondGiven D_depths D_weights) (hT : tw_TOPS V_top D_top VB_top R_textEnd R_dataEnd m) (g0 : tw_vok cs V_top (B_given 0)) (o0 : R_of 0 = ps (B_given 0)) : (f_Builtins_allFit N V_top V_kinds V_parts D_top D_forms B_given 11 = some 0 ∧ f_Mod_fits R_valueKinds R_from R_forms R_of 11 = some 0) ∨ (f_Builtins_allFit N V_top V_kinds V_parts D_top D_forms B_given 11 = some 1 ∧ f_Mod_fits R_valueKinds R_from R_forms R_of 11 = some 1 ∧ tw_OUT ok cs ps nc R_values R_nodeOf R_rowOf D_top D_nodes R_dataEnd VB_top VB_row R_textEnd R_texts D_forms D_counts D_numbers R_forms R_tags R_counts R_textsAt V_top V_kinds V_numbers V_parts V_links R_valueKinds R_valueNumbers R_from R_length R_given R_firstGiven R_secondGiven D_depths D_weights N B_given puts R_of R_comes 11) := by
  have hc := tw_af1 (op := 11) (B_given := B_given) (c0 := 1) hN rfl (by decide) (tw_fl_s hN h hT g0) tw_b01 rfl
  have hr : f_Mod_fits R_valueKinds R_from R_forms R_of 11 = some (if (V_kinds (B_given 0) = 1) then 1 else 0) := by
    unfold f_Mod_fits
    (repeat (first | refine tw_ite_t (by first | omega | (simp only [tw_gq]; omega)) ?_ | refine tw_ite_f (by first | omega | (simp only [tw_gq]; omega)) ?_))
    refine tw_bind_t (tw_isK h hT g0 o0 (by omega) (by omega)) ?_
    exact tw_ite_t tw_b01 rfl
  by_cases c : (V_kinds (B_given 0) = 1)
  · rw [if_pos c] at hr
    refine Or.inr ⟨?_, hr, tw_out_11 hN h hT g0 c o0 ⟩
    rw [hc]; rw [if_pos c]
  · rw [if_neg c] at hr
    refine Or.inl ⟨?_, hr⟩
    rw [hc]; rw [if_neg c]
set_option maxRecDepth 100000 in
theorem tw_do_12 {ok : Int → Int → Int → Prop} {cs : Int → Prop} {ps : Int → Int} {nc : Int} {R_values : Int} {R_nodeOf : Int → Int} {R_rowOf : Int → Int} {D_top : Int} {D_nodes : Int → Int} {R_dataEnd : Int} {VB_top : Int} {VB_row : Int → Int} {R_textEnd : Int} {R_texts : Int → Int} {D_forms : Int → Int} {D_counts : Int → Int} {D_numbers : Int → Int} {R_forms : Int → Int} {R_tags : Int → Int} {R_counts : Int → Int} {R_textsAt : Int → Int} {V_top : Int} {V_kinds : Int → Int} {V_numbers : Int → Int} {V_parts : Int → Int} {V_links : Int → Int} {R_valueKinds : Int → Int} {R_valueNumbers : Int → Int} {R_from : Int → Int} {R_length : Int → Int} {R_given : Int → Int} {R_firstGiven : Int → Int} {R_secondGiven : Int → Int} {D_depths : Int → Int} {D_weights : Int → Int} {m puts : Int} {N : Nat} {B_given R_of R_comes : Int → Int} (hN : 300 ≤ N) (h : tw_XV ok cs ps nc R_values R_nodeOf R_rowOf D_top D_nodes R_dataEnd VB_top VB_row R_textEnd R_texts D_forms D_counts D_numbers R_forms R_tags R_counts R_textsAt V_top V_kinds V_numbers V_parts V_links R_valueKinds R_valueNumbers R_from R_length R_given R_firstGiven R_secondGiven D_depths D_weights) (hT : tw_TOPS V_top D_top VB_top R_textEnd R_dataEnd m) (g0 : tw_vok cs V_top (B_given 0)) (o0 : R_of 0 = ps (B_given 0)) (tw_g1 : tw_vok cs V_top (B_given 1)) (o1 : R_of 1 = ps (B_given 1)) : (f_Builtins_allFit N V_top V_kinds V_parts D_top D_forms B_given 12 = some 0 ∧ f_Mod_fits R_valueKinds R_from R_forms R_of 12 = some 0) ∨ (f_Builtins_allFit N V_top V_kinds V_parts D_top D_forms B_given 12 = some 1 ∧ f_Mod_fits R_valueKinds R_from R_forms R_of 12 = some 1 ∧ tw_OUT ok cs ps nc R_values R_nodeOf R_rowOf D_top D_nodes R_dataEnd VB_top VB_row R_textEnd R_texts D_forms D_counts D_numbers R_forms R_tags R_counts R_textsAt V_top V_kinds V_numbers V_parts V_links R_valueKinds R_valueNumbers R_from R_length R_given R_firstGiven R_secondGiven D_depths D_weights N B_given puts R_of R_comes 12) := by
  have hc := tw_af2 (op := 12) (B_given := B_given) (c0 := 1) (c1 := 0) hN rfl (by decide) (tw_fl_s hN h hT g0) tw_b01 rfl (by decide) (tw_fl_i hN h hT tw_g1) tw_b01 rfl
  have hr : f_Mod_fits R_valueKinds R_from R_forms R_of 12 = some (if (V_kinds (B_given 0) = 1) ∧ (V_kinds (B_given 1) = 0) then 1 else 0) := by
    unfold f_Mod_fits
    (repeat (first | refine tw_ite_t (by first | omega | (simp only [tw_gq]; omega)) ?_ | refine tw_ite_f (by first | omega | (simp only [tw_gq]; omega)) ?_))
    refine tw_bind_t (tw_isK h hT g0 o0 (by omega) (by omega)) ?_
    refine tw_ite_t (by rcases (tw_b01 (P := V_kinds (B_given 0) = 1)) with z | z <;> rw [z] <;> decide) ?_
    by_cases n0 : ¬ (V_kinds (B_given 0) = 1)
    · rw [if_neg n0]; refine tw_ite_t rfl ?_; rw [if_neg (fun z => n0 z.1)]
    have e0 := Classical.not_not.mp n0
    rw [if_pos e0]; refine tw_ite_f (by decide) ?_
    refine tw_bind_t (tw_isK h hT tw_g1 o1 (by omega) (by omega)) ?_
    refine tw_ite_t (by rcases (tw_b01 (P := V_kinds (B_given 1) = 0)) with z | z <;> rw [z] <;> decide) ?_
    by_cases n1 : ¬ (V_kinds (B_given 1) = 0)
    · rw [if_neg n1]; refine tw_ite_t rfl ?_; rw [if_neg (fun z => n1 z.2)]
    have e1 := Classical.not_not.mp n1
    rw [if_pos e1]; refine tw_ite_f (by decide) ?_
    rw [if_pos ⟨e0, e1⟩]
  by_cases c : (V_kinds (B_given 0) = 1) ∧ (V_kinds (B_given 1) = 0)
  · rw [if_pos c] at hr
    refine Or.inr ⟨?_, hr, tw_out_12 hN h hT g0 c.1 o0 tw_g1 c.2 o1 ⟩
    rw [hc]; rw [if_pos c.1, if_pos c.2]; rfl
  · rw [if_neg c] at hr
    refine Or.inl ⟨?_, hr⟩
    rw [hc]; by_cases d0 : V_kinds (B_given 0) = 1
    · rw [if_pos d0]
      rw [if_neg (fun z => c ⟨d0, z⟩)]; rfl
    · rw [if_neg d0]; rfl
set_option maxRecDepth 100000 in
theorem tw_do_13 {ok : Int → Int → Int → Prop} {cs : Int → Prop} {ps : Int → Int} {nc : Int} {R_values : Int} {R_nodeOf : Int → Int} {R_rowOf : Int → Int} {D_top : Int} {D_nodes : Int → Int} {R_dataEnd : Int} {VB_top : Int} {VB_row : Int → Int} {R_textEnd : Int} {R_texts : Int → Int} {D_forms : Int → Int} {D_counts : Int → Int} {D_numbers : Int → Int} {R_forms : Int → Int} {R_tags : Int → Int} {R_counts : Int → Int} {R_textsAt : Int → Int} {V_top : Int} {V_kinds : Int → Int} {V_numbers : Int → Int} {V_parts : Int → Int} {V_links : Int → Int} {R_valueKinds : Int → Int} {R_valueNumbers : Int → Int} {R_from : Int → Int} {R_length : Int → Int} {R_given : Int → Int} {R_firstGiven : Int → Int} {R_secondGiven : Int → Int} {D_depths : Int → Int} {D_weights : Int → Int} {m puts : Int} {N : Nat} {B_given R_of R_comes : Int → Int} (hN : 300 ≤ N) (h : tw_XV ok cs ps nc R_values R_nodeOf R_rowOf D_top D_nodes R_dataEnd VB_top VB_row R_textEnd R_texts D_forms D_counts D_numbers R_forms R_tags R_counts R_textsAt V_top V_kinds V_numbers V_parts V_links R_valueKinds R_valueNumbers R_from R_length R_given R_firstGiven R_secondGiven D_depths D_weights) (hT : tw_TOPS V_top D_top VB_top R_textEnd R_dataEnd m) (g0 : tw_vok cs V_top (B_given 0)) (o0 : R_of 0 = ps (B_given 0)) (tw_g1 : tw_vok cs V_top (B_given 1)) (o1 : R_of 1 = ps (B_given 1)) (tw_g2 : tw_vok cs V_top (B_given 2)) (o2 : R_of 2 = ps (B_given 2)) : (f_Builtins_allFit N V_top V_kinds V_parts D_top D_forms B_given 13 = some 0 ∧ f_Mod_fits R_valueKinds R_from R_forms R_of 13 = some 0) ∨ (f_Builtins_allFit N V_top V_kinds V_parts D_top D_forms B_given 13 = some 1 ∧ f_Mod_fits R_valueKinds R_from R_forms R_of 13 = some 1 ∧ tw_OUT ok cs ps nc R_values R_nodeOf R_rowOf D_top D_nodes R_dataEnd VB_top VB_row R_textEnd R_texts D_forms D_counts D_numbers R_forms R_tags R_counts R_textsAt V_top V_kinds V_numbers V_parts V_links R_valueKinds R_valueNumbers R_from R_length R_given R_firstGiven R_secondGiven D_depths D_weights N B_given puts R_of R_comes 13) := by
  have hc := tw_af3 (op := 13) (B_given := B_given) (c0 := 0) (c1 := 0) (c2 := 1) hN rfl (by decide) (tw_fl_i hN h hT g0) tw_b01 rfl (by decide) (tw_fl_i hN h hT tw_g1) tw_b01 rfl (by decide) (tw_fl_s hN h hT tw_g2) tw_b01
  have hr : f_Mod_fits R_valueKinds R_from R_forms R_of 13 = some (if (V_kinds (B_given 0) = 0) ∧ (V_kinds (B_given 1) = 0) ∧ (V_kinds (B_given 2) = 1) then 1 else 0) := by
    unfold f_Mod_fits
    (repeat (first | refine tw_ite_t (by first | omega | (simp only [tw_gq]; omega)) ?_ | refine tw_ite_f (by first | omega | (simp only [tw_gq]; omega)) ?_))
    refine tw_bind_t (tw_isK h hT g0 o0 (by omega) (by omega)) ?_
    refine tw_ite_t (by rcases (tw_b01 (P := V_kinds (B_given 0) = 0)) with z | z <;> rw [z] <;> decide) ?_
    by_cases n0 : ¬ (V_kinds (B_given 0) = 0)
    · rw [if_neg n0]; refine tw_ite_t rfl ?_; rw [if_neg (fun z => n0 z.1)]
    have e0 := Classical.not_not.mp n0
    rw [if_pos e0]; refine tw_ite_f (by decide) ?_
    refine tw_bind_t (tw_isK h hT tw_g1 o1 (by omega) (by omega)) ?_
    refine tw_ite_t (by rcases (tw_b01 (P := V_kinds (B_given 1) = 0)) with z | z <;> rw [z] <;> decide) ?_
    by_cases n1 : ¬ (V_kinds (B_given 1) = 0)
    · rw [if_neg n1]; refine tw_ite_t rfl ?_; rw [if_neg (fun z => n1 z.2.1)]
    have e1 := Classical.not_not.mp n1
    rw [if_pos e1]; refine tw_ite_f (by decide) ?_
    refine tw_bind_t (tw_isK h hT tw_g2 o2 (by omega) (by omega)) ?_
    refine tw_ite_t (by rcases (tw_b01 (P := V_kinds (B_given 2) = 1)) with z | z <;> rw [z] <;> decide) ?_
    by_cases n2 : ¬ (V_kinds (B_given 2) = 1)
    · rw [if_neg n2]; refine tw_ite_t rfl ?_; rw [if_neg (fun z => n2 z.2.2)]
    have e2 := Classical.not_not.mp n2
    rw [if_pos e2]; refine tw_ite_f (by decide) ?_
    rw [if_pos ⟨e0, e1, e2⟩]
  by_cases c : (V_kinds (B_given 0) = 0) ∧ (V_kinds (B_given 1) = 0) ∧ (V_kinds (B_given 2) = 1)
  · rw [if_pos c] at hr
    refine Or.inr ⟨?_, hr, tw_out_13 hN h hT g0 c.1 o0 tw_g1 c.2.1 o1 tw_g2 c.2.2 o2 ⟩
    rw [hc]; rw [if_pos c.1, if_pos c.2.1, if_pos c.2.2]; rfl
  · rw [if_neg c] at hr
    refine Or.inl ⟨?_, hr⟩
    rw [hc]; by_cases d0 : V_kinds (B_given 0) = 0
    · rw [if_pos d0]
      by_cases d1 : V_kinds (B_given 1) = 0
      · rw [if_pos d1, if_neg (fun z => c ⟨d0, d1, z⟩)]; rfl
      · rw [if_neg d1]; rfl
    · rw [if_neg d0]; rfl
set_option maxRecDepth 100000 in
theorem tw_do_14 {ok : Int → Int → Int → Prop} {cs : Int → Prop} {ps : Int → Int} {nc : Int} {R_values : Int} {R_nodeOf : Int → Int} {R_rowOf : Int → Int} {D_top : Int} {D_nodes : Int → Int} {R_dataEnd : Int} {VB_top : Int} {VB_row : Int → Int} {R_textEnd : Int} {R_texts : Int → Int} {D_forms : Int → Int} {D_counts : Int → Int} {D_numbers : Int → Int} {R_forms : Int → Int} {R_tags : Int → Int} {R_counts : Int → Int} {R_textsAt : Int → Int} {V_top : Int} {V_kinds : Int → Int} {V_numbers : Int → Int} {V_parts : Int → Int} {V_links : Int → Int} {R_valueKinds : Int → Int} {R_valueNumbers : Int → Int} {R_from : Int → Int} {R_length : Int → Int} {R_given : Int → Int} {R_firstGiven : Int → Int} {R_secondGiven : Int → Int} {D_depths : Int → Int} {D_weights : Int → Int} {m puts : Int} {N : Nat} {B_given R_of R_comes : Int → Int} (hN : 300 ≤ N) (h : tw_XV ok cs ps nc R_values R_nodeOf R_rowOf D_top D_nodes R_dataEnd VB_top VB_row R_textEnd R_texts D_forms D_counts D_numbers R_forms R_tags R_counts R_textsAt V_top V_kinds V_numbers V_parts V_links R_valueKinds R_valueNumbers R_from R_length R_given R_firstGiven R_secondGiven D_depths D_weights) (hT : tw_TOPS V_top D_top VB_top R_textEnd R_dataEnd m) (g0 : tw_vok cs V_top (B_given 0)) (o0 : R_of 0 = ps (B_given 0)) (tw_g1 : tw_vok cs V_top (B_given 1)) (o1 : R_of 1 = ps (B_given 1)) : (f_Builtins_allFit N V_top V_kinds V_parts D_top D_forms B_given 14 = some 0 ∧ f_Mod_fits R_valueKinds R_from R_forms R_of 14 = some 0) ∨ (f_Builtins_allFit N V_top V_kinds V_parts D_top D_forms B_given 14 = some 1 ∧ f_Mod_fits R_valueKinds R_from R_forms R_of 14 = some 1 ∧ tw_OUT ok cs ps nc R_values R_nodeOf R_rowOf D_top D_nodes R_dataEnd VB_top VB_row R_textEnd R_texts D_forms D_counts D_numbers R_forms R_tags R_counts R_textsAt V_top V_kinds V_numbers V_parts V_links R_valueKinds R_valueNumbers R_from R_length R_given R_firstGiven R_secondGiven D_depths D_weights N B_given puts R_of R_comes 14) := by
  have hc := tw_af2 (op := 14) (B_given := B_given) (c0 := 1) (c1 := 1) hN rfl (by decide) (tw_fl_s hN h hT g0) tw_b01 rfl (by decide) (tw_fl_s hN h hT tw_g1) tw_b01 rfl
  have hr : f_Mod_fits R_valueKinds R_from R_forms R_of 14 = some (if (V_kinds (B_given 0) = 1) ∧ (V_kinds (B_given 1) = 1) then 1 else 0) := by
    unfold f_Mod_fits
    (repeat (first | refine tw_ite_t (by first | omega | (simp only [tw_gq]; omega)) ?_ | refine tw_ite_f (by first | omega | (simp only [tw_gq]; omega)) ?_))
    refine tw_bind_t (tw_isK h hT g0 o0 (by omega) (by omega)) ?_
    refine tw_ite_t (by rcases (tw_b01 (P := V_kinds (B_given 0) = 1)) with z | z <;> rw [z] <;> decide) ?_
    by_cases n0 : ¬ (V_kinds (B_given 0) = 1)
    · rw [if_neg n0]; refine tw_ite_t rfl ?_; rw [if_neg (fun z => n0 z.1)]
    have e0 := Classical.not_not.mp n0
    rw [if_pos e0]; refine tw_ite_f (by decide) ?_
    refine tw_bind_t (tw_isK h hT tw_g1 o1 (by omega) (by omega)) ?_
    refine tw_ite_t (by rcases (tw_b01 (P := V_kinds (B_given 1) = 1)) with z | z <;> rw [z] <;> decide) ?_
    by_cases n1 : ¬ (V_kinds (B_given 1) = 1)
    · rw [if_neg n1]; refine tw_ite_t rfl ?_; rw [if_neg (fun z => n1 z.2)]
    have e1 := Classical.not_not.mp n1
    rw [if_pos e1]; refine tw_ite_f (by decide) ?_
    rw [if_pos ⟨e0, e1⟩]
  by_cases c : (V_kinds (B_given 0) = 1) ∧ (V_kinds (B_given 1) = 1)
  · rw [if_pos c] at hr
    refine Or.inr ⟨?_, hr, tw_out_14 hN h hT g0 c.1 o0 tw_g1 c.2 o1 ⟩
    rw [hc]; rw [if_pos c.1, if_pos c.2]; rfl
  · rw [if_neg c] at hr
    refine Or.inl ⟨?_, hr⟩
    rw [hc]; by_cases d0 : V_kinds (B_given 0) = 1
    · rw [if_pos d0]
      rw [if_neg (fun z => c ⟨d0, z⟩)]; rfl
    · rw [if_neg d0]; rfl
set_option maxRecDepth 100000 in
theorem tw_do_15 {ok : Int → Int → Int → Prop} {cs : Int → Prop} {ps : Int → Int} {nc : Int} {R_values : Int} {R_nodeOf : Int → Int} {R_rowOf : Int → Int} {D_top : Int} {D_nodes : Int → Int} {R_dataEnd : Int} {VB_top : Int} {VB_row : Int → Int} {R_textEnd : Int} {R_texts : Int → Int} {D_forms : Int → Int} {D_counts : Int → Int} {D_numbers : Int → Int} {R_forms : Int → Int} {R_tags : Int → Int} {R_counts : Int → Int} {R_textsAt : Int → Int} {V_top : Int} {V_kinds : Int → Int} {V_numbers : Int → Int} {V_parts : Int → Int} {V_links : Int → Int} {R_valueKinds : Int → Int} {R_valueNumbers : Int → Int} {R_from : Int → Int} {R_length : Int → Int} {R_given : Int → Int} {R_firstGiven : Int → Int} {R_secondGiven : Int → Int} {D_depths : Int → Int} {D_weights : Int → Int} {m puts : Int} {N : Nat} {B_given R_of R_comes : Int → Int} (hN : 300 ≤ N) (h : tw_XV ok cs ps nc R_values R_nodeOf R_rowOf D_top D_nodes R_dataEnd VB_top VB_row R_textEnd R_texts D_forms D_counts D_numbers R_forms R_tags R_counts R_textsAt V_top V_kinds V_numbers V_parts V_links R_valueKinds R_valueNumbers R_from R_length R_given R_firstGiven R_secondGiven D_depths D_weights) (hT : tw_TOPS V_top D_top VB_top R_textEnd R_dataEnd m) (g0 : tw_vok cs V_top (B_given 0)) (o0 : R_of 0 = ps (B_given 0)) (tw_g1 : tw_vok cs V_top (B_given 1)) (o1 : R_of 1 = ps (B_given 1)) : (f_Builtins_allFit N V_top V_kinds V_parts D_top D_forms B_given 15 = some 0 ∧ f_Mod_fits R_valueKinds R_from R_forms R_of 15 = some 0) ∨ (f_Builtins_allFit N V_top V_kinds V_parts D_top D_forms B_given 15 = some 1 ∧ f_Mod_fits R_valueKinds R_from R_forms R_of 15 = some 1 ∧ tw_OUT ok cs ps nc R_values R_nodeOf R_rowOf D_top D_nodes R_dataEnd VB_top VB_row R_textEnd R_texts D_forms D_counts D_numbers R_forms R_tags R_counts R_textsAt V_top V_kinds V_numbers V_parts V_links R_valueKinds R_valueNumbers R_from R_length R_given R_firstGiven R_secondGiven D_depths D_weights N B_given puts R_of R_comes 15) := by
  have hc := tw_af2 (op := 15) (B_given := B_given) (c0 := 1) (c1 := 1) hN rfl (by decide) (tw_fl_s hN h hT g0) tw_b01 rfl (by decide) (tw_fl_s hN h hT tw_g1) tw_b01 rfl
  have hr : f_Mod_fits R_valueKinds R_from R_forms R_of 15 = some (if (V_kinds (B_given 0) = 1) ∧ (V_kinds (B_given 1) = 1) then 1 else 0) := by
    unfold f_Mod_fits
    (repeat (first | refine tw_ite_t (by first | omega | (simp only [tw_gq]; omega)) ?_ | refine tw_ite_f (by first | omega | (simp only [tw_gq]; omega)) ?_))
    refine tw_bind_t (tw_isK h hT g0 o0 (by omega) (by omega)) ?_
    refine tw_ite_t (by rcases (tw_b01 (P := V_kinds (B_given 0) = 1)) with z | z <;> rw [z] <;> decide) ?_
    by_cases n0 : ¬ (V_kinds (B_given 0) = 1)
    · rw [if_neg n0]; refine tw_ite_t rfl ?_; rw [if_neg (fun z => n0 z.1)]
    have e0 := Classical.not_not.mp n0
    rw [if_pos e0]; refine tw_ite_f (by decide) ?_
    refine tw_bind_t (tw_isK h hT tw_g1 o1 (by omega) (by omega)) ?_
    refine tw_ite_t (by rcases (tw_b01 (P := V_kinds (B_given 1) = 1)) with z | z <;> rw [z] <;> decide) ?_
    by_cases n1 : ¬ (V_kinds (B_given 1) = 1)
    · rw [if_neg n1]; refine tw_ite_t rfl ?_; rw [if_neg (fun z => n1 z.2)]
    have e1 := Classical.not_not.mp n1
    rw [if_pos e1]; refine tw_ite_f (by decide) ?_
    rw [if_pos ⟨e0, e1⟩]
  by_cases c : (V_kinds (B_given 0) = 1) ∧ (V_kinds (B_given 1) = 1)
  · rw [if_pos c] at hr
    refine Or.inr ⟨?_, hr, tw_out_15 hN h hT g0 c.1 o0 tw_g1 c.2 o1 ⟩
    rw [hc]; rw [if_pos c.1, if_pos c.2]; rfl
  · rw [if_neg c] at hr
    refine Or.inl ⟨?_, hr⟩
    rw [hc]; by_cases d0 : V_kinds (B_given 0) = 1
    · rw [if_pos d0]
      rw [if_neg (fun z => c ⟨d0, z⟩)]; rfl
    · rw [if_neg d0]; rfl
set_option maxRecDepth 100000 in
theorem tw_do_16 {ok : Int → Int → Int → Prop} {cs : Int → Prop} {ps : Int → Int} {nc : Int} {R_values : Int} {R_nodeOf : Int → Int} {R_rowOf : Int → Int} {D_top : Int} {D_nodes : Int → Int} {R_dataEnd : Int} {VB_top : Int} {VB_row : Int → Int} {R_textEnd : Int} {R_texts : Int → Int} {D_forms : Int → Int} {D_counts : Int → Int} {D_numbers : Int → Int} {R_forms : Int → Int} {R_tags : Int → Int} {R_counts : Int → Int} {R_textsAt : Int → Int} {V_top : Int} {V_kinds : Int → Int} {V_numbers : Int → Int} {V_parts : Int → Int} {V_links : Int → Int} {R_valueKinds : Int → Int} {R_valueNumbers : Int → Int} {R_from : Int → Int} {R_length : Int → Int} {R_given : Int → Int} {R_firstGiven : Int → Int} {R_secondGiven : Int → Int} {D_depths : Int → Int} {D_weights : Int → Int} {m puts : Int} {N : Nat} {B_given R_of R_comes : Int → Int} (hN : 300 ≤ N) (h : tw_XV ok cs ps nc R_values R_nodeOf R_rowOf D_top D_nodes R_dataEnd VB_top VB_row R_textEnd R_texts D_forms D_counts D_numbers R_forms R_tags R_counts R_textsAt V_top V_kinds V_numbers V_parts V_links R_valueKinds R_valueNumbers R_from R_length R_given R_firstGiven R_secondGiven D_depths D_weights) (hT : tw_TOPS V_top D_top VB_top R_textEnd R_dataEnd m) (g0 : tw_vok cs V_top (B_given 0)) (o0 : R_of 0 = ps (B_given 0)) (tw_g1 : tw_vok cs V_top (B_given 1)) (o1 : R_of 1 = ps (B_given 1)) (tw_g2 : tw_vok cs V_top (B_given 2)) (o2 : R_of 2 = ps (B_given 2)) : (f_Builtins_allFit N V_top V_kinds V_parts D_top D_forms B_given 16 = some 0 ∧ f_Mod_fits R_valueKinds R_from R_forms R_of 16 = some 0) ∨ (f_Builtins_allFit N V_top V_kinds V_parts D_top D_forms B_given 16 = some 1 ∧ f_Mod_fits R_valueKinds R_from R_forms R_of 16 = some 1 ∧ tw_OUT ok cs ps nc R_values R_nodeOf R_rowOf D_top D_nodes R_dataEnd VB_top VB_row R_textEnd R_texts D_forms D_counts D_numbers R_forms R_tags R_counts R_textsAt V_top V_kinds V_numbers V_parts V_links R_valueKinds R_valueNumbers R_from R_length R_given R_firstGiven R_secondGiven D_depths D_weights N B_given puts R_of R_comes 16) := by
  have hc := tw_af3 (op := 16) (B_given := B_given) (c0 := 2) (c1 := 8) (c2 := 8) hN rfl (by decide) (tw_fl_t hN h hT g0) tw_b01 rfl (by decide) (tw_fl_v hN h hT tw_g1) (Or.inr rfl) rfl (by decide) (tw_fl_v hN h hT tw_g2) (Or.inr rfl)
  have hr : f_Mod_fits R_valueKinds R_from R_forms R_of 16 = some (if (V_kinds (B_given 0) = 2) then 1 else 0) := by
    unfold f_Mod_fits
    (repeat (first | refine tw_ite_t (by first | omega | (simp only [tw_gq]; omega)) ?_ | refine tw_ite_f (by first | omega | (simp only [tw_gq]; omega)) ?_))
    refine tw_bind_t (tw_isK h hT g0 o0 (by omega) (by omega)) ?_
    exact tw_ite_t tw_b01 rfl
  by_cases c : (V_kinds (B_given 0) = 2)
  · rw [if_pos c] at hr
    refine Or.inr ⟨?_, hr, tw_out_C h hT g0 tw_g1 tw_g2 c o0 o1 o2⟩
    rw [hc]; rw [if_pos c]; rfl
  · rw [if_neg c] at hr
    refine Or.inl ⟨?_, hr⟩
    rw [hc]; rw [if_neg c]; rfl
set_option maxRecDepth 100000 in
theorem tw_do_17 {ok : Int → Int → Int → Prop} {cs : Int → Prop} {ps : Int → Int} {nc : Int} {R_values : Int} {R_nodeOf : Int → Int} {R_rowOf : Int → Int} {D_top : Int} {D_nodes : Int → Int} {R_dataEnd : Int} {VB_top : Int} {VB_row : Int → Int} {R_textEnd : Int} {R_texts : Int → Int} {D_forms : Int → Int} {D_counts : Int → Int} {D_numbers : Int → Int} {R_forms : Int → Int} {R_tags : Int → Int} {R_counts : Int → Int} {R_textsAt : Int → Int} {V_top : Int} {V_kinds : Int → Int} {V_numbers : Int → Int} {V_parts : Int → Int} {V_links : Int → Int} {R_valueKinds : Int → Int} {R_valueNumbers : Int → Int} {R_from : Int → Int} {R_length : Int → Int} {R_given : Int → Int} {R_firstGiven : Int → Int} {R_secondGiven : Int → Int} {D_depths : Int → Int} {D_weights : Int → Int} {m puts : Int} {N : Nat} {B_given R_of R_comes : Int → Int} (hN : 300 ≤ N) (h : tw_XV ok cs ps nc R_values R_nodeOf R_rowOf D_top D_nodes R_dataEnd VB_top VB_row R_textEnd R_texts D_forms D_counts D_numbers R_forms R_tags R_counts R_textsAt V_top V_kinds V_numbers V_parts V_links R_valueKinds R_valueNumbers R_from R_length R_given R_firstGiven R_secondGiven D_depths D_weights) (hT : tw_TOPS V_top D_top VB_top R_textEnd R_dataEnd m) (g0 : tw_vok cs V_top (B_given 0)) (o0 : R_of 0 = ps (B_given 0)) (tw_g1 : tw_vok cs V_top (B_given 1)) (o1 : R_of 1 = ps (B_given 1)) : (f_Builtins_allFit N V_top V_kinds V_parts D_top D_forms B_given 17 = some 0 ∧ f_Mod_fits R_valueKinds R_from R_forms R_of 17 = some 0) ∨ (f_Builtins_allFit N V_top V_kinds V_parts D_top D_forms B_given 17 = some 1 ∧ f_Mod_fits R_valueKinds R_from R_forms R_of 17 = some 1 ∧ tw_OUT ok cs ps nc R_values R_nodeOf R_rowOf D_top D_nodes R_dataEnd VB_top VB_row R_textEnd R_texts D_forms D_counts D_numbers R_forms R_tags R_counts R_textsAt V_top V_kinds V_numbers V_parts V_links R_valueKinds R_valueNumbers R_from R_length R_given R_firstGiven R_secondGiven D_depths D_weights N B_given puts R_of R_comes 17) := by
  have hc := tw_af2 (op := 17) (B_given := B_given) (c0 := 4) (c1 := 4) hN rfl (by decide) (tw_fl_d hN h hT g0) tw_b01 rfl (by decide) (tw_fl_d hN h hT tw_g1) tw_b01 rfl
  have hr : f_Mod_fits R_valueKinds R_from R_forms R_of 17 = some (if (V_kinds (B_given 0) = 4) ∧ (V_kinds (B_given 1) = 4) then 1 else 0) := by
    unfold f_Mod_fits
    (repeat (first | refine tw_ite_t (by first | omega | (simp only [tw_gq]; omega)) ?_ | refine tw_ite_f (by first | omega | (simp only [tw_gq]; omega)) ?_))
    refine tw_bind_t (tw_isK h hT g0 o0 (by omega) (by omega)) ?_
    refine tw_ite_t (by rcases (tw_b01 (P := V_kinds (B_given 0) = 4)) with z | z <;> rw [z] <;> decide) ?_
    by_cases n0 : ¬ (V_kinds (B_given 0) = 4)
    · rw [if_neg n0]; refine tw_ite_t rfl ?_; rw [if_neg (fun z => n0 z.1)]
    have e0 := Classical.not_not.mp n0
    rw [if_pos e0]; refine tw_ite_f (by decide) ?_
    refine tw_bind_t (tw_isK h hT tw_g1 o1 (by omega) (by omega)) ?_
    refine tw_ite_t (by rcases (tw_b01 (P := V_kinds (B_given 1) = 4)) with z | z <;> rw [z] <;> decide) ?_
    by_cases n1 : ¬ (V_kinds (B_given 1) = 4)
    · rw [if_neg n1]; refine tw_ite_t rfl ?_; rw [if_neg (fun z => n1 z.2)]
    have e1 := Classical.not_not.mp n1
    rw [if_pos e1]; refine tw_ite_f (by decide) ?_
    rw [if_pos ⟨e0, e1⟩]
  by_cases c : (V_kinds (B_given 0) = 4) ∧ (V_kinds (B_given 1) = 4)
  · rw [if_pos c] at hr
    refine Or.inr ⟨?_, hr, tw_out_17 hN h hT g0 c.1 o0 tw_g1 c.2 o1 ⟩
    rw [hc]; rw [if_pos c.1, if_pos c.2]; rfl
  · rw [if_neg c] at hr
    refine Or.inl ⟨?_, hr⟩
    rw [hc]; by_cases d0 : V_kinds (B_given 0) = 4
    · rw [if_pos d0]
      rw [if_neg (fun z => c ⟨d0, z⟩)]; rfl
    · rw [if_neg d0]; rfl
set_option maxRecDepth 100000 in
theorem tw_do_18 {ok : Int → Int → Int → Prop} {cs : Int → Prop} {ps : Int → Int} {nc : Int} {R_values : Int} {R_nodeOf : Int → Int} {R_rowOf : Int → Int} {D_top : Int} {D_nodes : Int → Int} {R_dataEnd : Int} {VB_top : Int} {VB_row : Int → Int} {R_textEnd : Int} {R_texts : Int → Int} {D_forms : Int → Int} {D_counts : Int → Int} {D_numbers : Int → Int} {R_forms : Int → Int} {R_tags : Int → Int} {R_counts : Int → Int} {R_textsAt : Int → Int} {V_top : Int} {V_kinds : Int → Int} {V_numbers : Int → Int} {V_parts : Int → Int} {V_links : Int → Int} {R_valueKinds : Int → Int} {R_valueNumbers : Int → Int} {R_from : Int → Int} {R_length : Int → Int} {R_given : Int → Int} {R_firstGiven : Int → Int} {R_secondGiven : Int → Int} {D_depths : Int → Int} {D_weights : Int → Int} {m puts : Int} {N : Nat} {B_given R_of R_comes : Int → Int} (hN : 300 ≤ N) (h : tw_XV ok cs ps nc R_values R_nodeOf R_rowOf D_top D_nodes R_dataEnd VB_top VB_row R_textEnd R_texts D_forms D_counts D_numbers R_forms R_tags R_counts R_textsAt V_top V_kinds V_numbers V_parts V_links R_valueKinds R_valueNumbers R_from R_length R_given R_firstGiven R_secondGiven D_depths D_weights) (hT : tw_TOPS V_top D_top VB_top R_textEnd R_dataEnd m) (g0 : tw_vok cs V_top (B_given 0)) (o0 : R_of 0 = ps (B_given 0)) : (f_Builtins_allFit N V_top V_kinds V_parts D_top D_forms B_given 18 = some 0 ∧ f_Mod_fits R_valueKinds R_from R_forms R_of 18 = some 0) ∨ (f_Builtins_allFit N V_top V_kinds V_parts D_top D_forms B_given 18 = some 1 ∧ f_Mod_fits R_valueKinds R_from R_forms R_of 18 = some 1 ∧ tw_OUT ok cs ps nc R_values R_nodeOf R_rowOf D_top D_nodes R_dataEnd VB_top VB_row R_textEnd R_texts D_forms D_counts D_numbers R_forms R_tags R_counts R_textsAt V_top V_kinds V_numbers V_parts V_links R_valueKinds R_valueNumbers R_from R_length R_given R_firstGiven R_secondGiven D_depths D_weights N B_given puts R_of R_comes 18) := by
  have hc := tw_af1 (op := 18) (B_given := B_given) (c0 := 4) hN rfl (by decide) (tw_fl_d hN h hT g0) tw_b01 rfl
  have hr : f_Mod_fits R_valueKinds R_from R_forms R_of 18 = some (if (V_kinds (B_given 0) = 4) then 1 else 0) := by
    unfold f_Mod_fits
    (repeat (first | refine tw_ite_t (by first | omega | (simp only [tw_gq]; omega)) ?_ | refine tw_ite_f (by first | omega | (simp only [tw_gq]; omega)) ?_))
    refine tw_bind_t (tw_isK h hT g0 o0 (by omega) (by omega)) ?_
    exact tw_ite_t tw_b01 rfl
  by_cases c : (V_kinds (B_given 0) = 4)
  · rw [if_pos c] at hr
    refine Or.inr ⟨?_, hr, tw_out_18 hN h hT g0 c o0 ⟩
    rw [hc]; rw [if_pos c]
  · rw [if_neg c] at hr
    refine Or.inl ⟨?_, hr⟩
    rw [hc]; rw [if_neg c]
set_option maxRecDepth 100000 in
theorem tw_do_19 {ok : Int → Int → Int → Prop} {cs : Int → Prop} {ps : Int → Int} {nc : Int} {R_values : Int} {R_nodeOf : Int → Int} {R_rowOf : Int → Int} {D_top : Int} {D_nodes : Int → Int} {R_dataEnd : Int} {VB_top : Int} {VB_row : Int → Int} {R_textEnd : Int} {R_texts : Int → Int} {D_forms : Int → Int} {D_counts : Int → Int} {D_numbers : Int → Int} {R_forms : Int → Int} {R_tags : Int → Int} {R_counts : Int → Int} {R_textsAt : Int → Int} {V_top : Int} {V_kinds : Int → Int} {V_numbers : Int → Int} {V_parts : Int → Int} {V_links : Int → Int} {R_valueKinds : Int → Int} {R_valueNumbers : Int → Int} {R_from : Int → Int} {R_length : Int → Int} {R_given : Int → Int} {R_firstGiven : Int → Int} {R_secondGiven : Int → Int} {D_depths : Int → Int} {D_weights : Int → Int} {m puts : Int} {N : Nat} {B_given R_of R_comes : Int → Int} (hN : 300 ≤ N) (h : tw_XV ok cs ps nc R_values R_nodeOf R_rowOf D_top D_nodes R_dataEnd VB_top VB_row R_textEnd R_texts D_forms D_counts D_numbers R_forms R_tags R_counts R_textsAt V_top V_kinds V_numbers V_parts V_links R_valueKinds R_valueNumbers R_from R_length R_given R_firstGiven R_secondGiven D_depths D_weights) (hT : tw_TOPS V_top D_top VB_top R_textEnd R_dataEnd m) (g0 : tw_vok cs V_top (B_given 0)) (o0 : R_of 0 = ps (B_given 0)) : (f_Builtins_allFit N V_top V_kinds V_parts D_top D_forms B_given 19 = some 0 ∧ f_Mod_fits R_valueKinds R_from R_forms R_of 19 = some 0) ∨ (f_Builtins_allFit N V_top V_kinds V_parts D_top D_forms B_given 19 = some 1 ∧ f_Mod_fits R_valueKinds R_from R_forms R_of 19 = some 1 ∧ tw_OUT ok cs ps nc R_values R_nodeOf R_rowOf D_top D_nodes R_dataEnd VB_top VB_row R_textEnd R_texts D_forms D_counts D_numbers R_forms R_tags R_counts R_textsAt V_top V_kinds V_numbers V_parts V_links R_valueKinds R_valueNumbers R_from R_length R_given R_firstGiven R_secondGiven D_depths D_weights N B_given puts R_of R_comes 19) := by
  have hc := tw_af1 (op := 19) (B_given := B_given) (c0 := 9) hN rfl (by decide) (tw_fl_c hN h hT g0) tw_b01 rfl
  have hr : f_Mod_fits R_valueKinds R_from R_forms R_of 19 = some (if (V_kinds (B_given 0) = 4 ∧ D_forms (V_parts (B_given 0)) = 0) then 1 else 0) := by
    unfold f_Mod_fits
    (repeat (first | refine tw_ite_t (by first | omega | (simp only [tw_gq]; omega)) ?_ | refine tw_ite_f (by first | omega | (simp only [tw_gq]; omega)) ?_))
    refine tw_bind_t (tw_isF h hT g0 o0 (by omega) (by omega)) ?_
    exact tw_ite_t tw_b01 rfl
  by_cases c : (V_kinds (B_given 0) = 4 ∧ D_forms (V_parts (B_given 0)) = 0)
  · rw [if_pos c] at hr
    refine Or.inr ⟨?_, hr, tw_out_19 hN h hT g0 c.1 o0 c.2 ⟩
    rw [hc]; rw [if_pos c]
  · rw [if_neg c] at hr
    refine Or.inl ⟨?_, hr⟩
    rw [hc]; rw [if_neg c]
set_option maxRecDepth 100000 in
theorem tw_do_20 {ok : Int → Int → Int → Prop} {cs : Int → Prop} {ps : Int → Int} {nc : Int} {R_values : Int} {R_nodeOf : Int → Int} {R_rowOf : Int → Int} {D_top : Int} {D_nodes : Int → Int} {R_dataEnd : Int} {VB_top : Int} {VB_row : Int → Int} {R_textEnd : Int} {R_texts : Int → Int} {D_forms : Int → Int} {D_counts : Int → Int} {D_numbers : Int → Int} {R_forms : Int → Int} {R_tags : Int → Int} {R_counts : Int → Int} {R_textsAt : Int → Int} {V_top : Int} {V_kinds : Int → Int} {V_numbers : Int → Int} {V_parts : Int → Int} {V_links : Int → Int} {R_valueKinds : Int → Int} {R_valueNumbers : Int → Int} {R_from : Int → Int} {R_length : Int → Int} {R_given : Int → Int} {R_firstGiven : Int → Int} {R_secondGiven : Int → Int} {D_depths : Int → Int} {D_weights : Int → Int} {m puts : Int} {N : Nat} {B_given R_of R_comes : Int → Int} (hN : 300 ≤ N) (h : tw_XV ok cs ps nc R_values R_nodeOf R_rowOf D_top D_nodes R_dataEnd VB_top VB_row R_textEnd R_texts D_forms D_counts D_numbers R_forms R_tags R_counts R_textsAt V_top V_kinds V_numbers V_parts V_links R_valueKinds R_valueNumbers R_from R_length R_given R_firstGiven R_secondGiven D_depths D_weights) (hT : tw_TOPS V_top D_top VB_top R_textEnd R_dataEnd m) (g0 : tw_vok cs V_top (B_given 0)) (o0 : R_of 0 = ps (B_given 0)) : (f_Builtins_allFit N V_top V_kinds V_parts D_top D_forms B_given 20 = some 0 ∧ f_Mod_fits R_valueKinds R_from R_forms R_of 20 = some 0) ∨ (f_Builtins_allFit N V_top V_kinds V_parts D_top D_forms B_given 20 = some 1 ∧ f_Mod_fits R_valueKinds R_from R_forms R_of 20 = some 1 ∧ tw_OUT ok cs ps nc R_values R_nodeOf R_rowOf D_top D_nodes R_dataEnd VB_top VB_row R_textEnd R_texts D_forms D_counts D_numbers R_forms R_tags R_counts R_textsAt V_top V_kinds V_numbers V_parts V_links R_valueKinds R_valueNumbers R_from R_length R_given R_firstGiven R_secondGiven D_depths D_weights N B_given puts R_of R_comes 20) := by
  have hc := tw_af1 (op := 20) (B_given := B_given) (c0 := 9) hN rfl (by decide) (tw_fl_c hN h hT g0) tw_b01 rfl
  have hr : f_Mod_fits R_valueKinds R_from R_forms R_of 20 = some (if (V_kinds (B_given 0) = 4 ∧ D_forms (V_parts (B_given 0)) = 0) then 1 else 0) := by
    unfold f_Mod_fits
    (repeat (first | refine tw_ite_t (by first | omega | (simp only [tw_gq]; omega)) ?_ | refine tw_ite_f (by first | omega | (simp only [tw_gq]; omega)) ?_))
    refine tw_bind_t (tw_isF h hT g0 o0 (by omega) (by omega)) ?_
    exact tw_ite_t tw_b01 rfl
  by_cases c : (V_kinds (B_given 0) = 4 ∧ D_forms (V_parts (B_given 0)) = 0)
  · rw [if_pos c] at hr
    refine Or.inr ⟨?_, hr, tw_out_20 hN h hT g0 c.1 o0 c.2 ⟩
    rw [hc]; rw [if_pos c]
  · rw [if_neg c] at hr
    refine Or.inl ⟨?_, hr⟩
    rw [hc]; rw [if_neg c]
set_option maxRecDepth 100000 in
theorem tw_do_21 {ok : Int → Int → Int → Prop} {cs : Int → Prop} {ps : Int → Int} {nc : Int} {R_values : Int} {R_nodeOf : Int → Int} {R_rowOf : Int → Int} {D_top : Int} {D_nodes : Int → Int} {R_dataEnd : Int} {VB_top : Int} {VB_row : Int → Int} {R_textEnd : Int} {R_texts : Int → Int} {D_forms : Int → Int} {D_counts : Int → Int} {D_numbers : Int → Int} {R_forms : Int → Int} {R_tags : Int → Int} {R_counts : Int → Int} {R_textsAt : Int → Int} {V_top : Int} {V_kinds : Int → Int} {V_numbers : Int → Int} {V_parts : Int → Int} {V_links : Int → Int} {R_valueKinds : Int → Int} {R_valueNumbers : Int → Int} {R_from : Int → Int} {R_length : Int → Int} {R_given : Int → Int} {R_firstGiven : Int → Int} {R_secondGiven : Int → Int} {D_depths : Int → Int} {D_weights : Int → Int} {m puts : Int} {N : Nat} {B_given R_of R_comes : Int → Int} (hN : 300 ≤ N) (h : tw_XV ok cs ps nc R_values R_nodeOf R_rowOf D_top D_nodes R_dataEnd VB_top VB_row R_textEnd R_texts D_forms D_counts D_numbers R_forms R_tags R_counts R_textsAt V_top V_kinds V_numbers V_parts V_links R_valueKinds R_valueNumbers R_from R_length R_given R_firstGiven R_secondGiven D_depths D_weights) (hT : tw_TOPS V_top D_top VB_top R_textEnd R_dataEnd m) (g0 : tw_vok cs V_top (B_given 0)) (o0 : R_of 0 = ps (B_given 0)) (tw_g1 : tw_vok cs V_top (B_given 1)) (o1 : R_of 1 = ps (B_given 1)) : (f_Builtins_allFit N V_top V_kinds V_parts D_top D_forms B_given 21 = some 0 ∧ f_Mod_fits R_valueKinds R_from R_forms R_of 21 = some 0) ∨ (f_Builtins_allFit N V_top V_kinds V_parts D_top D_forms B_given 21 = some 1 ∧ f_Mod_fits R_valueKinds R_from R_forms R_of 21 = some 1 ∧ tw_OUT ok cs ps nc R_values R_nodeOf R_rowOf D_top D_nodes R_dataEnd VB_top VB_row R_textEnd R_texts D_forms D_counts D_numbers R_forms R_tags R_counts R_textsAt V_top V_kinds V_numbers V_parts V_links R_valueKinds R_valueNumbers R_from R_length R_given R_firstGiven R_secondGiven D_depths D_weights N B_given puts R_of R_comes 21) := by
  have hc := tw_af2 (op := 21) (B_given := B_given) (c0 := 0) (c1 := 11) hN rfl (by decide) (tw_fl_i hN h hT g0) tw_b01 rfl (by decide) (tw_fl_l hN h hT tw_g1) tw_b01 rfl
  have hr : f_Mod_fits R_valueKinds R_from R_forms R_of 21 = some (if (V_kinds (B_given 0) = 0) ∧ (V_kinds (B_given 1) = 4 ∧ D_forms (V_parts (B_given 1)) = 2) then 1 else 0) := by
    unfold f_Mod_fits
    (repeat (first | refine tw_ite_t (by first | omega | (simp only [tw_gq]; omega)) ?_ | refine tw_ite_f (by first | omega | (simp only [tw_gq]; omega)) ?_))
    refine tw_bind_t (tw_isK h hT g0 o0 (by omega) (by omega)) ?_
    refine tw_ite_t (by rcases (tw_b01 (P := V_kinds (B_given 0) = 0)) with z | z <;> rw [z] <;> decide) ?_
    by_cases n0 : ¬ (V_kinds (B_given 0) = 0)
    · rw [if_neg n0]; refine tw_ite_t rfl ?_; rw [if_neg (fun z => n0 z.1)]
    have e0 := Classical.not_not.mp n0
    rw [if_pos e0]; refine tw_ite_f (by decide) ?_
    refine tw_bind_t (tw_isF h hT tw_g1 o1 (by omega) (by omega)) ?_
    refine tw_ite_t (by rcases (tw_b01 (P := V_kinds (B_given 1) = 4 ∧ D_forms (V_parts (B_given 1)) = 2)) with z | z <;> rw [z] <;> decide) ?_
    by_cases n1 : ¬ (V_kinds (B_given 1) = 4 ∧ D_forms (V_parts (B_given 1)) = 2)
    · rw [if_neg n1]; refine tw_ite_t rfl ?_; rw [if_neg (fun z => n1 z.2)]
    have e1 := Classical.not_not.mp n1
    rw [if_pos e1]; refine tw_ite_f (by decide) ?_
    rw [if_pos ⟨e0, e1⟩]
  by_cases c : (V_kinds (B_given 0) = 0) ∧ (V_kinds (B_given 1) = 4 ∧ D_forms (V_parts (B_given 1)) = 2)
  · rw [if_pos c] at hr
    refine Or.inr ⟨?_, hr, tw_out_21 hN h hT g0 c.1 o0 tw_g1 c.2.1 o1 c.2.2 ⟩
    rw [hc]; rw [if_pos c.1, if_pos c.2]; rfl
  · rw [if_neg c] at hr
    refine Or.inl ⟨?_, hr⟩
    rw [hc]; by_cases d0 : V_kinds (B_given 0) = 0
    · rw [if_pos d0]
      rw [if_neg (fun z => c ⟨d0, z⟩)]; rfl
    · rw [if_neg d0]; rfl
set_option maxRecDepth 100000 in
theorem tw_do_22 {ok : Int → Int → Int → Prop} {cs : Int → Prop} {ps : Int → Int} {nc : Int} {R_values : Int} {R_nodeOf : Int → Int} {R_rowOf : Int → Int} {D_top : Int} {D_nodes : Int → Int} {R_dataEnd : Int} {VB_top : Int} {VB_row : Int → Int} {R_textEnd : Int} {R_texts : Int → Int} {D_forms : Int → Int} {D_counts : Int → Int} {D_numbers : Int → Int} {R_forms : Int → Int} {R_tags : Int → Int} {R_counts : Int → Int} {R_textsAt : Int → Int} {V_top : Int} {V_kinds : Int → Int} {V_numbers : Int → Int} {V_parts : Int → Int} {V_links : Int → Int} {R_valueKinds : Int → Int} {R_valueNumbers : Int → Int} {R_from : Int → Int} {R_length : Int → Int} {R_given : Int → Int} {R_firstGiven : Int → Int} {R_secondGiven : Int → Int} {D_depths : Int → Int} {D_weights : Int → Int} {m puts : Int} {N : Nat} {B_given R_of R_comes : Int → Int} (hN : 300 ≤ N) (h : tw_XV ok cs ps nc R_values R_nodeOf R_rowOf D_top D_nodes R_dataEnd VB_top VB_row R_textEnd R_texts D_forms D_counts D_numbers R_forms R_tags R_counts R_textsAt V_top V_kinds V_numbers V_parts V_links R_valueKinds R_valueNumbers R_from R_length R_given R_firstGiven R_secondGiven D_depths D_weights) (hT : tw_TOPS V_top D_top VB_top R_textEnd R_dataEnd m) (g0 : tw_vok cs V_top (B_given 0)) (o0 : R_of 0 = ps (B_given 0)) : (f_Builtins_allFit N V_top V_kinds V_parts D_top D_forms B_given 22 = some 0 ∧ f_Mod_fits R_valueKinds R_from R_forms R_of 22 = some 0) ∨ (f_Builtins_allFit N V_top V_kinds V_parts D_top D_forms B_given 22 = some 1 ∧ f_Mod_fits R_valueKinds R_from R_forms R_of 22 = some 1 ∧ tw_OUT ok cs ps nc R_values R_nodeOf R_rowOf D_top D_nodes R_dataEnd VB_top VB_row R_textEnd R_texts D_forms D_counts D_numbers R_forms R_tags R_counts R_textsAt V_top V_kinds V_numbers V_parts V_links R_valueKinds R_valueNumbers R_from R_length R_given R_firstGiven R_secondGiven D_depths D_weights N B_given puts R_of R_comes 22) := by
  have hc := tw_af1 (op := 22) (B_given := B_given) (c0 := 0) hN rfl (by decide) (tw_fl_i hN h hT g0) tw_b01 rfl
  have hr : f_Mod_fits R_valueKinds R_from R_forms R_of 22 = some (if (V_kinds (B_given 0) = 0) then 1 else 0) := by
    unfold f_Mod_fits
    (repeat (first | refine tw_ite_t (by first | omega | (simp only [tw_gq]; omega)) ?_ | refine tw_ite_f (by first | omega | (simp only [tw_gq]; omega)) ?_))
    refine tw_bind_t (tw_isK h hT g0 o0 (by omega) (by omega)) ?_
    exact tw_ite_t tw_b01 rfl
  by_cases c : (V_kinds (B_given 0) = 0)
  · rw [if_pos c] at hr
    refine Or.inr ⟨?_, hr, tw_out_22 hN h hT g0 c o0 ⟩
    rw [hc]; rw [if_pos c]
  · rw [if_neg c] at hr
    refine Or.inl ⟨?_, hr⟩
    rw [hc]; rw [if_neg c]
set_option maxRecDepth 100000 in
theorem tw_do_23 {ok : Int → Int → Int → Prop} {cs : Int → Prop} {ps : Int → Int} {nc : Int} {R_values : Int} {R_nodeOf : Int → Int} {R_rowOf : Int → Int} {D_top : Int} {D_nodes : Int → Int} {R_dataEnd : Int} {VB_top : Int} {VB_row : Int → Int} {R_textEnd : Int} {R_texts : Int → Int} {D_forms : Int → Int} {D_counts : Int → Int} {D_numbers : Int → Int} {R_forms : Int → Int} {R_tags : Int → Int} {R_counts : Int → Int} {R_textsAt : Int → Int} {V_top : Int} {V_kinds : Int → Int} {V_numbers : Int → Int} {V_parts : Int → Int} {V_links : Int → Int} {R_valueKinds : Int → Int} {R_valueNumbers : Int → Int} {R_from : Int → Int} {R_length : Int → Int} {R_given : Int → Int} {R_firstGiven : Int → Int} {R_secondGiven : Int → Int} {D_depths : Int → Int} {D_weights : Int → Int} {m puts : Int} {N : Nat} {B_given R_of R_comes : Int → Int} (hN : 300 ≤ N) (h : tw_XV ok cs ps nc R_values R_nodeOf R_rowOf D_top D_nodes R_dataEnd VB_top VB_row R_textEnd R_texts D_forms D_counts D_numbers R_forms R_tags R_counts R_textsAt V_top V_kinds V_numbers V_parts V_links R_valueKinds R_valueNumbers R_from R_length R_given R_firstGiven R_secondGiven D_depths D_weights) (hT : tw_TOPS V_top D_top VB_top R_textEnd R_dataEnd m) (g0 : tw_vok cs V_top (B_given 0)) (o0 : R_of 0 = ps (B_given 0)) : (f_Builtins_allFit N V_top V_kinds V_parts D_top D_forms B_given 23 = some 0 ∧ f_Mod_fits R_valueKinds R_from R_forms R_of 23 = some 0) ∨ (f_Builtins_allFit N V_top V_kinds V_parts D_top D_forms B_given 23 = some 1 ∧ f_Mod_fits R_valueKinds R_from R_forms R_of 23 = some 1 ∧ tw_OUT ok cs ps nc R_values R_nodeOf R_rowOf D_top D_nodes R_dataEnd VB_top VB_row R_textEnd R_texts D_forms D_counts D_numbers R_forms R_tags R_counts R_textsAt V_top V_kinds V_numbers V_parts V_links R_valueKinds R_valueNumbers R_from R_length R_given R_firstGiven R_secondGiven D_depths D_weights N B_given puts R_of R_comes 23) := by
  have hc := tw_af1 (op := 23) (B_given := B_given) (c0 := 1) hN rfl (by decide) (tw_fl_s hN h hT g0) tw_b01 rfl
  have hr : f_Mod_fits R_valueKinds R_from R_forms R_of 23 = some (if (V_kinds (B_given 0) = 1) then 1 else 0) := by
    unfold f_Mod_fits
    (repeat (first | refine tw_ite_t (by first | omega | (simp only [tw_gq]; omega)) ?_ | refine tw_ite_f (by first | omega | (simp only [tw_gq]; omega)) ?_))
    refine tw_bind_t (tw_isK h hT g0 o0 (by omega) (by omega)) ?_
    exact tw_ite_t tw_b01 rfl
  by_cases c : (V_kinds (B_given 0) = 1)
  · rw [if_pos c] at hr
    refine Or.inr ⟨?_, hr, tw_out_23 hN h hT g0 c o0 ⟩
    rw [hc]; rw [if_pos c]
  · rw [if_neg c] at hr
    refine Or.inl ⟨?_, hr⟩
    rw [hc]; rw [if_neg c]
set_option maxRecDepth 100000 in
theorem tw_do_24 {ok : Int → Int → Int → Prop} {cs : Int → Prop} {ps : Int → Int} {nc : Int} {R_values : Int} {R_nodeOf : Int → Int} {R_rowOf : Int → Int} {D_top : Int} {D_nodes : Int → Int} {R_dataEnd : Int} {VB_top : Int} {VB_row : Int → Int} {R_textEnd : Int} {R_texts : Int → Int} {D_forms : Int → Int} {D_counts : Int → Int} {D_numbers : Int → Int} {R_forms : Int → Int} {R_tags : Int → Int} {R_counts : Int → Int} {R_textsAt : Int → Int} {V_top : Int} {V_kinds : Int → Int} {V_numbers : Int → Int} {V_parts : Int → Int} {V_links : Int → Int} {R_valueKinds : Int → Int} {R_valueNumbers : Int → Int} {R_from : Int → Int} {R_length : Int → Int} {R_given : Int → Int} {R_firstGiven : Int → Int} {R_secondGiven : Int → Int} {D_depths : Int → Int} {D_weights : Int → Int} {m puts : Int} {N : Nat} {B_given R_of R_comes : Int → Int} (hN : 300 ≤ N) (h : tw_XV ok cs ps nc R_values R_nodeOf R_rowOf D_top D_nodes R_dataEnd VB_top VB_row R_textEnd R_texts D_forms D_counts D_numbers R_forms R_tags R_counts R_textsAt V_top V_kinds V_numbers V_parts V_links R_valueKinds R_valueNumbers R_from R_length R_given R_firstGiven R_secondGiven D_depths D_weights) (hT : tw_TOPS V_top D_top VB_top R_textEnd R_dataEnd m) (g0 : tw_vok cs V_top (B_given 0)) (o0 : R_of 0 = ps (B_given 0)) : (f_Builtins_allFit N V_top V_kinds V_parts D_top D_forms B_given 24 = some 0 ∧ f_Mod_fits R_valueKinds R_from R_forms R_of 24 = some 0) ∨ (f_Builtins_allFit N V_top V_kinds V_parts D_top D_forms B_given 24 = some 1 ∧ f_Mod_fits R_valueKinds R_from R_forms R_of 24 = some 1 ∧ tw_OUT ok cs ps nc R_values R_nodeOf R_rowOf D_top D_nodes R_dataEnd VB_top VB_row R_textEnd R_texts D_forms D_counts D_numbers R_forms R_tags R_counts R_textsAt V_top V_kinds V_numbers V_parts V_links R_valueKinds R_valueNumbers R_from R_length R_given R_firstGiven R_secondGiven D_depths D_weights N B_given puts R_of R_comes 24) := by
  have hc := tw_af1 (op := 24) (B_given := B_given) (c0 := 12) hN rfl (by decide) (tw_fl_n hN h hT g0) tw_b01 rfl
  have hr : f_Mod_fits R_valueKinds R_from R_forms R_of 24 = some (if (V_kinds (B_given 0) = 4 ∧ D_forms (V_parts (B_given 0)) = 3) then 1 else 0) := by
    unfold f_Mod_fits
    (repeat (first | refine tw_ite_t (by first | omega | (simp only [tw_gq]; omega)) ?_ | refine tw_ite_f (by first | omega | (simp only [tw_gq]; omega)) ?_))
    refine tw_bind_t (tw_isF h hT g0 o0 (by omega) (by omega)) ?_
    exact tw_ite_t tw_b01 rfl
  by_cases c : (V_kinds (B_given 0) = 4 ∧ D_forms (V_parts (B_given 0)) = 3)
  · rw [if_pos c] at hr
    refine Or.inr ⟨?_, hr, tw_out_24 hN h hT g0 c.1 o0 c.2 ⟩
    rw [hc]; rw [if_pos c]
  · rw [if_neg c] at hr
    refine Or.inl ⟨?_, hr⟩
    rw [hc]; rw [if_neg c]
set_option maxRecDepth 100000 in
theorem tw_do_25 {ok : Int → Int → Int → Prop} {cs : Int → Prop} {ps : Int → Int} {nc : Int} {R_values : Int} {R_nodeOf : Int → Int} {R_rowOf : Int → Int} {D_top : Int} {D_nodes : Int → Int} {R_dataEnd : Int} {VB_top : Int} {VB_row : Int → Int} {R_textEnd : Int} {R_texts : Int → Int} {D_forms : Int → Int} {D_counts : Int → Int} {D_numbers : Int → Int} {R_forms : Int → Int} {R_tags : Int → Int} {R_counts : Int → Int} {R_textsAt : Int → Int} {V_top : Int} {V_kinds : Int → Int} {V_numbers : Int → Int} {V_parts : Int → Int} {V_links : Int → Int} {R_valueKinds : Int → Int} {R_valueNumbers : Int → Int} {R_from : Int → Int} {R_length : Int → Int} {R_given : Int → Int} {R_firstGiven : Int → Int} {R_secondGiven : Int → Int} {D_depths : Int → Int} {D_weights : Int → Int} {m puts : Int} {N : Nat} {B_given R_of R_comes : Int → Int} (hN : 300 ≤ N) (h : tw_XV ok cs ps nc R_values R_nodeOf R_rowOf D_top D_nodes R_dataEnd VB_top VB_row R_textEnd R_texts D_forms D_counts D_numbers R_forms R_tags R_counts R_textsAt V_top V_kinds V_numbers V_parts V_links R_valueKinds R_valueNumbers R_from R_length R_given R_firstGiven R_secondGiven D_depths D_weights) (hT : tw_TOPS V_top D_top VB_top R_textEnd R_dataEnd m) (g0 : tw_vok cs V_top (B_given 0)) (o0 : R_of 0 = ps (B_given 0)) : (f_Builtins_allFit N V_top V_kinds V_parts D_top D_forms B_given 25 = some 0 ∧ f_Mod_fits R_valueKinds R_from R_forms R_of 25 = some 0) ∨ (f_Builtins_allFit N V_top V_kinds V_parts D_top D_forms B_given 25 = some 1 ∧ f_Mod_fits R_valueKinds R_from R_forms R_of 25 = some 1 ∧ tw_OUT ok cs ps nc R_values R_nodeOf R_rowOf D_top D_nodes R_dataEnd VB_top VB_row R_textEnd R_texts D_forms D_counts D_numbers R_forms R_tags R_counts R_textsAt V_top V_kinds V_numbers V_parts V_links R_valueKinds R_valueNumbers R_from R_length R_given R_firstGiven R_secondGiven D_depths D_weights N B_given puts R_of R_comes 25) := by
  have hc := tw_af1 (op := 25) (B_given := B_given) (c0 := 13) hN rfl (by decide) (tw_fl_b hN h hT g0) tw_b01 rfl
  have hr : f_Mod_fits R_valueKinds R_from R_forms R_of 25 = some (if (V_kinds (B_given 0) = 4 ∧ D_forms (V_parts (B_given 0)) = 4) then 1 else 0) := by
    unfold f_Mod_fits
    (repeat (first | refine tw_ite_t (by first | omega | (simp only [tw_gq]; omega)) ?_ | refine tw_ite_f (by first | omega | (simp only [tw_gq]; omega)) ?_))
    refine tw_bind_t (tw_isF h hT g0 o0 (by omega) (by omega)) ?_
    exact tw_ite_t tw_b01 rfl
  by_cases c : (V_kinds (B_given 0) = 4 ∧ D_forms (V_parts (B_given 0)) = 4)
  · rw [if_pos c] at hr
    refine Or.inr ⟨?_, hr, tw_out_25 hN h hT g0 c.1 o0 c.2 ⟩
    rw [hc]; rw [if_pos c]
  · rw [if_neg c] at hr
    refine Or.inl ⟨?_, hr⟩
    rw [hc]; rw [if_neg c]
set_option maxRecDepth 100000 in
theorem tw_do_26 {ok : Int → Int → Int → Prop} {cs : Int → Prop} {ps : Int → Int} {nc : Int} {R_values : Int} {R_nodeOf : Int → Int} {R_rowOf : Int → Int} {D_top : Int} {D_nodes : Int → Int} {R_dataEnd : Int} {VB_top : Int} {VB_row : Int → Int} {R_textEnd : Int} {R_texts : Int → Int} {D_forms : Int → Int} {D_counts : Int → Int} {D_numbers : Int → Int} {R_forms : Int → Int} {R_tags : Int → Int} {R_counts : Int → Int} {R_textsAt : Int → Int} {V_top : Int} {V_kinds : Int → Int} {V_numbers : Int → Int} {V_parts : Int → Int} {V_links : Int → Int} {R_valueKinds : Int → Int} {R_valueNumbers : Int → Int} {R_from : Int → Int} {R_length : Int → Int} {R_given : Int → Int} {R_firstGiven : Int → Int} {R_secondGiven : Int → Int} {D_depths : Int → Int} {D_weights : Int → Int} {m puts : Int} {N : Nat} {B_given R_of R_comes : Int → Int} (hN : 300 ≤ N) (h : tw_XV ok cs ps nc R_values R_nodeOf R_rowOf D_top D_nodes R_dataEnd VB_top VB_row R_textEnd R_texts D_forms D_counts D_numbers R_forms R_tags R_counts R_textsAt V_top V_kinds V_numbers V_parts V_links R_valueKinds R_valueNumbers R_from R_length R_given R_firstGiven R_secondGiven D_depths D_weights) (hT : tw_TOPS V_top D_top VB_top R_textEnd R_dataEnd m) (g0 : tw_vok cs V_top (B_given 0)) (o0 : R_of 0 = ps (B_given 0)) : (f_Builtins_allFit N V_top V_kinds V_parts D_top D_forms B_given 26 = some 0 ∧ f_Mod_fits R_valueKinds R_from R_forms R_of 26 = some 0) ∨ (f_Builtins_allFit N V_top V_kinds V_parts D_top D_forms B_given 26 = some 1 ∧ f_Mod_fits R_valueKinds R_from R_forms R_of 26 = some 1 ∧ tw_OUT ok cs ps nc R_values R_nodeOf R_rowOf D_top D_nodes R_dataEnd VB_top VB_row R_textEnd R_texts D_forms D_counts D_numbers R_forms R_tags R_counts R_textsAt V_top V_kinds V_numbers V_parts V_links R_valueKinds R_valueNumbers R_from R_length R_given R_firstGiven R_secondGiven D_depths D_weights N B_given puts R_of R_comes 26) := by
  have hc := tw_af1 (op := 26) (B_given := B_given) (c0 := 11) hN rfl (by decide) (tw_fl_l hN h hT g0) tw_b01 rfl
  have hr : f_Mod_fits R_valueKinds R_from R_forms R_of 26 = some (if (V_kinds (B_given 0) = 4 ∧ D_forms (V_parts (B_given 0)) = 2) then 1 else 0) := by
    unfold f_Mod_fits
    (repeat (first | refine tw_ite_t (by first | omega | (simp only [tw_gq]; omega)) ?_ | refine tw_ite_f (by first | omega | (simp only [tw_gq]; omega)) ?_))
    refine tw_bind_t (tw_isF h hT g0 o0 (by omega) (by omega)) ?_
    exact tw_ite_t tw_b01 rfl
  by_cases c : (V_kinds (B_given 0) = 4 ∧ D_forms (V_parts (B_given 0)) = 2)
  · rw [if_pos c] at hr
    refine Or.inr ⟨?_, hr, tw_out_26 hN h hT g0 c.1 o0 c.2 ⟩
    rw [hc]; rw [if_pos c]
  · rw [if_neg c] at hr
    refine Or.inl ⟨?_, hr⟩
    rw [hc]; rw [if_neg c]
set_option maxRecDepth 100000 in
theorem tw_do_27 {ok : Int → Int → Int → Prop} {cs : Int → Prop} {ps : Int → Int} {nc : Int} {R_values : Int} {R_nodeOf : Int → Int} {R_rowOf : Int → Int} {D_top : Int} {D_nodes : Int → Int} {R_dataEnd : Int} {VB_top : Int} {VB_row : Int → Int} {R_textEnd : Int} {R_texts : Int → Int} {D_forms : Int → Int} {D_counts : Int → Int} {D_numbers : Int → Int} {R_forms : Int → Int} {R_tags : Int → Int} {R_counts : Int → Int} {R_textsAt : Int → Int} {V_top : Int} {V_kinds : Int → Int} {V_numbers : Int → Int} {V_parts : Int → Int} {V_links : Int → Int} {R_valueKinds : Int → Int} {R_valueNumbers : Int → Int} {R_from : Int → Int} {R_length : Int → Int} {R_given : Int → Int} {R_firstGiven : Int → Int} {R_secondGiven : Int → Int} {D_depths : Int → Int} {D_weights : Int → Int} {m puts : Int} {N : Nat} {B_given R_of R_comes : Int → Int} (hN : 300 ≤ N) (h : tw_XV ok cs ps nc R_values R_nodeOf R_rowOf D_top D_nodes R_dataEnd VB_top VB_row R_textEnd R_texts D_forms D_counts D_numbers R_forms R_tags R_counts R_textsAt V_top V_kinds V_numbers V_parts V_links R_valueKinds R_valueNumbers R_from R_length R_given R_firstGiven R_secondGiven D_depths D_weights) (hT : tw_TOPS V_top D_top VB_top R_textEnd R_dataEnd m) (g0 : tw_vok cs V_top (B_given 0)) (o0 : R_of 0 = ps (B_given 0)) : (f_Builtins_allFit N V_top V_kinds V_parts D_top D_forms B_given 27 = some 0 ∧ f_Mod_fits R_valueKinds R_from R_forms R_of 27 = some 0) ∨ (f_Builtins_allFit N V_top V_kinds V_parts D_top D_forms B_given 27 = some 1 ∧ f_Mod_fits R_valueKinds R_from R_forms R_of 27 = some 1 ∧ tw_OUT ok cs ps nc R_values R_nodeOf R_rowOf D_top D_nodes R_dataEnd VB_top VB_row R_textEnd R_texts D_forms D_counts D_numbers R_forms R_tags R_counts R_textsAt V_top V_kinds V_numbers V_parts V_links R_valueKinds R_valueNumbers R_from R_length R_given R_firstGiven R_secondGiven D_depths D_weights N B_given puts R_of R_comes 27) := by
  have hc := tw_af1 (op := 27) (B_given := B_given) (c0 := 11) hN rfl (by decide) (tw_fl_l hN h hT g0) tw_b01 rfl
  have hr : f_Mod_fits R_valueKinds R_from R_forms R_of 27 = some (if (V_kinds (B_given 0) = 4 ∧ D_forms (V_parts (B_given 0)) = 2) then 1 else 0) := by
    unfold f_Mod_fits
    (repeat (first | refine tw_ite_t (by first | omega | (simp only [tw_gq]; omega)) ?_ | refine tw_ite_f (by first | omega | (simp only [tw_gq]; omega)) ?_))
    refine tw_bind_t (tw_isF h hT g0 o0 (by omega) (by omega)) ?_
    exact tw_ite_t tw_b01 rfl
  by_cases c : (V_kinds (B_given 0) = 4 ∧ D_forms (V_parts (B_given 0)) = 2)
  · rw [if_pos c] at hr
    refine Or.inr ⟨?_, hr, tw_out_27 hN h hT g0 c.1 o0 c.2 ⟩
    rw [hc]; rw [if_pos c]
  · rw [if_neg c] at hr
    refine Or.inl ⟨?_, hr⟩
    rw [hc]; rw [if_neg c]
set_option maxRecDepth 100000 in
theorem tw_do_28 {ok : Int → Int → Int → Prop} {cs : Int → Prop} {ps : Int → Int} {nc : Int} {R_values : Int} {R_nodeOf : Int → Int} {R_rowOf : Int → Int} {D_top : Int} {D_nodes : Int → Int} {R_dataEnd : Int} {VB_top : Int} {VB_row : Int → Int} {R_textEnd : Int} {R_texts : Int → Int} {D_forms : Int → Int} {D_counts : Int → Int} {D_numbers : Int → Int} {R_forms : Int → Int} {R_tags : Int → Int} {R_counts : Int → Int} {R_textsAt : Int → Int} {V_top : Int} {V_kinds : Int → Int} {V_numbers : Int → Int} {V_parts : Int → Int} {V_links : Int → Int} {R_valueKinds : Int → Int} {R_valueNumbers : Int → Int} {R_from : Int → Int} {R_length : Int → Int} {R_given : Int → Int} {R_firstGiven : Int → Int} {R_secondGiven : Int → Int} {D_depths : Int → Int} {D_weights : Int → Int} {m puts : Int} {N : Nat} {B_given R_of R_comes : Int → Int} (hN : 300 ≤ N) (h : tw_XV ok cs ps nc R_values R_nodeOf R_rowOf D_top D_nodes R_dataEnd VB_top VB_row R_textEnd R_texts D_forms D_counts D_numbers R_forms R_tags R_counts R_textsAt V_top V_kinds V_numbers V_parts V_links R_valueKinds R_valueNumbers R_from R_length R_given R_firstGiven R_secondGiven D_depths D_weights) (hT : tw_TOPS V_top D_top VB_top R_textEnd R_dataEnd m) (g0 : tw_vok cs V_top (B_given 0)) (o0 : R_of 0 = ps (B_given 0)) (tw_g1 : tw_vok cs V_top (B_given 1)) (o1 : R_of 1 = ps (B_given 1)) : (f_Builtins_allFit N V_top V_kinds V_parts D_top D_forms B_given 28 = some 0 ∧ f_Mod_fits R_valueKinds R_from R_forms R_of 28 = some 0) ∨ (f_Builtins_allFit N V_top V_kinds V_parts D_top D_forms B_given 28 = some 1 ∧ f_Mod_fits R_valueKinds R_from R_forms R_of 28 = some 1 ∧ tw_OUT ok cs ps nc R_values R_nodeOf R_rowOf D_top D_nodes R_dataEnd VB_top VB_row R_textEnd R_texts D_forms D_counts D_numbers R_forms R_tags R_counts R_textsAt V_top V_kinds V_numbers V_parts V_links R_valueKinds R_valueNumbers R_from R_length R_given R_firstGiven R_secondGiven D_depths D_weights N B_given puts R_of R_comes 28) := by
  have hc := tw_af2 (op := 28) (B_given := B_given) (c0 := 4) (c1 := 11) hN rfl (by decide) (tw_fl_d hN h hT g0) tw_b01 rfl (by decide) (tw_fl_l hN h hT tw_g1) tw_b01 rfl
  have hr : f_Mod_fits R_valueKinds R_from R_forms R_of 28 = some (if (V_kinds (B_given 0) = 4) ∧ (V_kinds (B_given 1) = 4 ∧ D_forms (V_parts (B_given 1)) = 2) then 1 else 0) := by
    unfold f_Mod_fits
    (repeat (first | refine tw_ite_t (by first | omega | (simp only [tw_gq]; omega)) ?_ | refine tw_ite_f (by first | omega | (simp only [tw_gq]; omega)) ?_))
    refine tw_bind_t (tw_isK h hT g0 o0 (by omega) (by omega)) ?_
    refine tw_ite_t (by rcases (tw_b01 (P := V_kinds (B_given 0) = 4)) with z | z <;> rw [z] <;> decide) ?_
    by_cases n0 : ¬ (V_kinds (B_given 0) = 4)
    · rw [if_neg n0]; refine tw_ite_t rfl ?_; rw [if_neg (fun z => n0 z.1)]
    have e0 := Classical.not_not.mp n0
    rw [if_pos e0]; refine tw_ite_f (by decide) ?_
    refine tw_bind_t (tw_isF h hT tw_g1 o1 (by omega) (by omega)) ?_
    refine tw_ite_t (by rcases (tw_b01 (P := V_kinds (B_given 1) = 4 ∧ D_forms (V_parts (B_given 1)) = 2)) with z | z <;> rw [z] <;> decide) ?_
    by_cases n1 : ¬ (V_kinds (B_given 1) = 4 ∧ D_forms (V_parts (B_given 1)) = 2)
    · rw [if_neg n1]; refine tw_ite_t rfl ?_; rw [if_neg (fun z => n1 z.2)]
    have e1 := Classical.not_not.mp n1
    rw [if_pos e1]; refine tw_ite_f (by decide) ?_
    rw [if_pos ⟨e0, e1⟩]
  by_cases c : (V_kinds (B_given 0) = 4) ∧ (V_kinds (B_given 1) = 4 ∧ D_forms (V_parts (B_given 1)) = 2)
  · rw [if_pos c] at hr
    refine Or.inr ⟨?_, hr, tw_out_28 hN h hT g0 c.1 o0 tw_g1 c.2.1 o1 c.2.2 ⟩
    rw [hc]; rw [if_pos c.1, if_pos c.2]; rfl
  · rw [if_neg c] at hr
    refine Or.inl ⟨?_, hr⟩
    rw [hc]; by_cases d0 : V_kinds (B_given 0) = 4
    · rw [if_pos d0]
      rw [if_neg (fun z => c ⟨d0, z⟩)]; rfl
    · rw [if_neg d0]; rfl
set_option maxRecDepth 100000 in
theorem tw_do_29 {ok : Int → Int → Int → Prop} {cs : Int → Prop} {ps : Int → Int} {nc : Int} {R_values : Int} {R_nodeOf : Int → Int} {R_rowOf : Int → Int} {D_top : Int} {D_nodes : Int → Int} {R_dataEnd : Int} {VB_top : Int} {VB_row : Int → Int} {R_textEnd : Int} {R_texts : Int → Int} {D_forms : Int → Int} {D_counts : Int → Int} {D_numbers : Int → Int} {R_forms : Int → Int} {R_tags : Int → Int} {R_counts : Int → Int} {R_textsAt : Int → Int} {V_top : Int} {V_kinds : Int → Int} {V_numbers : Int → Int} {V_parts : Int → Int} {V_links : Int → Int} {R_valueKinds : Int → Int} {R_valueNumbers : Int → Int} {R_from : Int → Int} {R_length : Int → Int} {R_given : Int → Int} {R_firstGiven : Int → Int} {R_secondGiven : Int → Int} {D_depths : Int → Int} {D_weights : Int → Int} {m puts : Int} {N : Nat} {B_given R_of R_comes : Int → Int} (hN : 300 ≤ N) (h : tw_XV ok cs ps nc R_values R_nodeOf R_rowOf D_top D_nodes R_dataEnd VB_top VB_row R_textEnd R_texts D_forms D_counts D_numbers R_forms R_tags R_counts R_textsAt V_top V_kinds V_numbers V_parts V_links R_valueKinds R_valueNumbers R_from R_length R_given R_firstGiven R_secondGiven D_depths D_weights) (hT : tw_TOPS V_top D_top VB_top R_textEnd R_dataEnd m) (g0 : tw_vok cs V_top (B_given 0)) (o0 : R_of 0 = ps (B_given 0)) : (f_Builtins_allFit N V_top V_kinds V_parts D_top D_forms B_given 29 = some 0 ∧ f_Mod_fits R_valueKinds R_from R_forms R_of 29 = some 0) ∨ (f_Builtins_allFit N V_top V_kinds V_parts D_top D_forms B_given 29 = some 1 ∧ f_Mod_fits R_valueKinds R_from R_forms R_of 29 = some 1 ∧ tw_OUT ok cs ps nc R_values R_nodeOf R_rowOf D_top D_nodes R_dataEnd VB_top VB_row R_textEnd R_texts D_forms D_counts D_numbers R_forms R_tags R_counts R_textsAt V_top V_kinds V_numbers V_parts V_links R_valueKinds R_valueNumbers R_from R_length R_given R_firstGiven R_secondGiven D_depths D_weights N B_given puts R_of R_comes 29) := by
  have hc := tw_af1 (op := 29) (B_given := B_given) (c0 := 11) hN rfl (by decide) (tw_fl_l hN h hT g0) tw_b01 rfl
  have hr : f_Mod_fits R_valueKinds R_from R_forms R_of 29 = some (if (V_kinds (B_given 0) = 4 ∧ D_forms (V_parts (B_given 0)) = 2) then 1 else 0) := by
    unfold f_Mod_fits
    (repeat (first | refine tw_ite_t (by first | omega | (simp only [tw_gq]; omega)) ?_ | refine tw_ite_f (by first | omega | (simp only [tw_gq]; omega)) ?_))
    refine tw_bind_t (tw_isF h hT g0 o0 (by omega) (by omega)) ?_
    exact tw_ite_t tw_b01 rfl
  by_cases c : (V_kinds (B_given 0) = 4 ∧ D_forms (V_parts (B_given 0)) = 2)
  · rw [if_pos c] at hr
    refine Or.inr ⟨?_, hr, tw_out_29 hN h hT g0 c.1 o0 c.2 ⟩
    rw [hc]; rw [if_pos c]
  · rw [if_neg c] at hr
    refine Or.inl ⟨?_, hr⟩
    rw [hc]; rw [if_neg c]
set_option maxRecDepth 100000 in
theorem tw_do_30 {ok : Int → Int → Int → Prop} {cs : Int → Prop} {ps : Int → Int} {nc : Int} {R_values : Int} {R_nodeOf : Int → Int} {R_rowOf : Int → Int} {D_top : Int} {D_nodes : Int → Int} {R_dataEnd : Int} {VB_top : Int} {VB_row : Int → Int} {R_textEnd : Int} {R_texts : Int → Int} {D_forms : Int → Int} {D_counts : Int → Int} {D_numbers : Int → Int} {R_forms : Int → Int} {R_tags : Int → Int} {R_counts : Int → Int} {R_textsAt : Int → Int} {V_top : Int} {V_kinds : Int → Int} {V_numbers : Int → Int} {V_parts : Int → Int} {V_links : Int → Int} {R_valueKinds : Int → Int} {R_valueNumbers : Int → Int} {R_from : Int → Int} {R_length : Int → Int} {R_given : Int → Int} {R_firstGiven : Int → Int} {R_secondGiven : Int → Int} {D_depths : Int → Int} {D_weights : Int → Int} {m puts : Int} {N : Nat} {B_given R_of R_comes : Int → Int} (hN : 300 ≤ N) (h : tw_XV ok cs ps nc R_values R_nodeOf R_rowOf D_top D_nodes R_dataEnd VB_top VB_row R_textEnd R_texts D_forms D_counts D_numbers R_forms R_tags R_counts R_textsAt V_top V_kinds V_numbers V_parts V_links R_valueKinds R_valueNumbers R_from R_length R_given R_firstGiven R_secondGiven D_depths D_weights) (hT : tw_TOPS V_top D_top VB_top R_textEnd R_dataEnd m) (g0 : tw_vok cs V_top (B_given 0)) (o0 : R_of 0 = ps (B_given 0)) : (f_Builtins_allFit N V_top V_kinds V_parts D_top D_forms B_given 30 = some 0 ∧ f_Mod_fits R_valueKinds R_from R_forms R_of 30 = some 0) ∨ (f_Builtins_allFit N V_top V_kinds V_parts D_top D_forms B_given 30 = some 1 ∧ f_Mod_fits R_valueKinds R_from R_forms R_of 30 = some 1 ∧ tw_OUT ok cs ps nc R_values R_nodeOf R_rowOf D_top D_nodes R_dataEnd VB_top VB_row R_textEnd R_texts D_forms D_counts D_numbers R_forms R_tags R_counts R_textsAt V_top V_kinds V_numbers V_parts V_links R_valueKinds R_valueNumbers R_from R_length R_given R_firstGiven R_secondGiven D_depths D_weights N B_given puts R_of R_comes 30) := by
  have hc := tw_af1 (op := 30) (B_given := B_given) (c0 := 11) hN rfl (by decide) (tw_fl_l hN h hT g0) tw_b01 rfl
  have hr : f_Mod_fits R_valueKinds R_from R_forms R_of 30 = some (if (V_kinds (B_given 0) = 4 ∧ D_forms (V_parts (B_given 0)) = 2) then 1 else 0) := by
    unfold f_Mod_fits
    (repeat (first | refine tw_ite_t (by first | omega | (simp only [tw_gq]; omega)) ?_ | refine tw_ite_f (by first | omega | (simp only [tw_gq]; omega)) ?_))
    refine tw_bind_t (tw_isF h hT g0 o0 (by omega) (by omega)) ?_
    exact tw_ite_t tw_b01 rfl
  by_cases c : (V_kinds (B_given 0) = 4 ∧ D_forms (V_parts (B_given 0)) = 2)
  · rw [if_pos c] at hr
    refine Or.inr ⟨?_, hr, tw_out_30 hN h hT g0 c.1 o0 c.2 ⟩
    rw [hc]; rw [if_pos c]
  · rw [if_neg c] at hr
    refine Or.inl ⟨?_, hr⟩
    rw [hc]; rw [if_neg c]
set_option maxRecDepth 100000 in
theorem tw_do_31 {ok : Int → Int → Int → Prop} {cs : Int → Prop} {ps : Int → Int} {nc : Int} {R_values : Int} {R_nodeOf : Int → Int} {R_rowOf : Int → Int} {D_top : Int} {D_nodes : Int → Int} {R_dataEnd : Int} {VB_top : Int} {VB_row : Int → Int} {R_textEnd : Int} {R_texts : Int → Int} {D_forms : Int → Int} {D_counts : Int → Int} {D_numbers : Int → Int} {R_forms : Int → Int} {R_tags : Int → Int} {R_counts : Int → Int} {R_textsAt : Int → Int} {V_top : Int} {V_kinds : Int → Int} {V_numbers : Int → Int} {V_parts : Int → Int} {V_links : Int → Int} {R_valueKinds : Int → Int} {R_valueNumbers : Int → Int} {R_from : Int → Int} {R_length : Int → Int} {R_given : Int → Int} {R_firstGiven : Int → Int} {R_secondGiven : Int → Int} {D_depths : Int → Int} {D_weights : Int → Int} {m puts : Int} {N : Nat} {B_given R_of R_comes : Int → Int} (hN : 300 ≤ N) (h : tw_XV ok cs ps nc R_values R_nodeOf R_rowOf D_top D_nodes R_dataEnd VB_top VB_row R_textEnd R_texts D_forms D_counts D_numbers R_forms R_tags R_counts R_textsAt V_top V_kinds V_numbers V_parts V_links R_valueKinds R_valueNumbers R_from R_length R_given R_firstGiven R_secondGiven D_depths D_weights) (hT : tw_TOPS V_top D_top VB_top R_textEnd R_dataEnd m) (g0 : tw_vok cs V_top (B_given 0)) (o0 : R_of 0 = ps (B_given 0)) : (f_Builtins_allFit N V_top V_kinds V_parts D_top D_forms B_given 31 = some 0 ∧ f_Mod_fits R_valueKinds R_from R_forms R_of 31 = some 0) ∨ (f_Builtins_allFit N V_top V_kinds V_parts D_top D_forms B_given 31 = some 1 ∧ f_Mod_fits R_valueKinds R_from R_forms R_of 31 = some 1 ∧ tw_OUT ok cs ps nc R_values R_nodeOf R_rowOf D_top D_nodes R_dataEnd VB_top VB_row R_textEnd R_texts D_forms D_counts D_numbers R_forms R_tags R_counts R_textsAt V_top V_kinds V_numbers V_parts V_links R_valueKinds R_valueNumbers R_from R_length R_given R_firstGiven R_secondGiven D_depths D_weights N B_given puts R_of R_comes 31) := by
  have hc := tw_af1 (op := 31) (B_given := B_given) (c0 := 10) hN rfl (by decide) (tw_fl_m hN h hT g0) tw_b01 rfl
  have hr : f_Mod_fits R_valueKinds R_from R_forms R_of 31 = some (if (V_kinds (B_given 0) = 4 ∧ D_forms (V_parts (B_given 0)) = 1) then 1 else 0) := by
    unfold f_Mod_fits
    (repeat (first | refine tw_ite_t (by first | omega | (simp only [tw_gq]; omega)) ?_ | refine tw_ite_f (by first | omega | (simp only [tw_gq]; omega)) ?_))
    refine tw_bind_t (tw_isF h hT g0 o0 (by omega) (by omega)) ?_
    exact tw_ite_t tw_b01 rfl
  by_cases c : (V_kinds (B_given 0) = 4 ∧ D_forms (V_parts (B_given 0)) = 1)
  · rw [if_pos c] at hr
    refine Or.inr ⟨?_, hr, tw_out_31 hN h hT g0 c.1 o0 c.2 ⟩
    rw [hc]; rw [if_pos c]
  · rw [if_neg c] at hr
    refine Or.inl ⟨?_, hr⟩
    rw [hc]; rw [if_neg c]
set_option maxRecDepth 100000 in
theorem tw_op32 {op : Int} (h : 0 ≤ op ∧ op ≤ 31) : op = 0 ∨ op = 1 ∨ op = 2 ∨ op = 3 ∨ op = 4 ∨ op = 5 ∨ op = 6 ∨ op = 7 ∨ op = 8 ∨ op = 9 ∨ op = 10 ∨ op = 11 ∨ op = 12 ∨ op = 13 ∨ op = 14 ∨ op = 15 ∨ op = 16 ∨ op = 17 ∨ op = 18 ∨ op = 19 ∨ op = 20 ∨ op = 21 ∨ op = 22 ∨ op = 23 ∨ op = 24 ∨ op = 25 ∨ op = 26 ∨ op = 27 ∨ op = 28 ∨ op = 29 ∨ op = 30 ∨ op = 31 := by omega
set_option maxRecDepth 100000 in
theorem tw_tk_ok {op : Int} (h : 0 ≤ op ∧ op ≤ 31) : (∀ i, 0 ≤ i → i < tw_ar op → ∃ v, f_Builtins_takes op i = some v ∧ 0 ≤ v ∧ v ≤ 13) ∧ f_Builtins_takes op (tw_ar op) = some (-1) ∧ True ∧ f_Mod_arity op = some (tw_ar op) ∧ 1 ≤ tw_ar op ∧ tw_ar op ≤ 3 := by
  rcases tw_op32 h with e | e | e | e | e | e | e | e | e | e | e | e | e | e | e | e | e | e | e | e | e | e | e | e | e | e | e | e | e | e | e | e <;> subst e <;> refine ⟨fun i h0 h1 => ?_, rfl, trivial, rfl, by decide, by decide⟩
  all_goals
    have h3 : i < 3 := Int.lt_of_lt_of_le h1 (by decide)
    have e : i = 0 ∨ i = 1 ∨ i = 2 := by omega
    rcases e with e | e | e <;> subst e <;> first | exact absurd h1 (by decide) | exact ⟨_, rfl, by decide +kernel, by decide +kernel⟩
set_option maxRecDepth 100000 in
def tw_SG (V_kinds : Int → Int) (V_parts : Int → Int) (V_links : Int → Int) (D_nodes : Int → Int) (D_weights : Int → Int) (B_given : Int → Int) (a : Int) : Int := if a = 1 then tw_SZ V_kinds V_parts V_links D_nodes D_weights (B_given 0) else if a = 2 then tw_SZ V_kinds V_parts V_links D_nodes D_weights (B_given 0) + tw_SZ V_kinds V_parts V_links D_nodes D_weights (B_given 1) else tw_SZ V_kinds V_parts V_links D_nodes D_weights (B_given 0) + tw_SZ V_kinds V_parts V_links D_nodes D_weights (B_given 1) + tw_SZ V_kinds V_parts V_links D_nodes D_weights (B_given 2)
set_option maxRecDepth 100000 in
theorem tw_sg_C {ok : Int → Int → Int → Prop} {cs : Int → Prop} {ps : Int → Int} {nc : Int} {R_values : Int} {R_nodeOf : Int → Int} {R_rowOf : Int → Int} {D_top : Int} {D_nodes : Int → Int} {R_dataEnd : Int} {VB_top : Int} {VB_row : Int → Int} {R_textEnd : Int} {R_texts : Int → Int} {D_forms : Int → Int} {D_counts : Int → Int} {D_numbers : Int → Int} {R_forms : Int → Int} {R_tags : Int → Int} {R_counts : Int → Int} {R_textsAt : Int → Int} {V_top : Int} {V_kinds : Int → Int} {V_numbers : Int → Int} {V_parts : Int → Int} {V_links : Int → Int} {R_valueKinds : Int → Int} {R_valueNumbers : Int → Int} {R_from : Int → Int} {R_length : Int → Int} {R_given : Int → Int} {R_firstGiven : Int → Int} {R_secondGiven : Int → Int} {D_depths : Int → Int} {D_weights : Int → Int} {m op : Int} {N : Nat} {B_given : Int → Int} (hN : 300 ≤ N) (h : tw_XV ok cs ps nc R_values R_nodeOf R_rowOf D_top D_nodes R_dataEnd VB_top VB_row R_textEnd R_texts D_forms D_counts D_numbers R_forms R_tags R_counts R_textsAt V_top V_kinds V_numbers V_parts V_links R_valueKinds R_valueNumbers R_from R_length R_given R_firstGiven R_secondGiven D_depths D_weights) (hT : tw_TOPS V_top D_top VB_top R_textEnd R_dataEnd m) (ho : 0 ≤ op ∧ op ≤ 31) (hg : ∀ i, 0 ≤ i → i < tw_ar op → tw_vok cs V_top (B_given i)) : f_Builtins_sizeOfGiven N V_top V_kinds V_parts V_links D_top D_nodes D_weights B_given op = some (tw_SG V_kinds V_parts V_links D_nodes D_weights B_given (tw_ar op)) ∧ 1 ≤ tw_SG V_kinds V_parts V_links D_nodes D_weights B_given (tw_ar op) ∧ tw_SG V_kinds V_parts V_links D_nodes D_weights B_given (tw_ar op) ≤ 6000 := by
  have tr := tw_TOPS_r h hT
  obtain ⟨M, rfl⟩ : ∃ M, N = M + 10 := ⟨N - 10, by omega⟩
  obtain ⟨y1, y2, -, -, ha, ha'⟩ := tw_tk_ok ho
  generalize tw_ar op = a at *
  obtain ⟨s0, s0a, s0b⟩ := tw_vSz h (hg 0 (by omega) (by omega)) (by omega) (by omega)
  obtain ⟨v0, u0, u0a, u0b⟩ := y1 0 (by omega) (by omega)
  have hc : a = 1 ∨ a = 2 ∨ a = 3 := by omega
  rcases hc with e | e | e <;> subst e
  · have e1 : tw_SG V_kinds V_parts V_links D_nodes D_weights B_given 1 = tw_SZ V_kinds V_parts V_links D_nodes D_weights (B_given 0) := if_pos rfl
    rw [e1]
    refine ⟨?_, by omega, by omega⟩
    unfold f_Builtins_sizeOfGiven
    refine tw_ob2_t (a1 := tw_SZ V_kinds V_parts V_links D_nodes D_weights (B_given 0)) (a2 := 1) ?_ rfl
    rw [f_Builtins_sizeOfGiven_L4]; (first | refine tw_ite_t (by first | omega | (simp only [tw_gq]; omega)) ?_ | refine tw_ite_f (by first | omega | (simp only [tw_gq]; omega)) ?_); (first | refine tw_ite_t (by first | omega | (simp only [tw_gq]; omega)) ?_ | refine tw_ite_f (by first | omega | (simp only [tw_gq]; omega)) ?_)
    refine tw_bind_t (r := v0) (by first | exact u0 | simpa using u0) ?_
    (first | refine tw_ite_t (by first | omega | (simp only [tw_gq]; omega)) ?_ | refine tw_ite_f (by first | omega | (simp only [tw_gq]; omega)) ?_); (first | refine tw_ite_t (by first | omega | (simp only [tw_gq]; omega)) ?_ | refine tw_ite_f (by first | omega | (simp only [tw_gq]; omega)) ?_); (first | refine tw_ite_t (by first | omega | (simp only [tw_gq]; omega)) ?_ | refine tw_ite_f (by first | omega | (simp only [tw_gq]; omega)) ?_)
    refine tw_bind_t s0 ?_
    rw [f_Builtins_sizeOfGiven_L4]; (first | refine tw_ite_t (by first | omega | (simp only [tw_gq]; omega)) ?_ | refine tw_ite_f (by first | omega | (simp only [tw_gq]; omega)) ?_); (first | refine tw_ite_t (by first | omega | (simp only [tw_gq]; omega)) ?_ | refine tw_ite_f (by first | omega | (simp only [tw_gq]; omega)) ?_)
    refine tw_bind_t (r := -1) (by first | exact y2 | simpa using y2) ?_
    (first | refine tw_ite_t (by first | omega | (simp only [tw_gq]; omega)) ?_ | refine tw_ite_f (by first | omega | (simp only [tw_gq]; omega)) ?_); (first | refine tw_ite_t (by first | omega | (simp only [tw_gq]; omega)) ?_ | refine tw_ite_f (by first | omega | (simp only [tw_gq]; omega)) ?_)
    rw [show (0 : Int) + tw_SZ V_kinds V_parts V_links D_nodes D_weights (B_given 0) = tw_SZ V_kinds V_parts V_links D_nodes D_weights (B_given 0) by omega]; rfl
  · obtain ⟨s1, s1a, s1b⟩ := tw_vSz h (hg 1 (by omega) (by omega)) (by omega) (by omega)
    obtain ⟨v1, u1, u1a, u1b⟩ := y1 1 (by omega) (by omega)
    have e1 : tw_SG V_kinds V_parts V_links D_nodes D_weights B_given 2 = tw_SZ V_kinds V_parts V_links D_nodes D_weights (B_given 0) + tw_SZ V_kinds V_parts V_links D_nodes D_weights (B_given 1) := by unfold tw_SG; rw [if_neg (by decide), if_pos rfl]
    rw [e1]
    refine ⟨?_, by omega, by omega⟩
    unfold f_Builtins_sizeOfGiven
    refine tw_ob2_t (a1 := tw_SZ V_kinds V_parts V_links D_nodes D_weights (B_given 0) + tw_SZ V_kinds V_parts V_links D_nodes D_weights (B_given 1)) (a2 := 2) ?_ rfl
    rw [f_Builtins_sizeOfGiven_L4]; (first | refine tw_ite_t (by first | omega | (simp only [tw_gq]; omega)) ?_ | refine tw_ite_f (by first | omega | (simp only [tw_gq]; omega)) ?_); (first | refine tw_ite_t (by first | omega | (simp only [tw_gq]; omega)) ?_ | refine tw_ite_f (by first | omega | (simp only [tw_gq]; omega)) ?_)
    refine tw_bind_t (r := v0) (by first | exact u0 | simpa using u0) ?_
    (first | refine tw_ite_t (by first | omega | (simp only [tw_gq]; omega)) ?_ | refine tw_ite_f (by first | omega | (simp only [tw_gq]; omega)) ?_); (first | refine tw_ite_t (by first | omega | (simp only [tw_gq]; omega)) ?_ | refine tw_ite_f (by first | omega | (simp only [tw_gq]; omega)) ?_); (first | refine tw_ite_t (by first | omega | (simp only [tw_gq]; omega)) ?_ | refine tw_ite_f (by first | omega | (simp only [tw_gq]; omega)) ?_)
    refine tw_bind_t s0 ?_
    rw [f_Builtins_sizeOfGiven_L4]; (first | refine tw_ite_t (by first | omega | (simp only [tw_gq]; omega)) ?_ | refine tw_ite_f (by first | omega | (simp only [tw_gq]; omega)) ?_); (first | refine tw_ite_t (by first | omega | (simp only [tw_gq]; omega)) ?_ | refine tw_ite_f (by first | omega | (simp only [tw_gq]; omega)) ?_)
    refine tw_bind_t (r := v1) (by first | exact u1 | simpa using u1) ?_
    (first | refine tw_ite_t (by first | omega | (simp only [tw_gq]; omega)) ?_ | refine tw_ite_f (by first | omega | (simp only [tw_gq]; omega)) ?_); (first | refine tw_ite_t (by first | omega | (simp only [tw_gq]; omega)) ?_ | refine tw_ite_f (by first | omega | (simp only [tw_gq]; omega)) ?_); (first | refine tw_ite_t (by first | omega | (simp only [tw_gq]; omega)) ?_ | refine tw_ite_f (by first | omega | (simp only [tw_gq]; omega)) ?_)
    refine tw_bind_t s1 ?_
    rw [f_Builtins_sizeOfGiven_L4]; (first | refine tw_ite_t (by first | omega | (simp only [tw_gq]; omega)) ?_ | refine tw_ite_f (by first | omega | (simp only [tw_gq]; omega)) ?_); (first | refine tw_ite_t (by first | omega | (simp only [tw_gq]; omega)) ?_ | refine tw_ite_f (by first | omega | (simp only [tw_gq]; omega)) ?_)
    refine tw_bind_t (r := -1) (by first | exact y2 | simpa using y2) ?_
    (first | refine tw_ite_t (by first | omega | (simp only [tw_gq]; omega)) ?_ | refine tw_ite_f (by first | omega | (simp only [tw_gq]; omega)) ?_); (first | refine tw_ite_t (by first | omega | (simp only [tw_gq]; omega)) ?_ | refine tw_ite_f (by first | omega | (simp only [tw_gq]; omega)) ?_)
    rw [show (0 : Int) + tw_SZ V_kinds V_parts V_links D_nodes D_weights (B_given 0) = tw_SZ V_kinds V_parts V_links D_nodes D_weights (B_given 0) by omega]; rfl
  · obtain ⟨s1, s1a, s1b⟩ := tw_vSz h (hg 1 (by omega) (by omega)) (by omega) (by omega)
    obtain ⟨v1, u1, u1a, u1b⟩ := y1 1 (by omega) (by omega)
    obtain ⟨s2, s2a, s2b⟩ := tw_vSz h (hg 2 (by omega) (by omega)) (by omega) (by omega)
    obtain ⟨v2, u2, u2a, u2b⟩ := y1 2 (by omega) (by omega)
    have e1 : tw_SG V_kinds V_parts V_links D_nodes D_weights B_given 3 = tw_SZ V_kinds V_parts V_links D_nodes D_weights (B_given 0) + tw_SZ V_kinds V_parts V_links D_nodes D_weights (B_given 1) + tw_SZ V_kinds V_parts V_links D_nodes D_weights (B_given 2) := by unfold tw_SG; rw [if_neg (by decide), if_neg (by decide)]
    rw [e1]
    refine ⟨?_, by omega, by omega⟩
    unfold f_Builtins_sizeOfGiven
    refine tw_ob2_t (a1 := tw_SZ V_kinds V_parts V_links D_nodes D_weights (B_given 0) + tw_SZ V_kinds V_parts V_links D_nodes D_weights (B_given 1) + tw_SZ V_kinds V_parts V_links D_nodes D_weights (B_given 2)) (a2 := 3) ?_ rfl
    rw [f_Builtins_sizeOfGiven_L4]; (first | refine tw_ite_t (by first | omega | (simp only [tw_gq]; omega)) ?_ | refine tw_ite_f (by first | omega | (simp only [tw_gq]; omega)) ?_); (first | refine tw_ite_t (by first | omega | (simp only [tw_gq]; omega)) ?_ | refine tw_ite_f (by first | omega | (simp only [tw_gq]; omega)) ?_)
    refine tw_bind_t (r := v0) (by first | exact u0 | simpa using u0) ?_
    (first | refine tw_ite_t (by first | omega | (simp only [tw_gq]; omega)) ?_ | refine tw_ite_f (by first | omega | (simp only [tw_gq]; omega)) ?_); (first | refine tw_ite_t (by first | omega | (simp only [tw_gq]; omega)) ?_ | refine tw_ite_f (by first | omega | (simp only [tw_gq]; omega)) ?_); (first | refine tw_ite_t (by first | omega | (simp only [tw_gq]; omega)) ?_ | refine tw_ite_f (by first | omega | (simp only [tw_gq]; omega)) ?_)
    refine tw_bind_t s0 ?_
    rw [f_Builtins_sizeOfGiven_L4]; (first | refine tw_ite_t (by first | omega | (simp only [tw_gq]; omega)) ?_ | refine tw_ite_f (by first | omega | (simp only [tw_gq]; omega)) ?_); (first | refine tw_ite_t (by first | omega | (simp only [tw_gq]; omega)) ?_ | refine tw_ite_f (by first | omega | (simp only [tw_gq]; omega)) ?_)
    refine tw_bind_t (r := v1) (by first | exact u1 | simpa using u1) ?_
    (first | refine tw_ite_t (by first | omega | (simp only [tw_gq]; omega)) ?_ | refine tw_ite_f (by first | omega | (simp only [tw_gq]; omega)) ?_); (first | refine tw_ite_t (by first | omega | (simp only [tw_gq]; omega)) ?_ | refine tw_ite_f (by first | omega | (simp only [tw_gq]; omega)) ?_); (first | refine tw_ite_t (by first | omega | (simp only [tw_gq]; omega)) ?_ | refine tw_ite_f (by first | omega | (simp only [tw_gq]; omega)) ?_)
    refine tw_bind_t s1 ?_
    rw [f_Builtins_sizeOfGiven_L4]; (first | refine tw_ite_t (by first | omega | (simp only [tw_gq]; omega)) ?_ | refine tw_ite_f (by first | omega | (simp only [tw_gq]; omega)) ?_); (first | refine tw_ite_t (by first | omega | (simp only [tw_gq]; omega)) ?_ | refine tw_ite_f (by first | omega | (simp only [tw_gq]; omega)) ?_)
    refine tw_bind_t (r := v2) (by first | exact u2 | simpa using u2) ?_
    (first | refine tw_ite_t (by first | omega | (simp only [tw_gq]; omega)) ?_ | refine tw_ite_f (by first | omega | (simp only [tw_gq]; omega)) ?_); (first | refine tw_ite_t (by first | omega | (simp only [tw_gq]; omega)) ?_ | refine tw_ite_f (by first | omega | (simp only [tw_gq]; omega)) ?_); (first | refine tw_ite_t (by first | omega | (simp only [tw_gq]; omega)) ?_ | refine tw_ite_f (by first | omega | (simp only [tw_gq]; omega)) ?_)
    refine tw_bind_t s2 ?_
    rw [f_Builtins_sizeOfGiven_L4]; (first | refine tw_ite_t (by first | omega | (simp only [tw_gq]; omega)) ?_ | refine tw_ite_f (by first | omega | (simp only [tw_gq]; omega)) ?_); (first | refine tw_ite_t (by first | omega | (simp only [tw_gq]; omega)) ?_ | refine tw_ite_f (by first | omega | (simp only [tw_gq]; omega)) ?_)
    rw [show (0 : Int) + tw_SZ V_kinds V_parts V_links D_nodes D_weights (B_given 0) = tw_SZ V_kinds V_parts V_links D_nodes D_weights (B_given 0) by omega]; rfl
set_option maxRecDepth 100000 in
theorem tw_sg_R {ok : Int → Int → Int → Prop} {cs : Int → Prop} {ps : Int → Int} {nc : Int} {R_values : Int} {R_nodeOf : Int → Int} {R_rowOf : Int → Int} {D_top : Int} {D_nodes : Int → Int} {R_dataEnd : Int} {VB_top : Int} {VB_row : Int → Int} {R_textEnd : Int} {R_texts : Int → Int} {D_forms : Int → Int} {D_counts : Int → Int} {D_numbers : Int → Int} {R_forms : Int → Int} {R_tags : Int → Int} {R_counts : Int → Int} {R_textsAt : Int → Int} {V_top : Int} {V_kinds : Int → Int} {V_numbers : Int → Int} {V_parts : Int → Int} {V_links : Int → Int} {R_valueKinds : Int → Int} {R_valueNumbers : Int → Int} {R_from : Int → Int} {R_length : Int → Int} {R_given : Int → Int} {R_firstGiven : Int → Int} {R_secondGiven : Int → Int} {D_depths : Int → Int} {D_weights : Int → Int} {m op x1 x2 x4 : Int} {N : Nat} {B_given R_of : Int → Int} (hN : 300 ≤ N) (h : tw_XV ok cs ps nc R_values R_nodeOf R_rowOf D_top D_nodes R_dataEnd VB_top VB_row R_textEnd R_texts D_forms D_counts D_numbers R_forms R_tags R_counts R_textsAt V_top V_kinds V_numbers V_parts V_links R_valueKinds R_valueNumbers R_from R_length R_given R_firstGiven R_secondGiven D_depths D_weights) (hT : tw_TOPS V_top D_top VB_top R_textEnd R_dataEnd m) (ho : 0 ≤ op ∧ op ≤ 31) (hg : ∀ i, 0 ≤ i → i < tw_ar op → tw_vok cs V_top (B_given i) ∧ R_of i = ps (B_given i)) : f_Mod_callBuiltin_L149 N R_valueKinds R_from R_length R_forms R_counts R_of x1 x2 op x4 N 1 0 = some (1 + tw_SG V_kinds V_parts V_links D_nodes D_weights B_given (tw_ar op), tw_ar op) := by
  have tr := tw_TOPS_r h hT
  obtain ⟨-, -, -, hA, ha, ha'⟩ := tw_tk_ok ho
  obtain ⟨g0, o0⟩ := hg 0 (by omega) (by omega)
  have s0 := tw_rSz h g0 (by omega) (by omega) (N := N) (by omega)
  obtain ⟨M, hM⟩ : ∃ M, N = M + 10 := ⟨N - 10, by omega⟩
  have step : ∀ (n : Nat) (x i : Int), f_Mod_callBuiltin_L149 N R_valueKinds R_from R_length R_forms R_counts R_of x1 x2 op x4 (n + 1) x i = Option.bind (f_Mod_arity op) (fun r195 => if jr2 i r195 = true then (if r195 ≤ i then (some (x, i)) else (if jix i 3 = true then (Option.bind (f_Mod_sizeOf N R_valueKinds R_from R_length R_forms R_counts (R_of i)) (fun r199 => f_Mod_callBuiltin_L149 N R_valueKinds R_from R_length R_forms R_counts R_of x1 x2 op x4 n (x + r199) (i + 1))) else none)) else none) := fun n x i => by rw [f_Mod_callBuiltin_L149]
  have hgo : f_Mod_callBuiltin_L149 N R_valueKinds R_from R_length R_forms R_counts R_of x1 x2 op x4 (M + 10) 1 0 = some (1 + tw_SG V_kinds V_parts V_links D_nodes D_weights B_given (tw_ar op), tw_ar op) := by
    generalize tw_ar op = a at *
    have hc : a = 1 ∨ a = 2 ∨ a = 3 := by omega
    rcases hc with e | e | e <;> subst e
    · have e1 : tw_SG V_kinds V_parts V_links D_nodes D_weights B_given 1 = tw_SZ V_kinds V_parts V_links D_nodes D_weights (B_given 0) := if_pos rfl
      rw [e1, step]
      refine tw_bind_t hA ?_
      (first | refine tw_ite_t (by first | omega | (simp only [tw_gq]; omega)) ?_ | refine tw_ite_f (by first | omega | (simp only [tw_gq]; omega)) ?_); (first | refine tw_ite_t (by first | omega | (simp only [tw_gq]; omega)) ?_ | refine tw_ite_f (by first | omega | (simp only [tw_gq]; omega)) ?_); (first | refine tw_ite_t (by first | omega | (simp only [tw_gq]; omega)) ?_ | refine tw_ite_f (by first | omega | (simp only [tw_gq]; omega)) ?_)
      rw [o0]
      refine tw_bind_t s0 ?_
      rw [step]
      refine tw_bind_t hA ?_
      (first | refine tw_ite_t (by first | omega | (simp only [tw_gq]; omega)) ?_ | refine tw_ite_f (by first | omega | (simp only [tw_gq]; omega)) ?_); (first | refine tw_ite_t (by first | omega | (simp only [tw_gq]; omega)) ?_ | refine tw_ite_f (by first | omega | (simp only [tw_gq]; omega)) ?_); rfl
    · obtain ⟨tw_g1, o1⟩ := hg 1 (by omega) (by omega)
      have s1 := tw_rSz h tw_g1 (by omega) (by omega) (N := N) (by omega)
      have e1 : tw_SG V_kinds V_parts V_links D_nodes D_weights B_given 2 = tw_SZ V_kinds V_parts V_links D_nodes D_weights (B_given 0) + tw_SZ V_kinds V_parts V_links D_nodes D_weights (B_given 1) := by unfold tw_SG; rw [if_neg (by decide), if_pos rfl]
      rw [e1, step]
      refine tw_bind_t hA ?_
      (first | refine tw_ite_t (by first | omega | (simp only [tw_gq]; omega)) ?_ | refine tw_ite_f (by first | omega | (simp only [tw_gq]; omega)) ?_); (first | refine tw_ite_t (by first | omega | (simp only [tw_gq]; omega)) ?_ | refine tw_ite_f (by first | omega | (simp only [tw_gq]; omega)) ?_); (first | refine tw_ite_t (by first | omega | (simp only [tw_gq]; omega)) ?_ | refine tw_ite_f (by first | omega | (simp only [tw_gq]; omega)) ?_)
      rw [o0]
      refine tw_bind_t s0 ?_
      rw [step]
      refine tw_bind_t hA ?_
      (first | refine tw_ite_t (by first | omega | (simp only [tw_gq]; omega)) ?_ | refine tw_ite_f (by first | omega | (simp only [tw_gq]; omega)) ?_); (first | refine tw_ite_t (by first | omega | (simp only [tw_gq]; omega)) ?_ | refine tw_ite_f (by first | omega | (simp only [tw_gq]; omega)) ?_); (first | refine tw_ite_t (by first | omega | (simp only [tw_gq]; omega)) ?_ | refine tw_ite_f (by first | omega | (simp only [tw_gq]; omega)) ?_)
      rw [show R_of (0 + 1) = ps (B_given 1) from o1]
      refine tw_bind_t s1 ?_
      rw [step]
      refine tw_bind_t hA ?_
      (first | refine tw_ite_t (by first | omega | (simp only [tw_gq]; omega)) ?_ | refine tw_ite_f (by first | omega | (simp only [tw_gq]; omega)) ?_); (first | refine tw_ite_t (by first | omega | (simp only [tw_gq]; omega)) ?_ | refine tw_ite_f (by first | omega | (simp only [tw_gq]; omega)) ?_)
      rw [show 1 + (tw_SZ V_kinds V_parts V_links D_nodes D_weights (B_given 0) + tw_SZ V_kinds V_parts V_links D_nodes D_weights (B_given 1)) = 1 + tw_SZ V_kinds V_parts V_links D_nodes D_weights (B_given 0) + tw_SZ V_kinds V_parts V_links D_nodes D_weights (B_given 1) by omega]; rfl
    · obtain ⟨tw_g1, o1⟩ := hg 1 (by omega) (by omega)
      obtain ⟨tw_g2, o2⟩ := hg 2 (by omega) (by omega)
      have s1 := tw_rSz h tw_g1 (by omega) (by omega) (N := N) (by omega)
      have s2 := tw_rSz h tw_g2 (by omega) (by omega) (N := N) (by omega)
      have e1 : tw_SG V_kinds V_parts V_links D_nodes D_weights B_given 3 = tw_SZ V_kinds V_parts V_links D_nodes D_weights (B_given 0) + tw_SZ V_kinds V_parts V_links D_nodes D_weights (B_given 1) + tw_SZ V_kinds V_parts V_links D_nodes D_weights (B_given 2) := by unfold tw_SG; rw [if_neg (by decide), if_neg (by decide)]
      rw [e1, step]
      refine tw_bind_t hA ?_
      (first | refine tw_ite_t (by first | omega | (simp only [tw_gq]; omega)) ?_ | refine tw_ite_f (by first | omega | (simp only [tw_gq]; omega)) ?_); (first | refine tw_ite_t (by first | omega | (simp only [tw_gq]; omega)) ?_ | refine tw_ite_f (by first | omega | (simp only [tw_gq]; omega)) ?_); (first | refine tw_ite_t (by first | omega | (simp only [tw_gq]; omega)) ?_ | refine tw_ite_f (by first | omega | (simp only [tw_gq]; omega)) ?_)
      rw [o0]
      refine tw_bind_t s0 ?_
      rw [step]
      refine tw_bind_t hA ?_
      (first | refine tw_ite_t (by first | omega | (simp only [tw_gq]; omega)) ?_ | refine tw_ite_f (by first | omega | (simp only [tw_gq]; omega)) ?_); (first | refine tw_ite_t (by first | omega | (simp only [tw_gq]; omega)) ?_ | refine tw_ite_f (by first | omega | (simp only [tw_gq]; omega)) ?_); (first | refine tw_ite_t (by first | omega | (simp only [tw_gq]; omega)) ?_ | refine tw_ite_f (by first | omega | (simp only [tw_gq]; omega)) ?_)
      rw [show R_of (0 + 1) = ps (B_given 1) from o1]
      refine tw_bind_t s1 ?_
      rw [step]
      refine tw_bind_t hA ?_
      (first | refine tw_ite_t (by first | omega | (simp only [tw_gq]; omega)) ?_ | refine tw_ite_f (by first | omega | (simp only [tw_gq]; omega)) ?_); (first | refine tw_ite_t (by first | omega | (simp only [tw_gq]; omega)) ?_ | refine tw_ite_f (by first | omega | (simp only [tw_gq]; omega)) ?_); (first | refine tw_ite_t (by first | omega | (simp only [tw_gq]; omega)) ?_ | refine tw_ite_f (by first | omega | (simp only [tw_gq]; omega)) ?_)
      rw [show R_of (0 + 1 + 1) = ps (B_given 2) from o2]
      refine tw_bind_t s2 ?_
      rw [step]
      refine tw_bind_t hA ?_
      (first | refine tw_ite_t (by first | omega | (simp only [tw_gq]; omega)) ?_ | refine tw_ite_f (by first | omega | (simp only [tw_gq]; omega)) ?_); (first | refine tw_ite_t (by first | omega | (simp only [tw_gq]; omega)) ?_ | refine tw_ite_f (by first | omega | (simp only [tw_gq]; omega)) ?_)
      rw [show 1 + (tw_SZ V_kinds V_parts V_links D_nodes D_weights (B_given 0) + tw_SZ V_kinds V_parts V_links D_nodes D_weights (B_given 1) + tw_SZ V_kinds V_parts V_links D_nodes D_weights (B_given 2)) = 1 + tw_SZ V_kinds V_parts V_links D_nodes D_weights (B_given 0) + tw_SZ V_kinds V_parts V_links D_nodes D_weights (B_given 1) + tw_SZ V_kinds V_parts V_links D_nodes D_weights (B_given 2) by omega]; rfl
  rw [← hM] at hgo
  exact hgo
set_option maxRecDepth 100000 in
theorem tw_do_op {ok : Int → Int → Int → Prop} {cs : Int → Prop} {ps : Int → Int} {nc : Int} {R_values : Int} {R_nodeOf : Int → Int} {R_rowOf : Int → Int} {D_top : Int} {D_nodes : Int → Int} {R_dataEnd : Int} {VB_top : Int} {VB_row : Int → Int} {R_textEnd : Int} {R_texts : Int → Int} {D_forms : Int → Int} {D_counts : Int → Int} {D_numbers : Int → Int} {R_forms : Int → Int} {R_tags : Int → Int} {R_counts : Int → Int} {R_textsAt : Int → Int} {V_top : Int} {V_kinds : Int → Int} {V_numbers : Int → Int} {V_parts : Int → Int} {V_links : Int → Int} {R_valueKinds : Int → Int} {R_valueNumbers : Int → Int} {R_from : Int → Int} {R_length : Int → Int} {R_given : Int → Int} {R_firstGiven : Int → Int} {R_secondGiven : Int → Int} {D_depths : Int → Int} {D_weights : Int → Int} {m puts op : Int} {N : Nat} {B_given R_of R_comes : Int → Int} (hN : 300 ≤ N) (h : tw_XV ok cs ps nc R_values R_nodeOf R_rowOf D_top D_nodes R_dataEnd VB_top VB_row R_textEnd R_texts D_forms D_counts D_numbers R_forms R_tags R_counts R_textsAt V_top V_kinds V_numbers V_parts V_links R_valueKinds R_valueNumbers R_from R_length R_given R_firstGiven R_secondGiven D_depths D_weights) (hT : tw_TOPS V_top D_top VB_top R_textEnd R_dataEnd m) (ho : 0 ≤ op ∧ op ≤ 31) (hg : ∀ i, 0 ≤ i → i < tw_ar op → tw_vok cs V_top (B_given i) ∧ R_of i = ps (B_given i)) : (f_Builtins_allFit N V_top V_kinds V_parts D_top D_forms B_given op = some 0 ∧ f_Mod_fits R_valueKinds R_from R_forms R_of op = some 0) ∨ (f_Builtins_allFit N V_top V_kinds V_parts D_top D_forms B_given op = some 1 ∧ f_Mod_fits R_valueKinds R_from R_forms R_of op = some 1 ∧ tw_OUT ok cs ps nc R_values R_nodeOf R_rowOf D_top D_nodes R_dataEnd VB_top VB_row R_textEnd R_texts D_forms D_counts D_numbers R_forms R_tags R_counts R_textsAt V_top V_kinds V_numbers V_parts V_links R_valueKinds R_valueNumbers R_from R_length R_given R_firstGiven R_secondGiven D_depths D_weights N B_given puts R_of R_comes op) := by
  have q : ∀ i, 0 ≤ i → i < tw_ar op → tw_vok cs V_top (B_given i) := fun i a b => (hg i a b).1
  have w : ∀ i, 0 ≤ i → i < tw_ar op → R_of i = ps (B_given i) := fun i a b => (hg i a b).2
  by_cases c : op ≤ 9
  · have e1 : tw_ar op = 2 := by unfold tw_ar; rw [if_neg (by omega), if_pos (by omega)]
    exact tw_do_I hN h hT (q 0 (by omega) (by omega)) (w 0 (by omega) (by omega)) (q 1 (by omega) (by omega)) (w 1 (by omega) (by omega)) (by omega)
  · have : op = 10 ∨ op = 11 ∨ op = 12 ∨ op = 13 ∨ op = 14 ∨ op = 15 ∨ op = 16 ∨ op = 17 ∨ op = 18 ∨ op = 19 ∨ op = 20 ∨ op = 21 ∨ op = 22 ∨ op = 23 ∨ op = 24 ∨ op = 25 ∨ op = 26 ∨ op = 27 ∨ op = 28 ∨ op = 29 ∨ op = 30 ∨ op = 31 := by omega
    rcases this with e | e | e | e | e | e | e | e | e | e | e | e | e | e | e | e | e | e | e | e | e | e <;> subst e
    · exact tw_do_10 hN h hT (q 0 (by decide) (by decide)) (w 0 (by decide) (by decide)) (q 1 (by decide) (by decide)) (w 1 (by decide) (by decide))
    · exact tw_do_11 hN h hT (q 0 (by decide) (by decide)) (w 0 (by decide) (by decide))
    · exact tw_do_12 hN h hT (q 0 (by decide) (by decide)) (w 0 (by decide) (by decide)) (q 1 (by decide) (by decide)) (w 1 (by decide) (by decide))
    · exact tw_do_13 hN h hT (q 0 (by decide) (by decide)) (w 0 (by decide) (by decide)) (q 1 (by decide) (by decide)) (w 1 (by decide) (by decide)) (q 2 (by decide) (by decide)) (w 2 (by decide) (by decide))
    · exact tw_do_14 hN h hT (q 0 (by decide) (by decide)) (w 0 (by decide) (by decide)) (q 1 (by decide) (by decide)) (w 1 (by decide) (by decide))
    · exact tw_do_15 hN h hT (q 0 (by decide) (by decide)) (w 0 (by decide) (by decide)) (q 1 (by decide) (by decide)) (w 1 (by decide) (by decide))
    · exact tw_do_16 hN h hT (q 0 (by decide) (by decide)) (w 0 (by decide) (by decide)) (q 1 (by decide) (by decide)) (w 1 (by decide) (by decide)) (q 2 (by decide) (by decide)) (w 2 (by decide) (by decide))
    · exact tw_do_17 hN h hT (q 0 (by decide) (by decide)) (w 0 (by decide) (by decide)) (q 1 (by decide) (by decide)) (w 1 (by decide) (by decide))
    · exact tw_do_18 hN h hT (q 0 (by decide) (by decide)) (w 0 (by decide) (by decide))
    · exact tw_do_19 hN h hT (q 0 (by decide) (by decide)) (w 0 (by decide) (by decide))
    · exact tw_do_20 hN h hT (q 0 (by decide) (by decide)) (w 0 (by decide) (by decide))
    · exact tw_do_21 hN h hT (q 0 (by decide) (by decide)) (w 0 (by decide) (by decide)) (q 1 (by decide) (by decide)) (w 1 (by decide) (by decide))
    · exact tw_do_22 hN h hT (q 0 (by decide) (by decide)) (w 0 (by decide) (by decide))
    · exact tw_do_23 hN h hT (q 0 (by decide) (by decide)) (w 0 (by decide) (by decide))
    · exact tw_do_24 hN h hT (q 0 (by decide) (by decide)) (w 0 (by decide) (by decide))
    · exact tw_do_25 hN h hT (q 0 (by decide) (by decide)) (w 0 (by decide) (by decide))
    · exact tw_do_26 hN h hT (q 0 (by decide) (by decide)) (w 0 (by decide) (by decide))
    · exact tw_do_27 hN h hT (q 0 (by decide) (by decide)) (w 0 (by decide) (by decide))
    · exact tw_do_28 hN h hT (q 0 (by decide) (by decide)) (w 0 (by decide) (by decide)) (q 1 (by decide) (by decide)) (w 1 (by decide) (by decide))
    · exact tw_do_29 hN h hT (q 0 (by decide) (by decide)) (w 0 (by decide) (by decide))
    · exact tw_do_30 hN h hT (q 0 (by decide) (by decide)) (w 0 (by decide) (by decide))
    · exact tw_do_31 hN h hT (q 0 (by decide) (by decide)) (w 0 (by decide) (by decide))
set_option maxRecDepth 100000 in
def tw_cbT (N : Nat) (R_values : Int) (R_textEnd : Int) (R_dataEnd : Int) (R_steps : Int) (R_memory : Int) (R_maxSteps : Int) (R_maxMemory : Int) (R_fault : Int) (R_now : Int) (R_come : Int) (R_puts : Int) (R_valueKinds : Int → Int) (R_valueNumbers : Int → Int) (R_from : Int → Int) (R_length : Int → Int) (R_given : Int → Int) (R_firstGiven : Int → Int) (R_secondGiven : Int → Int) (R_texts : Int → Int) (R_forms : Int → Int) (R_tags : Int → Int) (R_counts : Int → Int) (R_textsAt : Int → Int) (ofs : Int → Int) (R_comes : Int → Int) (p1 : Int) (p2 : Int) : Option (Int × Int × Int × Int × Int × Int × Int × Int × Int × (Int → Int) × (Int → Int) × (Int → Int) × (Int → Int) × (Int → Int) × (Int → Int) × (Int → Int) × (Int → Int) × (Int → Int) × (Int → Int) × (Int → Int) × (Int → Int) × (Int → Int) × (Int → Int)) :=
  ob2 (f_Mod_callBuiltin_L149 N R_valueKinds R_from R_length R_forms R_counts ofs p1 p2 (R_valueNumbers p1) (R_given p1) N 1 0) (fun x5_133 x6_134 =>
            ob3 (f_Mod_step R_steps R_maxSteps R_fault x5_133) (fun r136 R_steps_137 R_fault_138 =>
             if rI r136 = true then (if r136 = 0 then (
              some (R_values, R_textEnd, R_dataEnd, R_steps_137, R_memory, R_fault_138, R_now, R_come, R_puts, R_valueKinds, R_valueNumbers, R_from, R_length, R_given, R_firstGiven, R_secondGiven, R_texts, R_forms, R_tags, R_counts, R_textsAt, ofs, R_comes)) else (
              ob17 (f_Mod_does N R_values R_textEnd R_dataEnd R_fault_138 R_puts R_valueKinds R_valueNumbers R_from R_length R_given R_texts R_forms R_tags R_counts R_textsAt ofs R_comes (R_valueNumbers p1)) (fun r141 R_values_142 R_textEnd_143 R_dataEnd_144 R_fault_145 R_puts_146 R_valueKinds_147 R_valueNumbers_148 R_from_149 R_length_150 R_given_151 R_texts_152 R_forms_153 R_tags_154 R_counts_155 R_textsAt_156 R_comes_157 =>
               if rI R_fault_145 = true then (if R_fault_145 = 0 then (
                Option.bind (f_Mod_sizeOf N R_valueKinds_147 R_from_149 R_length_150 R_forms_153 R_counts_155 r141) (fun r160 =>
                 ob3 (f_Mod_keep R_memory R_maxMemory R_fault_145 r160) (fun r162 R_memory_163 R_fault_164 =>
                  if rI r162 = true then (if r162 = 0 then (
                   some (R_values_142, R_textEnd_143, R_dataEnd_144, R_steps_137, R_memory_163, R_fault_164, R_now, R_come, R_puts_146, R_valueKinds_147, R_valueNumbers_148, R_from_149, R_length_150, R_given_151, R_firstGiven, R_secondGiven, R_texts_152, R_forms_153, R_tags_154, R_counts_155, R_textsAt_156, ofs, R_comes_157)) else (
                   ob2 (f_Mod_comes R_now R_come r141) (fun R_now_167 R_come_168 =>
                    some (R_values_142, R_textEnd_143, R_dataEnd_144, R_steps_137, R_memory_163, R_fault_164, R_now_167, R_come_168, R_puts_146, R_valueKinds_147, R_valueNumbers_148, R_from_149, R_length_150, R_given_151, R_firstGiven, R_secondGiven, R_texts_152, R_forms_153, R_tags_154, R_counts_155, R_textsAt_156, ofs, R_comes_157)))) else none))) else (
                some (R_values_142, R_textEnd_143, R_dataEnd_144, R_steps_137, R_memory, R_fault_145, R_now, R_come, R_puts_146, R_valueKinds_147, R_valueNumbers_148, R_from_149, R_length_150, R_given_151, R_firstGiven, R_secondGiven, R_texts_152, R_forms_153, R_tags_154, R_counts_155, R_textsAt_156, ofs, R_comes_157))) else none))) else none))
set_option maxRecDepth 100000 in
theorem tw_payS {st ms n : Int} (h0 : 0 ≤ st) (h1 : st ≤ ms) (h2 : ms ≤ 20000) (hn : 0 ≤ n) (hn' : n ≤ 100000) : f_Meter_paySteps st ms 0 n = (if n ≤ ms - st then some (1, st + n, 0) else some (0, st, 4)) ∧ f_Mod_step st ms 0 n = (if n ≤ ms - st then some (1, st + n, 0) else some (0, st, 4)) := by
  constructor
  · unfold f_Meter_paySteps
    (first | refine tw_ite_t (by first | omega | (simp only [tw_gq]; omega)) ?_ | refine tw_ite_f (by first | omega | (simp only [tw_gq]; omega)) ?_)
    by_cases c : n ≤ ms - st
    · rw [if_pos c, if_pos c]
    · rw [if_neg c, if_neg c]; rfl
  · unfold f_Mod_step
    by_cases c : n ≤ ms - st
    · rw [if_pos c]; (first | refine tw_ite_t (by first | omega | (simp only [tw_gq]; omega)) ?_ | refine tw_ite_f (by first | omega | (simp only [tw_gq]; omega)) ?_); (first | refine tw_ite_t (by first | omega | (simp only [tw_gq]; omega)) ?_ | refine tw_ite_f (by first | omega | (simp only [tw_gq]; omega)) ?_); rfl
    · rw [if_neg c]; (first | refine tw_ite_t (by first | omega | (simp only [tw_gq]; omega)) ?_ | refine tw_ite_f (by first | omega | (simp only [tw_gq]; omega)) ?_); (first | refine tw_ite_t (by first | omega | (simp only [tw_gq]; omega)) ?_ | refine tw_ite_f (by first | omega | (simp only [tw_gq]; omega)) ?_); rfl
set_option maxRecDepth 100000 in
theorem tw_payM {st ms n : Int} (h0 : 0 ≤ st) (h1 : st ≤ ms) (h2 : ms ≤ 3000) (hn : 0 ≤ n) (hn' : n ≤ 100000) : f_Meter_payMemory st ms 0 n = (if n ≤ ms - st then some (1, st + n, 0) else some (0, st, 5)) ∧ f_Mod_keep st ms 0 n = (if n ≤ ms - st then some (1, st + n, 0) else some (0, st, 5)) := by
  constructor
  · unfold f_Meter_payMemory
    (first | refine tw_ite_t (by first | omega | (simp only [tw_gq]; omega)) ?_ | refine tw_ite_f (by first | omega | (simp only [tw_gq]; omega)) ?_)
    by_cases c : n ≤ ms - st
    · rw [if_pos c, if_pos c]
    · rw [if_neg c, if_neg c]; rfl
  · unfold f_Mod_keep
    by_cases c : n ≤ ms - st
    · rw [if_pos c]; (first | refine tw_ite_t (by first | omega | (simp only [tw_gq]; omega)) ?_ | refine tw_ite_f (by first | omega | (simp only [tw_gq]; omega)) ?_); (first | refine tw_ite_t (by first | omega | (simp only [tw_gq]; omega)) ?_ | refine tw_ite_f (by first | omega | (simp only [tw_gq]; omega)) ?_); rfl
    · rw [if_neg c]; (first | refine tw_ite_t (by first | omega | (simp only [tw_gq]; omega)) ?_ | refine tw_ite_f (by first | omega | (simp only [tw_gq]; omega)) ?_); (first | refine tw_ite_t (by first | omega | (simp only [tw_gq]; omega)) ?_ | refine tw_ite_f (by first | omega | (simp only [tw_gq]; omega)) ?_); rfl
set_option maxRecDepth 100000 in
def tw_pfT (M_steps M_memory M_mostMemory M_fault : Int) (r : Int) (V_top : Int) (V_kinds : Int → Int) (V_numbers : Int → Int) (V_parts : Int → Int) (V_links : Int → Int) (VB_top : Int) (VB_row : Int → Int) (D_top : Int) (D_forms : Int → Int) (D_counts : Int → Int) (D_numbers : Int → Int) (D_nodes : Int → Int) (D_depths : Int → Int) (D_weights : Int → Int) : Option (Int × Int × (Int → Int) × (Int → Int) × (Int → Int) × (Int → Int) × Int × (Int → Int) × Int × (Int → Int) × (Int → Int) × (Int → Int) × (Int → Int) × (Int → Int) × (Int → Int) × Int × Int × Int × Int) :=
  if jr2 r (-1) = true then (if r = (-1) then (
                 Option.bind (f_Meter_fail M_fault 3) (fun M_fault_134 =>
                  some ((-1), V_top, V_kinds, V_numbers, V_parts, V_links, VB_top, VB_row, D_top, D_forms, D_counts, D_numbers, D_nodes, D_depths, D_weights, M_steps, M_memory, M_fault_134, (-1)))) else (
                 Option.bind (f_Values_sizeOf V_top V_kinds V_parts V_links D_top D_nodes D_weights r) (fun r127 =>
                  ob3 (f_Meter_payMemory M_memory M_mostMemory M_fault r127) (fun r129 M_memory_130 M_fault_131 =>
                   if rI r129 = true then (if r129 = 0 then (
                    some ((-1), V_top, V_kinds, V_numbers, V_parts, V_links, VB_top, VB_row, D_top, D_forms, D_counts, D_numbers, D_nodes, D_depths, D_weights, M_steps, M_memory_130, M_fault_131, (-1))) else (
                    some (r, V_top, V_kinds, V_numbers, V_parts, V_links, VB_top, VB_row, D_top, D_forms, D_counts, D_numbers, D_nodes, D_depths, D_weights, M_steps, M_memory_130, M_fault_131, (-1)))) else none)))) else none
set_option maxRecDepth 100000 in
def tw_pfO (N : Nat) (V_top : Int) (V_kinds : Int → Int) (V_numbers : Int → Int) (V_parts : Int → Int) (V_links : Int → Int) (VB_top : Int) (VB_row : Int → Int) (D_top : Int) (D_forms : Int → Int) (D_counts : Int → Int) (D_numbers : Int → Int) (D_nodes : Int → Int) (D_depths : Int → Int) (D_weights : Int → Int) (M_steps M_memory M_mostMemory M_fault B_ready : Int) (B_given : Int → Int) : Option (Int × Int × (Int → Int) × (Int → Int) × (Int → Int) × (Int → Int) × Int × (Int → Int) × Int × (Int → Int) × (Int → Int) × (Int → Int) × (Int → Int) × (Int → Int) × (Int → Int) × Int × Int × Int × Int) :=
  if jr2 B_ready 9 = true then (if 9 < B_ready then (
           if jr2 B_ready 15 = true then (if 15 < B_ready then (
            if jr2 B_ready 16 = true then (if B_ready = 16 then (
             if jix 0 3 = true then (
              Option.bind (f_Values_numberOf V_top V_numbers (B_given 0)) (fun r69 =>
               if jl2 r69 1 = true then (if r69 = 1 then (
                if jix 1 3 = true then (
                 if jr2 (B_given 1) (-1) = true then (if (B_given 1) = (-1) then (
                  Option.bind (f_Meter_fail M_fault 3) (fun M_fault_92 =>
                   some ((-1), V_top, V_kinds, V_numbers, V_parts, V_links, VB_top, VB_row, D_top, D_forms, D_counts, D_numbers, D_nodes, D_depths, D_weights, M_steps, M_memory, M_fault_92, (-1)))) else (
                  Option.bind (f_Values_sizeOf V_top V_kinds V_parts V_links D_top D_nodes D_weights (B_given 1)) (fun r85 =>
                   ob3 (f_Meter_payMemory M_memory M_mostMemory M_fault r85) (fun r87 M_memory_88 M_fault_89 =>
                    if rI r87 = true then (if r87 = 0 then (
                     some ((-1), V_top, V_kinds, V_numbers, V_parts, V_links, VB_top, VB_row, D_top, D_forms, D_counts, D_numbers, D_nodes, D_depths, D_weights, M_steps, M_memory_88, M_fault_89, (-1))) else (
                     some ((B_given 1), V_top, V_kinds, V_numbers, V_parts, V_links, VB_top, VB_row, D_top, D_forms, D_counts, D_numbers, D_nodes, D_depths, D_weights, M_steps, M_memory_88, M_fault_89, (-1)))) else none)))) else none) else none) else (
                if jix 2 3 = true then (
                 if jr2 (B_given 2) (-1) = true then (if (B_given 2) = (-1) then (
                  Option.bind (f_Meter_fail M_fault 3) (fun M_fault_81 =>
                   some ((-1), V_top, V_kinds, V_numbers, V_parts, V_links, VB_top, VB_row, D_top, D_forms, D_counts, D_numbers, D_nodes, D_depths, D_weights, M_steps, M_memory, M_fault_81, (-1)))) else (
                  Option.bind (f_Values_sizeOf V_top V_kinds V_parts V_links D_top D_nodes D_weights (B_given 2)) (fun r74 =>
                   ob3 (f_Meter_payMemory M_memory M_mostMemory M_fault r74) (fun r76 M_memory_77 M_fault_78 =>
                    if rI r76 = true then (if r76 = 0 then (
                     some ((-1), V_top, V_kinds, V_numbers, V_parts, V_links, VB_top, VB_row, D_top, D_forms, D_counts, D_numbers, D_nodes, D_depths, D_weights, M_steps, M_memory_77, M_fault_78, (-1))) else (
                     some ((B_given 2), V_top, V_kinds, V_numbers, V_parts, V_links, VB_top, VB_row, D_top, D_forms, D_counts, D_numbers, D_nodes, D_depths, D_weights, M_steps, M_memory_77, M_fault_78, (-1)))) else none)))) else none) else none)) else none)) else none) else (
             if jr2 B_ready 25 = true then (if 25 < B_ready then (
              ob13 (f_Builtins_onLists N V_top V_kinds V_numbers V_parts V_links D_top D_forms D_counts D_numbers D_nodes D_depths D_weights B_given B_ready) (fun r20 V_top_21 V_kinds_22 V_numbers_23 V_parts_24 V_links_25 D_top_26 D_forms_27 D_counts_28 D_numbers_29 D_nodes_30 D_depths_31 D_weights_32 =>
               if jr2 r20 (-1) = true then (if r20 = (-1) then (
                Option.bind (f_Meter_fail M_fault 3) (fun M_fault_42 =>
                 some ((-1), V_top_21, V_kinds_22, V_numbers_23, V_parts_24, V_links_25, VB_top, VB_row, D_top_26, D_forms_27, D_counts_28, D_numbers_29, D_nodes_30, D_depths_31, D_weights_32, M_steps, M_memory, M_fault_42, (-1)))) else (
                Option.bind (f_Values_sizeOf V_top_21 V_kinds_22 V_parts_24 V_links_25 D_top_26 D_nodes_30 D_weights_32 r20) (fun r35 =>
                 ob3 (f_Meter_payMemory M_memory M_mostMemory M_fault r35) (fun r37 M_memory_38 M_fault_39 =>
                  if rI r37 = true then (if r37 = 0 then (
                   some ((-1), V_top_21, V_kinds_22, V_numbers_23, V_parts_24, V_links_25, VB_top, VB_row, D_top_26, D_forms_27, D_counts_28, D_numbers_29, D_nodes_30, D_depths_31, D_weights_32, M_steps, M_memory_38, M_fault_39, (-1))) else (
                   some (r20, V_top_21, V_kinds_22, V_numbers_23, V_parts_24, V_links_25, VB_top, VB_row, D_top_26, D_forms_27, D_counts_28, D_numbers_29, D_nodes_30, D_depths_31, D_weights_32, M_steps, M_memory_38, M_fault_39, (-1)))) else none)))) else none)) else (
              ob13 (f_Builtins_onData N V_top V_kinds V_numbers V_parts V_links VB_row D_top D_forms D_counts D_numbers D_nodes D_depths D_weights B_given B_ready) (fun r44 V_top_45 V_kinds_46 V_numbers_47 V_parts_48 V_links_49 D_top_50 D_forms_51 D_counts_52 D_numbers_53 D_nodes_54 D_depths_55 D_weights_56 =>
               if jr2 r44 (-1) = true then (if r44 = (-1) then (
                Option.bind (f_Meter_fail M_fault 3) (fun M_fault_66 =>
                 some ((-1), V_top_45, V_kinds_46, V_numbers_47, V_parts_48, V_links_49, VB_top, VB_row, D_top_50, D_forms_51, D_counts_52, D_numbers_53, D_nodes_54, D_depths_55, D_weights_56, M_steps, M_memory, M_fault_66, (-1)))) else (
                Option.bind (f_Values_sizeOf V_top_45 V_kinds_46 V_parts_48 V_links_49 D_top_50 D_nodes_54 D_weights_56 r44) (fun r59 =>
                 ob3 (f_Meter_payMemory M_memory M_mostMemory M_fault r59) (fun r61 M_memory_62 M_fault_63 =>
                  if rI r61 = true then (if r61 = 0 then (
                   some ((-1), V_top_45, V_kinds_46, V_numbers_47, V_parts_48, V_links_49, VB_top, VB_row, D_top_50, D_forms_51, D_counts_52, D_numbers_53, D_nodes_54, D_depths_55, D_weights_56, M_steps, M_memory_62, M_fault_63, (-1))) else (
                   some (r44, V_top_45, V_kinds_46, V_numbers_47, V_parts_48, V_links_49, VB_top, VB_row, D_top_50, D_forms_51, D_counts_52, D_numbers_53, D_nodes_54, D_depths_55, D_weights_56, M_steps, M_memory_62, M_fault_63, (-1)))) else none)))) else none))) else none)) else none) else (
            ob8 (f_Builtins_onBytes N V_top V_kinds V_numbers V_parts V_links VB_top VB_row B_given B_ready) (fun r94 V_top_95 V_kinds_96 V_numbers_97 V_parts_98 V_links_99 VB_top_100 VB_row_101 =>
             if jr2 r94 (-1) = true then (if r94 = (-1) then (
              Option.bind (f_Meter_fail M_fault 3) (fun M_fault_111 =>
               some ((-1), V_top_95, V_kinds_96, V_numbers_97, V_parts_98, V_links_99, VB_top_100, VB_row_101, D_top, D_forms, D_counts, D_numbers, D_nodes, D_depths, D_weights, M_steps, M_memory, M_fault_111, (-1)))) else (
              Option.bind (f_Values_sizeOf V_top_95 V_kinds_96 V_parts_98 V_links_99 D_top D_nodes D_weights r94) (fun r104 =>
               ob3 (f_Meter_payMemory M_memory M_mostMemory M_fault r104) (fun r106 M_memory_107 M_fault8 =>
                if rI r106 = true then (if r106 = 0 then (
                 some ((-1), V_top_95, V_kinds_96, V_numbers_97, V_parts_98, V_links_99, VB_top_100, VB_row_101, D_top, D_forms, D_counts, D_numbers, D_nodes, D_depths, D_weights, M_steps, M_memory_107, M_fault8, (-1))) else (
                 some (r94, V_top_95, V_kinds_96, V_numbers_97, V_parts_98, V_links_99, VB_top_100, VB_row_101, D_top, D_forms, D_counts, D_numbers, D_nodes, D_depths, D_weights, M_steps, M_memory_107, M_fault8, (-1)))) else none)))) else none))) else none) else (
           if jix 0 3 = true then (
            Option.bind (f_Values_numberOf V_top V_numbers (B_given 0)) (fun r114 =>
             if jix 1 3 = true then (
              Option.bind (f_Values_numberOf V_top V_numbers (B_given 1)) (fun r117 =>
               ob6 (f_Builtins_onIntegers V_top V_kinds V_numbers V_parts V_links B_ready r114 r117) (fun r119 V_top_120 V_kinds_121 V_numbers_122 V_parts_123 V_links_124 =>
                if jr2 r119 (-1) = true then (if r119 = (-1) then (
                 Option.bind (f_Meter_fail M_fault 3) (fun M_fault_134 =>
                  some ((-1), V_top_120, V_kinds_121, V_numbers_122, V_parts_123, V_links_124, VB_top, VB_row, D_top, D_forms, D_counts, D_numbers, D_nodes, D_depths, D_weights, M_steps, M_memory, M_fault_134, (-1)))) else (
                 Option.bind (f_Values_sizeOf V_top_120 V_kinds_121 V_parts_123 V_links_124 D_top D_nodes D_weights r119) (fun r127 =>
                  ob3 (f_Meter_payMemory M_memory M_mostMemory M_fault r127) (fun r129 M_memory_130 M_fault_131 =>
                   if rI r129 = true then (if r129 = 0 then (
                    some ((-1), V_top_120, V_kinds_121, V_numbers_122, V_parts_123, V_links_124, VB_top, VB_row, D_top, D_forms, D_counts, D_numbers, D_nodes, D_depths, D_weights, M_steps, M_memory_130, M_fault_131, (-1))) else (
                    some (r119, V_top_120, V_kinds_121, V_numbers_122, V_parts_123, V_links_124, VB_top, VB_row, D_top, D_forms, D_counts, D_numbers, D_nodes, D_depths, D_weights, M_steps, M_memory_130, M_fault_131, (-1)))) else none)))) else none))) else none)) else none)) else none
set_option maxRecDepth 100000 in
theorem tw_pfO_eq {N : Nat} {V_top : Int} {V_kinds : Int → Int} {V_numbers : Int → Int} {V_parts : Int → Int} {V_links : Int → Int} {VB_top : Int} {VB_row : Int → Int} {D_top : Int} {D_forms : Int → Int} {D_counts : Int → Int} {D_numbers : Int → Int} {D_nodes : Int → Int} {D_depths : Int → Int} {D_weights : Int → Int} {M_steps M_memory M_mostMemory M_fault op : Int} {B_given : Int → Int} (ho : 0 ≤ op ∧ op ≤ 31) (n0 : f_Values_numberOf V_top V_numbers (B_given 0) = some (V_numbers (B_given 0))) (n0r : -9223372036854775808 ≤ V_numbers (B_given 0) ∧ V_numbers (B_given 0) ≤ 9223372036854775807) (n1 : op ≤ 9 → f_Values_numberOf V_top V_numbers (B_given 1) = some (V_numbers (B_given 1))) :
    tw_pfO N V_top V_kinds V_numbers V_parts V_links VB_top VB_row D_top D_forms D_counts D_numbers D_nodes D_depths D_weights M_steps M_memory M_mostMemory M_fault op B_given = ob15 (tw_opC N V_top V_kinds V_numbers V_parts V_links VB_top VB_row D_top D_forms D_counts D_numbers D_nodes D_depths D_weights B_given op) (fun r V_top V_kinds V_numbers V_parts V_links VB_top VB_row D_top D_forms D_counts D_numbers D_nodes D_depths D_weights => tw_pfT M_steps M_memory M_mostMemory M_fault r V_top V_kinds V_numbers V_parts V_links VB_top VB_row D_top D_forms D_counts D_numbers D_nodes D_depths D_weights) := by
  unfold tw_pfO tw_opC
  by_cases c9 : 9 < op
  · rw [if_pos c9, if_pos c9]
    (first | refine tw_ite_t (by first | omega | (simp only [tw_gq]; omega)) ?_ | refine tw_ite_f (by first | omega | (simp only [tw_gq]; omega)) ?_)
    by_cases c15 : 15 < op
    · rw [if_pos c15, if_pos c15]
      (first | refine tw_ite_t (by first | omega | (simp only [tw_gq]; omega)) ?_ | refine tw_ite_f (by first | omega | (simp only [tw_gq]; omega)) ?_)
      by_cases c16 : op = 16
      · rw [if_pos c16, if_pos c16]
        (first | refine tw_ite_t (by first | omega | (simp only [tw_gq]; omega)) ?_ | refine tw_ite_f (by first | omega | (simp only [tw_gq]; omega)) ?_); (first | refine tw_ite_t (by first | omega | (simp only [tw_gq]; omega)) ?_ | refine tw_ite_f (by first | omega | (simp only [tw_gq]; omega)) ?_)
        refine tw_bind_t n0 ?_
        (first | refine tw_ite_t (by first | omega | (simp only [tw_gq]; omega)) ?_ | refine tw_ite_f (by first | omega | (simp only [tw_gq]; omega)) ?_)
        by_cases c : V_numbers (B_given 0) = 1
        · rw [if_pos c, if_pos c]
          (first | refine tw_ite_t (by first | omega | (simp only [tw_gq]; omega)) ?_ | refine tw_ite_f (by first | omega | (simp only [tw_gq]; omega)) ?_)
          rfl
        · rw [if_neg c, if_neg c]
          (first | refine tw_ite_t (by first | omega | (simp only [tw_gq]; omega)) ?_ | refine tw_ite_f (by first | omega | (simp only [tw_gq]; omega)) ?_)
          rfl
      · rw [if_neg c16, if_neg c16]
        (first | refine tw_ite_t (by first | omega | (simp only [tw_gq]; omega)) ?_ | refine tw_ite_f (by first | omega | (simp only [tw_gq]; omega)) ?_)
        by_cases c25 : 25 < op
        · rw [if_pos c25, if_pos c25]
          (first | refine tw_ite_t (by first | omega | (simp only [tw_gq]; omega)) ?_ | refine tw_ite_f (by first | omega | (simp only [tw_gq]; omega)) ?_)
          cases f_Builtins_onLists N V_top V_kinds V_numbers V_parts V_links D_top D_forms D_counts D_numbers D_nodes D_depths D_weights B_given op <;> rfl
        · rw [if_neg c25, if_neg c25]
          (first | refine tw_ite_t (by first | omega | (simp only [tw_gq]; omega)) ?_ | refine tw_ite_f (by first | omega | (simp only [tw_gq]; omega)) ?_)
          cases f_Builtins_onData N V_top V_kinds V_numbers V_parts V_links VB_row D_top D_forms D_counts D_numbers D_nodes D_depths D_weights B_given op <;> rfl
    · rw [if_neg c15, if_neg c15]
      (first | refine tw_ite_t (by first | omega | (simp only [tw_gq]; omega)) ?_ | refine tw_ite_f (by first | omega | (simp only [tw_gq]; omega)) ?_)
      cases f_Builtins_onBytes N V_top V_kinds V_numbers V_parts V_links VB_top VB_row B_given op <;> rfl
  · rw [if_neg c9, if_neg c9]
    (first | refine tw_ite_t (by first | omega | (simp only [tw_gq]; omega)) ?_ | refine tw_ite_f (by first | omega | (simp only [tw_gq]; omega)) ?_); (first | refine tw_ite_t (by first | omega | (simp only [tw_gq]; omega)) ?_ | refine tw_ite_f (by first | omega | (simp only [tw_gq]; omega)) ?_)
    refine tw_bind_t n0 ?_
    (first | refine tw_ite_t (by first | omega | (simp only [tw_gq]; omega)) ?_ | refine tw_ite_f (by first | omega | (simp only [tw_gq]; omega)) ?_)
    refine tw_bind_t (n1 (by omega)) ?_
    cases f_Builtins_onIntegers V_top V_kinds V_numbers V_parts V_links op (V_numbers (B_given 0)) (V_numbers (B_given 1)) <;> rfl
set_option maxRecDepth 100000 in
theorem tw_does_eq {N : Nat} {R_values : Int} {R_textEnd : Int} {R_dataEnd : Int} {R_valueKinds : Int → Int} {R_valueNumbers : Int → Int} {R_from : Int → Int} {R_length : Int → Int} {R_given : Int → Int} {R_texts : Int → Int} {R_forms : Int → Int} {R_tags : Int → Int} {R_counts : Int → Int} {R_textsAt : Int → Int} {puts op : Int} {R_of R_comes : Int → Int} (ho : 0 ≤ op ∧ op ≤ 31) (hf : f_Mod_fits R_valueKinds R_from R_forms R_of op = some 1) (v0 : 0 ≤ R_of 0 ∧ R_of 0 < 3700) (v1 : op ≤ 9 → 0 ≤ R_of 1 ∧ R_of 1 < 3700) (n0 : op = 16 → -9223372036854775808 ≤ R_valueNumbers (R_of 0) ∧ R_valueNumbers (R_of 0) ≤ 9223372036854775807) :
    f_Mod_does N R_values R_textEnd R_dataEnd 0 puts R_valueKinds R_valueNumbers R_from R_length R_given R_texts R_forms R_tags R_counts R_textsAt R_of R_comes op = tw_opR N R_values R_textEnd R_dataEnd R_valueKinds R_valueNumbers R_from R_length R_given R_texts R_forms R_tags R_counts R_textsAt puts R_of R_comes op := by
  unfold f_Mod_does tw_opR
  refine tw_bind_t hf ?_
  (first | refine tw_ite_t (by first | omega | (simp only [tw_gq]; omega)) ?_ | refine tw_ite_f (by first | omega | (simp only [tw_gq]; omega)) ?_); (first | refine tw_ite_t (by first | omega | (simp only [tw_gq]; omega)) ?_ | refine tw_ite_f (by first | omega | (simp only [tw_gq]; omega)) ?_)
  by_cases c10 : 10 ≤ op
  · rw [if_pos c10, if_pos c10]
    (first | refine tw_ite_t (by first | omega | (simp only [tw_gq]; omega)) ?_ | refine tw_ite_f (by first | omega | (simp only [tw_gq]; omega)) ?_)
    by_cases c16 : 16 ≤ op
    · rw [if_pos c16, if_pos c16]
      (first | refine tw_ite_t (by first | omega | (simp only [tw_gq]; omega)) ?_ | refine tw_ite_f (by first | omega | (simp only [tw_gq]; omega)) ?_)
      by_cases e16 : op = 16
      · have n0' := n0 e16
        rw [if_pos e16, if_pos e16]
        clear n0 v1
        (first | refine tw_ite_t (by first | omega | (simp only [tw_gq]; omega)) ?_ | refine tw_ite_f (by first | omega | (simp only [tw_gq]; omega)) ?_); (first | refine tw_ite_t (by first | omega | (simp only [tw_gq]; omega)) ?_ | refine tw_ite_f (by first | omega | (simp only [tw_gq]; omega)) ?_); (first | refine tw_ite_t (by first | omega | (simp only [tw_gq]; omega)) ?_ | refine tw_ite_f (by first | omega | (simp only [tw_gq]; omega)) ?_); (first | refine tw_ite_t (by first | omega | (simp only [tw_gq]; omega)) ?_ | refine tw_ite_f (by first | omega | (simp only [tw_gq]; omega)) ?_)
        by_cases c : R_valueNumbers (R_of 0) = 1
        · rw [if_pos c, if_pos c]
          (first | refine tw_ite_t (by first | omega | (simp only [tw_gq]; omega)) ?_ | refine tw_ite_f (by first | omega | (simp only [tw_gq]; omega)) ?_)
          rfl
        · rw [if_neg c, if_neg c]
          (first | refine tw_ite_t (by first | omega | (simp only [tw_gq]; omega)) ?_ | refine tw_ite_f (by first | omega | (simp only [tw_gq]; omega)) ?_)
          rfl
      · rw [if_neg e16, if_neg e16]
        clear n0 v1
        (first | refine tw_ite_t (by first | omega | (simp only [tw_gq]; omega)) ?_ | refine tw_ite_f (by first | omega | (simp only [tw_gq]; omega)) ?_)
        cases f_Mod_ofData N R_values R_textEnd R_dataEnd 0 puts R_valueKinds R_valueNumbers R_from R_length R_given R_texts R_forms R_tags R_counts R_textsAt R_of R_comes op <;> rfl
    · rw [if_neg c16, if_neg c16]
      clear n0 v1
      (first | refine tw_ite_t (by first | omega | (simp only [tw_gq]; omega)) ?_ | refine tw_ite_f (by first | omega | (simp only [tw_gq]; omega)) ?_)
      rfl
  · have v1' := v1 (by omega)
    rw [if_neg c10, if_neg c10]
    clear n0 v1
    (first | refine tw_ite_t (by first | omega | (simp only [tw_gq]; omega)) ?_ | refine tw_ite_f (by first | omega | (simp only [tw_gq]; omega)) ?_); (first | refine tw_ite_t (by first | omega | (simp only [tw_gq]; omega)) ?_ | refine tw_ite_f (by first | omega | (simp only [tw_gq]; omega)) ?_); (first | refine tw_ite_t (by first | omega | (simp only [tw_gq]; omega)) ?_ | refine tw_ite_f (by first | omega | (simp only [tw_gq]; omega)) ?_); (first | refine tw_ite_t (by first | omega | (simp only [tw_gq]; omega)) ?_ | refine tw_ite_f (by first | omega | (simp only [tw_gq]; omega)) ?_); (first | refine tw_ite_t (by first | omega | (simp only [tw_gq]; omega)) ?_ | refine tw_ite_f (by first | omega | (simp only [tw_gq]; omega)) ?_)
    rfl
set_option maxRecDepth 100000 in
theorem tw_perf {ok : Int → Int → Int → Prop} {cs : Int → Prop} {ps : Int → Int} {nc : Int} {R_values : Int} {R_nodeOf : Int → Int} {R_rowOf : Int → Int} {D_top : Int} {D_nodes : Int → Int} {R_dataEnd : Int} {VB_top : Int} {VB_row : Int → Int} {R_textEnd : Int} {R_texts : Int → Int} {D_forms : Int → Int} {D_counts : Int → Int} {D_numbers : Int → Int} {R_forms : Int → Int} {R_tags : Int → Int} {R_counts : Int → Int} {R_textsAt : Int → Int} {V_top : Int} {V_kinds : Int → Int} {V_numbers : Int → Int} {V_parts : Int → Int} {V_links : Int → Int} {R_valueKinds : Int → Int} {R_valueNumbers : Int → Int} {R_from : Int → Int} {R_length : Int → Int} {R_given : Int → Int} {R_firstGiven : Int → Int} {R_secondGiven : Int → Int} {D_depths : Int → Int} {D_weights : Int → Int} {st mem ms mm op f arg puts R_now R_come : Int} {N : Nat} {B_given R_of R_comes : Int → Int} (hN : 300 ≤ N) (h : tw_XV ok cs ps nc R_values R_nodeOf R_rowOf D_top D_nodes R_dataEnd VB_top VB_row R_textEnd R_texts D_forms D_counts D_numbers R_forms R_tags R_counts R_textsAt V_top V_kinds V_numbers V_parts V_links R_valueKinds R_valueNumbers R_from R_length R_given R_firstGiven R_secondGiven D_depths D_weights) (hT : tw_TOPS V_top D_top VB_top R_textEnd R_dataEnd mem) (ho : 0 ≤ op ∧ op ≤ 31) (hg : ∀ i, 0 ≤ i → i < tw_ar op → tw_vok cs V_top (B_given i) ∧ R_of i = ps (B_given i)) (hf : R_valueNumbers f = op) (hs : 0 ≤ st ∧ st ≤ ms ∧ ms ≤ 20000) (hm : 0 ≤ mem ∧ mem ≤ mm ∧ mm ≤ 3000) :
    ∃ (r st' mem' fl now' come' puts' : Int) (comes' : Int → Int) (V_top' : Int) (V_kinds' : Int → Int) (V_numbers' : Int → Int) (V_parts' : Int → Int) (V_links' : Int → Int) (VB_top' : Int) (VB_row' : Int → Int) (D_top' : Int) (D_forms' : Int → Int) (D_counts' : Int → Int) (D_numbers' : Int → Int) (D_nodes' : Int → Int) (D_depths' : Int → Int) (D_weights' : Int → Int) (R_values' : Int) (R_textEnd' : Int) (R_dataEnd' : Int) (R_valueKinds' : Int → Int) (R_valueNumbers' : Int → Int) (R_from' : Int → Int) (R_length' : Int → Int) (R_given' : Int → Int) (R_texts' : Int → Int) (R_forms' : Int → Int) (R_tags' : Int → Int) (R_counts' : Int → Int) (R_textsAt' : Int → Int), f_Builtins_perform N V_top V_kinds V_numbers V_parts V_links VB_top VB_row D_top D_forms D_counts D_numbers D_nodes D_depths D_weights st mem ms mm 0 op B_given = some (r,V_top', V_kinds', V_numbers', V_parts', V_links', VB_top', VB_row', D_top', D_forms', D_counts', D_numbers', D_nodes', D_depths', D_weights', st', mem', fl, -1)
      ∧ tw_cbT N R_values R_textEnd R_dataEnd st mem ms mm 0 R_now R_come puts R_valueKinds R_valueNumbers R_from R_length R_given R_firstGiven R_secondGiven R_texts R_forms R_tags R_counts R_textsAt R_of R_comes f arg = some (R_values', R_textEnd', R_dataEnd', st', mem', fl, now', come', puts', R_valueKinds', R_valueNumbers', R_from', R_length', R_given', R_firstGiven, R_secondGiven, R_texts', R_forms', R_tags', R_counts', R_textsAt', R_of, comes')
      ∧ st ≤ st' ∧ st' ≤ ms ∧ mem ≤ mem' ∧ mem' ≤ mm ∧ ((1 ≤ fl ∧ fl ≤ 6) ∨ (fl = 0 ∧ now' = -1 ∧ come' = ps r ∧ tw_XV ok cs ps nc R_values' R_nodeOf R_rowOf D_top' D_nodes' R_dataEnd' VB_top' VB_row' R_textEnd' R_texts' D_forms' D_counts' D_numbers' R_forms' R_tags' R_counts' R_textsAt' V_top' V_kinds' V_numbers' V_parts' V_links' R_valueKinds' R_valueNumbers' R_from' R_length' R_given' R_firstGiven R_secondGiven D_depths' D_weights' ∧ tw_GRV R_values R_nodeOf R_rowOf D_top D_nodes R_dataEnd VB_top VB_row R_textEnd R_texts D_forms D_counts D_numbers R_forms R_tags R_counts R_textsAt V_top V_kinds V_numbers V_parts V_links R_valueKinds R_valueNumbers R_from R_length R_given R_firstGiven R_secondGiven R_values' R_nodeOf R_rowOf D_top' D_nodes' R_dataEnd' VB_top' VB_row' R_textEnd' R_texts' D_forms' D_counts' D_numbers' R_forms' R_tags' R_counts' R_textsAt' V_top' V_kinds' V_numbers' V_parts' V_links' R_valueKinds' R_valueNumbers' R_from' R_length' R_given' R_firstGiven R_secondGiven ∧ tw_vok cs V_top' r ∧ tw_TOPS V_top' D_top' VB_top' R_textEnd' R_dataEnd' mem')) := by
  have tr := tw_TOPS_r h hT
  obtain ⟨t1, t2, t3, t4, t5, t6⟩ := tw_tk_ok ho
  obtain ⟨s1, s2, s3⟩ := tw_sg_C hN h hT ho (fun i a b => (hg i a b).1)
  have s4 := tw_sg_R (x1 := f) (x2 := arg) (x4 := R_given f) hN h hT ho hg
  obtain ⟨p1, p2⟩ := tw_payS (st := st) (ms := ms) (n := 1 + tw_SG V_kinds V_parts V_links D_nodes D_weights B_given (tw_ar op)) hs.1 hs.2.1 hs.2.2 (by omega) (by omega)
  by_cases c1 : 1 + tw_SG V_kinds V_parts V_links D_nodes D_weights B_given (tw_ar op) ≤ ms - st
  · rw [if_pos c1] at p1 p2
    rcases tw_do_op (puts := puts) (R_comes := R_comes) hN h hT ho hg with ⟨d1, d2⟩ | ⟨d1, d2, d3⟩
    ·
      refine ⟨-1, st + (1 + tw_SG V_kinds V_parts V_links D_nodes D_weights B_given (tw_ar op)), mem, 2, R_now, R_come, puts, R_comes, V_top, V_kinds, V_numbers, V_parts, V_links, VB_top, VB_row, D_top, D_forms, D_counts, D_numbers, D_nodes, D_depths, D_weights, R_values, R_textEnd, R_dataEnd, R_valueKinds, R_valueNumbers, R_from, R_length, R_given, R_texts, R_forms, R_tags, R_counts, R_textsAt, ?_, ?_, by omega, by omega, by omega, by omega, Or.inl (by omega)⟩
      · unfold f_Builtins_perform
        refine tw_bind_t s1 ?_
        refine tw_ob3_t p1 ?_
        (first | refine tw_ite_t (by first | omega | (simp only [tw_gq]; omega)) ?_ | refine tw_ite_f (by first | omega | (simp only [tw_gq]; omega)) ?_); (first | refine tw_ite_t (by first | omega | (simp only [tw_gq]; omega)) ?_ | refine tw_ite_f (by first | omega | (simp only [tw_gq]; omega)) ?_)
        refine tw_bind_t d1 ?_
        (first | refine tw_ite_t (by first | omega | (simp only [tw_gq]; omega)) ?_ | refine tw_ite_f (by first | omega | (simp only [tw_gq]; omega)) ?_); (first | refine tw_ite_t (by first | omega | (simp only [tw_gq]; omega)) ?_ | refine tw_ite_f (by first | omega | (simp only [tw_gq]; omega)) ?_)
        rfl
      · unfold tw_cbT
        rw [hf]
        refine tw_ob2_t s4 ?_
        refine tw_ob3_t p2 ?_
        (first | refine tw_ite_t (by first | omega | (simp only [tw_gq]; omega)) ?_ | refine tw_ite_f (by first | omega | (simp only [tw_gq]; omega)) ?_); (first | refine tw_ite_t (by first | omega | (simp only [tw_gq]; omega)) ?_ | refine tw_ite_f (by first | omega | (simp only [tw_gq]; omega)) ?_)
        refine tw_ob17_t (a1 := 0) (a2 := R_values) (a3 := R_textEnd) (a4 := R_dataEnd) (a5 := 2) (a6 := puts) (a7 := R_valueKinds) (a8 := R_valueNumbers) (a9 := R_from) (a10 := R_length) (a11 := R_given) (a12 := R_texts) (a13 := R_forms) (a14 := R_tags) (a15 := R_counts) (a16 := R_textsAt) (a17 := R_comes) ?_ ?_
        · unfold f_Mod_does
          refine tw_bind_t d2 ?_
          (first | refine tw_ite_t (by first | omega | (simp only [tw_gq]; omega)) ?_ | refine tw_ite_f (by first | omega | (simp only [tw_gq]; omega)) ?_); (first | refine tw_ite_t (by first | omega | (simp only [tw_gq]; omega)) ?_ | refine tw_ite_f (by first | omega | (simp only [tw_gq]; omega)) ?_)
          exact tw_ob2_t (tw_fail_ok rfl) rfl
        · (first | refine tw_ite_t (by first | omega | (simp only [tw_gq]; omega)) ?_ | refine tw_ite_f (by first | omega | (simp only [tw_gq]; omega)) ?_); (first | refine tw_ite_t (by first | omega | (simp only [tw_gq]; omega)) ?_ | refine tw_ite_f (by first | omega | (simp only [tw_gq]; omega)) ?_); rfl
    ·
      obtain ⟨g0, o0⟩ := hg 0 (by omega) (by omega)
      obtain ⟨g0a, g0b, -⟩ := id g0
      obtain ⟨v0, v0', ⟨-, -, -, n0, e0, -⟩, -⟩ := h.1 _ g0
      have ar2 : op ≤ 9 → 1 < tw_ar op := fun z => by unfold tw_ar; rw [if_neg (by omega), if_pos (by omega)]; omega
      have hpf := tw_pfO_eq (N := N) (V_top := V_top) (V_kinds := V_kinds) (V_numbers := V_numbers) (V_parts := V_parts) (V_links := V_links) (VB_top := VB_top) (VB_row := VB_row) (D_top := D_top) (D_forms := D_forms) (D_counts := D_counts) (D_numbers := D_numbers) (D_nodes := D_nodes) (D_depths := D_depths) (D_weights := D_weights) (M_steps := st + (1 + tw_SG V_kinds V_parts V_links D_nodes D_weights B_given (tw_ar op))) (M_memory := mem) (M_mostMemory := mm) (M_fault := 0) (op := op) (B_given := B_given) ho (tw_vN g0a g0b (by omega)) n0 (fun z => by have tw_g1 := (hg 1 (by omega) (ar2 z)).1; exact tw_vN tw_g1.1 tw_g1.2.1 (by omega))
      have nR : op = 16 → -9223372036854775808 ≤ R_valueNumbers (R_of 0) ∧ R_valueNumbers (R_of 0) ≤ 9223372036854775807 := by
        intro z
        subst z
        have e16 : f_Mod_fits R_valueKinds R_from R_forms R_of 16 = Option.bind (f_Mod_isKind R_valueKinds R_of 0 2) (fun r => if r = 0 ∨ r = 1 then some r else none) := rfl
        rw [e16, tw_isK h hT g0 o0 (by omega) (by omega)] at d2
        by_cases k2 : V_kinds (B_given 0) = 2
        · rw [o0, ← e0 (by omega)]; exact n0
        · rw [if_neg k2] at d2; cases d2
      have hde := tw_does_eq (N := N) (R_values := R_values) (R_textEnd := R_textEnd) (R_dataEnd := R_dataEnd) (R_valueKinds := R_valueKinds) (R_valueNumbers := R_valueNumbers) (R_from := R_from) (R_length := R_length) (R_given := R_given) (R_texts := R_texts) (R_forms := R_forms) (R_tags := R_tags) (R_counts := R_counts) (R_textsAt := R_textsAt) (puts := puts) (R_comes := R_comes) ho d2 (by rw [o0]; omega) (fun z => by obtain ⟨tw_g1, o1⟩ := hg 1 (by omega) (ar2 z); obtain ⟨w0, w1, -⟩ := h.1 _ tw_g1; rw [o1]; omega) nR
      have hP : ∀ X, tw_pfO N V_top V_kinds V_numbers V_parts V_links VB_top VB_row D_top D_forms D_counts D_numbers D_nodes D_depths D_weights (st + (1 + tw_SG V_kinds V_parts V_links D_nodes D_weights B_given (tw_ar op))) mem mm 0 op B_given = X → f_Builtins_perform N V_top V_kinds V_numbers V_parts V_links VB_top VB_row D_top D_forms D_counts D_numbers D_nodes D_depths D_weights st mem ms mm 0 op B_given = X := by
        intro X hX
        unfold f_Builtins_perform
        refine tw_bind_t s1 ?_
        refine tw_ob3_t p1 ?_
        (first | refine tw_ite_t (by first | omega | (simp only [tw_gq]; omega)) ?_ | refine tw_ite_f (by first | omega | (simp only [tw_gq]; omega)) ?_); (first | refine tw_ite_t (by first | omega | (simp only [tw_gq]; omega)) ?_ | refine tw_ite_f (by first | omega | (simp only [tw_gq]; omega)) ?_)
        refine tw_bind_t d1 ?_
        (first | refine tw_ite_t (by first | omega | (simp only [tw_gq]; omega)) ?_ | refine tw_ite_f (by first | omega | (simp only [tw_gq]; omega)) ?_); (first | refine tw_ite_t (by first | omega | (simp only [tw_gq]; omega)) ?_ | refine tw_ite_f (by first | omega | (simp only [tw_gq]; omega)) ?_)
        exact hX
      clear nR e0
      rcases d3 with ⟨cc, aa, x1, x2, x3⟩ | ⟨V_top', V_kinds', V_numbers', V_parts', V_links', VB_top', VB_row', D_top', D_forms', D_counts', D_numbers', D_nodes', D_depths', D_weights', R_values', R_textEnd', R_dataEnd', R_valueKinds', R_valueNumbers', R_from', R_length', R_given', R_texts', R_forms', R_tags', R_counts', R_textsAt', r, v, puts', comes', x1, x2, x3⟩
      ·
        rw [← hde] at x2
        obtain ⟨c2, c3, c4, c5, c6, c7, c8, c9, c10, c11, c12, c13, c14, c15⟩ := cc
        obtain ⟨a1, a2, a3, a4, a5, a6, a7, a8, a9, a10, a11, a12, a13, a14, a15, a16, a17⟩ := aa
        have x3' : a5 = 3 := x3
        subst x3'
        refine ⟨-1, st + (1 + tw_SG V_kinds V_parts V_links D_nodes D_weights B_given (tw_ar op)), mem, 3, R_now, R_come, a6, a17, c2, c3, c4, c5, c6, c7, c8, c9, c10, c11, c12, c13, c14, c15, a2, a3, a4, a7, a8, a9, a10, a11, a12, a13, a14, a15, a16, ?_, ?_, by omega, by omega, by omega, by omega, Or.inl (by omega)⟩
        · refine hP _ ?_
          rw [hpf]
          refine tw_ob15_t x1 ?_
          rfl
        · unfold tw_cbT
          rw [hf]
          refine tw_ob2_t s4 ?_
          refine tw_ob3_t p2 ?_
          (first | refine tw_ite_t (by first | omega | (simp only [tw_gq]; omega)) ?_ | refine tw_ite_f (by first | omega | (simp only [tw_gq]; omega)) ?_); (first | refine tw_ite_t (by first | omega | (simp only [tw_gq]; omega)) ?_ | refine tw_ite_f (by first | omega | (simp only [tw_gq]; omega)) ?_)
          refine tw_ob17_t x2 ?_
          (first | refine tw_ite_t (by first | omega | (simp only [tw_gq]; omega)) ?_ | refine tw_ite_f (by first | omega | (simp only [tw_gq]; omega)) ?_); (first | refine tw_ite_t (by first | omega | (simp only [tw_gq]; omega)) ?_ | refine tw_ite_f (by first | omega | (simp only [tw_gq]; omega)) ?_); rfl
      ·
        rw [← hde] at x2
        obtain ⟨y1, y2, y3, y4, y5, y6, y7, y8, y9, y10, y11, y12⟩ := x3
        have vt : V_top' ≤ 3201 ∧ D_top' ≤ 3201 ∧ R_values' ≤ 3700 ∧ R_dataEnd' ≤ 5000 := by
          have := y1.2.2.2.2.2.2.2.2.2.1
          have := y1.2.2.2.2.2.2.2.2.1
          omega
        obtain ⟨z1, z2, z3⟩ := tw_vSz y1 y3 vt.1 vt.2.1
        have z4 := tw_rSz y1 y3 vt.2.2.1 vt.2.2.2 (N := N) (by omega)
        rw [y4] at z4
        obtain ⟨m1, m2⟩ := tw_payM (st := mem) (ms := mm) (n := tw_SZ V_kinds' V_parts' V_links' D_nodes' D_weights' r) hm.1 hm.2.1 hm.2.2 (by omega) (by omega)
        have hg' : tw_GRV R_values R_nodeOf R_rowOf D_top D_nodes R_dataEnd VB_top VB_row R_textEnd R_texts D_forms D_counts D_numbers R_forms R_tags R_counts R_textsAt V_top V_kinds V_numbers V_parts V_links R_valueKinds R_valueNumbers R_from R_length R_given R_firstGiven R_secondGiven R_values' R_nodeOf R_rowOf D_top' D_nodes' R_dataEnd' VB_top' VB_row' R_textEnd' R_texts' D_forms' D_counts' D_numbers' R_forms' R_tags' R_counts' R_textsAt' V_top' V_kinds' V_numbers' V_parts' V_links' R_valueKinds' R_valueNumbers' R_from' R_length' R_given' R_firstGiven R_secondGiven := y2
        obtain ⟨w1, w2, w3, w4, w5, w6, w7⟩ := hT
        have r0 := y3.1
        have r1 := y3.2.1
        by_cases cm : tw_SZ V_kinds' V_parts' V_links' D_nodes' D_weights' r ≤ mm - mem
        · rw [if_pos cm] at m1 m2
          refine ⟨r, st + (1 + tw_SG V_kinds V_parts V_links D_nodes D_weights B_given (tw_ar op)), mem + tw_SZ V_kinds' V_parts' V_links' D_nodes' D_weights' r, 0, -1, v, puts', comes', V_top', V_kinds', V_numbers', V_parts', V_links', VB_top', VB_row', D_top', D_forms', D_counts', D_numbers', D_nodes', D_depths', D_weights', R_values', R_textEnd', R_dataEnd', R_valueKinds', R_valueNumbers', R_from', R_length', R_given', R_texts', R_forms', R_tags', R_counts', R_textsAt', ?_, ?_, by omega, by omega, by omega, by omega, Or.inr ⟨rfl, rfl, y4.symm, y1, hg', y3, ⟨by omega, by omega, by omega, by omega, by omega, by omega, by omega⟩⟩⟩
          · refine hP _ ?_
            rw [hpf]
            refine tw_ob15_t x1 ?_
            unfold tw_pfT
            (first | refine tw_ite_t (by first | omega | (simp only [tw_gq]; omega)) ?_ | refine tw_ite_f (by first | omega | (simp only [tw_gq]; omega)) ?_); (first | refine tw_ite_t (by first | omega | (simp only [tw_gq]; omega)) ?_ | refine tw_ite_f (by first | omega | (simp only [tw_gq]; omega)) ?_)
            refine tw_bind_t z1 ?_
            refine tw_ob3_t m1 ?_
            (first | refine tw_ite_t (by first | omega | (simp only [tw_gq]; omega)) ?_ | refine tw_ite_f (by first | omega | (simp only [tw_gq]; omega)) ?_); (first | refine tw_ite_t (by first | omega | (simp only [tw_gq]; omega)) ?_ | refine tw_ite_f (by first | omega | (simp only [tw_gq]; omega)) ?_); rfl
          · unfold tw_cbT
            rw [hf]
            refine tw_ob2_t s4 ?_
            refine tw_ob3_t p2 ?_
            (first | refine tw_ite_t (by first | omega | (simp only [tw_gq]; omega)) ?_ | refine tw_ite_f (by first | omega | (simp only [tw_gq]; omega)) ?_); (first | refine tw_ite_t (by first | omega | (simp only [tw_gq]; omega)) ?_ | refine tw_ite_f (by first | omega | (simp only [tw_gq]; omega)) ?_)
            refine tw_ob17_t x2 ?_
            (first | refine tw_ite_t (by first | omega | (simp only [tw_gq]; omega)) ?_ | refine tw_ite_f (by first | omega | (simp only [tw_gq]; omega)) ?_); (first | refine tw_ite_t (by first | omega | (simp only [tw_gq]; omega)) ?_ | refine tw_ite_f (by first | omega | (simp only [tw_gq]; omega)) ?_)
            refine tw_bind_t z4 ?_
            refine tw_ob3_t m2 ?_
            (first | refine tw_ite_t (by first | omega | (simp only [tw_gq]; omega)) ?_ | refine tw_ite_f (by first | omega | (simp only [tw_gq]; omega)) ?_); (first | refine tw_ite_t (by first | omega | (simp only [tw_gq]; omega)) ?_ | refine tw_ite_f (by first | omega | (simp only [tw_gq]; omega)) ?_)
            rfl
        · rw [if_neg cm] at m1 m2
          refine ⟨-1, st + (1 + tw_SG V_kinds V_parts V_links D_nodes D_weights B_given (tw_ar op)), mem, 5, R_now, R_come, puts', comes', V_top', V_kinds', V_numbers', V_parts', V_links', VB_top', VB_row', D_top', D_forms', D_counts', D_numbers', D_nodes', D_depths', D_weights', R_values', R_textEnd', R_dataEnd', R_valueKinds', R_valueNumbers', R_from', R_length', R_given', R_texts', R_forms', R_tags', R_counts', R_textsAt', ?_, ?_, by omega, by omega, by omega, by omega, Or.inl (by omega)⟩
          · refine hP _ ?_
            rw [hpf]
            refine tw_ob15_t x1 ?_
            unfold tw_pfT
            (first | refine tw_ite_t (by first | omega | (simp only [tw_gq]; omega)) ?_ | refine tw_ite_f (by first | omega | (simp only [tw_gq]; omega)) ?_); (first | refine tw_ite_t (by first | omega | (simp only [tw_gq]; omega)) ?_ | refine tw_ite_f (by first | omega | (simp only [tw_gq]; omega)) ?_)
            refine tw_bind_t z1 ?_
            refine tw_ob3_t m1 ?_
            (first | refine tw_ite_t (by first | omega | (simp only [tw_gq]; omega)) ?_ | refine tw_ite_f (by first | omega | (simp only [tw_gq]; omega)) ?_); (first | refine tw_ite_t (by first | omega | (simp only [tw_gq]; omega)) ?_ | refine tw_ite_f (by first | omega | (simp only [tw_gq]; omega)) ?_); rfl
          · unfold tw_cbT
            rw [hf]
            refine tw_ob2_t s4 ?_
            refine tw_ob3_t p2 ?_
            (first | refine tw_ite_t (by first | omega | (simp only [tw_gq]; omega)) ?_ | refine tw_ite_f (by first | omega | (simp only [tw_gq]; omega)) ?_); (first | refine tw_ite_t (by first | omega | (simp only [tw_gq]; omega)) ?_ | refine tw_ite_f (by first | omega | (simp only [tw_gq]; omega)) ?_)
            refine tw_ob17_t x2 ?_
            (first | refine tw_ite_t (by first | omega | (simp only [tw_gq]; omega)) ?_ | refine tw_ite_f (by first | omega | (simp only [tw_gq]; omega)) ?_); (first | refine tw_ite_t (by first | omega | (simp only [tw_gq]; omega)) ?_ | refine tw_ite_f (by first | omega | (simp only [tw_gq]; omega)) ?_)
            refine tw_bind_t z4 ?_
            refine tw_ob3_t m2 ?_
            (first | refine tw_ite_t (by first | omega | (simp only [tw_gq]; omega)) ?_ | refine tw_ite_f (by first | omega | (simp only [tw_gq]; omega)) ?_); (first | refine tw_ite_t (by first | omega | (simp only [tw_gq]; omega)) ?_ | refine tw_ite_f (by first | omega | (simp only [tw_gq]; omega)) ?_)
            rfl
  · rw [if_neg c1] at p1 p2
    refine ⟨-1, st, mem, 4, R_now, R_come, puts, R_comes, V_top, V_kinds, V_numbers, V_parts, V_links, VB_top, VB_row, D_top, D_forms, D_counts, D_numbers, D_nodes, D_depths, D_weights, R_values, R_textEnd, R_dataEnd, R_valueKinds, R_valueNumbers, R_from, R_length, R_given, R_texts, R_forms, R_tags, R_counts, R_textsAt, ?_, ?_, by omega, by omega, by omega, by omega, Or.inl (by omega)⟩
    · unfold f_Builtins_perform
      refine tw_bind_t s1 ?_
      refine tw_ob3_t p1 ?_
      (first | refine tw_ite_t (by first | omega | (simp only [tw_gq]; omega)) ?_ | refine tw_ite_f (by first | omega | (simp only [tw_gq]; omega)) ?_); (first | refine tw_ite_t (by first | omega | (simp only [tw_gq]; omega)) ?_ | refine tw_ite_f (by first | omega | (simp only [tw_gq]; omega)) ?_); rfl
    · unfold tw_cbT
      rw [hf]
      refine tw_ob2_t s4 ?_
      refine tw_ob3_t p2 ?_
      (first | refine tw_ite_t (by first | omega | (simp only [tw_gq]; omega)) ?_ | refine tw_ite_f (by first | omega | (simp only [tw_gq]; omega)) ?_); (first | refine tw_ite_t (by first | omega | (simp only [tw_gq]; omega)) ?_ | refine tw_ite_f (by first | omega | (simp only [tw_gq]; omega)) ?_); rfl
