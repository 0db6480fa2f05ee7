set_option maxRecDepth 100000 in
theorem tw_outer_ok {R_values de fo tg ct v len : Int} {R_valueKinds R_valueNumbers R_from R_length R_given F T C A : Int → Int} {N : Nat} (hN : 300 ≤ N) (h0 : 0 ≤ R_values) (h1 : R_values < 3700) (v0 : 0 ≤ v) (v1 : v < 3700) (l : R_length v = len) (l1 : 1 ≤ len) (l2 : len ≤ 200) (f0 : 0 ≤ R_from v) (f1 : R_from v + len ≤ de) (d1 : de + len ≤ 5000) :
    ∃ F' T' C' A', f_Mod_outer N R_values de R_valueKinds R_valueNumbers R_from R_length R_given F T C A fo tg ct v = some (R_values, R_values + 1, de + len, upZ R_valueKinds R_values 4, upZ R_valueNumbers R_values 0, upZ R_from R_values de, upZ R_length R_values len, upZ R_given R_values 0, F', T', C', A')
      ∧ (∀ m, m < de → F' m = F m ∧ T' m = T m ∧ C' m = C m ∧ A' m = A m) ∧ (F' de = fo ∧ T' de = tg ∧ C' de = ct) ∧ (∀ k, 1 ≤ k → k < len → F' (de + k) = F (R_from v + k) ∧ T' (de + k) = T (R_from v + k) ∧ C' (de + k) = C (R_from v + k) ∧ A' (de + k) = A (R_from v + k)) := by
  obtain ⟨F', T', C', A', r1, r2, r3⟩ := tw_rCp (o := de + 1) (b := R_from v + 1) (n := len - 1) (F := upZ F de fo) (T := upZ T de tg) (C := upZ C de ct) (A := upZ A de 0) (by omega) (by omega) (by omega) (by omega) (by omega) hN
  refine ⟨F', T', C', A', ?_, ?_, ?_, ?_⟩
  · unfold f_Mod_outer
    refine tw_ob5_t (tw_rPutD (by omega) (by omega)) ?_
    (first | refine tw_ite_t (by first | omega | (simp only [tw_gq]; omega)) ?_ | refine tw_ite_f (by first | omega | (simp only [tw_gq]; omega)) ?_); (first | refine tw_ite_t (by first | omega | (simp only [tw_gq]; omega)) ?_ | refine tw_ite_f (by first | omega | (simp only [tw_gq]; omega)) ?_)
    rw [l]
    refine tw_ob5_t r1 ?_
    refine tw_ob7_t (tw_rMkD h0 h1) ?_
    rw [show de + 1 + (len - 1) = de + len by omega, show de + len - de = len by omega]
  · intro m hm
    have z := r2 m (by omega)
    rw [tw_upN _ (by omega), tw_upN _ (by omega), tw_upN _ (by omega), tw_upN _ (by omega)] at z
    exact z
  · have z := r2 de (by omega)
    rw [tw_upS, tw_upS, tw_upS, tw_upS] at z
    exact ⟨z.1, z.2.1, z.2.2.1⟩
  · intro k k0 k1
    have z := r3 (k - 1) (by omega) (by omega)
    rw [tw_upN _ (by omega), tw_upN _ (by omega), tw_upN _ (by omega), tw_upN _ (by omega), show de + 1 + (k - 1) = de + k by omega, show R_from v + 1 + (k - 1) = R_from v + k by omega] at z
    exact z
set_option maxRecDepth 100000 in
theorem tw_rec_ok {ok : Int → Int → Int → Prop} {cs : Int → Prop} {ps : Int → Int} {nc : Int} {R_values : Int} {R_nodeOf : Int → Int} {R_rowOf : Int → Int} {D_top : Int} {D_nodes : Int → Int} {R_dataEnd : Int} {VB_top : Int} {VB_row : Int → Int} {R_textEnd : Int} {R_texts : Int → Int} {D_forms : Int → Int} {D_counts : Int → Int} {D_numbers : Int → Int} {R_forms : Int → Int} {R_tags : Int → Int} {R_counts : Int → Int} {R_textsAt : Int → Int} {V_top : Int} {V_kinds : Int → Int} {V_numbers : Int → Int} {V_parts : Int → Int} {V_links : Int → Int} {R_valueKinds : Int → Int} {R_valueNumbers : Int → Int} {R_from : Int → Int} {R_length : Int → Int} {R_given : Int → Int} {R_firstGiven : Int → Int} {R_secondGiven : Int → Int} {D_depths : Int → Int} {D_weights : Int → Int} {m p fo tg ct : Int} {N : Nat} (hN : 300 ≤ N) (h : tw_XV ok cs ps nc R_values R_nodeOf R_rowOf D_top D_nodes R_dataEnd VB_top VB_row R_textEnd R_texts D_forms D_counts D_numbers R_forms R_tags R_counts R_textsAt V_top V_kinds V_numbers V_parts V_links R_valueKinds R_valueNumbers R_from R_length R_given R_firstGiven R_secondGiven D_depths D_weights) (hT : tw_TOPS V_top D_top VB_top R_textEnd R_dataEnd m) (g : tw_vok cs V_top p) (k4 : V_kinds p = 4) (hf : 0 ≤ fo ∧ fo ≤ 2) (hc : 0 ≤ ct ∧ ct ≤ 200) (hw : (if fo = 1 then 2 * ct else ct) = tw_wi D_forms D_counts (V_parts p)) (h4 : ¬ D_forms (V_parts p) = 4) (ht : 0 ≤ tg ∧ tg ≤ 127) :
    ∃ F' T' C' A', f_Mod_outer N R_values R_dataEnd R_valueKinds R_valueNumbers R_from R_length R_given R_forms R_tags R_counts R_textsAt fo tg ct (ps p) = some (R_values, R_values + 1, R_dataEnd + D_nodes (V_parts p), upZ R_valueKinds R_values 4, upZ R_valueNumbers R_values 0, upZ R_from R_values R_dataEnd, upZ R_length R_values (D_nodes (V_parts p)), upZ R_given R_values 0, F', T', C', A')
      ∧ f_DataRow_recast D_top D_forms D_counts D_numbers D_nodes D_depths D_weights (V_parts p) fo tg ct = some (D_top, D_top + D_nodes (V_parts p), upZ (cpZ D_forms D_forms (V_parts p) D_top (D_nodes (V_parts p))) D_top fo, upZ (cpZ D_counts D_counts (V_parts p) D_top (D_nodes (V_parts p))) D_top ct, upZ (cpZ D_numbers D_numbers (V_parts p) D_top (D_nodes (V_parts p))) D_top tg, cpZ D_nodes D_nodes (V_parts p) D_top (D_nodes (V_parts p)), cpZ D_depths D_depths (V_parts p) D_top (D_nodes (V_parts p)), cpZ D_weights D_weights (V_parts p) D_top (D_nodes (V_parts p)))
      ∧ tw_RSL ok cs ps nc R_values R_nodeOf R_rowOf D_top D_nodes R_dataEnd VB_top VB_row R_textEnd R_texts D_forms D_counts D_numbers R_forms R_tags R_counts R_textsAt V_top V_kinds V_numbers V_parts V_links R_valueKinds R_valueNumbers R_from R_length R_given R_firstGiven R_secondGiven D_depths D_weights (R_values + 1) R_nodeOf R_rowOf (D_top + D_nodes (V_parts p)) (cpZ D_nodes D_nodes (V_parts p) D_top (D_nodes (V_parts p))) (R_dataEnd + D_nodes (V_parts p)) VB_top VB_row R_textEnd R_texts (upZ (cpZ D_forms D_forms (V_parts p) D_top (D_nodes (V_parts p))) D_top fo) (upZ (cpZ D_counts D_counts (V_parts p) D_top (D_nodes (V_parts p))) D_top ct) (upZ (cpZ D_numbers D_numbers (V_parts p) D_top (D_nodes (V_parts p))) D_top tg) F' T' C' A' (V_top + 1) (upZ V_kinds V_top 4) (upZ V_numbers V_top 0) (upZ V_parts V_top D_top) (upZ V_links V_top (-1)) (upZ R_valueKinds R_values 4) (upZ R_valueNumbers R_values 0) (upZ R_from R_values R_dataEnd) (upZ R_length R_values (D_nodes (V_parts p))) (upZ R_given R_values 0) R_firstGiven R_secondGiven (cpZ D_depths D_depths (V_parts p) D_top (D_nodes (V_parts p))) (cpZ D_weights D_weights (V_parts p) D_top (D_nodes (V_parts p))) V_top R_values := by
  have tr := tw_TOPS_r h hT
  obtain ⟨p0, q0, -⟩ := id g
  obtain ⟨v0, v0', ⟨z0, -, -, n0, -, -, -, -, d0⟩, -⟩ := h.1 _ g
  obtain ⟨dl, dd⟩ := d0 k4
  obtain ⟨dd1, dd2, dd3, dd4, dd5⟩ := id dd
  clear d0
  have dn := h.2.1 (V_parts p) dd1 dd2
  have dn1 := dn.1
  have dn2 := dn.2.1
  have dn3 := dn.2.2.1
  have dw0 := dn.2.2.2.2.2.2.2.2.2.1
  obtain ⟨F', T', C', A', r1, r2, ⟨r3, r3', r3''⟩, r4⟩ := tw_outer_ok (R_values := R_values) (de := R_dataEnd) (fo := fo) (tg := tg) (ct := ct) (v := ps p) (R_valueKinds := R_valueKinds) (R_valueNumbers := R_valueNumbers) (R_from := R_from) (R_length := R_length) (R_given := R_given) (F := R_forms) (T := R_tags) (C := R_counts) (A := R_textsAt) hN (by omega) (by omega) v0 (by omega) dl dn1 dn3 dd3 dd4 (by omega)
  refine ⟨F', T', C', A', r1, tw_recast_ok h.2.1 dd1 dd2 (by omega), ?_⟩
  have hD := tw_recast_DR (p2 := fo) (p5 := ct) h.2.1 dd1 dd2 hf hc hw h4
  have up : ∀ (X : Int → Int) (x : Int), tw_GR D_top X (upZ (cpZ X X (V_parts p) D_top (D_nodes (V_parts p))) D_top x) := fun X x k hk => by rw [tw_upN _ (by omega), tw_cpN (by omega)]
  have cp : ∀ (X : Int → Int), tw_GR D_top X (cpZ X X (V_parts p) D_top (D_nodes (V_parts p))) := fun X k hk => by rw [tw_cpN (by omega)]
  have hm := tw_XV_grow (D_top' := D_top + D_nodes (V_parts p)) (D_numbers' := upZ (cpZ D_numbers D_numbers (V_parts p) D_top (D_nodes (V_parts p))) D_top tg) (VB_top' := VB_top) (VB_row' := VB_row) (R_textEnd' := R_textEnd) (R_texts' := R_texts) (R_dataEnd' := R_dataEnd + D_nodes (V_parts p)) (R_forms' := F') (R_tags' := T') (R_counts' := C') (R_textsAt' := A') h hD (Int.le_refl _) (Int.le_refl _) tw_GR_refl tw_GR_refl (by omega) (by omega) (up _ _) (up _ _) (up _ _) (cp _) (fun k hk => (r2 k hk).1) (fun k hk => (r2 k hk).2.1) (fun k hk => (r2 k hk).2.2.1) (fun k hk => (r2 k hk).2.2.2)
  have en : cpZ D_nodes D_nodes (V_parts p) D_top (D_nodes (V_parts p)) D_top = D_nodes (V_parts p) := by rw [tw_cpI (by omega), show V_parts p + (D_top - D_top) = V_parts p by omega]
  have ewt : cpZ D_weights D_weights (V_parts p) D_top (D_nodes (V_parts p)) D_top = D_weights (V_parts p) := by rw [tw_cpI (by omega), show V_parts p + (D_top - D_top) = V_parts p by omega]
  refine tw_RSL_mk (sz := D_nodes (V_parts p) + D_weights (V_parts p) / 8) hm (tw_GR_up (by omega)) (tw_GR_up (by omega)) (by omega) (by omega) (fun z => by omega) (by omega) (fun z => by omega) (fun _ => ?_) (by rw [if_neg (by omega), if_pos rfl, en, ewt]) (by omega) (by omega) (by omega) (by omega) (by omega)
  rw [tw_upS, tw_upS, en]
  refine ⟨rfl, by omega, by omega, by omega, by rw [en]; omega, fun k k0 k1 => ?_⟩
  rw [en] at k1
  by_cases e : k = 0
  · subst e
    unfold tw_NR
    rw [show D_top + 0 = D_top by omega, show R_dataEnd + 0 = R_dataEnd by omega, tw_upS, tw_upS, tw_upS]
    exact ⟨r3, r3'', by omega, fun _ => ht, fun z => by omega, fun _ => r3'⟩
  · have x4 := r4 k (by omega) k1
    exact tw_NR_cp (dd5 k k0 k1) (by rw [tw_upN _ (by omega), tw_cpI (by omega), show V_parts p + (D_top + k - D_top) = V_parts p + k by omega]) (by rw [tw_upN _ (by omega), tw_cpI (by omega), show V_parts p + (D_top + k - D_top) = V_parts p + k by omega]) (by rw [tw_upN _ (by omega), tw_cpI (by omega), show V_parts p + (D_top + k - D_top) = V_parts p + k by omega]) x4.1 x4.2.1 x4.2.2.1 x4.2.2.2
set_option maxRecDepth 100000 in
theorem tw_out_17 {ok : Int → Int → Int → Prop} {cs : Int → Prop} {ps : Int → Int} {nc : Int} {R_values : Int} {R_nodeOf : Int → Int} {R_rowOf : Int → Int} {D_top : Int} {D_nodes : Int → Int} {R_dataEnd : Int} {VB_top : Int} {VB_row : Int → Int} {R_textEnd : Int} {R_texts : Int → Int} {D_forms : Int → Int} {D_counts : Int → Int} {D_numbers : Int → Int} {R_forms : Int → Int} {R_tags : Int → Int} {R_counts : Int → Int} {R_textsAt : Int → Int} {V_top : Int} {V_kinds : Int → Int} {V_numbers : Int → Int} {V_parts : Int → Int} {V_links : Int → Int} {R_valueKinds : Int → Int} {R_valueNumbers : Int → Int} {R_from : Int → Int} {R_length : Int → Int} {R_given : Int → Int} {R_firstGiven : Int → Int} {R_secondGiven : Int → Int} {D_depths : Int → Int} {D_weights : Int → Int} {m puts : Int} {N : Nat} {B_given R_of R_comes : Int → Int} (hN : 300 ≤ N) (h : tw_XV ok cs ps nc R_values R_nodeOf R_rowOf D_top D_nodes R_dataEnd VB_top VB_row R_textEnd R_texts D_forms D_counts D_numbers R_forms R_tags R_counts R_textsAt V_top V_kinds V_numbers V_parts V_links R_valueKinds R_valueNumbers R_from R_length R_given R_firstGiven R_secondGiven D_depths D_weights) (hT : tw_TOPS V_top D_top VB_top R_textEnd R_dataEnd m) (g0 : tw_vok cs V_top (B_given 0)) (k0 : V_kinds (B_given 0) = 4) (o0 : R_of 0 = ps (B_given 0)) (tw_g1 : tw_vok cs V_top (B_given 1)) (k1 : V_kinds (B_given 1) = 4) (o1 : R_of 1 = ps (B_given 1)) : tw_OUT ok cs ps nc R_values R_nodeOf R_rowOf D_top D_nodes R_dataEnd VB_top VB_row R_textEnd R_texts D_forms D_counts D_numbers R_forms R_tags R_counts R_textsAt V_top V_kinds V_numbers V_parts V_links R_valueKinds R_valueNumbers R_from R_length R_given R_firstGiven R_secondGiven D_depths D_weights N B_given puts R_of R_comes 17 := by
  have tr := tw_TOPS_r h hT
  obtain ⟨p0, q0, -⟩ := id g0
  obtain ⟨v0, v0', ⟨z0, -, -, n0, -, -, -, -, d0⟩, -⟩ := h.1 _ g0
  obtain ⟨dl0, dd0⟩ := d0 k0
  obtain ⟨dd01, dd02, dd03, dd04, dd05⟩ := id dd0
  have dn0 := h.2.1 (V_parts (B_given 0)) dd01 dd02
  have dn01 := dn0.1
  have dn02 := dn0.2.1
  have dn03 := dn0.2.2.1
  have df00 := dn0.2.2.2.2.2.1
  have df01 := dn0.2.2.2.2.2.2.1
  have dc00 := dn0.2.2.2.2.2.2.2.1
  have dc01 := dn0.2.2.2.2.2.2.2.2.1
  have dw00 := dn0.2.2.2.2.2.2.2.2.2.1
  have dw01 := dn0.2.2.2.2.2.2.2.2.2.2.1
  clear d0
  obtain ⟨p1, q1, -⟩ := id tw_g1
  obtain ⟨v1, v1', ⟨z1, -, -, n1, -, -, -, -, d1⟩, -⟩ := h.1 _ tw_g1
  obtain ⟨dl1, dd1⟩ := d1 k1
  obtain ⟨dd11, dd12, dd13, dd14, dd15⟩ := id dd1
  have dn1 := h.2.1 (V_parts (B_given 1)) dd11 dd12
  have dn11 := dn1.1
  have dn12 := dn1.2.1
  have dn13 := dn1.2.2.1
  have df10 := dn1.2.2.2.2.2.1
  have df11 := dn1.2.2.2.2.2.2.1
  have dc10 := dn1.2.2.2.2.2.2.2.1
  have dc11 := dn1.2.2.2.2.2.2.2.2.1
  have dw10 := dn1.2.2.2.2.2.2.2.2.2.1
  have dw11 := dn1.2.2.2.2.2.2.2.2.2.2.1
  clear d1
  obtain ⟨r, r0, r1, r2⟩ := tw_same_D (x1 := ps (B_given 0)) (x2 := ps (B_given 1)) (N := N) h.2.1 (by omega) (by omega) (by omega) (by omega) (by omega) dd0 dd1 dl0 dl1 (by omega) (by omega)
  have hc : f_Builtins_onData N V_top V_kinds V_numbers V_parts V_links VB_row D_top D_forms D_counts D_numbers D_nodes D_depths D_weights B_given 17 = some (V_top, V_top + 1, upZ V_kinds V_top 2, upZ V_numbers V_top r, upZ V_parts V_top (-1), upZ V_links V_top (-1), D_top, D_forms, D_counts, D_numbers, D_nodes, D_depths, D_weights) := by
    unfold f_Builtins_onData
    (first | refine tw_ite_t (by first | omega | (simp only [tw_gq]; omega)) ?_ | refine tw_ite_f (by first | omega | (simp only [tw_gq]; omega)) ?_)
    refine tw_bind_t (tw_vRo p0 q0 (by omega)) ?_
    (first | refine tw_ite_t (by first | omega | (simp only [tw_gq]; omega)) ?_ | refine tw_ite_f (by first | omega | (simp only [tw_gq]; omega)) ?_); (first | refine tw_ite_t (by first | omega | (simp only [tw_gq]; omega)) ?_ | refine tw_ite_f (by first | omega | (simp only [tw_gq]; omega)) ?_); (first | refine tw_ite_t (by first | omega | (simp only [tw_gq]; omega)) ?_ | refine tw_ite_f (by first | omega | (simp only [tw_gq]; omega)) ?_)
    refine tw_bind_t (tw_vRo p1 q1 (by omega)) ?_
    refine tw_bind_t r1 ?_
    exact tw_ob6_t (tw_vOT (by omega) (by omega) r0) rfl
  have hr : f_Mod_ofData N R_values R_textEnd R_dataEnd 0 puts R_valueKinds R_valueNumbers R_from R_length R_given R_texts R_forms R_tags R_counts R_textsAt R_of R_comes 17 = some (R_values, R_values + 1, R_textEnd, R_dataEnd, 0, puts, upZ R_valueKinds R_values 2, upZ R_valueNumbers R_values r, R_from, R_length, upZ R_given R_values 0, R_texts, R_forms, R_tags, R_counts, R_textsAt, R_comes) := by
    unfold f_Mod_ofData
    rw [o0, o1]
    (first | refine tw_ite_t (by first | omega | (simp only [tw_gq]; omega)) ?_ | refine tw_ite_f (by first | omega | (simp only [tw_gq]; omega)) ?_); (first | refine tw_ite_t (by first | omega | (simp only [tw_gq]; omega)) ?_ | refine tw_ite_f (by first | omega | (simp only [tw_gq]; omega)) ?_); (first | refine tw_ite_t (by first | omega | (simp only [tw_gq]; omega)) ?_ | refine tw_ite_f (by first | omega | (simp only [tw_gq]; omega)) ?_); (first | refine tw_ite_t (by first | omega | (simp only [tw_gq]; omega)) ?_ | refine tw_ite_f (by first | omega | (simp only [tw_gq]; omega)) ?_); (first | refine tw_ite_t (by first | omega | (simp only [tw_gq]; omega)) ?_ | refine tw_ite_f (by first | omega | (simp only [tw_gq]; omega)) ?_)
    refine tw_bind_t r2 ?_
    exact tw_ob5_t (tw_rTr (by omega) (by omega) r0) rfl
  unfold tw_OUT tw_opC tw_opR
  rw [if_pos (show (9 : Int) < 17 by decide), if_pos (show (15 : Int) < 17 by decide), if_neg (show ¬ (17 : Int) = 16 by decide), if_neg (show ¬ (25 : Int) < 17 by decide), if_pos (show (10 : Int) ≤ 17 by decide), if_pos (show (16 : Int) ≤ 17 by decide), if_neg (show ¬ (17 : Int) = 16 by decide)]
  exact Or.inr ⟨_, _, _, _, _, _, _, _, _, _, _, _, _, _, _, _, _, _, _, _, _, _, _, _, _, _, _, _, _, _, _, tw_ob13_t hc rfl, hr, tw_RSL_mk (sz := 1) (tw_XV_mid h) tw_GR_refl tw_GR_refl (by omega) (by omega) (fun _ => rfl) (fun _ => r0) (fun z => by omega) (fun z => by omega) (by rw [if_neg (by omega), if_neg (by omega)]) (by omega) (by omega) (by omega) (by omega) (by omega)⟩
set_option maxRecDepth 100000 in
theorem tw_out_18 {ok : Int → Int → Int → Prop} {cs : Int → Prop} {ps : Int → Int} {nc : Int} {R_values : Int} {R_nodeOf : Int → Int} {R_rowOf : Int → Int} {D_top : Int} {D_nodes : Int → Int} {R_dataEnd : Int} {VB_top : Int} {VB_row : Int → Int} {R_textEnd : Int} {R_texts : Int → Int} {D_forms : Int → Int} {D_counts : Int → Int} {D_numbers : Int → Int} {R_forms : Int → Int} {R_tags : Int → Int} {R_counts : Int → Int} {R_textsAt : Int → Int} {V_top : Int} {V_kinds : Int → Int} {V_numbers : Int → Int} {V_parts : Int → Int} {V_links : Int → Int} {R_valueKinds : Int → Int} {R_valueNumbers : Int → Int} {R_from : Int → Int} {R_length : Int → Int} {R_given : Int → Int} {R_firstGiven : Int → Int} {R_secondGiven : Int → Int} {D_depths : Int → Int} {D_weights : Int → Int} {m puts : Int} {N : Nat} {B_given R_of R_comes : Int → Int} (hN : 300 ≤ N) (h : tw_XV ok cs ps nc R_values R_nodeOf R_rowOf D_top D_nodes R_dataEnd VB_top VB_row R_textEnd R_texts D_forms D_counts D_numbers R_forms R_tags R_counts R_textsAt V_top V_kinds V_numbers V_parts V_links R_valueKinds R_valueNumbers R_from R_length R_given R_firstGiven R_secondGiven D_depths D_weights) (hT : tw_TOPS V_top D_top VB_top R_textEnd R_dataEnd m) (g0 : tw_vok cs V_top (B_given 0)) (k0 : V_kinds (B_given 0) = 4) (o0 : R_of 0 = ps (B_given 0)) : tw_OUT ok cs ps nc R_values R_nodeOf R_rowOf D_top D_nodes R_dataEnd VB_top VB_row R_textEnd R_texts D_forms D_counts D_numbers R_forms R_tags R_counts R_textsAt V_top V_kinds V_numbers V_parts V_links R_valueKinds R_valueNumbers R_from R_length R_given R_firstGiven R_secondGiven D_depths D_weights N B_given puts R_of R_comes 18 := by
  have tr := tw_TOPS_r h hT
  obtain ⟨p0, q0, -⟩ := id g0
  obtain ⟨v0, v0', ⟨z0, -, -, n0, -, -, -, -, d0⟩, -⟩ := h.1 _ g0
  obtain ⟨dl0, dd0⟩ := d0 k0
  obtain ⟨dd01, dd02, dd03, dd04, dd05⟩ := id dd0
  have dn0 := h.2.1 (V_parts (B_given 0)) dd01 dd02
  have dn01 := dn0.1
  have dn02 := dn0.2.1
  have dn03 := dn0.2.2.1
  have df00 := dn0.2.2.2.2.2.1
  have df01 := dn0.2.2.2.2.2.2.1
  have dc00 := dn0.2.2.2.2.2.2.2.1
  have dc01 := dn0.2.2.2.2.2.2.2.2.1
  have dw00 := dn0.2.2.2.2.2.2.2.2.2.1
  have dw01 := dn0.2.2.2.2.2.2.2.2.2.2.1
  clear d0
  have c0 := dd05 0 (by omega) (by omega)
  rw [show V_parts (B_given 0) + 0 = V_parts (B_given 0) by omega, show R_from (ps (B_given 0)) + 0 = R_from (ps (B_given 0)) by omega] at c0
  obtain ⟨cf, cc, cn, cn0, cb, ct⟩ := c0
  clear cb ct cn0
  have hc : f_Builtins_onData N V_top V_kinds V_numbers V_parts V_links VB_row D_top D_forms D_counts D_numbers D_nodes D_depths D_weights B_given 18 = some (V_top, V_top + 1, upZ V_kinds V_top 0, upZ V_numbers V_top (D_forms (V_parts (B_given 0))), upZ V_parts V_top (-1), upZ V_links V_top (-1), D_top, D_forms, D_counts, D_numbers, D_nodes, D_depths, D_weights) := by
    unfold f_Builtins_onData
    (first | refine tw_ite_t (by first | omega | (simp only [tw_gq]; omega)) ?_ | refine tw_ite_f (by first | omega | (simp only [tw_gq]; omega)) ?_)
    refine tw_bind_t (tw_vRo p0 q0 (by omega)) ?_
    (first | refine tw_ite_t (by first | omega | (simp only [tw_gq]; omega)) ?_ | refine tw_ite_f (by first | omega | (simp only [tw_gq]; omega)) ?_); (first | refine tw_ite_t (by first | omega | (simp only [tw_gq]; omega)) ?_ | refine tw_ite_f (by first | omega | (simp only [tw_gq]; omega)) ?_); (first | refine tw_ite_t (by first | omega | (simp only [tw_gq]; omega)) ?_ | refine tw_ite_f (by first | omega | (simp only [tw_gq]; omega)) ?_)
    refine tw_bind_t (tw_dF_in dd01 dd02 (by omega)) ?_
    (first | refine tw_ite_t (by first | omega | (simp only [tw_gq]; omega)) ?_ | refine tw_ite_f (by first | omega | (simp only [tw_gq]; omega)) ?_)
    exact tw_ob6_t (tw_vOI (by omega) (by omega)) rfl
  have hr : f_Mod_ofData N R_values R_textEnd R_dataEnd 0 puts R_valueKinds R_valueNumbers R_from R_length R_given R_texts R_forms R_tags R_counts R_textsAt R_of R_comes 18 = some (R_values, R_values + 1, R_textEnd, R_dataEnd, 0, puts, upZ R_valueKinds R_values 0, upZ R_valueNumbers R_values (D_forms (V_parts (B_given 0))), R_from, R_length, upZ R_given R_values 0, R_texts, R_forms, R_tags, R_counts, R_textsAt, R_comes) := by
    unfold f_Mod_ofData
    rw [o0, cf]
    (first | refine tw_ite_t (by first | omega | (simp only [tw_gq]; omega)) ?_ | refine tw_ite_f (by first | omega | (simp only [tw_gq]; omega)) ?_); (first | refine tw_ite_t (by first | omega | (simp only [tw_gq]; omega)) ?_ | refine tw_ite_f (by first | omega | (simp only [tw_gq]; omega)) ?_); (first | refine tw_ite_t (by first | omega | (simp only [tw_gq]; omega)) ?_ | refine tw_ite_f (by first | omega | (simp only [tw_gq]; omega)) ?_); (first | refine tw_ite_t (by first | omega | (simp only [tw_gq]; omega)) ?_ | refine tw_ite_f (by first | omega | (simp only [tw_gq]; omega)) ?_); (first | refine tw_ite_t (by first | omega | (simp only [tw_gq]; omega)) ?_ | refine tw_ite_f (by first | omega | (simp only [tw_gq]; omega)) ?_); (first | refine tw_ite_t (by first | omega | (simp only [tw_gq]; omega)) ?_ | refine tw_ite_f (by first | omega | (simp only [tw_gq]; omega)) ?_); (first | refine tw_ite_t (by first | omega | (simp only [tw_gq]; omega)) ?_ | refine tw_ite_f (by first | omega | (simp only [tw_gq]; omega)) ?_)
    exact tw_ob5_t (tw_rmake (by omega) (by omega)) rfl
  unfold tw_OUT tw_opC tw_opR
  rw [if_pos (show (9 : Int) < 18 by decide), if_pos (show (15 : Int) < 18 by decide), if_neg (show ¬ (18 : Int) = 16 by decide), if_neg (show ¬ (25 : Int) < 18 by decide), if_pos (show (10 : Int) ≤ 18 by decide), if_pos (show (16 : Int) ≤ 18 by decide), if_neg (show ¬ (18 : Int) = 16 by decide)]
  exact Or.inr ⟨_, _, _, _, _, _, _, _, _, _, _, _, _, _, _, _, _, _, _, _, _, _, _, _, _, _, _, _, _, _, _, tw_ob13_t hc rfl, hr, tw_RSL_mk (sz := 1) (tw_XV_mid h) tw_GR_refl tw_GR_refl (by omega) (by omega) (fun _ => rfl) (by omega) (fun z => by omega) (fun z => by omega) (by rw [if_neg (by omega), if_neg (by omega)]) (by omega) (by omega) (by omega) (by omega) (by omega)⟩
set_option maxRecDepth 100000 in
theorem tw_out_19 {ok : Int → Int → Int → Prop} {cs : Int → Prop} {ps : Int → Int} {nc : Int} {R_values : Int} {R_nodeOf : Int → Int} {R_rowOf : Int → Int} {D_top : Int} {D_nodes : Int → Int} {R_dataEnd : Int} {VB_top : Int} {VB_row : Int → Int} {R_textEnd : Int} {R_texts : Int → Int} {D_forms : Int → Int} {D_counts : Int → Int} {D_numbers : Int → Int} {R_forms : Int → Int} {R_tags : Int → Int} {R_counts : Int → Int} {R_textsAt : Int → Int} {V_top : Int} {V_kinds : Int → Int} {V_numbers : Int → Int} {V_parts : Int → Int} {V_links : Int → Int} {R_valueKinds : Int → Int} {R_valueNumbers : Int → Int} {R_from : Int → Int} {R_length : Int → Int} {R_given : Int → Int} {R_firstGiven : Int → Int} {R_secondGiven : Int → Int} {D_depths : Int → Int} {D_weights : Int → Int} {m puts : Int} {N : Nat} {B_given R_of R_comes : Int → Int} (hN : 300 ≤ N) (h : tw_XV ok cs ps nc R_values R_nodeOf R_rowOf D_top D_nodes R_dataEnd VB_top VB_row R_textEnd R_texts D_forms D_counts D_numbers R_forms R_tags R_counts R_textsAt V_top V_kinds V_numbers V_parts V_links R_valueKinds R_valueNumbers R_from R_length R_given R_firstGiven R_secondGiven D_depths D_weights) (hT : tw_TOPS V_top D_top VB_top R_textEnd R_dataEnd m) (g0 : tw_vok cs V_top (B_given 0)) (k0 : V_kinds (B_given 0) = 4) (o0 : R_of 0 = ps (B_given 0)) (f0 : D_forms (V_parts (B_given 0)) = 0) : tw_OUT ok cs ps nc R_values R_nodeOf R_rowOf D_top D_nodes R_dataEnd VB_top VB_row R_textEnd R_texts D_forms D_counts D_numbers R_forms R_tags R_counts R_textsAt V_top V_kinds V_numbers V_parts V_links R_valueKinds R_valueNumbers R_from R_length R_given R_firstGiven R_secondGiven D_depths D_weights N B_given puts R_of R_comes 19 := by
  have tr := tw_TOPS_r h hT
  obtain ⟨p0, q0, -⟩ := id g0
  obtain ⟨v0, v0', ⟨z0, -, -, n0, -, -, -, -, d0⟩, -⟩ := h.1 _ g0
  obtain ⟨dl0, dd0⟩ := d0 k0
  obtain ⟨dd01, dd02, dd03, dd04, dd05⟩ := id dd0
  have dn0 := h.2.1 (V_parts (B_given 0)) dd01 dd02
  have dn01 := dn0.1
  have dn02 := dn0.2.1
  have dn03 := dn0.2.2.1
  have df00 := dn0.2.2.2.2.2.1
  have df01 := dn0.2.2.2.2.2.2.1
  have dc00 := dn0.2.2.2.2.2.2.2.1
  have dc01 := dn0.2.2.2.2.2.2.2.2.1
  have dw00 := dn0.2.2.2.2.2.2.2.2.2.1
  have dw01 := dn0.2.2.2.2.2.2.2.2.2.2.1
  clear d0
  have c0 := dd05 0 (by omega) (by omega)
  rw [show V_parts (B_given 0) + 0 = V_parts (B_given 0) by omega, show R_from (ps (B_given 0)) + 0 = R_from (ps (B_given 0)) by omega] at c0
  obtain ⟨cf, cc, cn, cn0, cb, ct⟩ := c0
  have ct := ct (by omega)
  clear cb cn0
  have hc : f_Builtins_onData N V_top V_kinds V_numbers V_parts V_links VB_row D_top D_forms D_counts D_numbers D_nodes D_depths D_weights B_given 19 = some (V_top, V_top + 1, upZ V_kinds V_top 0, upZ V_numbers V_top (D_numbers (V_parts (B_given 0))), upZ V_parts V_top (-1), upZ V_links V_top (-1), D_top, D_forms, D_counts, D_numbers, D_nodes, D_depths, D_weights) := by
    unfold f_Builtins_onData
    (first | refine tw_ite_t (by first | omega | (simp only [tw_gq]; omega)) ?_ | refine tw_ite_f (by first | omega | (simp only [tw_gq]; omega)) ?_)
    refine tw_bind_t (tw_vRo p0 q0 (by omega)) ?_
    (repeat (first | refine tw_ite_t (by first | omega | (simp only [tw_gq]; omega)) ?_ | refine tw_ite_f (by first | omega | (simp only [tw_gq]; omega)) ?_))
    refine tw_bind_t (tw_dM_in dd01 dd02 (by omega)) ?_
    exact tw_ob6_t (tw_vOI (by omega) (by omega)) rfl
  have hr : f_Mod_ofData N R_values R_textEnd R_dataEnd 0 puts R_valueKinds R_valueNumbers R_from R_length R_given R_texts R_forms R_tags R_counts R_textsAt R_of R_comes 19 = some (R_values, R_values + 1, R_textEnd, R_dataEnd, 0, puts, upZ R_valueKinds R_values 0, upZ R_valueNumbers R_values (D_numbers (V_parts (B_given 0))), R_from, R_length, upZ R_given R_values 0, R_texts, R_forms, R_tags, R_counts, R_textsAt, R_comes) := by
    unfold f_Mod_ofData
    rw [o0]
    (repeat (first | refine tw_ite_t (by first | omega | (simp only [tw_gq]; omega)) ?_ | refine tw_ite_f (by first | omega | (simp only [tw_gq]; omega)) ?_))
    rw [ct]
    exact tw_ob5_t (tw_rmake (by omega) (by omega)) rfl
  unfold tw_OUT tw_opC tw_opR
  rw [if_pos (show (9 : Int) < 19 by decide), if_pos (show (15 : Int) < 19 by decide), if_neg (show ¬ (19 : Int) = 16 by decide), if_neg (show ¬ (25 : Int) < 19 by decide), if_pos (show (10 : Int) ≤ 19 by decide), if_pos (show (16 : Int) ≤ 19 by decide), if_neg (show ¬ (19 : Int) = 16 by decide)]
  exact Or.inr ⟨_, _, _, _, _, _, _, _, _, _, _, _, _, _, _, _, _, _, _, _, _, _, _, _, _, _, _, _, _, _, _, tw_ob13_t hc rfl, hr, tw_RSL_mk (sz := 1) (tw_XV_mid h) tw_GR_refl tw_GR_refl (by omega) (by omega) (fun _ => rfl) (by omega) (fun z => by omega) (fun z => by omega) (by rw [if_neg (by omega), if_neg (by omega)]) (by omega) (by omega) (by omega) (by omega) (by omega)⟩
set_option maxRecDepth 100000 in
theorem tw_out_24 {ok : Int → Int → Int → Prop} {cs : Int → Prop} {ps : Int → Int} {nc : Int} {R_values : Int} {R_nodeOf : Int → Int} {R_rowOf : Int → Int} {D_top : Int} {D_nodes : Int → Int} {R_dataEnd : Int} {VB_top : Int} {VB_row : Int → Int} {R_textEnd : Int} {R_texts : Int → Int} {D_forms : Int → Int} {D_counts : Int → Int} {D_numbers : Int → Int} {R_forms : Int → Int} {R_tags : Int → Int} {R_counts : Int → Int} {R_textsAt : Int → Int} {V_top : Int} {V_kinds : Int → Int} {V_numbers : Int → Int} {V_parts : Int → Int} {V_links : Int → Int} {R_valueKinds : Int → Int} {R_valueNumbers : Int → Int} {R_from : Int → Int} {R_length : Int → Int} {R_given : Int → Int} {R_firstGiven : Int → Int} {R_secondGiven : Int → Int} {D_depths : Int → Int} {D_weights : Int → Int} {m puts : Int} {N : Nat} {B_given R_of R_comes : Int → Int} (hN : 300 ≤ N) (h : tw_XV ok cs ps nc R_values R_nodeOf R_rowOf D_top D_nodes R_dataEnd VB_top VB_row R_textEnd R_texts D_forms D_counts D_numbers R_forms R_tags R_counts R_textsAt V_top V_kinds V_numbers V_parts V_links R_valueKinds R_valueNumbers R_from R_length R_given R_firstGiven R_secondGiven D_depths D_weights) (hT : tw_TOPS V_top D_top VB_top R_textEnd R_dataEnd m) (g0 : tw_vok cs V_top (B_given 0)) (k0 : V_kinds (B_given 0) = 4) (o0 : R_of 0 = ps (B_given 0)) (f0 : D_forms (V_parts (B_given 0)) = 3) : tw_OUT ok cs ps nc R_values R_nodeOf R_rowOf D_top D_nodes R_dataEnd VB_top VB_row R_textEnd R_texts D_forms D_counts D_numbers R_forms R_tags R_counts R_textsAt V_top V_kinds V_numbers V_parts V_links R_valueKinds R_valueNumbers R_from R_length R_given R_firstGiven R_secondGiven D_depths D_weights N B_given puts R_of R_comes 24 := by
  have tr := tw_TOPS_r h hT
  obtain ⟨p0, q0, -⟩ := id g0
  obtain ⟨v0, v0', ⟨z0, -, -, n0, -, -, -, -, d0⟩, -⟩ := h.1 _ g0
  obtain ⟨dl0, dd0⟩ := d0 k0
  obtain ⟨dd01, dd02, dd03, dd04, dd05⟩ := id dd0
  have dn0 := h.2.1 (V_parts (B_given 0)) dd01 dd02
  have dn01 := dn0.1
  have dn02 := dn0.2.1
  have dn03 := dn0.2.2.1
  have df00 := dn0.2.2.2.2.2.1
  have df01 := dn0.2.2.2.2.2.2.1
  have dc00 := dn0.2.2.2.2.2.2.2.1
  have dc01 := dn0.2.2.2.2.2.2.2.2.1
  have dw00 := dn0.2.2.2.2.2.2.2.2.2.1
  have dw01 := dn0.2.2.2.2.2.2.2.2.2.2.1
  clear d0
  have c0 := dd05 0 (by omega) (by omega)
  rw [show V_parts (B_given 0) + 0 = V_parts (B_given 0) by omega, show R_from (ps (B_given 0)) + 0 = R_from (ps (B_given 0)) by omega] at c0
  obtain ⟨cf, cc, cn, cn0, cb, ct⟩ := c0
  have ct := ct (by omega)
  clear cb cn0
  have hc : f_Builtins_onData N V_top V_kinds V_numbers V_parts V_links VB_row D_top D_forms D_counts D_numbers D_nodes D_depths D_weights B_given 24 = some (V_top, V_top + 1, upZ V_kinds V_top 0, upZ V_numbers V_top (D_numbers (V_parts (B_given 0))), upZ V_parts V_top (-1), upZ V_links V_top (-1), D_top, D_forms, D_counts, D_numbers, D_nodes, D_depths, D_weights) := by
    unfold f_Builtins_onData
    (first | refine tw_ite_t (by first | omega | (simp only [tw_gq]; omega)) ?_ | refine tw_ite_f (by first | omega | (simp only [tw_gq]; omega)) ?_)
    refine tw_bind_t (tw_vRo p0 q0 (by omega)) ?_
    (repeat (first | refine tw_ite_t (by first | omega | (simp only [tw_gq]; omega)) ?_ | refine tw_ite_f (by first | omega | (simp only [tw_gq]; omega)) ?_))
    refine tw_bind_t (tw_dM_in dd01 dd02 (by omega)) ?_
    exact tw_ob6_t (tw_vOI (by omega) (by omega)) rfl
  have hr : f_Mod_ofData N R_values R_textEnd R_dataEnd 0 puts R_valueKinds R_valueNumbers R_from R_length R_given R_texts R_forms R_tags R_counts R_textsAt R_of R_comes 24 = some (R_values, R_values + 1, R_textEnd, R_dataEnd, 0, puts, upZ R_valueKinds R_values 0, upZ R_valueNumbers R_values (D_numbers (V_parts (B_given 0))), R_from, R_length, upZ R_given R_values 0, R_texts, R_forms, R_tags, R_counts, R_textsAt, R_comes) := by
    unfold f_Mod_ofData
    rw [o0]
    (repeat (first | refine tw_ite_t (by first | omega | (simp only [tw_gq]; omega)) ?_ | refine tw_ite_f (by first | omega | (simp only [tw_gq]; omega)) ?_))
    rw [ct]
    exact tw_ob5_t (tw_rmake (by omega) (by omega)) rfl
  unfold tw_OUT tw_opC tw_opR
  rw [if_pos (show (9 : Int) < 24 by decide), if_pos (show (15 : Int) < 24 by decide), if_neg (show ¬ (24 : Int) = 16 by decide), if_neg (show ¬ (25 : Int) < 24 by decide), if_pos (show (10 : Int) ≤ 24 by decide), if_pos (show (16 : Int) ≤ 24 by decide), if_neg (show ¬ (24 : Int) = 16 by decide)]
  exact Or.inr ⟨_, _, _, _, _, _, _, _, _, _, _, _, _, _, _, _, _, _, _, _, _, _, _, _, _, _, _, _, _, _, _, tw_ob13_t hc rfl, hr, tw_RSL_mk (sz := 1) (tw_XV_mid h) tw_GR_refl tw_GR_refl (by omega) (by omega) (fun _ => rfl) (by omega) (fun z => by omega) (fun z => by omega) (by rw [if_neg (by omega), if_neg (by omega)]) (by omega) (by omega) (by omega) (by omega) (by omega)⟩
set_option maxRecDepth 100000 in
theorem tw_out_20 {ok : Int → Int → Int → Prop} {cs : Int → Prop} {ps : Int → Int} {nc : Int} {R_values : Int} {R_nodeOf : Int → Int} {R_rowOf : Int → Int} {D_top : Int} {D_nodes : Int → Int} {R_dataEnd : Int} {VB_top : Int} {VB_row : Int → Int} {R_textEnd : Int} {R_texts : Int → Int} {D_forms : Int → Int} {D_counts : Int → Int} {D_numbers : Int → Int} {R_forms : Int → Int} {R_tags : Int → Int} {R_counts : Int → Int} {R_textsAt : Int → Int} {V_top : Int} {V_kinds : Int → Int} {V_numbers : Int → Int} {V_parts : Int → Int} {V_links : Int → Int} {R_valueKinds : Int → Int} {R_valueNumbers : Int → Int} {R_from : Int → Int} {R_length : Int → Int} {R_given : Int → Int} {R_firstGiven : Int → Int} {R_secondGiven : Int → Int} {D_depths : Int → Int} {D_weights : Int → Int} {m puts : Int} {N : Nat} {B_given R_of R_comes : Int → Int} (hN : 300 ≤ N) (h : tw_XV ok cs ps nc R_values R_nodeOf R_rowOf D_top D_nodes R_dataEnd VB_top VB_row R_textEnd R_texts D_forms D_counts D_numbers R_forms R_tags R_counts R_textsAt V_top V_kinds V_numbers V_parts V_links R_valueKinds R_valueNumbers R_from R_length R_given R_firstGiven R_secondGiven D_depths D_weights) (hT : tw_TOPS V_top D_top VB_top R_textEnd R_dataEnd m) (g0 : tw_vok cs V_top (B_given 0)) (k0 : V_kinds (B_given 0) = 4) (o0 : R_of 0 = ps (B_given 0)) (f0 : D_forms (V_parts (B_given 0)) = 0) : tw_OUT ok cs ps nc R_values R_nodeOf R_rowOf D_top D_nodes R_dataEnd VB_top VB_row R_textEnd R_texts D_forms D_counts D_numbers R_forms R_tags R_counts R_textsAt V_top V_kinds V_numbers V_parts V_links R_valueKinds R_valueNumbers R_from R_length R_given R_firstGiven R_secondGiven D_depths D_weights N B_given puts R_of R_comes 20 := by
  have tr := tw_TOPS_r h hT
  obtain ⟨p0, q0, -⟩ := id g0
  obtain ⟨v0, v0', ⟨z0, -, -, n0, -, -, -, -, d0⟩, -⟩ := h.1 _ g0
  obtain ⟨dl0, dd0⟩ := d0 k0
  obtain ⟨dd01, dd02, dd03, dd04, dd05⟩ := id dd0
  have dn0 := h.2.1 (V_parts (B_given 0)) dd01 dd02
  have dn01 := dn0.1
  have dn02 := dn0.2.1
  have dn03 := dn0.2.2.1
  have df00 := dn0.2.2.2.2.2.1
  have df01 := dn0.2.2.2.2.2.2.1
  have dc00 := dn0.2.2.2.2.2.2.2.1
  have dc01 := dn0.2.2.2.2.2.2.2.2.1
  have dw00 := dn0.2.2.2.2.2.2.2.2.2.1
  have dw01 := dn0.2.2.2.2.2.2.2.2.2.2.1
  clear d0
  have c0 := dd05 0 (by omega) (by omega)
  rw [show V_parts (B_given 0) + 0 = V_parts (B_given 0) by omega, show R_from (ps (B_given 0)) + 0 = R_from (ps (B_given 0)) by omega] at c0
  obtain ⟨cf, cc, cn, cn0, cb, ct⟩ := c0
  clear cb cn0 ct
  have ew : tw_wi D_forms D_counts (V_parts (B_given 0)) = D_counts (V_parts (B_given 0)) := by unfold tw_wi; rw [if_neg (by omega), if_pos (by omega)]
  obtain ⟨F, T, C, A, x1, x2, x3⟩ := tw_rec_ok (fo := 2) (tg := 0) (ct := D_counts (V_parts (B_given 0))) hN h hT g0 k0 (by omega) (by omega) (by rw [ew, if_neg (by omega)]) (by omega) (by omega)
  have hc : f_Builtins_onData N V_top V_kinds V_numbers V_parts V_links VB_row D_top D_forms D_counts D_numbers D_nodes D_depths D_weights B_given 20 = some (V_top, V_top + 1, upZ V_kinds V_top 4, upZ V_numbers V_top 0, upZ V_parts V_top D_top, upZ V_links V_top (-1), D_top + D_nodes (V_parts (B_given 0)), upZ (cpZ D_forms D_forms (V_parts (B_given 0)) D_top (D_nodes (V_parts (B_given 0)))) D_top 2, upZ (cpZ D_counts D_counts (V_parts (B_given 0)) D_top (D_nodes (V_parts (B_given 0)))) D_top (D_counts (V_parts (B_given 0))), upZ (cpZ D_numbers D_numbers (V_parts (B_given 0)) D_top (D_nodes (V_parts (B_given 0)))) D_top 0, cpZ D_nodes D_nodes (V_parts (B_given 0)) D_top (D_nodes (V_parts (B_given 0))), cpZ D_depths D_depths (V_parts (B_given 0)) D_top (D_nodes (V_parts (B_given 0))), cpZ D_weights D_weights (V_parts (B_given 0)) D_top (D_nodes (V_parts (B_given 0)))) := by
    unfold f_Builtins_onData
    (first | refine tw_ite_t (by first | omega | (simp only [tw_gq]; omega)) ?_ | refine tw_ite_f (by first | omega | (simp only [tw_gq]; omega)) ?_)
    refine tw_bind_t (tw_vRo p0 q0 (by omega)) ?_
    (repeat (first | refine tw_ite_t (by first | omega | (simp only [tw_gq]; omega)) ?_ | refine tw_ite_f (by first | omega | (simp only [tw_gq]; omega)) ?_))
    refine tw_bind_t (tw_dC_in dd01 dd02 (by omega)) ?_
    exact tw_ob8_t x2 (tw_ob6_t (tw_vOD (by omega) (by omega) (by omega)) rfl)
  have hr : f_Mod_ofData N R_values R_textEnd R_dataEnd 0 puts R_valueKinds R_valueNumbers R_from R_length R_given R_texts R_forms R_tags R_counts R_textsAt R_of R_comes 20 = some (R_values, R_values + 1, R_textEnd, R_dataEnd + D_nodes (V_parts (B_given 0)), 0, puts, upZ R_valueKinds R_values 4, upZ R_valueNumbers R_values 0, upZ R_from R_values R_dataEnd, upZ R_length R_values (D_nodes (V_parts (B_given 0))), upZ R_given R_values 0, R_texts, F, T, C, A, R_comes) := by
    unfold f_Mod_ofData
    rw [o0, cc]
    (repeat (first | refine tw_ite_t (by first | omega | (simp only [tw_gq]; omega)) ?_ | refine tw_ite_f (by first | omega | (simp only [tw_gq]; omega)) ?_))
    exact tw_ob12_t x1 rfl
  unfold tw_OUT tw_opC tw_opR
  rw [if_pos (show (9 : Int) < 20 by decide), if_pos (show (15 : Int) < 20 by decide), if_neg (show ¬ (20 : Int) = 16 by decide), if_neg (show ¬ (25 : Int) < 20 by decide), if_pos (show (10 : Int) ≤ 20 by decide), if_pos (show (16 : Int) ≤ 20 by decide), if_neg (show ¬ (20 : Int) = 16 by decide)]
  exact Or.inr ⟨_, _, _, _, _, _, _, _, _, _, _, _, _, _, _, _, _, _, _, _, _, _, _, _, _, _, _, _, _, _, _, tw_ob13_t hc rfl, hr, x3⟩
set_option maxRecDepth 100000 in
theorem tw_out_21 {ok : Int → Int → Int → Prop} {cs : Int → Prop} {ps : Int → Int} {nc : Int} {R_values : Int} {R_nodeOf : Int → Int} {R_rowOf : Int → Int} {D_top : Int} {D_nodes : Int → Int} {R_dataEnd : Int} {VB_top : Int} {VB_row : Int → Int} {R_textEnd : Int} {R_texts : Int → Int} {D_forms : Int → Int} {D_counts : Int → Int} {D_numbers : Int → Int} {R_forms : Int → Int} {R_tags : Int → Int} {R_counts : Int → Int} {R_textsAt : Int → Int} {V_top : Int} {V_kinds : Int → Int} {V_numbers : Int → Int} {V_parts : Int → Int} {V_links : Int → Int} {R_valueKinds : Int → Int} {R_valueNumbers : Int → Int} {R_from : Int → Int} {R_length : Int → Int} {R_given : Int → Int} {R_firstGiven : Int → Int} {R_secondGiven : Int → Int} {D_depths : Int → Int} {D_weights : Int → Int} {m puts : Int} {N : Nat} {B_given R_of R_comes : Int → Int} (hN : 300 ≤ N) (h : tw_XV ok cs ps nc R_values R_nodeOf R_rowOf D_top D_nodes R_dataEnd VB_top VB_row R_textEnd R_texts D_forms D_counts D_numbers R_forms R_tags R_counts R_textsAt V_top V_kinds V_numbers V_parts V_links R_valueKinds R_valueNumbers R_from R_length R_given R_firstGiven R_secondGiven D_depths D_weights) (hT : tw_TOPS V_top D_top VB_top R_textEnd R_dataEnd m) (g0 : tw_vok cs V_top (B_given 0)) (k0 : V_kinds (B_given 0) = 0) (o0 : R_of 0 = ps (B_given 0)) (tw_g1 : tw_vok cs V_top (B_given 1)) (k1 : V_kinds (B_given 1) = 4) (o1 : R_of 1 = ps (B_given 1)) (f1 : D_forms (V_parts (B_given 1)) = 2) : tw_OUT ok cs ps nc R_values R_nodeOf R_rowOf D_top D_nodes R_dataEnd VB_top VB_row R_textEnd R_texts D_forms D_counts D_numbers R_forms R_tags R_counts R_textsAt V_top V_kinds V_numbers V_parts V_links R_valueKinds R_valueNumbers R_from R_length R_given R_firstGiven R_secondGiven D_depths D_weights N B_given puts R_of R_comes 21 := by
  have tr := tw_TOPS_r h hT
  obtain ⟨p0, q0, -⟩ := id g0
  obtain ⟨v0, v0', ⟨-, -, -, n0, e0, -⟩, -⟩ := h.1 _ g0
  have e0 := e0 (Or.inl k0)
  obtain ⟨p1, q1, -⟩ := id tw_g1
  obtain ⟨v1, v1', ⟨z1, -, -, n1, -, -, -, -, d1⟩, -⟩ := h.1 _ tw_g1
  obtain ⟨dl1, dd1⟩ := d1 k1
  obtain ⟨dd11, dd12, dd13, dd14, dd15⟩ := id dd1
  have dn1 := h.2.1 (V_parts (B_given 1)) dd11 dd12
  have dn11 := dn1.1
  have dn12 := dn1.2.1
  have dn13 := dn1.2.2.1
  have df10 := dn1.2.2.2.2.2.1
  have df11 := dn1.2.2.2.2.2.2.1
  have dc10 := dn1.2.2.2.2.2.2.2.1
  have dc11 := dn1.2.2.2.2.2.2.2.2.1
  have dw10 := dn1.2.2.2.2.2.2.2.2.2.1
  have dw11 := dn1.2.2.2.2.2.2.2.2.2.2.1
  clear d1
  have c0 := dd15 0 (by omega) (by omega)
  rw [show V_parts (B_given 1) + 0 = V_parts (B_given 1) by omega, show R_from (ps (B_given 1)) + 0 = R_from (ps (B_given 1)) by omega] at c0
  obtain ⟨cf, cc, cn, cn0, cb, ct⟩ := c0
  clear cb cn0 ct
  have ew : tw_wi D_forms D_counts (V_parts (B_given 1)) = D_counts (V_parts (B_given 1)) := by unfold tw_wi; rw [if_neg (by omega), if_pos (by omega)]
  by_cases c : 0 ≤ V_numbers (B_given 0) ∧ V_numbers (B_given 0) ≤ 127
  · obtain ⟨F, T, C, A, x1, x2, x3⟩ := tw_rec_ok (fo := 0) (tg := V_numbers (B_given 0)) (ct := D_counts (V_parts (B_given 1))) hN h hT tw_g1 k1 (by omega) (by omega) (by rw [ew, if_neg (by omega)]) (by omega) c
    have hc : f_Builtins_onData N V_top V_kinds V_numbers V_parts V_links VB_row D_top D_forms D_counts D_numbers D_nodes D_depths D_weights B_given 21 = some (V_top, V_top + 1, upZ V_kinds V_top 4, upZ V_numbers V_top 0, upZ V_parts V_top D_top, upZ V_links V_top (-1), D_top + D_nodes (V_parts (B_given 1)), upZ (cpZ D_forms D_forms (V_parts (B_given 1)) D_top (D_nodes (V_parts (B_given 1)))) D_top 0, upZ (cpZ D_counts D_counts (V_parts (B_given 1)) D_top (D_nodes (V_parts (B_given 1)))) D_top (D_counts (V_parts (B_given 1))), upZ (cpZ D_numbers D_numbers (V_parts (B_given 1)) D_top (D_nodes (V_parts (B_given 1)))) D_top (V_numbers (B_given 0)), cpZ D_nodes D_nodes (V_parts (B_given 1)) D_top (D_nodes (V_parts (B_given 1))), cpZ D_depths D_depths (V_parts (B_given 1)) D_top (D_nodes (V_parts (B_given 1))), cpZ D_weights D_weights (V_parts (B_given 1)) D_top (D_nodes (V_parts (B_given 1)))) := by
      unfold f_Builtins_onData
      (first | refine tw_ite_t (by first | omega | (simp only [tw_gq]; omega)) ?_ | refine tw_ite_f (by first | omega | (simp only [tw_gq]; omega)) ?_)
      refine tw_bind_t (tw_vRo p0 q0 (by omega)) ?_
      (repeat (first | refine tw_ite_t (by first | omega | (simp only [tw_gq]; omega)) ?_ | refine tw_ite_f (by first | omega | (simp only [tw_gq]; omega)) ?_))
      refine tw_bind_t (tw_vN p0 q0 (by omega)) ?_
      (first | refine tw_ite_t (by first | omega | (simp only [tw_gq]; omega)) ?_ | refine tw_ite_f (by first | omega | (simp only [tw_gq]; omega)) ?_)
      refine tw_bind_t (tw_vRo p1 q1 (by omega)) ?_
      refine tw_ob13_t (a1 := V_top) (a2 := V_top + 1) (a3 := upZ V_kinds V_top 4) (a4 := upZ V_numbers V_top 0) (a5 := upZ V_parts V_top D_top) (a6 := upZ V_links V_top (-1)) (a7 := D_top + D_nodes (V_parts (B_given 1))) (a8 := upZ (cpZ D_forms D_forms (V_parts (B_given 1)) D_top (D_nodes (V_parts (B_given 1)))) D_top 0) (a9 := upZ (cpZ D_counts D_counts (V_parts (B_given 1)) D_top (D_nodes (V_parts (B_given 1)))) D_top (D_counts (V_parts (B_given 1)))) (a10 := upZ (cpZ D_numbers D_numbers (V_parts (B_given 1)) D_top (D_nodes (V_parts (B_given 1)))) D_top (V_numbers (B_given 0))) (a11 := cpZ D_nodes D_nodes (V_parts (B_given 1)) D_top (D_nodes (V_parts (B_given 1)))) (a12 := cpZ D_depths D_depths (V_parts (B_given 1)) D_top (D_nodes (V_parts (B_given 1)))) (a13 := cpZ D_weights D_weights (V_parts (B_given 1)) D_top (D_nodes (V_parts (B_given 1)))) ?_ rfl
      unfold f_Builtins_toConstructor
      (repeat (first | refine tw_ite_t (by first | omega | (simp only [tw_gq]; omega)) ?_ | refine tw_ite_f (by first | omega | (simp only [tw_gq]; omega)) ?_))
      refine tw_bind_t (tw_dC_in dd11 dd12 (by omega)) ?_
      exact tw_ob8_t x2 (tw_ob6_t (tw_vOD (by omega) (by omega) (by omega)) rfl)
    have hr : f_Mod_ofData N R_values R_textEnd R_dataEnd 0 puts R_valueKinds R_valueNumbers R_from R_length R_given R_texts R_forms R_tags R_counts R_textsAt R_of R_comes 21 = some (R_values, R_values + 1, R_textEnd, R_dataEnd + D_nodes (V_parts (B_given 1)), 0, puts, upZ R_valueKinds R_values 4, upZ R_valueNumbers R_values 0, upZ R_from R_values R_dataEnd, upZ R_length R_values (D_nodes (V_parts (B_given 1))), upZ R_given R_values 0, R_texts, F, T, C, A, R_comes) := by
      unfold f_Mod_ofData
      rw [o0, o1, cc, ← e0]
      (repeat (first | refine tw_ite_t (by first | omega | (simp only [tw_gq]; omega)) ?_ | refine tw_ite_f (by first | omega | (simp only [tw_gq]; omega)) ?_))
      exact tw_ob12_t x1 rfl
    unfold tw_OUT tw_opC tw_opR
    rw [if_pos (show (9 : Int) < 21 by decide), if_pos (show (15 : Int) < 21 by decide), if_neg (show ¬ (21 : Int) = 16 by decide), if_neg (show ¬ (25 : Int) < 21 by decide), if_pos (show (10 : Int) ≤ 21 by decide), if_pos (show (16 : Int) ≤ 21 by decide), if_neg (show ¬ (21 : Int) = 16 by decide)]
    exact Or.inr ⟨_, _, _, _, _, _, _, _, _, _, _, _, _, _, _, _, _, _, _, _, _, _, _, _, _, _, _, _, _, _, _, tw_ob13_t hc rfl, hr, x3⟩
  · have hc : f_Builtins_onData N V_top V_kinds V_numbers V_parts V_links VB_row D_top D_forms D_counts D_numbers D_nodes D_depths D_weights B_given 21 = some (-1, V_top, V_kinds, V_numbers, V_parts, V_links, D_top, D_forms, D_counts, D_numbers, D_nodes, D_depths, D_weights) := by
      unfold f_Builtins_onData
      (first | refine tw_ite_t (by first | omega | (simp only [tw_gq]; omega)) ?_ | refine tw_ite_f (by first | omega | (simp only [tw_gq]; omega)) ?_)
      refine tw_bind_t (tw_vRo p0 q0 (by omega)) ?_
      (repeat (first | refine tw_ite_t (by first | omega | (simp only [tw_gq]; omega)) ?_ | refine tw_ite_f (by first | omega | (simp only [tw_gq]; omega)) ?_))
      refine tw_bind_t (tw_vN p0 q0 (by omega)) ?_
      (first | refine tw_ite_t (by first | omega | (simp only [tw_gq]; omega)) ?_ | refine tw_ite_f (by first | omega | (simp only [tw_gq]; omega)) ?_)
      refine tw_bind_t (tw_vRo p1 q1 (by omega)) ?_
      refine tw_ob13_t (a1 := -1) (a2 := V_top) (a3 := V_kinds) (a4 := V_numbers) (a5 := V_parts) (a6 := V_links) (a7 := D_top) (a8 := D_forms) (a9 := D_counts) (a10 := D_numbers) (a11 := D_nodes) (a12 := D_depths) (a13 := D_weights) ?_ rfl
      unfold f_Builtins_toConstructor
      by_cases c2 : V_numbers (B_given 0) < 0
      · (first | refine tw_ite_t (by first | omega | (simp only [tw_gq]; omega)) ?_ | refine tw_ite_f (by first | omega | (simp only [tw_gq]; omega)) ?_); (first | refine tw_ite_t (by first | omega | (simp only [tw_gq]; omega)) ?_ | refine tw_ite_f (by first | omega | (simp only [tw_gq]; omega)) ?_); rfl
      · (first | refine tw_ite_t (by first | omega | (simp only [tw_gq]; omega)) ?_ | refine tw_ite_f (by first | omega | (simp only [tw_gq]; omega)) ?_); (first | refine tw_ite_t (by first | omega | (simp only [tw_gq]; omega)) ?_ | refine tw_ite_f (by first | omega | (simp only [tw_gq]; omega)) ?_); (first | refine tw_ite_t (by first | omega | (simp only [tw_gq]; omega)) ?_ | refine tw_ite_f (by first | omega | (simp only [tw_gq]; omega)) ?_); (first | refine tw_ite_t (by first | omega | (simp only [tw_gq]; omega)) ?_ | refine tw_ite_f (by first | omega | (simp only [tw_gq]; omega)) ?_); rfl
    have hr : f_Mod_ofData N R_values R_textEnd R_dataEnd 0 puts R_valueKinds R_valueNumbers R_from R_length R_given R_texts R_forms R_tags R_counts R_textsAt R_of R_comes 21 = some (0, R_values, R_textEnd, R_dataEnd, 3, puts, R_valueKinds, R_valueNumbers, R_from, R_length, R_given, R_texts, R_forms, R_tags, R_counts, R_textsAt, R_comes) := by
      unfold f_Mod_ofData
      rw [o0, ← e0]
      by_cases c2 : V_numbers (B_given 0) < 0
      · (repeat (first | refine tw_ite_t (by first | omega | (simp only [tw_gq]; omega)) ?_ | refine tw_ite_f (by first | omega | (simp only [tw_gq]; omega)) ?_))
        exact tw_ob2_t (tw_fail_ok rfl) rfl
      · (repeat (first | refine tw_ite_t (by first | omega | (simp only [tw_gq]; omega)) ?_ | refine tw_ite_f (by first | omega | (simp only [tw_gq]; omega)) ?_))
        exact tw_ob2_t (tw_fail_ok rfl) rfl
    unfold tw_OUT tw_opC tw_opR
    rw [if_pos (show (9 : Int) < 21 by decide), if_pos (show (15 : Int) < 21 by decide), if_neg (show ¬ (21 : Int) = 16 by decide), if_neg (show ¬ (25 : Int) < 21 by decide), if_pos (show (10 : Int) ≤ 21 by decide), if_pos (show (16 : Int) ≤ 21 by decide), if_neg (show ¬ (21 : Int) = 16 by decide)]
    exact Or.inl ⟨_, _, tw_ob13_t hc rfl, hr, rfl⟩
set_option maxRecDepth 100000 in
theorem tw_out_22 {ok : Int → Int → Int → Prop} {cs : Int → Prop} {ps : Int → Int} {nc : Int} {R_values : Int} {R_nodeOf : Int → Int} {R_rowOf : Int → Int} {D_top : Int} {D_nodes : Int → Int} {R_dataEnd : Int} {VB_top : Int} {VB_row : Int → Int} {R_textEnd : Int} {R_texts : Int → Int} {D_forms : Int → Int} {D_counts : Int → Int} {D_numbers : Int → Int} {R_forms : Int → Int} {R_tags : Int → Int} {R_counts : Int → Int} {R_textsAt : Int → Int} {V_top : Int} {V_kinds : Int → Int} {V_numbers : Int → Int} {V_parts : Int → Int} {V_links : Int → Int} {R_valueKinds : Int → Int} {R_valueNumbers : Int → Int} {R_from : Int → Int} {R_length : Int → Int} {R_given : Int → Int} {R_firstGiven : Int → Int} {R_secondGiven : Int → Int} {D_depths : Int → Int} {D_weights : Int → Int} {m puts : Int} {N : Nat} {B_given R_of R_comes : Int → Int} (hN : 300 ≤ N) (h : tw_XV ok cs ps nc R_values R_nodeOf R_rowOf D_top D_nodes R_dataEnd VB_top VB_row R_textEnd R_texts D_forms D_counts D_numbers R_forms R_tags R_counts R_textsAt V_top V_kinds V_numbers V_parts V_links R_valueKinds R_valueNumbers R_from R_length R_given R_firstGiven R_secondGiven D_depths D_weights) (hT : tw_TOPS V_top D_top VB_top R_textEnd R_dataEnd m) (g0 : tw_vok cs V_top (B_given 0)) (k0 : V_kinds (B_given 0) = 0) (o0 : R_of 0 = ps (B_given 0)) : tw_OUT ok cs ps nc R_values R_nodeOf R_rowOf D_top D_nodes R_dataEnd VB_top VB_row R_textEnd R_texts D_forms D_counts D_numbers R_forms R_tags R_counts R_textsAt V_top V_kinds V_numbers V_parts V_links R_valueKinds R_valueNumbers R_from R_length R_given R_firstGiven R_secondGiven D_depths D_weights N B_given puts R_of R_comes 22 := by
  have tr := tw_TOPS_r h hT
  obtain ⟨p0, q0, -⟩ := id g0
  obtain ⟨v0, v0', ⟨-, -, -, n0, e0, -⟩, -⟩ := h.1 _ g0
  have e0 := e0 (Or.inl k0)
  have hc : f_Builtins_onData N V_top V_kinds V_numbers V_parts V_links VB_row D_top D_forms D_counts D_numbers D_nodes D_depths D_weights B_given 22 = some (V_top, V_top + 1, upZ V_kinds V_top 4, upZ V_numbers V_top 0, upZ V_parts V_top D_top, upZ V_links V_top (-1), D_top + 1, upZ D_forms D_top 3, upZ D_counts D_top 0, upZ D_numbers D_top (V_numbers (B_given 0)), upZ D_nodes D_top 1, upZ D_depths D_top 1, upZ D_weights D_top 0) := by
    unfold f_Builtins_onData
    (first | refine tw_ite_t (by first | omega | (simp only [tw_gq]; omega)) ?_ | refine tw_ite_f (by first | omega | (simp only [tw_gq]; omega)) ?_)
    refine tw_bind_t (tw_vRo p0 q0 (by omega)) ?_
    (repeat (first | refine tw_ite_t (by first | omega | (simp only [tw_gq]; omega)) ?_ | refine tw_ite_f (by first | omega | (simp only [tw_gq]; omega)) ?_))
    refine tw_bind_t (tw_vN p0 q0 (by omega)) ?_
    refine tw_ob8_t (tw_leaf_ok (by omega) (by omega) (by omega)) ?_
    exact tw_ob6_t (tw_vOD (by omega) (by omega) (by omega)) rfl
  have hr : f_Mod_ofData N R_values R_textEnd R_dataEnd 0 puts R_valueKinds R_valueNumbers R_from R_length R_given R_texts R_forms R_tags R_counts R_textsAt R_of R_comes 22 = some (R_values, R_values + 1, R_textEnd, R_dataEnd + 1, 0, puts, upZ R_valueKinds R_values 4, upZ R_valueNumbers R_values 0, upZ R_from R_values R_dataEnd, upZ R_length R_values 1, upZ R_given R_values 0, R_texts, upZ R_forms R_dataEnd 3, upZ R_tags R_dataEnd (V_numbers (B_given 0)), upZ R_counts R_dataEnd 0, upZ R_textsAt R_dataEnd 0, R_comes) := by
    unfold f_Mod_ofData
    rw [o0, ← e0]
    (repeat (first | refine tw_ite_t (by first | omega | (simp only [tw_gq]; omega)) ?_ | refine tw_ite_f (by first | omega | (simp only [tw_gq]; omega)) ?_))
    refine tw_ob5_t (tw_rPutD (by omega) (by omega)) ?_
    refine tw_ob7_t (tw_rMkD (by omega) (by omega)) ?_
    rw [show R_dataEnd + 1 - R_dataEnd = (1 : Int) by omega]
  have hD : tw_DR 12 (D_top + 1) (upZ D_forms D_top 3) (upZ D_counts D_top 0) (upZ D_nodes D_top 1) (upZ D_depths D_top 1) (upZ D_weights D_top 0) := tw_leaf_DR (p1 := 3) (p4 := 0) h.2.1 (by omega) (by omega)
  have hm := tw_XV_grow (D_top' := D_top + 1) (D_numbers' := upZ D_numbers D_top (V_numbers (B_given 0))) (VB_top' := VB_top) (VB_row' := VB_row) (R_textEnd' := R_textEnd) (R_texts' := R_texts) (R_dataEnd' := R_dataEnd + 1) (R_forms' := upZ R_forms R_dataEnd 3) (R_tags' := upZ R_tags R_dataEnd (V_numbers (B_given 0))) (R_counts' := upZ R_counts R_dataEnd 0) (R_textsAt' := upZ R_textsAt R_dataEnd 0) h hD (Int.le_refl _) (Int.le_refl _) tw_GR_refl tw_GR_refl (by omega) (by omega) (tw_GR_up (by omega)) (tw_GR_up (by omega)) (tw_GR_up (by omega)) (tw_GR_up (by omega)) (tw_GR_up (by omega)) (tw_GR_up (by omega)) (tw_GR_up (by omega)) (tw_GR_up (by omega))
  have ewt : 0 ≤ 0 ∧ 0 ≤ 64 := by omega
  unfold tw_OUT tw_opC tw_opR
  rw [if_pos (show (9 : Int) < 22 by decide), if_pos (show (15 : Int) < 22 by decide), if_neg (show ¬ (22 : Int) = 16 by decide), if_neg (show ¬ (25 : Int) < 22 by decide), if_pos (show (10 : Int) ≤ 22 by decide), if_pos (show (16 : Int) ≤ 22 by decide), if_neg (show ¬ (22 : Int) = 16 by decide)]
  refine Or.inr ⟨_, _, _, _, _, VB_top, VB_row, _, _, _, _, _, _, _, _, R_textEnd, _, _, _, _, _, _, R_texts, _, _, _, _, _, _, _, _, tw_ob13_t hc rfl, hr, ?_⟩
  refine tw_RSL_mk (sz := 1 + 0 / 8) hm (tw_GR_up (by omega)) (tw_GR_up (by omega)) (by omega) (by omega) (fun z => by omega) (by omega) (fun z => by omega) (fun _ => ?_) (by rw [if_neg (show ¬ (4 : Int) = 1 by decide), if_pos (show (4 : Int) = 4 from rfl), tw_upS, tw_upS]) (by omega) (by omega) (by omega) (by omega) (by omega)
  rw [tw_upS, tw_upS, tw_upS]
  refine ⟨rfl, by omega, by omega, by omega, by rw [tw_upS]; omega, fun k k0 k1 => ?_⟩
  rw [tw_upS] at k1
  have ek : k = 0 := by omega
  subst ek
  rw [show D_top + 0 = D_top by omega, show R_dataEnd + 0 = R_dataEnd by omega]
  unfold tw_NR
  rw [tw_upS, tw_upS, tw_upS, tw_upS, tw_upS, tw_upS, tw_upS]
  exact ⟨rfl, rfl, by omega, fun z => by omega, fun z => by omega, fun _ => rfl⟩
set_option maxRecDepth 100000 in
theorem tw_out_23 {ok : Int → Int → Int → Prop} {cs : Int → Prop} {ps : Int → Int} {nc : Int} {R_values : Int} {R_nodeOf : Int → Int} {R_rowOf : Int → Int} {D_top : Int} {D_nodes : Int → Int} {R_dataEnd : Int} {VB_top : Int} {VB_row : Int → Int} {R_textEnd : Int} {R_texts : Int → Int} {D_forms : Int → Int} {D_counts : Int → Int} {D_numbers : Int → Int} {R_forms : Int → Int} {R_tags : Int → Int} {R_counts : Int → Int} {R_textsAt : Int → Int} {V_top : Int} {V_kinds : Int → Int} {V_numbers : Int → Int} {V_parts : Int → Int} {V_links : Int → Int} {R_valueKinds : Int → Int} {R_valueNumbers : Int → Int} {R_from : Int → Int} {R_length : Int → Int} {R_given : Int → Int} {R_firstGiven : Int → Int} {R_secondGiven : Int → Int} {D_depths : Int → Int} {D_weights : Int → Int} {m puts : Int} {N : Nat} {B_given R_of R_comes : Int → Int} (hN : 300 ≤ N) (h : tw_XV ok cs ps nc R_values R_nodeOf R_rowOf D_top D_nodes R_dataEnd VB_top VB_row R_textEnd R_texts D_forms D_counts D_numbers R_forms R_tags R_counts R_textsAt V_top V_kinds V_numbers V_parts V_links R_valueKinds R_valueNumbers R_from R_length R_given R_firstGiven R_secondGiven D_depths D_weights) (hT : tw_TOPS V_top D_top VB_top R_textEnd R_dataEnd m) (g0 : tw_vok cs V_top (B_given 0)) (k0 : V_kinds (B_given 0) = 1) (o0 : R_of 0 = ps (B_given 0)) : tw_OUT ok cs ps nc R_values R_nodeOf R_rowOf D_top D_nodes R_dataEnd VB_top VB_row R_textEnd R_texts D_forms D_counts D_numbers R_forms R_tags R_counts R_textsAt V_top V_kinds V_numbers V_parts V_links R_valueKinds R_valueNumbers R_from R_length R_given R_firstGiven R_secondGiven D_depths D_weights N B_given puts R_of R_comes 23 := by
  have tr := tw_TOPS_r h hT
  obtain ⟨p0, q0, -⟩ := id g0
  obtain ⟨v0, v0', ⟨z0, -, -, n0, -, -, -, b0, -⟩, -⟩ := h.1 _ g0
  obtain ⟨bl0, bn0, bb0⟩ := b0 k0
  obtain ⟨bb01, bb02, bb03, bb04, bb05, bb06, bb07⟩ := id bb0
  clear b0
  have hc : f_Builtins_onData N V_top V_kinds V_numbers V_parts V_links VB_row D_top D_forms D_counts D_numbers D_nodes D_depths D_weights B_given 23 = some (V_top, V_top + 1, upZ V_kinds V_top 4, upZ V_numbers V_top 0, upZ V_parts V_top D_top, upZ V_links V_top (-1), D_top + 1, upZ D_forms D_top 4, upZ D_counts D_top (R_length (ps (B_given 0))), upZ D_numbers D_top (V_parts (B_given 0)), upZ D_nodes D_top 1, upZ D_depths D_top 1, upZ D_weights D_top (R_length (ps (B_given 0)))) := by
    unfold f_Builtins_onData
    (first | refine tw_ite_t (by first | omega | (simp only [tw_gq]; omega)) ?_ | refine tw_ite_f (by first | omega | (simp only [tw_gq]; omega)) ?_)
    refine tw_bind_t (tw_vRo p0 q0 (by omega)) ?_
    (repeat (first | refine tw_ite_t (by first | omega | (simp only [tw_gq]; omega)) ?_ | refine tw_ite_f (by first | omega | (simp only [tw_gq]; omega)) ?_))
    refine tw_bind_t (tw_vSt p0 q0 (by omega)) ?_
    (repeat (first | refine tw_ite_t (by first | omega | (simp only [tw_gq]; omega)) ?_ | refine tw_ite_f (by first | omega | (simp only [tw_gq]; omega)) ?_))
    refine tw_bind_t (tw_vLe p0 q0 (by omega)) ?_
    rw [bl0]
    refine tw_ob8_t (tw_leaf_ok (by omega) (by omega) (by omega)) ?_
    exact tw_ob6_t (tw_vOD (by omega) (by omega) (by omega)) rfl
  have hr : f_Mod_ofData N R_values R_textEnd R_dataEnd 0 puts R_valueKinds R_valueNumbers R_from R_length R_given R_texts R_forms R_tags R_counts R_textsAt R_of R_comes 23 = some (R_values, R_values + 1, R_textEnd, R_dataEnd + 1, 0, puts, upZ R_valueKinds R_values 4, upZ R_valueNumbers R_values 0, upZ R_from R_values R_dataEnd, upZ R_length R_values 1, upZ R_given R_values 0, R_texts, upZ R_forms R_dataEnd 4, upZ R_tags R_dataEnd 0, upZ R_counts R_dataEnd (R_length (ps (B_given 0))), upZ R_textsAt R_dataEnd (R_from (ps (B_given 0))), R_comes) := by
    unfold f_Mod_ofData
    rw [o0]
    (repeat (first | refine tw_ite_t (by first | omega | (simp only [tw_gq]; omega)) ?_ | refine tw_ite_f (by first | omega | (simp only [tw_gq]; omega)) ?_))
    refine tw_ob5_t (tw_rPutD (by omega) (by omega)) ?_
    refine tw_ob7_t (tw_rMkD (by omega) (by omega)) ?_
    rw [show R_dataEnd + 1 - R_dataEnd = (1 : Int) by omega]
  have hD : tw_DR 12 (D_top + 1) (upZ D_forms D_top 4) (upZ D_counts D_top (R_length (ps (B_given 0)))) (upZ D_nodes D_top 1) (upZ D_depths D_top 1) (upZ D_weights D_top (R_length (ps (B_given 0)))) := tw_leaf_DR (p1 := 4) (p4 := (R_length (ps (B_given 0)))) h.2.1 (by omega) (by omega)
  have hm := tw_XV_grow (D_top' := D_top + 1) (D_numbers' := upZ D_numbers D_top (V_parts (B_given 0))) (VB_top' := VB_top) (VB_row' := VB_row) (R_textEnd' := R_textEnd) (R_texts' := R_texts) (R_dataEnd' := R_dataEnd + 1) (R_forms' := upZ R_forms R_dataEnd 4) (R_tags' := upZ R_tags R_dataEnd 0) (R_counts' := upZ R_counts R_dataEnd (R_length (ps (B_given 0)))) (R_textsAt' := upZ R_textsAt R_dataEnd (R_from (ps (B_given 0)))) h hD (Int.le_refl _) (Int.le_refl _) tw_GR_refl tw_GR_refl (by omega) (by omega) (tw_GR_up (by omega)) (tw_GR_up (by omega)) (tw_GR_up (by omega)) (tw_GR_up (by omega)) (tw_GR_up (by omega)) (tw_GR_up (by omega)) (tw_GR_up (by omega)) (tw_GR_up (by omega))
  have ewt : 0 ≤ (R_length (ps (B_given 0))) ∧ (R_length (ps (B_given 0))) ≤ 64 := by omega
  unfold tw_OUT tw_opC tw_opR
  rw [if_pos (show (9 : Int) < 23 by decide), if_pos (show (15 : Int) < 23 by decide), if_neg (show ¬ (23 : Int) = 16 by decide), if_neg (show ¬ (25 : Int) < 23 by decide), if_pos (show (10 : Int) ≤ 23 by decide), if_pos (show (16 : Int) ≤ 23 by decide), if_neg (show ¬ (23 : Int) = 16 by decide)]
  refine Or.inr ⟨_, _, _, _, _, VB_top, VB_row, _, _, _, _, _, _, _, _, R_textEnd, _, _, _, _, _, _, R_texts, _, _, _, _, _, _, _, _, tw_ob13_t hc rfl, hr, ?_⟩
  refine tw_RSL_mk (sz := 1 + (R_length (ps (B_given 0))) / 8) hm (tw_GR_up (by omega)) (tw_GR_up (by omega)) (by omega) (by omega) (fun z => by omega) (by omega) (fun z => by omega) (fun _ => ?_) (by rw [if_neg (show ¬ (4 : Int) = 1 by decide), if_pos (show (4 : Int) = 4 from rfl), tw_upS, tw_upS]) (by omega) (by omega) (by omega) (by omega) (by omega)
  rw [tw_upS, tw_upS, tw_upS]
  refine ⟨rfl, by omega, by omega, by omega, by rw [tw_upS]; omega, fun k k0 k1 => ?_⟩
  rw [tw_upS] at k1
  have ek : k = 0 := by omega
  subst ek
  rw [show D_top + 0 = D_top by omega, show R_dataEnd + 0 = R_dataEnd by omega]
  unfold tw_NR
  rw [tw_upS, tw_upS, tw_upS, tw_upS, tw_upS, tw_upS, tw_upS]
  exact ⟨rfl, rfl, by omega, fun z => by omega, fun _ => ⟨rfl, bb0⟩, fun z => by omega⟩
set_option maxRecDepth 100000 in
theorem tw_out_25 {ok : Int → Int → Int → Prop} {cs : Int → Prop} {ps : Int → Int} {nc : Int} {R_values : Int} {R_nodeOf : Int → Int} {R_rowOf : Int → Int} {D_top : Int} {D_nodes : Int → Int} {R_dataEnd : Int} {VB_top : Int} {VB_row : Int → Int} {R_textEnd : Int} {R_texts : Int → Int} {D_forms : Int → Int} {D_counts : Int → Int} {D_numbers : Int → Int} {R_forms : Int → Int} {R_tags : Int → Int} {R_counts : Int → Int} {R_textsAt : Int → Int} {V_top : Int} {V_kinds : Int → Int} {V_numbers : Int → Int} {V_parts : Int → Int} {V_links : Int → Int} {R_valueKinds : Int → Int} {R_valueNumbers : Int → Int} {R_from : Int → Int} {R_length : Int → Int} {R_given : Int → Int} {R_firstGiven : Int → Int} {R_secondGiven : Int → Int} {D_depths : Int → Int} {D_weights : Int → Int} {m puts : Int} {N : Nat} {B_given R_of R_comes : Int → Int} (hN : 300 ≤ N) (h : tw_XV ok cs ps nc R_values R_nodeOf R_rowOf D_top D_nodes R_dataEnd VB_top VB_row R_textEnd R_texts D_forms D_counts D_numbers R_forms R_tags R_counts R_textsAt V_top V_kinds V_numbers V_parts V_links R_valueKinds R_valueNumbers R_from R_length R_given R_firstGiven R_secondGiven D_depths D_weights) (hT : tw_TOPS V_top D_top VB_top R_textEnd R_dataEnd m) (g0 : tw_vok cs V_top (B_given 0)) (k0 : V_kinds (B_given 0) = 4) (o0 : R_of 0 = ps (B_given 0)) (f0 : D_forms (V_parts (B_given 0)) = 4) : tw_OUT ok cs ps nc R_values R_nodeOf R_rowOf D_top D_nodes R_dataEnd VB_top VB_row R_textEnd R_texts D_forms D_counts D_numbers R_forms R_tags R_counts R_textsAt V_top V_kinds V_numbers V_parts V_links R_valueKinds R_valueNumbers R_from R_length R_given R_firstGiven R_secondGiven D_depths D_weights N B_given puts R_of R_comes 25 := by
  have tr := tw_TOPS_r h hT
  obtain ⟨p0, q0, -⟩ := id g0
  obtain ⟨v0, v0', ⟨z0, -, -, n0, -, -, -, -, d0⟩, -⟩ := h.1 _ g0
  obtain ⟨dl0, dd0⟩ := d0 k0
  obtain ⟨dd01, dd02, dd03, dd04, dd05⟩ := id dd0
  have dn0 := h.2.1 (V_parts (B_given 0)) dd01 dd02
  have dn01 := dn0.1
  have dn02 := dn0.2.1
  have dn03 := dn0.2.2.1
  have df00 := dn0.2.2.2.2.2.1
  have df01 := dn0.2.2.2.2.2.2.1
  have dc00 := dn0.2.2.2.2.2.2.2.1
  have dc01 := dn0.2.2.2.2.2.2.2.2.1
  have dw00 := dn0.2.2.2.2.2.2.2.2.2.1
  have dw01 := dn0.2.2.2.2.2.2.2.2.2.2.1
  clear d0
  have c0 := dd05 0 (by omega) (by omega)
  rw [show V_parts (B_given 0) + 0 = V_parts (B_given 0) by omega, show R_from (ps (B_given 0)) + 0 = R_from (ps (B_given 0)) by omega] at c0
  obtain ⟨cf, cc, cn, cn0, cb, ct⟩ := c0
  obtain ⟨ct0, bb⟩ := cb (by omega)
  clear cn0 ct
  obtain ⟨bb1, bb2, bb3, bb4, bb5, bb6, bb7⟩ := id bb
  obtain ⟨tx, x1, x2, x3⟩ := tw_d2b_L (te := R_textEnd) (x1 := 25) (x2 := ps (B_given 0)) (d := R_from (ps (B_given 0))) (x4 := R_dataEnd) (n := D_counts (V_parts (B_given 0))) (cn := R_counts) (at' := R_textsAt) (tx0 := R_texts) (by omega) (by omega) cc (by omega) (by omega) (by omega) (fun k x y => by rw [← (bb7 k x y).1]; exact (bb7 k x y).2) N 0 R_texts (by omega) (by omega) (by omega) (fun _ _ => rfl) (fun k _ _ => by omega)
  have hc : f_Builtins_onData N V_top V_kinds V_numbers V_parts V_links VB_row D_top D_forms D_counts D_numbers D_nodes D_depths D_weights B_given 25 = some (V_top, V_top + 1, upZ V_kinds V_top 1, upZ V_numbers V_top 0, upZ V_parts V_top (D_numbers (V_parts (B_given 0))), upZ V_links V_top (D_counts (V_parts (B_given 0))), D_top, D_forms, D_counts, D_numbers, D_nodes, D_depths, D_weights) := by
    unfold f_Builtins_onData
    (first | refine tw_ite_t (by first | omega | (simp only [tw_gq]; omega)) ?_ | refine tw_ite_f (by first | omega | (simp only [tw_gq]; omega)) ?_)
    refine tw_bind_t (tw_vRo p0 q0 (by omega)) ?_
    (repeat (first | refine tw_ite_t (by first | omega | (simp only [tw_gq]; omega)) ?_ | refine tw_ite_f (by first | omega | (simp only [tw_gq]; omega)) ?_))
    refine tw_bind_t (tw_dM_in dd01 dd02 (by omega)) ?_
    refine tw_bind_t (tw_dC_in dd01 dd02 (by omega)) ?_
    exact tw_ob6_t (tw_vOB (by omega) (by omega)) rfl
  have hr : f_Mod_ofData N R_values R_textEnd R_dataEnd 0 puts R_valueKinds R_valueNumbers R_from R_length R_given R_texts R_forms R_tags R_counts R_textsAt R_of R_comes 25 = some (R_values, R_values + 1, R_textEnd + D_counts (V_parts (B_given 0)), R_dataEnd, 0, D_counts (V_parts (B_given 0)), upZ R_valueKinds R_values 1, upZ R_valueNumbers R_values (D_counts (V_parts (B_given 0))), upZ R_from R_values R_textEnd, upZ R_length R_values (D_counts (V_parts (B_given 0))), upZ R_given R_values 0, tx, R_forms, R_tags, R_counts, R_textsAt, R_comes) := by
    unfold f_Mod_ofData
    rw [o0]
    (repeat (first | refine tw_ite_t (by first | omega | (simp only [tw_gq]; omega)) ?_ | refine tw_ite_f (by first | omega | (simp only [tw_gq]; omega)) ?_))
    refine tw_ob3_t x1 ?_
    exact tw_ob8_t (tw_rMkB (by omega) (by omega) (by omega)) rfl
  have hb : tw_BB VB_top VB_row (R_textEnd + D_counts (V_parts (B_given 0))) tx (D_numbers (V_parts (B_given 0))) R_textEnd (D_counts (V_parts (B_given 0))) := by
    refine ⟨by omega, by omega, by omega, by omega, by omega, by omega, fun k k0 k1 => ?_⟩
    rw [x3 k k0 k1]
    exact bb7 k k0 k1
  have hm := tw_XV_grow (VB_top' := VB_top) (VB_row' := VB_row) (R_textEnd' := R_textEnd + D_counts (V_parts (B_given 0))) (R_texts' := tx) h h.2.1 (Int.le_refl _) (by omega) tw_GR_refl (fun k hk => x2 k hk) (Int.le_refl _) (Int.le_refl _) tw_GR_refl tw_GR_refl tw_GR_refl tw_GR_refl tw_GR_refl tw_GR_refl tw_GR_refl tw_GR_refl
  unfold tw_OUT tw_opC tw_opR
  rw [if_pos (show (9 : Int) < 25 by decide), if_pos (show (15 : Int) < 25 by decide), if_neg (show ¬ (25 : Int) = 16 by decide), if_neg (show ¬ (25 : Int) < 25 by decide), if_pos (show (10 : Int) ≤ 25 by decide), if_pos (show (16 : Int) ≤ 25 by decide), if_neg (show ¬ (25 : Int) = 16 by decide)]
  exact Or.inr ⟨_, _, _, _, _, _, _, _, _, _, _, _, _, _, _, _, _, _, _, _, _, _, _, _, _, _, _, _, _, _, _, tw_ob13_t hc rfl, hr, tw_RSL_mk (sz := 1 + D_counts (V_parts (B_given 0)) / 8) hm (tw_GR_up (by omega)) (tw_GR_up (by omega)) (by omega) (by omega) (fun z => by omega) (by omega) (fun z => by rw [tw_upS, tw_upS]; exact ⟨rfl, rfl, hb⟩) (fun z => by omega) (by rw [if_pos rfl]) (by omega) (by omega) (by omega) (by omega) (by omega)⟩
set_option maxRecDepth 100000 in
theorem tw_out_26 {ok : Int → Int → Int → Prop} {cs : Int → Prop} {ps : Int → Int} {nc : Int} {R_values : Int} {R_nodeOf : Int → Int} {R_rowOf : Int → Int} {D_top : Int} {D_nodes : Int → Int} {R_dataEnd : Int} {VB_top : Int} {VB_row : Int → Int} {R_textEnd : Int} {R_texts : Int → Int} {D_forms : Int → Int} {D_counts : Int → Int} {D_numbers : Int → Int} {R_forms : Int → Int} {R_tags : Int → Int} {R_counts : Int → Int} {R_textsAt : Int → Int} {V_top : Int} {V_kinds : Int → Int} {V_numbers : Int → Int} {V_parts : Int → Int} {V_links : Int → Int} {R_valueKinds : Int → Int} {R_valueNumbers : Int → Int} {R_from : Int → Int} {R_length : Int → Int} {R_given : Int → Int} {R_firstGiven : Int → Int} {R_secondGiven : Int → Int} {D_depths : Int → Int} {D_weights : Int → Int} {m puts : Int} {N : Nat} {B_given R_of R_comes : Int → Int} (hN : 300 ≤ N) (h : tw_XV ok cs ps nc R_values R_nodeOf R_rowOf D_top D_nodes R_dataEnd VB_top VB_row R_textEnd R_texts D_forms D_counts D_numbers R_forms R_tags R_counts R_textsAt V_top V_kinds V_numbers V_parts V_links R_valueKinds R_valueNumbers R_from R_length R_given R_firstGiven R_secondGiven D_depths D_weights) (hT : tw_TOPS V_top D_top VB_top R_textEnd R_dataEnd m) (g0 : tw_vok cs V_top (B_given 0)) (k0 : V_kinds (B_given 0) = 4) (o0 : R_of 0 = ps (B_given 0)) (f0 : D_forms (V_parts (B_given 0)) = 2) : tw_OUT ok cs ps nc R_values R_nodeOf R_rowOf D_top D_nodes R_dataEnd VB_top VB_row R_textEnd R_texts D_forms D_counts D_numbers R_forms R_tags R_counts R_textsAt V_top V_kinds V_numbers V_parts V_links R_valueKinds R_valueNumbers R_from R_length R_given R_firstGiven R_secondGiven D_depths D_weights N B_given puts R_of R_comes 26 := by
  have tr := tw_TOPS_r h hT
  obtain ⟨p0, q0, -⟩ := id g0
  obtain ⟨v0, v0', ⟨z0, -, -, n0, -, -, -, -, d0⟩, -⟩ := h.1 _ g0
  obtain ⟨dl0, dd0⟩ := d0 k0
  obtain ⟨dd01, dd02, dd03, dd04, dd05⟩ := id dd0
  have dn0 := h.2.1 (V_parts (B_given 0)) dd01 dd02
  have dn01 := dn0.1
  have dn02 := dn0.2.1
  have dn03 := dn0.2.2.1
  have df00 := dn0.2.2.2.2.2.1
  have df01 := dn0.2.2.2.2.2.2.1
  have dc00 := dn0.2.2.2.2.2.2.2.1
  have dc01 := dn0.2.2.2.2.2.2.2.2.1
  have dw00 := dn0.2.2.2.2.2.2.2.2.2.1
  have dw01 := dn0.2.2.2.2.2.2.2.2.2.2.1
  clear d0
  have c0 := dd05 0 (by omega) (by omega)
  rw [show V_parts (B_given 0) + 0 = V_parts (B_given 0) by omega, show R_from (ps (B_given 0)) + 0 = R_from (ps (B_given 0)) by omega] at c0
  obtain ⟨cf, cc, -, -, -, -⟩ := c0
  have ew : tw_wi D_forms D_counts (V_parts (B_given 0)) = D_counts (V_parts (B_given 0)) := by unfold tw_wi; rw [if_neg (by omega), if_pos (by omega)]
  have ch : ¬ D_counts (V_parts (B_given 0)) = 0 → V_parts (B_given 0) + 1 < V_parts (B_given 0) + D_nodes (V_parts (B_given 0)) ∧ V_parts (B_given 0) + 1 + D_nodes (V_parts (B_given 0) + 1) ≤ V_parts (B_given 0) + D_nodes (V_parts (B_given 0)) ∧ 1 ≤ D_nodes (V_parts (B_given 0) + 1) ∧ f_Mod_sizeOfData N R_forms R_counts (R_from (ps (B_given 0)) + 1) = some (D_nodes (V_parts (B_given 0) + 1)) := by
    intro hz
    have ci := tw_child_in h.2.1 dd01 dd02 (j := 0) (by omega)
    have e0 : tw_fw D_nodes (V_parts (B_given 0)) 0 = V_parts (B_given 0) + 1 := rfl
    rw [e0] at ci
    obtain ⟨ci1, ci2, ci3, ci4, ci5, -⟩ := ci
    exact ⟨ci2, ci3, ci4, tw_size_ok h.2.1 (by omega) (by omega) (tw_CO_sub (tw_CO_DD dd0 (by omega)) (o := 1) (by omega) (by omega)) (by omega)⟩
  by_cases c : D_counts (V_parts (B_given 0)) = 0
  · clear ch
    have hc : f_Builtins_onLists N V_top V_kinds V_numbers V_parts V_links D_top D_forms D_counts D_numbers D_nodes D_depths D_weights B_given 26 = some (-1, V_top, V_kinds, V_numbers, V_parts, V_links, D_top, D_forms, D_counts, D_numbers, D_nodes, D_depths, D_weights) := by
      unfold f_Builtins_onLists
      (first | refine tw_ite_t (by first | omega | (simp only [tw_gq]; omega)) ?_ | refine tw_ite_f (by first | omega | (simp only [tw_gq]; omega)) ?_)
      refine tw_bind_t (tw_vRo p0 q0 (by omega)) ?_
      refine tw_bind_t (tw_dC_in dd01 dd02 (by omega)) ?_
      (repeat (first | refine tw_ite_t (by first | omega | (simp only [tw_gq]; omega)) ?_ | refine tw_ite_f (by first | omega | (simp only [tw_gq]; omega)) ?_))
      rfl
    have hr : f_Mod_ofData N R_values R_textEnd R_dataEnd 0 puts R_valueKinds R_valueNumbers R_from R_length R_given R_texts R_forms R_tags R_counts R_textsAt R_of R_comes 26 = some (0, R_values, R_textEnd, R_dataEnd, 3, puts, R_valueKinds, R_valueNumbers, R_from, R_length, R_given, R_texts, R_forms, R_tags, R_counts, R_textsAt, R_comes) := by
      unfold f_Mod_ofData
      rw [o0]
      (repeat (first | refine tw_ite_t (by first | omega | (simp only [tw_gq]; omega)) ?_ | refine tw_ite_f (by first | omega | (simp only [tw_gq]; omega)) ?_))
      refine tw_ob14_t (a1 := 0) (a2 := R_values) (a3 := R_dataEnd) (a4 := 3) (a5 := R_valueKinds) (a6 := R_valueNumbers) (a7 := R_from) (a8 := R_length) (a9 := R_given) (a10 := R_forms) (a11 := R_tags) (a12 := R_counts) (a13 := R_textsAt) (a14 := R_comes) ?_ rfl
      unfold f_Mod_ofLists
      rw [cc]
      (repeat (first | refine tw_ite_t (by first | omega | (simp only [tw_gq]; omega)) ?_ | refine tw_ite_f (by first | omega | (simp only [tw_gq]; omega)) ?_))
      exact tw_ob2_t (tw_fail_ok rfl) rfl
    unfold tw_OUT tw_opC tw_opR
    rw [if_pos (show (9 : Int) < 26 by decide), if_pos (show (15 : Int) < 26 by decide), if_neg (show ¬ (26 : Int) = 16 by decide), if_pos (show (25 : Int) < 26 by decide), if_pos (show (10 : Int) ≤ 26 by decide), if_pos (show (16 : Int) ≤ 26 by decide), if_neg (show ¬ (26 : Int) = 16 by decide)]
    exact Or.inl ⟨_, _, tw_ob13_t hc rfl, hr, rfl⟩
  · obtain ⟨c1, c2, c3, c4⟩ := ch c
    clear ch
    obtain ⟨F, T, C, A, x1, x2⟩ := tw_rCp (o := R_dataEnd) (b := R_from (ps (B_given 0)) + 1) (n := D_nodes (V_parts (B_given 0) + 1)) (F := R_forms) (T := R_tags) (C := R_counts) (A := R_textsAt) (by omega) (by omega) (by omega) (by omega) (by omega) hN
    have hc : f_Builtins_onLists N V_top V_kinds V_numbers V_parts V_links D_top D_forms D_counts D_numbers D_nodes D_depths D_weights B_given 26 = some (V_top, V_top + 1, upZ V_kinds V_top 4, upZ V_numbers V_top 0, upZ V_parts V_top (V_parts (B_given 0) + 1), upZ V_links V_top (-1), D_top, D_forms, D_counts, D_numbers, D_nodes, D_depths, D_weights) := by
      unfold f_Builtins_onLists
      (first | refine tw_ite_t (by first | omega | (simp only [tw_gq]; omega)) ?_ | refine tw_ite_f (by first | omega | (simp only [tw_gq]; omega)) ?_)
      refine tw_bind_t (tw_vRo p0 q0 (by omega)) ?_
      refine tw_bind_t (tw_dC_in dd01 dd02 (by omega)) ?_
      (repeat (first | refine tw_ite_t (by first | omega | (simp only [tw_gq]; omega)) ?_ | refine tw_ite_f (by first | omega | (simp only [tw_gq]; omega)) ?_))
      exact tw_ob6_t (tw_vOD (by omega) (by omega) (by omega)) rfl
    have hr : f_Mod_ofData N R_values R_textEnd R_dataEnd 0 puts R_valueKinds R_valueNumbers R_from R_length R_given R_texts R_forms R_tags R_counts R_textsAt R_of R_comes 26 = some (R_values, R_values + 1, R_textEnd, R_dataEnd + D_nodes (V_parts (B_given 0) + 1), 0, puts, upZ R_valueKinds R_values 4, upZ R_valueNumbers R_values 0, upZ R_from R_values R_dataEnd, upZ R_length R_values (D_nodes (V_parts (B_given 0) + 1)), upZ R_given R_values 0, R_texts, F, T, C, A, R_comes) := by
      unfold f_Mod_ofData
      rw [o0]
      (repeat (first | refine tw_ite_t (by first | omega | (simp only [tw_gq]; omega)) ?_ | refine tw_ite_f (by first | omega | (simp only [tw_gq]; omega)) ?_))
      refine tw_ob14_t (a1 := R_values) (a2 := R_values + 1) (a3 := R_dataEnd + D_nodes (V_parts (B_given 0) + 1)) (a4 := 0) (a5 := upZ R_valueKinds R_values 4) (a6 := upZ R_valueNumbers R_values 0) (a7 := upZ R_from R_values R_dataEnd) (a8 := upZ R_length R_values (D_nodes (V_parts (B_given 0) + 1))) (a9 := upZ R_given R_values 0) (a10 := F) (a11 := T) (a12 := C) (a13 := A) (a14 := R_comes) ?_ rfl
      unfold f_Mod_ofLists
      rw [cc]
      (repeat (first | refine tw_ite_t (by first | omega | (simp only [tw_gq]; omega)) ?_ | refine tw_ite_f (by first | omega | (simp only [tw_gq]; omega)) ?_))
      refine tw_bind_t c4 ?_
      (repeat (first | refine tw_ite_t (by first | omega | (simp only [tw_gq]; omega)) ?_ | refine tw_ite_f (by first | omega | (simp only [tw_gq]; omega)) ?_))
      refine tw_ob5_t x1 ?_
      refine tw_ob7_t (tw_rMkD (by omega) (by omega)) ?_
      rw [show R_dataEnd + D_nodes (V_parts (B_given 0) + 1) - R_dataEnd = D_nodes (V_parts (B_given 0) + 1) by omega]
    obtain ⟨gf, gt, gc, ga⟩ := tw_GR_of_RCP x2
    have hm := tw_XV_grow (D_top' := D_top) (D_numbers' := D_numbers) (VB_top' := VB_top) (VB_row' := VB_row) (R_textEnd' := R_textEnd) (R_texts' := R_texts) (R_dataEnd' := R_dataEnd + D_nodes (V_parts (B_given 0) + 1)) (R_forms' := F) (R_tags' := T) (R_counts' := C) (R_textsAt' := A) h h.2.1 (Int.le_refl _) (Int.le_refl _) tw_GR_refl tw_GR_refl (Int.le_refl _) (by omega) tw_GR_refl tw_GR_refl tw_GR_refl tw_GR_refl gf gt gc ga
    have dw := (h.2.1 (V_parts (B_given 0) + 1) (by omega) (by omega)).2.2.2.2.2.2.2.2.2.1
    have hdd : tw_DD D_top D_nodes (R_dataEnd + D_nodes (V_parts (B_given 0) + 1)) VB_top VB_row R_textEnd R_texts D_forms D_counts D_numbers F T C A (V_parts (B_given 0) + 1) R_dataEnd := by
      refine ⟨by omega, by omega, by omega, by omega, fun k k0 k1 => ?_⟩
      obtain ⟨w1, w2, w3, w4⟩ := x2.2 k k0 k1
      have z := dd05 (1 + k) (by omega) (by omega)
      rw [show V_parts (B_given 0) + (1 + k) = V_parts (B_given 0) + 1 + k by omega, show R_from (ps (B_given 0)) + (1 + k) = R_from (ps (B_given 0)) + 1 + k by omega] at z
      exact tw_NR_cp z rfl rfl rfl w1 w2 w3 w4
    unfold tw_OUT tw_opC tw_opR
    rw [if_pos (show (9 : Int) < 26 by decide), if_pos (show (15 : Int) < 26 by decide), if_neg (show ¬ (26 : Int) = 16 by decide), if_pos (show (25 : Int) < 26 by decide), if_pos (show (10 : Int) ≤ 26 by decide), if_pos (show (16 : Int) ≤ 26 by decide), if_neg (show ¬ (26 : Int) = 16 by decide)]
    exact Or.inr ⟨_, _, _, _, _, _, _, _, _, _, _, _, _, _, _, _, _, _, _, _, _, _, _, _, _, _, _, _, _, _, _, tw_ob13_t hc rfl, hr, tw_RSL_mk (sz := D_nodes (V_parts (B_given 0) + 1) + D_weights (V_parts (B_given 0) + 1) / 8) hm (tw_GR_up (by omega)) (tw_GR_up (by omega)) (by omega) (by omega) (fun z => by omega) (by omega) (fun z => by omega) (fun _ => by rw [tw_upS, tw_upS]; exact ⟨rfl, hdd⟩) (by rw [if_neg (by omega), if_pos rfl]) (by omega) (by omega) (by omega) (by omega) (by omega)⟩
set_option maxRecDepth 100000 in
theorem tw_out_27 {ok : Int → Int → Int → Prop} {cs : Int → Prop} {ps : Int → Int} {nc : Int} {R_values : Int} {R_nodeOf : Int → Int} {R_rowOf : Int → Int} {D_top : Int} {D_nodes : Int → Int} {R_dataEnd : Int} {VB_top : Int} {VB_row : Int → Int} {R_textEnd : Int} {R_texts : Int → Int} {D_forms : Int → Int} {D_counts : Int → Int} {D_numbers : Int → Int} {R_forms : Int → Int} {R_tags : Int → Int} {R_counts : Int → Int} {R_textsAt : Int → Int} {V_top : Int} {V_kinds : Int → Int} {V_numbers : Int → Int} {V_parts : Int → Int} {V_links : Int → Int} {R_valueKinds : Int → Int} {R_valueNumbers : Int → Int} {R_from : Int → Int} {R_length : Int → Int} {R_given : Int → Int} {R_firstGiven : Int → Int} {R_secondGiven : Int → Int} {D_depths : Int → Int} {D_weights : Int → Int} {m puts : Int} {N : Nat} {B_given R_of R_comes : Int → Int} (hN : 300 ≤ N) (h : tw_XV ok cs ps nc R_values R_nodeOf R_rowOf D_top D_nodes R_dataEnd VB_top VB_row R_textEnd R_texts D_forms D_counts D_numbers R_forms R_tags R_counts R_textsAt V_top V_kinds V_numbers V_parts V_links R_valueKinds R_valueNumbers R_from R_length R_given R_firstGiven R_secondGiven D_depths D_weights) (hT : tw_TOPS V_top D_top VB_top R_textEnd R_dataEnd m) (g0 : tw_vok cs V_top (B_given 0)) (k0 : V_kinds (B_given 0) = 4) (o0 : R_of 0 = ps (B_given 0)) (f0 : D_forms (V_parts (B_given 0)) = 2) : tw_OUT ok cs ps nc R_values R_nodeOf R_rowOf D_top D_nodes R_dataEnd VB_top VB_row R_textEnd R_texts D_forms D_counts D_numbers R_forms R_tags R_counts R_textsAt V_top V_kinds V_numbers V_parts V_links R_valueKinds R_valueNumbers R_from R_length R_given R_firstGiven R_secondGiven D_depths D_weights N B_given puts R_of R_comes 27 := by
  have tr := tw_TOPS_r h hT
  obtain ⟨p0, q0, -⟩ := id g0
  obtain ⟨v0, v0', ⟨z0, -, -, n0, -, -, -, -, d0⟩, -⟩ := h.1 _ g0
  obtain ⟨dl0, dd0⟩ := d0 k0
  obtain ⟨dd01, dd02, dd03, dd04, dd05⟩ := id dd0
  have dn0 := h.2.1 (V_parts (B_given 0)) dd01 dd02
  have dn01 := dn0.1
  have dn02 := dn0.2.1
  have dn03 := dn0.2.2.1
  have df00 := dn0.2.2.2.2.2.1
  have df01 := dn0.2.2.2.2.2.2.1
  have dc00 := dn0.2.2.2.2.2.2.2.1
  have dc01 := dn0.2.2.2.2.2.2.2.2.1
  have dw00 := dn0.2.2.2.2.2.2.2.2.2.1
  have dw01 := dn0.2.2.2.2.2.2.2.2.2.2.1
  clear d0
  have c0 := dd05 0 (by omega) (by omega)
  rw [show V_parts (B_given 0) + 0 = V_parts (B_given 0) by omega, show R_from (ps (B_given 0)) + 0 = R_from (ps (B_given 0)) by omega] at c0
  obtain ⟨cf, cc, -, -, -, -⟩ := c0
  have ew : tw_wi D_forms D_counts (V_parts (B_given 0)) = D_counts (V_parts (B_given 0)) := by unfold tw_wi; rw [if_neg (by omega), if_pos (by omega)]
  have ch : ¬ D_counts (V_parts (B_given 0)) = 0 → V_parts (B_given 0) + 1 < V_parts (B_given 0) + D_nodes (V_parts (B_given 0)) ∧ V_parts (B_given 0) + 1 + D_nodes (V_parts (B_given 0) + 1) ≤ V_parts (B_given 0) + D_nodes (V_parts (B_given 0)) ∧ 1 ≤ D_nodes (V_parts (B_given 0) + 1) ∧ f_Mod_sizeOfData N R_forms R_counts (R_from (ps (B_given 0)) + 1) = some (D_nodes (V_parts (B_given 0) + 1)) := by
    intro hz
    have ci := tw_child_in h.2.1 dd01 dd02 (j := 0) (by omega)
    have e0 : tw_fw D_nodes (V_parts (B_given 0)) 0 = V_parts (B_given 0) + 1 := rfl
    rw [e0] at ci
    obtain ⟨ci1, ci2, ci3, ci4, ci5, -⟩ := ci
    exact ⟨ci2, ci3, ci4, tw_size_ok h.2.1 (by omega) (by omega) (tw_CO_sub (tw_CO_DD dd0 (by omega)) (o := 1) (by omega) (by omega)) (by omega)⟩
  by_cases c : D_counts (V_parts (B_given 0)) = 0
  · clear ch
    have hc : f_Builtins_onLists N V_top V_kinds V_numbers V_parts V_links D_top D_forms D_counts D_numbers D_nodes D_depths D_weights B_given 27 = some (-1, V_top, V_kinds, V_numbers, V_parts, V_links, D_top, D_forms, D_counts, D_numbers, D_nodes, D_depths, D_weights) := by
      unfold f_Builtins_onLists
      (first | refine tw_ite_t (by first | omega | (simp only [tw_gq]; omega)) ?_ | refine tw_ite_f (by first | omega | (simp only [tw_gq]; omega)) ?_)
      refine tw_bind_t (tw_vRo p0 q0 (by omega)) ?_
      refine tw_bind_t (tw_dC_in dd01 dd02 (by omega)) ?_
      (repeat (first | refine tw_ite_t (by first | omega | (simp only [tw_gq]; omega)) ?_ | refine tw_ite_f (by first | omega | (simp only [tw_gq]; omega)) ?_))
      refine tw_ob8_t (a1 := -1) (a2 := D_top) (a3 := D_forms) (a4 := D_counts) (a5 := D_numbers) (a6 := D_nodes) (a7 := D_depths) (a8 := D_weights) ?_ ?_
      · unfold f_DataRow_rest
        refine tw_bind_t (tw_dC_in dd01 dd02 (by omega)) ?_
        (repeat (first | refine tw_ite_t (by first | omega | (simp only [tw_gq]; omega)) ?_ | refine tw_ite_f (by first | omega | (simp only [tw_gq]; omega)) ?_))
        rfl
      · exact tw_ob6_t tw_vODn rfl
    have hr : f_Mod_ofData N R_values R_textEnd R_dataEnd 0 puts R_valueKinds R_valueNumbers R_from R_length R_given R_texts R_forms R_tags R_counts R_textsAt R_of R_comes 27 = some (0, R_values, R_textEnd, R_dataEnd, 3, puts, R_valueKinds, R_valueNumbers, R_from, R_length, R_given, R_texts, R_forms, R_tags, R_counts, R_textsAt, R_comes) := by
      unfold f_Mod_ofData
      rw [o0]
      (repeat (first | refine tw_ite_t (by first | omega | (simp only [tw_gq]; omega)) ?_ | refine tw_ite_f (by first | omega | (simp only [tw_gq]; omega)) ?_))
      refine tw_ob14_t (a1 := 0) (a2 := R_values) (a3 := R_dataEnd) (a4 := 3) (a5 := R_valueKinds) (a6 := R_valueNumbers) (a7 := R_from) (a8 := R_length) (a9 := R_given) (a10 := R_forms) (a11 := R_tags) (a12 := R_counts) (a13 := R_textsAt) (a14 := R_comes) ?_ rfl
      unfold f_Mod_ofLists
      rw [cc]
      (repeat (first | refine tw_ite_t (by first | omega | (simp only [tw_gq]; omega)) ?_ | refine tw_ite_f (by first | omega | (simp only [tw_gq]; omega)) ?_))
      exact tw_ob2_t (tw_fail_ok rfl) rfl
    unfold tw_OUT tw_opC tw_opR
    rw [if_pos (show (9 : Int) < 27 by decide), if_pos (show (15 : Int) < 27 by decide), if_neg (show ¬ (27 : Int) = 16 by decide), if_pos (show (25 : Int) < 27 by decide), if_pos (show (10 : Int) ≤ 27 by decide), if_pos (show (16 : Int) ≤ 27 by decide), if_neg (show ¬ (27 : Int) = 16 by decide)]
    exact Or.inl ⟨_, _, tw_ob13_t hc rfl, hr, rfl⟩
  · obtain ⟨c1, c2, c3, c4⟩ := ch c
    clear ch
    obtain ⟨F, T, C, A, x1, x2, x3⟩ := tw_rCp (o := R_dataEnd + 1) (b := R_from (ps (B_given 0)) + 1 + D_nodes (V_parts (B_given 0) + 1)) (n := D_nodes (V_parts (B_given 0)) - 1 - D_nodes (V_parts (B_given 0) + 1)) (F := upZ R_forms R_dataEnd 2) (T := upZ R_tags R_dataEnd 0) (C := upZ R_counts R_dataEnd (D_counts (V_parts (B_given 0)) - 1)) (A := upZ R_textsAt R_dataEnd 0) (by omega) (by omega) (by omega) (by omega) (by omega) hN
    obtain ⟨Fm, Cn, Nm, Nd, Dp, Wt, y1, ⟨⟨y2, y2'⟩, ⟨y3, y3'⟩, ⟨y4, y4'⟩, y5, y6, y7, y8, y9, y10, y11⟩, y12⟩ := tw_rest_ok (Nm := D_numbers) h.2.1 dd01 dd02 f0 (by omega) (by omega) (N := N) (by omega)
    have hc : f_Builtins_onLists N V_top V_kinds V_numbers V_parts V_links D_top D_forms D_counts D_numbers D_nodes D_depths D_weights B_given 27 = some (V_top, V_top + 1, upZ V_kinds V_top 4, upZ V_numbers V_top 0, upZ V_parts V_top D_top, upZ V_links V_top (-1), D_top + D_nodes (V_parts (B_given 0)) - D_nodes (V_parts (B_given 0) + 1), Fm, Cn, Nm, Nd, Dp, Wt) := by
      unfold f_Builtins_onLists
      (first | refine tw_ite_t (by first | omega | (simp only [tw_gq]; omega)) ?_ | refine tw_ite_f (by first | omega | (simp only [tw_gq]; omega)) ?_)
      refine tw_bind_t (tw_vRo p0 q0 (by omega)) ?_
      refine tw_bind_t (tw_dC_in dd01 dd02 (by omega)) ?_
      (repeat (first | refine tw_ite_t (by first | omega | (simp only [tw_gq]; omega)) ?_ | refine tw_ite_f (by first | omega | (simp only [tw_gq]; omega)) ?_))
      refine tw_ob8_t y1 ?_
      exact tw_ob6_t (tw_vOD (by omega) (by omega) (by omega)) rfl
    have hr : f_Mod_ofData N R_values R_textEnd R_dataEnd 0 puts R_valueKinds R_valueNumbers R_from R_length R_given R_texts R_forms R_tags R_counts R_textsAt R_of R_comes 27 = some (R_values, R_values + 1, R_textEnd, R_dataEnd + (D_nodes (V_parts (B_given 0)) - D_nodes (V_parts (B_given 0) + 1)), 0, puts, upZ R_valueKinds R_values 4, upZ R_valueNumbers R_values 0, upZ R_from R_values R_dataEnd, upZ R_length R_values (D_nodes (V_parts (B_given 0)) - D_nodes (V_parts (B_given 0) + 1)), upZ R_given R_values 0, R_texts, F, T, C, A, R_comes) := by
      unfold f_Mod_ofData
      rw [o0]
      (repeat (first | refine tw_ite_t (by first | omega | (simp only [tw_gq]; omega)) ?_ | refine tw_ite_f (by first | omega | (simp only [tw_gq]; omega)) ?_))
      refine tw_ob14_t (a1 := R_values) (a2 := R_values + 1) (a3 := R_dataEnd + (D_nodes (V_parts (B_given 0)) - D_nodes (V_parts (B_given 0) + 1))) (a4 := 0) (a5 := upZ R_valueKinds R_values 4) (a6 := upZ R_valueNumbers R_values 0) (a7 := upZ R_from R_values R_dataEnd) (a8 := upZ R_length R_values (D_nodes (V_parts (B_given 0)) - D_nodes (V_parts (B_given 0) + 1))) (a9 := upZ R_given R_values 0) (a10 := F) (a11 := T) (a12 := C) (a13 := A) (a14 := R_comes) ?_ rfl
      unfold f_Mod_ofLists
      rw [cc, dl0]
      (repeat (first | refine tw_ite_t (by first | omega | (simp only [tw_gq]; omega)) ?_ | refine tw_ite_f (by first | omega | (simp only [tw_gq]; omega)) ?_))
      refine tw_bind_t c4 ?_
      (repeat (first | refine tw_ite_t (by first | omega | (simp only [tw_gq]; omega)) ?_ | refine tw_ite_f (by first | omega | (simp only [tw_gq]; omega)) ?_))
      refine tw_ob5_t (tw_rPutD (by omega) (by omega)) ?_
      (first | refine tw_ite_t (by first | omega | (simp only [tw_gq]; omega)) ?_ | refine tw_ite_f (by first | omega | (simp only [tw_gq]; omega)) ?_)
      refine tw_ob5_t x1 ?_
      refine tw_ob7_t (tw_rMkD (by omega) (by omega)) ?_
      rw [show R_dataEnd + 1 + (D_nodes (V_parts (B_given 0)) - 1 - D_nodes (V_parts (B_given 0) + 1)) = R_dataEnd + (D_nodes (V_parts (B_given 0)) - D_nodes (V_parts (B_given 0) + 1)) by omega, show R_dataEnd + (D_nodes (V_parts (B_given 0)) - D_nodes (V_parts (B_given 0) + 1)) - R_dataEnd = (D_nodes (V_parts (B_given 0)) - D_nodes (V_parts (B_given 0) + 1)) by omega]
    have lo : ∀ m, m < R_dataEnd → F m = R_forms m ∧ T m = R_tags m ∧ C m = R_counts m ∧ A m = R_textsAt m := fun m hm => by
      have z := x2 m (by omega)
      rw [tw_upN _ (by omega), tw_upN _ (by omega), tw_upN _ (by omega), tw_upN _ (by omega)] at z
      exact z
    have ro : F R_dataEnd = 2 ∧ T R_dataEnd = 0 ∧ C R_dataEnd = D_counts (V_parts (B_given 0)) - 1 := by
      have z := x2 R_dataEnd (by omega)
      rw [tw_upS, tw_upS, tw_upS, tw_upS] at z
      exact ⟨z.1, z.2.1, z.2.2.1⟩
    have hm := tw_XV_grow (D_top' := D_top + D_nodes (V_parts (B_given 0)) - D_nodes (V_parts (B_given 0) + 1)) (D_numbers' := Nm) (VB_top' := VB_top) (VB_row' := VB_row) (R_textEnd' := R_textEnd) (R_texts' := R_texts) (R_dataEnd' := R_dataEnd + (D_nodes (V_parts (B_given 0)) - D_nodes (V_parts (B_given 0) + 1))) (R_forms' := F) (R_tags' := T) (R_counts' := C) (R_textsAt' := A) h y12 (Int.le_refl _) (Int.le_refl _) tw_GR_refl tw_GR_refl (by omega) (by omega) (fun k hk => y2 k hk) (fun k hk => y3 k hk) (fun k hk => y4 k hk) (fun k hk => y5 k hk) (fun k hk => (lo k hk).1) (fun k hk => (lo k hk).2.1) (fun k hk => (lo k hk).2.2.1) (fun k hk => (lo k hk).2.2.2)
    have dw := (y12 D_top (by omega) (by omega)).2.2.2.2.2.2.2.2.2.1
    have hdd : tw_DD (D_top + D_nodes (V_parts (B_given 0)) - D_nodes (V_parts (B_given 0) + 1)) Nd (R_dataEnd + (D_nodes (V_parts (B_given 0)) - D_nodes (V_parts (B_given 0) + 1))) VB_top VB_row R_textEnd R_texts Fm Cn Nm F T C A D_top R_dataEnd := by
      refine ⟨by omega, by omega, by omega, by rw [y11]; omega, fun k k0 k1 => ?_⟩
      rw [y11] at k1
      by_cases e : k = 0
      · subst e
        unfold tw_NR
        rw [show D_top + 0 = D_top by omega, show R_dataEnd + 0 = R_dataEnd by omega, y8, y9, y10]
        exact ⟨ro.1, ro.2.2, by omega, fun z => by omega, fun z => by omega, fun _ => ro.2.1⟩
      · have w := x3 (k - 1) (by omega) (by omega)
        rw [tw_upN _ (by omega), tw_upN _ (by omega), tw_upN _ (by omega), tw_upN _ (by omega), show R_dataEnd + 1 + (k - 1) = R_dataEnd + k by omega, show R_from (ps (B_given 0)) + 1 + D_nodes (V_parts (B_given 0) + 1) + (k - 1) = R_from (ps (B_given 0)) + (k + D_nodes (V_parts (B_given 0) + 1)) by omega] at w
        have z := dd05 (k + D_nodes (V_parts (B_given 0) + 1)) (by omega) (by omega)
        have a1 := y2' (V_parts (B_given 0) + (k + D_nodes (V_parts (B_given 0) + 1))) (by omega) (by omega)
        have a2 := y3' (V_parts (B_given 0) + (k + D_nodes (V_parts (B_given 0) + 1))) (by omega) (by omega)
        have a3 := y4' (V_parts (B_given 0) + (k + D_nodes (V_parts (B_given 0) + 1))) (by omega) (by omega)
        rw [show V_parts (B_given 0) + (k + D_nodes (V_parts (B_given 0) + 1)) + (D_top + 1 - (V_parts (B_given 0) + 1 + D_nodes (V_parts (B_given 0) + 1))) = D_top + k by omega] at a1 a2 a3
        exact tw_NR_cp z a1 a2 a3 w.1 w.2.1 w.2.2.1 w.2.2.2
    unfold tw_OUT tw_opC tw_opR
    rw [if_pos (show (9 : Int) < 27 by decide), if_pos (show (15 : Int) < 27 by decide), if_neg (show ¬ (27 : Int) = 16 by decide), if_pos (show (25 : Int) < 27 by decide), if_pos (show (10 : Int) ≤ 27 by decide), if_pos (show (16 : Int) ≤ 27 by decide), if_neg (show ¬ (27 : Int) = 16 by decide)]
    exact Or.inr ⟨_, _, _, _, _, _, _, _, _, _, _, _, _, _, _, _, _, _, _, _, _, _, _, _, _, _, _, _, _, _, _, tw_ob13_t hc rfl, hr, tw_RSL_mk (sz := (D_nodes (V_parts (B_given 0)) - D_nodes (V_parts (B_given 0) + 1)) + Wt D_top / 8) hm (tw_GR_up (by omega)) (tw_GR_up (by omega)) (by omega) (by omega) (fun z => by omega) (by omega) (fun z => by omega) (fun _ => by rw [tw_upS, tw_upS, y11]; exact ⟨rfl, hdd⟩) (by rw [if_neg (by omega), if_pos rfl, y11]) (by omega) (by omega) (by omega) (by omega) (by omega)⟩
set_option maxRecDepth 100000 in
theorem tw_out_29 {ok : Int → Int → Int → Prop} {cs : Int → Prop} {ps : Int → Int} {nc : Int} {R_values : Int} {R_nodeOf : Int → Int} {R_rowOf : Int → Int} {D_top : Int} {D_nodes : Int → Int} {R_dataEnd : Int} {VB_top : Int} {VB_row : Int → Int} {R_textEnd : Int} {R_texts : Int → Int} {D_forms : Int → Int} {D_counts : Int → Int} {D_numbers : Int → Int} {R_forms : Int → Int} {R_tags : Int → Int} {R_counts : Int → Int} {R_textsAt : Int → Int} {V_top : Int} {V_kinds : Int → Int} {V_numbers : Int → Int} {V_parts : Int → Int} {V_links : Int → Int} {R_valueKinds : Int → Int} {R_valueNumbers : Int → Int} {R_from : Int → Int} {R_length : Int → Int} {R_given : Int → Int} {R_firstGiven : Int → Int} {R_secondGiven : Int → Int} {D_depths : Int → Int} {D_weights : Int → Int} {m puts : Int} {N : Nat} {B_given R_of R_comes : Int → Int} (hN : 300 ≤ N) (h : tw_XV ok cs ps nc R_values R_nodeOf R_rowOf D_top D_nodes R_dataEnd VB_top VB_row R_textEnd R_texts D_forms D_counts D_numbers R_forms R_tags R_counts R_textsAt V_top V_kinds V_numbers V_parts V_links R_valueKinds R_valueNumbers R_from R_length R_given R_firstGiven R_secondGiven D_depths D_weights) (hT : tw_TOPS V_top D_top VB_top R_textEnd R_dataEnd m) (g0 : tw_vok cs V_top (B_given 0)) (k0 : V_kinds (B_given 0) = 4) (o0 : R_of 0 = ps (B_given 0)) (f0 : D_forms (V_parts (B_given 0)) = 2) : tw_OUT ok cs ps nc R_values R_nodeOf R_rowOf D_top D_nodes R_dataEnd VB_top VB_row R_textEnd R_texts D_forms D_counts D_numbers R_forms R_tags R_counts R_textsAt V_top V_kinds V_numbers V_parts V_links R_valueKinds R_valueNumbers R_from R_length R_given R_firstGiven R_secondGiven D_depths D_weights N B_given puts R_of R_comes 29 := by
  have tr := tw_TOPS_r h hT
  obtain ⟨p0, q0, -⟩ := id g0
  obtain ⟨v0, v0', ⟨z0, -, -, n0, -, -, -, -, d0⟩, -⟩ := h.1 _ g0
  obtain ⟨dl0, dd0⟩ := d0 k0
  obtain ⟨dd01, dd02, dd03, dd04, dd05⟩ := id dd0
  have dn0 := h.2.1 (V_parts (B_given 0)) dd01 dd02
  have dn01 := dn0.1
  have dn02 := dn0.2.1
  have dn03 := dn0.2.2.1
  have df00 := dn0.2.2.2.2.2.1
  have df01 := dn0.2.2.2.2.2.2.1
  have dc00 := dn0.2.2.2.2.2.2.2.1
  have dc01 := dn0.2.2.2.2.2.2.2.2.1
  have dw00 := dn0.2.2.2.2.2.2.2.2.2.1
  have dw01 := dn0.2.2.2.2.2.2.2.2.2.2.1
  clear d0
  have c0 := dd05 0 (by omega) (by omega)
  rw [show V_parts (B_given 0) + 0 = V_parts (B_given 0) by omega, show R_from (ps (B_given 0)) + 0 = R_from (ps (B_given 0)) by omega] at c0
  obtain ⟨cf, cc, -, -, -, -⟩ := c0
  have ew : tw_wi D_forms D_counts (V_parts (B_given 0)) = D_counts (V_parts (B_given 0)) := by unfold tw_wi; rw [if_neg (by omega), if_pos (by omega)]
  have ch : ¬ D_counts (V_parts (B_given 0)) = 0 → V_parts (B_given 0) + 1 < V_parts (B_given 0) + D_nodes (V_parts (B_given 0)) ∧ V_parts (B_given 0) + 1 + D_nodes (V_parts (B_given 0) + 1) ≤ V_parts (B_given 0) + D_nodes (V_parts (B_given 0)) ∧ 1 ≤ D_nodes (V_parts (B_given 0) + 1) ∧ f_Mod_sizeOfData N R_forms R_counts (R_from (ps (B_given 0)) + 1) = some (D_nodes (V_parts (B_given 0) + 1)) := by
    intro hz
    have ci := tw_child_in h.2.1 dd01 dd02 (j := 0) (by omega)
    have e0 : tw_fw D_nodes (V_parts (B_given 0)) 0 = V_parts (B_given 0) + 1 := rfl
    rw [e0] at ci
    obtain ⟨ci1, ci2, ci3, ci4, ci5, -⟩ := ci
    exact ⟨ci2, ci3, ci4, tw_size_ok h.2.1 (by omega) (by omega) (tw_CO_sub (tw_CO_DD dd0 (by omega)) (o := 1) (by omega) (by omega)) (by omega)⟩
  have tf : (if D_counts (V_parts (B_given 0)) = 0 then (1 : Int) else 0) = 0 ∨ (if D_counts (V_parts (B_given 0)) = 0 then (1 : Int) else 0) = 1 := by split <;> omega
  have hc : f_Builtins_onLists N V_top V_kinds V_numbers V_parts V_links D_top D_forms D_counts D_numbers D_nodes D_depths D_weights B_given 29 = some (V_top, V_top + 1, upZ V_kinds V_top 2, upZ V_numbers V_top (if D_counts (V_parts (B_given 0)) = 0 then 1 else 0), upZ V_parts V_top (-1), upZ V_links V_top (-1), D_top, D_forms, D_counts, D_numbers, D_nodes, D_depths, D_weights) := by
    unfold f_Builtins_onLists
    (first | refine tw_ite_t (by first | omega | (simp only [tw_gq]; omega)) ?_ | refine tw_ite_f (by first | omega | (simp only [tw_gq]; omega)) ?_)
    refine tw_bind_t (tw_vRo p0 q0 (by omega)) ?_
    refine tw_bind_t (tw_dC_in dd01 dd02 (by omega)) ?_
    clear ch tf
    by_cases c : D_counts (V_parts (B_given 0)) = 0
    · (repeat (first | refine tw_ite_t (by first | omega | (simp only [tw_gq]; omega)) ?_ | refine tw_ite_f (by first | omega | (simp only [tw_gq]; omega)) ?_)); rw [if_pos c]; exact tw_ob6_t (tw_vOT (by omega) (by omega) (by omega)) rfl
    · (repeat (first | refine tw_ite_t (by first | omega | (simp only [tw_gq]; omega)) ?_ | refine tw_ite_f (by first | omega | (simp only [tw_gq]; omega)) ?_)); rw [if_neg c]; exact tw_ob6_t (tw_vOT (by omega) (by omega) (by omega)) rfl
  have hr : f_Mod_ofData N R_values R_textEnd R_dataEnd 0 puts R_valueKinds R_valueNumbers R_from R_length R_given R_texts R_forms R_tags R_counts R_textsAt R_of R_comes 29 = some (R_values, R_values + 1, R_textEnd, R_dataEnd, 0, puts, upZ R_valueKinds R_values 2, upZ R_valueNumbers R_values (if D_counts (V_parts (B_given 0)) = 0 then 1 else 0), R_from, R_length, upZ R_given R_values 0, R_texts, R_forms, R_tags, R_counts, R_textsAt, R_comes) := by
    unfold f_Mod_ofData
    rw [o0]
    (repeat (first | refine tw_ite_t (by first | omega | (simp only [tw_gq]; omega)) ?_ | refine tw_ite_f (by first | omega | (simp only [tw_gq]; omega)) ?_))
    refine tw_ob14_t (a1 := R_values) (a2 := R_values + 1) (a3 := R_dataEnd) (a4 := 0) (a5 := upZ R_valueKinds R_values 2) (a6 := upZ R_valueNumbers R_values (if D_counts (V_parts (B_given 0)) = 0 then 1 else 0)) (a7 := R_from) (a8 := R_length) (a9 := upZ R_given R_values 0) (a10 := R_forms) (a11 := R_tags) (a12 := R_counts) (a13 := R_textsAt) (a14 := R_comes) ?_ rfl
    unfold f_Mod_ofLists
    rw [cc]
    clear tf
    by_cases c : D_counts (V_parts (B_given 0)) = 0
    · clear ch
      (repeat (first | refine tw_ite_t (by first | omega | (simp only [tw_gq]; omega)) ?_ | refine tw_ite_f (by first | omega | (simp only [tw_gq]; omega)) ?_))
      rw [if_pos c]
      exact tw_ob5_t (tw_rTr (by omega) (by omega) (by omega)) rfl
    · obtain ⟨c1, c2, c3, c4⟩ := ch c
      clear ch
      (repeat (first | refine tw_ite_t (by first | omega | (simp only [tw_gq]; omega)) ?_ | refine tw_ite_f (by first | omega | (simp only [tw_gq]; omega)) ?_))
      refine tw_bind_t c4 ?_
      (repeat (first | refine tw_ite_t (by first | omega | (simp only [tw_gq]; omega)) ?_ | refine tw_ite_f (by first | omega | (simp only [tw_gq]; omega)) ?_))
      rw [if_neg c]
      exact tw_ob5_t (tw_rTr (by omega) (by omega) (by omega)) rfl
  unfold tw_OUT tw_opC tw_opR
  rw [if_pos (show (9 : Int) < 29 by decide), if_pos (show (15 : Int) < 29 by decide), if_neg (show ¬ (29 : Int) = 16 by decide), if_pos (show (25 : Int) < 29 by decide), if_pos (show (10 : Int) ≤ 29 by decide), if_pos (show (16 : Int) ≤ 29 by decide), if_neg (show ¬ (29 : Int) = 16 by decide)]
  exact Or.inr ⟨_, _, _, _, _, _, _, _, _, _, _, _, _, _, _, _, _, _, _, _, _, _, _, _, _, _, _, _, _, _, _, tw_ob13_t hc rfl, hr, tw_RSL_mk (sz := 1) (tw_XV_mid h) tw_GR_refl tw_GR_refl (by omega) (by omega) (fun _ => rfl) (fun _ => tf) (fun z => by omega) (fun z => by omega) (by rw [if_neg (by omega), if_neg (by omega)]) (by omega) (by omega) (by omega) (by omega) (by omega)⟩
set_option maxRecDepth 100000 in
theorem tw_out_30 {ok : Int → Int → Int → Prop} {cs : Int → Prop} {ps : Int → Int} {nc : Int} {R_values : Int} {R_nodeOf : Int → Int} {R_rowOf : Int → Int} {D_top : Int} {D_nodes : Int → Int} {R_dataEnd : Int} {VB_top : Int} {VB_row : Int → Int} {R_textEnd : Int} {R_texts : Int → Int} {D_forms : Int → Int} {D_counts : Int → Int} {D_numbers : Int → Int} {R_forms : Int → Int} {R_tags : Int → Int} {R_counts : Int → Int} {R_textsAt : Int → Int} {V_top : Int} {V_kinds : Int → Int} {V_numbers : Int → Int} {V_parts : Int → Int} {V_links : Int → Int} {R_valueKinds : Int → Int} {R_valueNumbers : Int → Int} {R_from : Int → Int} {R_length : Int → Int} {R_given : Int → Int} {R_firstGiven : Int → Int} {R_secondGiven : Int → Int} {D_depths : Int → Int} {D_weights : Int → Int} {m puts : Int} {N : Nat} {B_given R_of R_comes : Int → Int} (hN : 300 ≤ N) (h : tw_XV ok cs ps nc R_values R_nodeOf R_rowOf D_top D_nodes R_dataEnd VB_top VB_row R_textEnd R_texts D_forms D_counts D_numbers R_forms R_tags R_counts R_textsAt V_top V_kinds V_numbers V_parts V_links R_valueKinds R_valueNumbers R_from R_length R_given R_firstGiven R_secondGiven D_depths D_weights) (hT : tw_TOPS V_top D_top VB_top R_textEnd R_dataEnd m) (g0 : tw_vok cs V_top (B_given 0)) (k0 : V_kinds (B_given 0) = 4) (o0 : R_of 0 = ps (B_given 0)) (f0 : D_forms (V_parts (B_given 0)) = 2) : tw_OUT ok cs ps nc R_values R_nodeOf R_rowOf D_top D_nodes R_dataEnd VB_top VB_row R_textEnd R_texts D_forms D_counts D_numbers R_forms R_tags R_counts R_textsAt V_top V_kinds V_numbers V_parts V_links R_valueKinds R_valueNumbers R_from R_length R_given R_firstGiven R_secondGiven D_depths D_weights N B_given puts R_of R_comes 30 := by
  have tr := tw_TOPS_r h hT
  obtain ⟨p0, q0, -⟩ := id g0
  obtain ⟨v0, v0', ⟨z0, -, -, n0, -, -, -, -, d0⟩, -⟩ := h.1 _ g0
  obtain ⟨dl0, dd0⟩ := d0 k0
  obtain ⟨dd01, dd02, dd03, dd04, dd05⟩ := id dd0
  have dn0 := h.2.1 (V_parts (B_given 0)) dd01 dd02
  have dn01 := dn0.1
  have dn02 := dn0.2.1
  have dn03 := dn0.2.2.1
  have df00 := dn0.2.2.2.2.2.1
  have df01 := dn0.2.2.2.2.2.2.1
  have dc00 := dn0.2.2.2.2.2.2.2.1
  have dc01 := dn0.2.2.2.2.2.2.2.2.1
  have dw00 := dn0.2.2.2.2.2.2.2.2.2.1
  have dw01 := dn0.2.2.2.2.2.2.2.2.2.2.1
  clear d0
  have c0 := dd05 0 (by omega) (by omega)
  rw [show V_parts (B_given 0) + 0 = V_parts (B_given 0) by omega, show R_from (ps (B_given 0)) + 0 = R_from (ps (B_given 0)) by omega] at c0
  obtain ⟨cf, cc, -, -, -, -⟩ := c0
  have ew : tw_wi D_forms D_counts (V_parts (B_given 0)) = D_counts (V_parts (B_given 0)) := by unfold tw_wi; rw [if_neg (by omega), if_pos (by omega)]
  have ch : ¬ D_counts (V_parts (B_given 0)) = 0 → V_parts (B_given 0) + 1 < V_parts (B_given 0) + D_nodes (V_parts (B_given 0)) ∧ V_parts (B_given 0) + 1 + D_nodes (V_parts (B_given 0) + 1) ≤ V_parts (B_given 0) + D_nodes (V_parts (B_given 0)) ∧ 1 ≤ D_nodes (V_parts (B_given 0) + 1) ∧ f_Mod_sizeOfData N R_forms R_counts (R_from (ps (B_given 0)) + 1) = some (D_nodes (V_parts (B_given 0) + 1)) := by
    intro hz
    have ci := tw_child_in h.2.1 dd01 dd02 (j := 0) (by omega)
    have e0 : tw_fw D_nodes (V_parts (B_given 0)) 0 = V_parts (B_given 0) + 1 := rfl
    rw [e0] at ci
    obtain ⟨ci1, ci2, ci3, ci4, ci5, -⟩ := ci
    exact ⟨ci2, ci3, ci4, tw_size_ok h.2.1 (by omega) (by omega) (tw_CO_sub (tw_CO_DD dd0 (by omega)) (o := 1) (by omega) (by omega)) (by omega)⟩
  have td : Int.tdiv (D_counts (V_parts (B_given 0))) 2 = D_counts (V_parts (B_given 0)) / 2 := Int.tdiv_eq_ediv_of_nonneg dc00
  by_cases c : D_counts (V_parts (B_given 0)) % 2 = 0
  · obtain ⟨F, T, C, A, x1, x2, x3⟩ := tw_rec_ok (fo := 1) (tg := 0) (ct := D_counts (V_parts (B_given 0)) / 2) hN h hT g0 k0 (by omega) (by omega) (by rw [ew, if_pos rfl]; omega) (by omega) (by omega)
    have hc : f_Builtins_onLists N V_top V_kinds V_numbers V_parts V_links D_top D_forms D_counts D_numbers D_nodes D_depths D_weights B_given 30 = some (V_top, V_top + 1, upZ V_kinds V_top 4, upZ V_numbers V_top 0, upZ V_parts V_top D_top, upZ V_links V_top (-1), D_top + D_nodes (V_parts (B_given 0)), upZ (cpZ D_forms D_forms (V_parts (B_given 0)) D_top (D_nodes (V_parts (B_given 0)))) D_top 1, upZ (cpZ D_counts D_counts (V_parts (B_given 0)) D_top (D_nodes (V_parts (B_given 0)))) D_top (D_counts (V_parts (B_given 0)) / 2), upZ (cpZ D_numbers D_numbers (V_parts (B_given 0)) D_top (D_nodes (V_parts (B_given 0)))) D_top 0, cpZ D_nodes D_nodes (V_parts (B_given 0)) D_top (D_nodes (V_parts (B_given 0))), cpZ D_depths D_depths (V_parts (B_given 0)) D_top (D_nodes (V_parts (B_given 0))), cpZ D_weights D_weights (V_parts (B_given 0)) D_top (D_nodes (V_parts (B_given 0)))) := by
      unfold f_Builtins_onLists
      (first | refine tw_ite_t (by first | omega | (simp only [tw_gq]; omega)) ?_ | refine tw_ite_f (by first | omega | (simp only [tw_gq]; omega)) ?_)
      refine tw_bind_t (tw_vRo p0 q0 (by omega)) ?_
      refine tw_bind_t (tw_dC_in dd01 dd02 (by omega)) ?_
      clear ch
      rw [td]
      (repeat (first | refine tw_ite_t (by first | omega | (simp only [tw_gq]; omega)) ?_ | refine tw_ite_f (by first | omega | (simp only [tw_gq]; omega)) ?_))
      refine tw_ob8_t x2 ?_
      exact tw_ob6_t (tw_vOD (by omega) (by omega) (by omega)) rfl
    have hr : f_Mod_ofData N R_values R_textEnd R_dataEnd 0 puts R_valueKinds R_valueNumbers R_from R_length R_given R_texts R_forms R_tags R_counts R_textsAt R_of R_comes 30 = some (R_values, R_values + 1, R_textEnd, R_dataEnd + D_nodes (V_parts (B_given 0)), 0, puts, upZ R_valueKinds R_values 4, upZ R_valueNumbers R_values 0, upZ R_from R_values R_dataEnd, upZ R_length R_values (D_nodes (V_parts (B_given 0))), upZ R_given R_values 0, R_texts, F, T, C, A, R_comes) := by
      unfold f_Mod_ofData
      rw [o0]
      (repeat (first | refine tw_ite_t (by first | omega | (simp only [tw_gq]; omega)) ?_ | refine tw_ite_f (by first | omega | (simp only [tw_gq]; omega)) ?_))
      refine tw_ob14_t (a1 := R_values) (a2 := R_values + 1) (a3 := R_dataEnd + D_nodes (V_parts (B_given 0))) (a4 := 0) (a5 := upZ R_valueKinds R_values 4) (a6 := upZ R_valueNumbers R_values 0) (a7 := upZ R_from R_values R_dataEnd) (a8 := upZ R_length R_values (D_nodes (V_parts (B_given 0)))) (a9 := upZ R_given R_values 0) (a10 := F) (a11 := T) (a12 := C) (a13 := A) (a14 := R_comes) ?_ rfl
      unfold f_Mod_ofLists
      rw [cc, td]
      by_cases c9 : D_counts (V_parts (B_given 0)) = 0
      · clear ch
        (repeat (first | refine tw_ite_t (by first | omega | (simp only [tw_gq]; omega)) ?_ | refine tw_ite_f (by first | omega | (simp only [tw_gq]; omega)) ?_))
        exact tw_ob12_t x1 rfl
      · obtain ⟨c1, c2, c3, c4⟩ := ch c9
        clear ch
        (repeat (first | refine tw_ite_t (by first | omega | (simp only [tw_gq]; omega)) ?_ | refine tw_ite_f (by first | omega | (simp only [tw_gq]; omega)) ?_))
        refine tw_bind_t c4 ?_
        (repeat (first | refine tw_ite_t (by first | omega | (simp only [tw_gq]; omega)) ?_ | refine tw_ite_f (by first | omega | (simp only [tw_gq]; omega)) ?_))
        exact tw_ob12_t x1 rfl
    unfold tw_OUT tw_opC tw_opR
    rw [if_pos (show (9 : Int) < 30 by decide), if_pos (show (15 : Int) < 30 by decide), if_neg (show ¬ (30 : Int) = 16 by decide), if_pos (show (25 : Int) < 30 by decide), if_pos (show (10 : Int) ≤ 30 by decide), if_pos (show (16 : Int) ≤ 30 by decide), if_neg (show ¬ (30 : Int) = 16 by decide)]
    exact Or.inr ⟨_, _, _, _, _, _, _, _, _, _, _, _, _, _, _, _, _, _, _, _, _, _, _, _, _, _, _, _, _, _, _, tw_ob13_t hc rfl, hr, x3⟩
  · have hc : f_Builtins_onLists N V_top V_kinds V_numbers V_parts V_links D_top D_forms D_counts D_numbers D_nodes D_depths D_weights B_given 30 = some (-1, V_top, V_kinds, V_numbers, V_parts, V_links, D_top, D_forms, D_counts, D_numbers, D_nodes, D_depths, D_weights) := by
      unfold f_Builtins_onLists
      (first | refine tw_ite_t (by first | omega | (simp only [tw_gq]; omega)) ?_ | refine tw_ite_f (by first | omega | (simp only [tw_gq]; omega)) ?_)
      refine tw_bind_t (tw_vRo p0 q0 (by omega)) ?_
      refine tw_bind_t (tw_dC_in dd01 dd02 (by omega)) ?_
      clear ch
      rw [td]
      (repeat (first | refine tw_ite_t (by first | omega | (simp only [tw_gq]; omega)) ?_ | refine tw_ite_f (by first | omega | (simp only [tw_gq]; omega)) ?_))
      rfl
    have hr : f_Mod_ofData N R_values R_textEnd R_dataEnd 0 puts R_valueKinds R_valueNumbers R_from R_length R_given R_texts R_forms R_tags R_counts R_textsAt R_of R_comes 30 = some (0, R_values, R_textEnd, R_dataEnd, 3, puts, R_valueKinds, R_valueNumbers, R_from, R_length, R_given, R_texts, R_forms, R_tags, R_counts, R_textsAt, R_comes) := by
      unfold f_Mod_ofData
      rw [o0]
      (repeat (first | refine tw_ite_t (by first | omega | (simp only [tw_gq]; omega)) ?_ | refine tw_ite_f (by first | omega | (simp only [tw_gq]; omega)) ?_))
      refine tw_ob14_t (a1 := 0) (a2 := R_values) (a3 := R_dataEnd) (a4 := 3) (a5 := R_valueKinds) (a6 := R_valueNumbers) (a7 := R_from) (a8 := R_length) (a9 := R_given) (a10 := R_forms) (a11 := R_tags) (a12 := R_counts) (a13 := R_textsAt) (a14 := R_comes) ?_ rfl
      unfold f_Mod_ofLists
      rw [cc, td]
      obtain ⟨c1, c2, c3, c4⟩ := ch (by omega)
      clear ch
      (repeat (first | refine tw_ite_t (by first | omega | (simp only [tw_gq]; omega)) ?_ | refine tw_ite_f (by first | omega | (simp only [tw_gq]; omega)) ?_))
      refine tw_bind_t c4 ?_
      (repeat (first | refine tw_ite_t (by first | omega | (simp only [tw_gq]; omega)) ?_ | refine tw_ite_f (by first | omega | (simp only [tw_gq]; omega)) ?_))
      exact tw_ob2_t (tw_fail_ok rfl) rfl
    unfold tw_OUT tw_opC tw_opR
    rw [if_pos (show (9 : Int) < 30 by decide), if_pos (show (15 : Int) < 30 by decide), if_neg (show ¬ (30 : Int) = 16 by decide), if_pos (show (25 : Int) < 30 by decide), if_pos (show (10 : Int) ≤ 30 by decide), if_pos (show (16 : Int) ≤ 30 by decide), if_neg (show ¬ (30 : Int) = 16 by decide)]
    exact Or.inl ⟨_, _, tw_ob13_t hc rfl, hr, rfl⟩
set_option maxRecDepth 100000 in
theorem tw_out_31 {ok : Int → Int → Int → Prop} {cs : Int → Prop} {ps : Int → Int} {nc : Int} {R_values : Int} {R_nodeOf : Int → Int} {R_rowOf : Int → Int} {D_top : Int} {D_nodes : Int → Int} {R_dataEnd : Int} {VB_top : Int} {VB_row : Int → Int} {R_textEnd : Int} {R_texts : Int → Int} {D_forms : Int → Int} {D_counts : Int → Int} {D_numbers : Int → Int} {R_forms : Int → Int} {R_tags : Int → Int} {R_counts : Int → Int} {R_textsAt : Int → Int} {V_top : Int} {V_kinds : Int → Int} {V_numbers : Int → Int} {V_parts : Int → Int} {V_links : Int → Int} {R_valueKinds : Int → Int} {R_valueNumbers : Int → Int} {R_from : Int → Int} {R_length : Int → Int} {R_given : Int → Int} {R_firstGiven : Int → Int} {R_secondGiven : Int → Int} {D_depths : Int → Int} {D_weights : Int → Int} {m puts : Int} {N : Nat} {B_given R_of R_comes : Int → Int} (hN : 300 ≤ N) (h : tw_XV ok cs ps nc R_values R_nodeOf R_rowOf D_top D_nodes R_dataEnd VB_top VB_row R_textEnd R_texts D_forms D_counts D_numbers R_forms R_tags R_counts R_textsAt V_top V_kinds V_numbers V_parts V_links R_valueKinds R_valueNumbers R_from R_length R_given R_firstGiven R_secondGiven D_depths D_weights) (hT : tw_TOPS V_top D_top VB_top R_textEnd R_dataEnd m) (g0 : tw_vok cs V_top (B_given 0)) (k0 : V_kinds (B_given 0) = 4) (o0 : R_of 0 = ps (B_given 0)) (f0 : D_forms (V_parts (B_given 0)) = 1) : tw_OUT ok cs ps nc R_values R_nodeOf R_rowOf D_top D_nodes R_dataEnd VB_top VB_row R_textEnd R_texts D_forms D_counts D_numbers R_forms R_tags R_counts R_textsAt V_top V_kinds V_numbers V_parts V_links R_valueKinds R_valueNumbers R_from R_length R_given R_firstGiven R_secondGiven D_depths D_weights N B_given puts R_of R_comes 31 := by
  have tr := tw_TOPS_r h hT
  obtain ⟨p0, q0, -⟩ := id g0
  obtain ⟨v0, v0', ⟨z0, -, -, n0, -, -, -, -, d0⟩, -⟩ := h.1 _ g0
  obtain ⟨dl0, dd0⟩ := d0 k0
  obtain ⟨dd01, dd02, dd03, dd04, dd05⟩ := id dd0
  have dn0 := h.2.1 (V_parts (B_given 0)) dd01 dd02
  have dn01 := dn0.1
  have dn02 := dn0.2.1
  have dn03 := dn0.2.2.1
  have df00 := dn0.2.2.2.2.2.1
  have df01 := dn0.2.2.2.2.2.2.1
  have dc00 := dn0.2.2.2.2.2.2.2.1
  have dc01 := dn0.2.2.2.2.2.2.2.2.1
  have dw00 := dn0.2.2.2.2.2.2.2.2.2.1
  have dw01 := dn0.2.2.2.2.2.2.2.2.2.2.1
  clear d0
  have c0 := dd05 0 (by omega) (by omega)
  rw [show V_parts (B_given 0) + 0 = V_parts (B_given 0) by omega, show R_from (ps (B_given 0)) + 0 = R_from (ps (B_given 0)) by omega] at c0
  obtain ⟨cf, cc, -, -, -, -⟩ := c0
  have ew : tw_wi D_forms D_counts (V_parts (B_given 0)) = 2 * D_counts (V_parts (B_given 0)) := by unfold tw_wi; rw [if_pos f0]
  have wl := tw_wi_le h.2.1 dd01 dd02
  have ch : ¬ D_counts (V_parts (B_given 0)) = 0 → V_parts (B_given 0) + 1 < V_parts (B_given 0) + D_nodes (V_parts (B_given 0)) ∧ V_parts (B_given 0) + 1 + D_nodes (V_parts (B_given 0) + 1) ≤ V_parts (B_given 0) + D_nodes (V_parts (B_given 0)) ∧ 1 ≤ D_nodes (V_parts (B_given 0) + 1) ∧ f_Mod_sizeOfData N R_forms R_counts (R_from (ps (B_given 0)) + 1) = some (D_nodes (V_parts (B_given 0) + 1)) := by
    intro hz
    have ci := tw_child_in h.2.1 dd01 dd02 (j := 0) (by omega)
    have e0 : tw_fw D_nodes (V_parts (B_given 0)) 0 = V_parts (B_given 0) + 1 := rfl
    rw [e0] at ci
    obtain ⟨ci1, ci2, ci3, ci4, ci5, -⟩ := ci
    exact ⟨ci2, ci3, ci4, tw_size_ok h.2.1 (by omega) (by omega) (tw_CO_sub (tw_CO_DD dd0 (by omega)) (o := 1) (by omega) (by omega)) (by omega)⟩
  obtain ⟨F, T, C, A, x1, x2, x3⟩ := tw_rec_ok (fo := 2) (tg := 0) (ct := D_counts (V_parts (B_given 0)) * 2) hN h hT g0 k0 (by omega) (by omega) (by rw [ew, if_neg (by omega)]; omega) (by omega) (by omega)
  have hc : f_Builtins_onLists N V_top V_kinds V_numbers V_parts V_links D_top D_forms D_counts D_numbers D_nodes D_depths D_weights B_given 31 = some (V_top, V_top + 1, upZ V_kinds V_top 4, upZ V_numbers V_top 0, upZ V_parts V_top D_top, upZ V_links V_top (-1), D_top + D_nodes (V_parts (B_given 0)), upZ (cpZ D_forms D_forms (V_parts (B_given 0)) D_top (D_nodes (V_parts (B_given 0)))) D_top 2, upZ (cpZ D_counts D_counts (V_parts (B_given 0)) D_top (D_nodes (V_parts (B_given 0)))) D_top (D_counts (V_parts (B_given 0)) * 2), upZ (cpZ D_numbers D_numbers (V_parts (B_given 0)) D_top (D_nodes (V_parts (B_given 0)))) D_top 0, cpZ D_nodes D_nodes (V_parts (B_given 0)) D_top (D_nodes (V_parts (B_given 0))), cpZ D_depths D_depths (V_parts (B_given 0)) D_top (D_nodes (V_parts (B_given 0))), cpZ D_weights D_weights (V_parts (B_given 0)) D_top (D_nodes (V_parts (B_given 0)))) := by
    unfold f_Builtins_onLists
    (first | refine tw_ite_t (by first | omega | (simp only [tw_gq]; omega)) ?_ | refine tw_ite_f (by first | omega | (simp only [tw_gq]; omega)) ?_)
    refine tw_bind_t (tw_vRo p0 q0 (by omega)) ?_
    refine tw_bind_t (tw_dC_in dd01 dd02 (by omega)) ?_
    clear ch
    (repeat (first | refine tw_ite_t (by first | omega | (simp only [tw_gq]; omega)) ?_ | refine tw_ite_f (by first | omega | (simp only [tw_gq]; omega)) ?_))
    refine tw_ob8_t x2 ?_
    exact tw_ob6_t (tw_vOD (by omega) (by omega) (by omega)) rfl
  have hr : f_Mod_ofData N R_values R_textEnd R_dataEnd 0 puts R_valueKinds R_valueNumbers R_from R_length R_given R_texts R_forms R_tags R_counts R_textsAt R_of R_comes 31 = some (R_values, R_values + 1, R_textEnd, R_dataEnd + D_nodes (V_parts (B_given 0)), 0, puts, upZ R_valueKinds R_values 4, upZ R_valueNumbers R_values 0, upZ R_from R_values R_dataEnd, upZ R_length R_values (D_nodes (V_parts (B_given 0))), upZ R_given R_values 0, R_texts, F, T, C, A, R_comes) := by
    unfold f_Mod_ofData
    rw [o0]
    (repeat (first | refine tw_ite_t (by first | omega | (simp only [tw_gq]; omega)) ?_ | refine tw_ite_f (by first | omega | (simp only [tw_gq]; omega)) ?_))
    refine tw_ob14_t (a1 := R_values) (a2 := R_values + 1) (a3 := R_dataEnd + D_nodes (V_parts (B_given 0))) (a4 := 0) (a5 := upZ R_valueKinds R_values 4) (a6 := upZ R_valueNumbers R_values 0) (a7 := upZ R_from R_values R_dataEnd) (a8 := upZ R_length R_values (D_nodes (V_parts (B_given 0)))) (a9 := upZ R_given R_values 0) (a10 := F) (a11 := T) (a12 := C) (a13 := A) (a14 := R_comes) ?_ rfl
    unfold f_Mod_ofLists
    rw [cc, show 2 * D_counts (V_parts (B_given 0)) = D_counts (V_parts (B_given 0)) * 2 by omega]
    by_cases c9 : D_counts (V_parts (B_given 0)) = 0
    · clear ch
      (repeat (first | refine tw_ite_t (by first | omega | (simp only [tw_gq]; omega)) ?_ | refine tw_ite_f (by first | omega | (simp only [tw_gq]; omega)) ?_))
      exact tw_ob12_t x1 rfl
    · obtain ⟨c1, c2, c3, c4⟩ := ch c9
      clear ch
      (repeat (first | refine tw_ite_t (by first | omega | (simp only [tw_gq]; omega)) ?_ | refine tw_ite_f (by first | omega | (simp only [tw_gq]; omega)) ?_))
      refine tw_bind_t c4 ?_
      (repeat (first | refine tw_ite_t (by first | omega | (simp only [tw_gq]; omega)) ?_ | refine tw_ite_f (by first | omega | (simp only [tw_gq]; omega)) ?_))
      exact tw_ob12_t x1 rfl
  unfold tw_OUT tw_opC tw_opR
  rw [if_pos (show (9 : Int) < 31 by decide), if_pos (show (15 : Int) < 31 by decide), if_neg (show ¬ (31 : Int) = 16 by decide), if_pos (show (25 : Int) < 31 by decide), if_pos (show (10 : Int) ≤ 31 by decide), if_pos (show (16 : Int) ≤ 31 by decide), if_neg (show ¬ (31 : Int) = 16 by decide)]
  exact Or.inr ⟨_, _, _, _, _, _, _, _, _, _, _, _, _, _, _, _, _, _, _, _, _, _, _, _, _, _, _, _, _, _, _, tw_ob13_t hc rfl, hr, x3⟩
set_option maxRecDepth 100000 in
theorem tw_out_28 {ok : Int → Int → Int → Prop} {cs : Int → Prop} {ps : Int → Int} {nc : Int} {R_values : Int} {R_nodeOf : Int → Int} {R_rowOf : Int → Int} {D_top : Int} {D_nodes : Int → Int} {R_dataEnd : Int} {VB_top : Int} {VB_row : Int → Int} {R_textEnd : Int} {R_texts : Int → Int} {D_forms : Int → Int} {D_counts : Int → Int} {D_numbers : Int → Int} {R_forms : Int → Int} {R_tags : Int → Int} {R_counts : Int → Int} {R_textsAt : Int → Int} {V_top : Int} {V_kinds : Int → Int} {V_numbers : Int → Int} {V_parts : Int → Int} {V_links : Int → Int} {R_valueKinds : Int → Int} {R_valueNumbers : Int → Int} {R_from : Int → Int} {R_length : Int → Int} {R_given : Int → Int} {R_firstGiven : Int → Int} {R_secondGiven : Int → Int} {D_depths : Int → Int} {D_weights : Int → Int} {m puts : Int} {N : Nat} {B_given R_of R_comes : Int → Int} (hN : 300 ≤ N) (h : tw_XV ok cs ps nc R_values R_nodeOf R_rowOf D_top D_nodes R_dataEnd VB_top VB_row R_textEnd R_texts D_forms D_counts D_numbers R_forms R_tags R_counts R_textsAt V_top V_kinds V_numbers V_parts V_links R_valueKinds R_valueNumbers R_from R_length R_given R_firstGiven R_secondGiven D_depths D_weights) (hT : tw_TOPS V_top D_top VB_top R_textEnd R_dataEnd m) (g0 : tw_vok cs V_top (B_given 0)) (k0 : V_kinds (B_given 0) = 4) (o0 : R_of 0 = ps (B_given 0)) (tw_g1 : tw_vok cs V_top (B_given 1)) (k1 : V_kinds (B_given 1) = 4) (o1 : R_of 1 = ps (B_given 1)) (f1 : D_forms (V_parts (B_given 1)) = 2) : tw_OUT ok cs ps nc R_values R_nodeOf R_rowOf D_top D_nodes R_dataEnd VB_top VB_row R_textEnd R_texts D_forms D_counts D_numbers R_forms R_tags R_counts R_textsAt V_top V_kinds V_numbers V_parts V_links R_valueKinds R_valueNumbers R_from R_length R_given R_firstGiven R_secondGiven D_depths D_weights N B_given puts R_of R_comes 28 := by
  have tr := tw_TOPS_r h hT
  obtain ⟨p0, q0, -⟩ := id g0
  obtain ⟨v0, v0', ⟨z0, -, -, n0, -, -, -, -, d0⟩, -⟩ := h.1 _ g0
  obtain ⟨dl0, dd0⟩ := d0 k0
  obtain ⟨dd01, dd02, dd03, dd04, dd05⟩ := id dd0
  have dn0 := h.2.1 (V_parts (B_given 0)) dd01 dd02
  have dn01 := dn0.1
  have dn02 := dn0.2.1
  have dn03 := dn0.2.2.1
  have df00 := dn0.2.2.2.2.2.1
  have df01 := dn0.2.2.2.2.2.2.1
  have dc00 := dn0.2.2.2.2.2.2.2.1
  have dc01 := dn0.2.2.2.2.2.2.2.2.1
  have dw00 := dn0.2.2.2.2.2.2.2.2.2.1
  have dw01 := dn0.2.2.2.2.2.2.2.2.2.2.1
  clear d0
  obtain ⟨p1, q1, -⟩ := id tw_g1
  obtain ⟨v1, v1', ⟨z1, -, -, n1, -, -, -, -, d1⟩, -⟩ := h.1 _ tw_g1
  obtain ⟨dl1, dd1⟩ := d1 k1
  obtain ⟨dd11, dd12, dd13, dd14, dd15⟩ := id dd1
  have dn1 := h.2.1 (V_parts (B_given 1)) dd11 dd12
  have dn11 := dn1.1
  have dn12 := dn1.2.1
  have dn13 := dn1.2.2.1
  have df10 := dn1.2.2.2.2.2.1
  have df11 := dn1.2.2.2.2.2.2.1
  have dc10 := dn1.2.2.2.2.2.2.2.1
  have dc11 := dn1.2.2.2.2.2.2.2.2.1
  have dw10 := dn1.2.2.2.2.2.2.2.2.2.1
  have dw11 := dn1.2.2.2.2.2.2.2.2.2.2.1
  clear d1
  have c1 := dd15 0 (by omega) (by omega)
  rw [show V_parts (B_given 1) + 0 = V_parts (B_given 1) by omega, show R_from (ps (B_given 1)) + 0 = R_from (ps (B_given 1)) by omega] at c1
  obtain ⟨cf, cc, -, -, -, -⟩ := c1
  have da := dn0.2.2.2.1
  have da' := dn0.2.2.2.2.1
  have db := dn1.2.2.2.1
  have db' := dn1.2.2.2.2.1
  by_cases c : D_nodes (V_parts (B_given 0)) + D_nodes (V_parts (B_given 1)) ≤ 200
  · obtain ⟨F1, T1, C1, A1, x1, x2, x3⟩ := tw_rCp (o := R_dataEnd + 1) (b := R_from (ps (B_given 0))) (n := D_nodes (V_parts (B_given 0))) (F := upZ R_forms R_dataEnd 2) (T := upZ R_tags R_dataEnd 0) (C := upZ R_counts R_dataEnd (D_counts (V_parts (B_given 1)) + 1)) (A := upZ R_textsAt R_dataEnd 0) (by omega) (by omega) (by omega) (by omega) (by omega) hN
    obtain ⟨F, T, C, A, y1, y2, y3⟩ := tw_rCp (o := R_dataEnd + 1 + D_nodes (V_parts (B_given 0))) (b := R_from (ps (B_given 1)) + 1) (n := D_nodes (V_parts (B_given 1)) - 1) (F := F1) (T := T1) (C := C1) (A := A1) (by omega) (by omega) (by omega) (by omega) (by omega) hN
    have lo : ∀ m, m < R_dataEnd → F m = R_forms m ∧ T m = R_tags m ∧ C m = R_counts m ∧ A m = R_textsAt m := fun m hm => by
      have z := y2 m (by omega)
      have w := x2 m (by omega)
      rw [tw_upN _ (by omega), tw_upN _ (by omega), tw_upN _ (by omega), tw_upN _ (by omega)] at w
      rw [z.1, z.2.1, z.2.2.1, z.2.2.2]
      exact w
    have ro : F R_dataEnd = 2 ∧ T R_dataEnd = 0 ∧ C R_dataEnd = D_counts (V_parts (B_given 1)) + 1 := by
      have z := y2 R_dataEnd (by omega)
      have w := x2 R_dataEnd (by omega)
      rw [tw_upS, tw_upS, tw_upS, tw_upS] at w
      rw [z.1, z.2.1, z.2.2.1]
      exact ⟨w.1, w.2.1, w.2.2.1⟩
    have mi1 : ∀ k, 1 ≤ k → k ≤ D_nodes (V_parts (B_given 0)) → F (R_dataEnd + k) = R_forms (R_from (ps (B_given 0)) + (k - 1)) ∧ T (R_dataEnd + k) = R_tags (R_from (ps (B_given 0)) + (k - 1)) ∧ C (R_dataEnd + k) = R_counts (R_from (ps (B_given 0)) + (k - 1)) ∧ A (R_dataEnd + k) = R_textsAt (R_from (ps (B_given 0)) + (k - 1)) := fun k k0 k1 => by
      have z := y2 (R_dataEnd + k) (by omega)
      have w := x3 (k - 1) (by omega) (by omega)
      rw [tw_upN _ (by omega), tw_upN _ (by omega), tw_upN _ (by omega), tw_upN _ (by omega), show R_dataEnd + 1 + (k - 1) = R_dataEnd + k by omega] at w
      rw [z.1, z.2.1, z.2.2.1, z.2.2.2]
      exact w
    have mi2 : ∀ k, 1 ≤ k → k < D_nodes (V_parts (B_given 1)) → F (R_dataEnd + (D_nodes (V_parts (B_given 0)) + k)) = R_forms (R_from (ps (B_given 1)) + k) ∧ T (R_dataEnd + (D_nodes (V_parts (B_given 0)) + k)) = R_tags (R_from (ps (B_given 1)) + k) ∧ C (R_dataEnd + (D_nodes (V_parts (B_given 0)) + k)) = R_counts (R_from (ps (B_given 1)) + k) ∧ A (R_dataEnd + (D_nodes (V_parts (B_given 0)) + k)) = R_textsAt (R_from (ps (B_given 1)) + k) := fun k k0 k1 => by
      have z := y3 (k - 1) (by omega) (by omega)
      rw [show R_dataEnd + 1 + D_nodes (V_parts (B_given 0)) + (k - 1) = R_dataEnd + (D_nodes (V_parts (B_given 0)) + k) by omega, show R_from (ps (B_given 1)) + 1 + (k - 1) = R_from (ps (B_given 1)) + k by omega] at z
      have w := x2 (R_from (ps (B_given 1)) + k) (by omega)
      rw [tw_upN _ (by omega), tw_upN _ (by omega), tw_upN _ (by omega), tw_upN _ (by omega)] at w
      rw [z.1, z.2.1, z.2.2.1, z.2.2.2]
      exact w
    have nr : ∀ (Fm Cn Nm Nd Dp Wt : Int → Int), tw_PRE D_top (V_parts (B_given 0)) (V_parts (B_given 1)) D_forms D_counts D_numbers D_nodes D_depths D_weights Fm Cn Nm Nd Dp Wt → ∀ k, 0 ≤ k → k < D_nodes (V_parts (B_given 0)) + D_nodes (V_parts (B_given 1)) → tw_NR VB_top VB_row R_textEnd R_texts Fm Cn Nm F T C A (D_top + k) (R_dataEnd + k) := by
      intro Fm Cn Nm Nd Dp Wt hp k k0 k1
      obtain ⟨⟨-, a2, a3⟩, ⟨-, b2, b3⟩, ⟨-, n2, n3⟩, -, -, -, r1, r2, r3, -⟩ := hp
      by_cases e : k = 0
      · subst e
        unfold tw_NR
        rw [show D_top + 0 = D_top by omega, show R_dataEnd + 0 = R_dataEnd by omega, r1, r2, r3]
        exact ⟨ro.1, ro.2.2, by omega, fun z => by omega, fun z => by omega, fun _ => ro.2.1⟩
      · by_cases e1 : k ≤ D_nodes (V_parts (B_given 0))
        · have w := mi1 k (by omega) e1
          have z := dd05 (k - 1) (by omega) (by omega)
          have u1 := a2 (V_parts (B_given 0) + (k - 1)) (by omega) (by omega)
          have u2 := b2 (V_parts (B_given 0) + (k - 1)) (by omega) (by omega)
          have u3 := n2 (V_parts (B_given 0) + (k - 1)) (by omega) (by omega)
          rw [show V_parts (B_given 0) + (k - 1) + (D_top + 1 - V_parts (B_given 0)) = D_top + k by omega] at u1 u2 u3
          exact tw_NR_cp z u1 u2 u3 w.1 w.2.1 w.2.2.1 w.2.2.2
        · have w := mi2 (k - D_nodes (V_parts (B_given 0))) (by omega) (by omega)
          rw [show R_dataEnd + (D_nodes (V_parts (B_given 0)) + (k - D_nodes (V_parts (B_given 0)))) = R_dataEnd + k by omega] at w
          have z := dd15 (k - D_nodes (V_parts (B_given 0))) (by omega) (by omega)
          have u1 := a3 (V_parts (B_given 1) + (k - D_nodes (V_parts (B_given 0)))) (by omega) (by omega)
          have u2 := b3 (V_parts (B_given 1) + (k - D_nodes (V_parts (B_given 0)))) (by omega) (by omega)
          have u3 := n3 (V_parts (B_given 1) + (k - D_nodes (V_parts (B_given 0)))) (by omega) (by omega)
          rw [show V_parts (B_given 1) + (k - D_nodes (V_parts (B_given 0))) + (D_top + D_nodes (V_parts (B_given 0)) - V_parts (B_given 1)) = D_top + k by omega] at u1 u2 u3
          exact tw_NR_cp z u1 u2 u3 w.1 w.2.1 w.2.2.1 w.2.2.2
    have dep : ∃ cm, f_Mod_depthOfData N F C R_comes R_dataEnd (D_nodes (V_parts (B_given 0)) + D_nodes (V_parts (B_given 1))) = some (max (D_depths (V_parts (B_given 0)) + 1) (D_depths (V_parts (B_given 1))), cm) := by
      have hg := tw_PRE_ghost (Nm := D_numbers) h.2.1 dd01 dd02 dd11 dd12
      have hD := tw_PRE_DR (B := 13) h.2.1 dd01 dd02 dd11 dd12 f1 c hg (by omega) (by rw [hg.2.2.2.2.2.2.2.2.2.2.1]; omega)
      have hn := nr _ _ _ _ _ _ hg
      have z := tw_depth_ok hD (by omega) (q := D_top) (d := R_dataEnd) (RFm := F) (RCn := C) (by omega) (by omega) (by
        rw [hg.2.2.2.2.2.2.2.2.2.1]
        exact ⟨by omega, by omega, fun k k0 k1 => ⟨(hn k k0 k1).1, (hn k k0 k1).2.1⟩⟩) (N := N) (by omega) R_comes
      rw [hg.2.2.2.2.2.2.2.2.2.1, hg.2.2.2.2.2.2.2.2.2.2.1] at z
      exact z
    obtain ⟨cm, hdep⟩ := dep
    have hR : ∀ X, (if max (D_depths (V_parts (B_given 0)) + 1) (D_depths (V_parts (B_given 1))) ≤ 12 then some (R_values, R_values + 1, R_dataEnd + (D_nodes (V_parts (B_given 0)) + D_nodes (V_parts (B_given 1))), (0 : Int), upZ R_valueKinds R_values 4, upZ R_valueNumbers R_values 0, upZ R_from R_values R_dataEnd, upZ R_length R_values (D_nodes (V_parts (B_given 0)) + D_nodes (V_parts (B_given 1))), upZ R_given R_values 0, F, T, C, A, cm) else some (0, R_values, R_dataEnd + (D_nodes (V_parts (B_given 0)) + D_nodes (V_parts (B_given 1))), 3, R_valueKinds, R_valueNumbers, R_from, R_length, R_given, F, T, C, A, cm)) = X → f_Mod_ofLists N R_values R_dataEnd 0 R_valueKinds R_valueNumbers R_from R_length R_given R_forms R_tags R_counts R_textsAt R_of R_comes 28 (ps (B_given 0)) (R_from (ps (B_given 0))) R_dataEnd = X := by
      intro X hX
      unfold f_Mod_ofLists
      rw [o1, cc, dl0, dl1]
      (first | refine tw_ite_t (by first | omega | (simp only [tw_gq]; omega)) ?_ | refine tw_ite_f (by first | omega | (simp only [tw_gq]; omega)) ?_); (first | refine tw_ite_t (by first | omega | (simp only [tw_gq]; omega)) ?_ | refine tw_ite_f (by first | omega | (simp only [tw_gq]; omega)) ?_); (first | refine tw_ite_t (by first | omega | (simp only [tw_gq]; omega)) ?_ | refine tw_ite_f (by first | omega | (simp only [tw_gq]; omega)) ?_); (first | refine tw_ite_t (by first | omega | (simp only [tw_gq]; omega)) ?_ | refine tw_ite_f (by first | omega | (simp only [tw_gq]; omega)) ?_); (first | refine tw_ite_t (by first | omega | (simp only [tw_gq]; omega)) ?_ | refine tw_ite_f (by first | omega | (simp only [tw_gq]; omega)) ?_); (first | refine tw_ite_t (by first | omega | (simp only [tw_gq]; omega)) ?_ | refine tw_ite_f (by first | omega | (simp only [tw_gq]; omega)) ?_); (first | refine tw_ite_t (by first | omega | (simp only [tw_gq]; omega)) ?_ | refine tw_ite_f (by first | omega | (simp only [tw_gq]; omega)) ?_); (first | refine tw_ite_t (by first | omega | (simp only [tw_gq]; omega)) ?_ | refine tw_ite_f (by first | omega | (simp only [tw_gq]; omega)) ?_); (first | refine tw_ite_t (by first | omega | (simp only [tw_gq]; omega)) ?_ | refine tw_ite_f (by first | omega | (simp only [tw_gq]; omega)) ?_); (first | refine tw_ite_t (by first | omega | (simp only [tw_gq]; omega)) ?_ | refine tw_ite_f (by first | omega | (simp only [tw_gq]; omega)) ?_); (first | refine tw_ite_t (by first | omega | (simp only [tw_gq]; omega)) ?_ | refine tw_ite_f (by first | omega | (simp only [tw_gq]; omega)) ?_); (first | refine tw_ite_t (by first | omega | (simp only [tw_gq]; omega)) ?_ | refine tw_ite_f (by first | omega | (simp only [tw_gq]; omega)) ?_); (first | refine tw_ite_t (by first | omega | (simp only [tw_gq]; omega)) ?_ | refine tw_ite_f (by first | omega | (simp only [tw_gq]; omega)) ?_)
      refine tw_ob5_t (tw_rPutD (by omega) (by omega)) ?_
      (first | refine tw_ite_t (by first | omega | (simp only [tw_gq]; omega)) ?_ | refine tw_ite_f (by first | omega | (simp only [tw_gq]; omega)) ?_)
      refine tw_ob5_t x1 ?_
      (first | refine tw_ite_t (by first | omega | (simp only [tw_gq]; omega)) ?_ | refine tw_ite_f (by first | omega | (simp only [tw_gq]; omega)) ?_); (first | refine tw_ite_t (by first | omega | (simp only [tw_gq]; omega)) ?_ | refine tw_ite_f (by first | omega | (simp only [tw_gq]; omega)) ?_)
      refine tw_ob5_t y1 ?_
      rw [show R_dataEnd + 1 + D_nodes (V_parts (B_given 0)) + (D_nodes (V_parts (B_given 1)) - 1) = R_dataEnd + (D_nodes (V_parts (B_given 0)) + D_nodes (V_parts (B_given 1))) by omega, show R_dataEnd + (D_nodes (V_parts (B_given 0)) + D_nodes (V_parts (B_given 1))) - R_dataEnd = D_nodes (V_parts (B_given 0)) + D_nodes (V_parts (B_given 1)) by omega]
      refine tw_ob2_t hdep ?_
      (first | refine tw_ite_t (by first | omega | (simp only [tw_gq]; omega)) ?_ | refine tw_ite_f (by first | omega | (simp only [tw_gq]; omega)) ?_)
      rw [← hX]
      by_cases cd : max (D_depths (V_parts (B_given 0)) + 1) (D_depths (V_parts (B_given 1))) ≤ 12
      · rw [if_pos cd, if_pos cd]
        refine tw_ob7_t (tw_rMkD (by omega) (by omega)) ?_
        rw [show R_dataEnd + (D_nodes (V_parts (B_given 0)) + D_nodes (V_parts (B_given 1))) - R_dataEnd = D_nodes (V_parts (B_given 0)) + D_nodes (V_parts (B_given 1)) by omega]
      · rw [if_neg cd, if_neg cd]
        exact tw_ob2_t (tw_fail_ok rfl) rfl
    by_cases cd : D_depths (V_parts (B_given 0)) < 12
    · obtain ⟨Fm, Cn, Nm, Nd, Dp, Wt, w1, w2⟩ := tw_prepend_ok (Nm := D_numbers) h.2.1 dd01 dd02 dd11 dd12 f1 c cd (by omega) (N := N) (by omega)
      have hc : f_Builtins_onLists N V_top V_kinds V_numbers V_parts V_links D_top D_forms D_counts D_numbers D_nodes D_depths D_weights B_given 28 = some (V_top, V_top + 1, upZ V_kinds V_top 4, upZ V_numbers V_top 0, upZ V_parts V_top D_top, upZ V_links V_top (-1), D_top + D_nodes (V_parts (B_given 0)) + D_nodes (V_parts (B_given 1)), Fm, Cn, Nm, Nd, Dp, Wt) := by
        unfold f_Builtins_onLists
        (first | refine tw_ite_t (by first | omega | (simp only [tw_gq]; omega)) ?_ | refine tw_ite_f (by first | omega | (simp only [tw_gq]; omega)) ?_)
        refine tw_bind_t (tw_vRo p0 q0 (by omega)) ?_
        refine tw_bind_t (tw_dC_in dd01 dd02 (by omega)) ?_
        (first | refine tw_ite_t (by first | omega | (simp only [tw_gq]; omega)) ?_ | refine tw_ite_f (by first | omega | (simp only [tw_gq]; omega)) ?_); (first | refine tw_ite_t (by first | omega | (simp only [tw_gq]; omega)) ?_ | refine tw_ite_f (by first | omega | (simp only [tw_gq]; omega)) ?_); (first | refine tw_ite_t (by first | omega | (simp only [tw_gq]; omega)) ?_ | refine tw_ite_f (by first | omega | (simp only [tw_gq]; omega)) ?_); (first | refine tw_ite_t (by first | omega | (simp only [tw_gq]; omega)) ?_ | refine tw_ite_f (by first | omega | (simp only [tw_gq]; omega)) ?_); (first | refine tw_ite_t (by first | omega | (simp only [tw_gq]; omega)) ?_ | refine tw_ite_f (by first | omega | (simp only [tw_gq]; omega)) ?_)
        refine tw_bind_t (tw_vRo p1 q1 (by omega)) ?_
        refine tw_ob8_t w1 ?_
        exact tw_ob6_t (tw_vOD (by omega) (by omega) (by omega)) rfl
      have hr : f_Mod_ofData N R_values R_textEnd R_dataEnd 0 puts R_valueKinds R_valueNumbers R_from R_length R_given R_texts R_forms R_tags R_counts R_textsAt R_of R_comes 28 = some (R_values, R_values + 1, R_textEnd, R_dataEnd + (D_nodes (V_parts (B_given 0)) + D_nodes (V_parts (B_given 1))), 0, puts, upZ R_valueKinds R_values 4, upZ R_valueNumbers R_values 0, upZ R_from R_values R_dataEnd, upZ R_length R_values (D_nodes (V_parts (B_given 0)) + D_nodes (V_parts (B_given 1))), upZ R_given R_values 0, R_texts, F, T, C, A, cm) := by
        unfold f_Mod_ofData
        rw [o0]
        (repeat (first | refine tw_ite_t (by first | omega | (simp only [tw_gq]; omega)) ?_ | refine tw_ite_f (by first | omega | (simp only [tw_gq]; omega)) ?_))
        exact tw_ob14_t (hR _ (by rw [if_pos (by omega)])) rfl
      have hDD := tw_PRE_DR (B := 12) h.2.1 dd01 dd02 dd11 dd12 f1 c w2 (by omega) (by rw [w2.2.2.2.2.2.2.2.2.2.2.1]; omega)
      have hn := nr _ _ _ _ _ _ w2
      obtain ⟨⟨a1, -⟩, ⟨b1, -⟩, ⟨n1', -⟩, ⟨d1, -⟩, -, -, r1, r2, r3, r4, r5, r6⟩ := w2
      have hm := tw_XV_grow (D_top' := D_top + D_nodes (V_parts (B_given 0)) + D_nodes (V_parts (B_given 1))) (D_numbers' := Nm) (VB_top' := VB_top) (VB_row' := VB_row) (R_textEnd' := R_textEnd) (R_texts' := R_texts) (R_dataEnd' := R_dataEnd + (D_nodes (V_parts (B_given 0)) + D_nodes (V_parts (B_given 1)))) (R_forms' := F) (R_tags' := T) (R_counts' := C) (R_textsAt' := A) h hDD (Int.le_refl _) (Int.le_refl _) tw_GR_refl tw_GR_refl (by omega) (by omega) (fun k hk => a1 k hk) (fun k hk => b1 k hk) (fun k hk => n1' k hk) (fun k hk => d1 k hk) (fun k hk => (lo k hk).1) (fun k hk => (lo k hk).2.1) (fun k hk => (lo k hk).2.2.1) (fun k hk => (lo k hk).2.2.2)
      have hdd : tw_DD (D_top + D_nodes (V_parts (B_given 0)) + D_nodes (V_parts (B_given 1))) Nd (R_dataEnd + (D_nodes (V_parts (B_given 0)) + D_nodes (V_parts (B_given 1)))) VB_top VB_row R_textEnd R_texts Fm Cn Nm F T C A D_top R_dataEnd :=
        ⟨by omega, by omega, by omega, by rw [r4]; omega, fun k k0 k1 => hn k k0 (by rw [r4] at k1; exact k1)⟩
      unfold tw_OUT tw_opC tw_opR
      rw [if_pos (show (9 : Int) < 28 by decide), if_pos (show (15 : Int) < 28 by decide), if_neg (show ¬ (28 : Int) = 16 by decide), if_pos (show (25 : Int) < 28 by decide), if_pos (show (10 : Int) ≤ 28 by decide), if_pos (show (16 : Int) ≤ 28 by decide), if_neg (show ¬ (28 : Int) = 16 by decide)]
      exact Or.inr ⟨_, _, _, _, _, _, _, _, _, _, _, _, _, _, _, _, _, _, _, _, _, _, _, _, _, _, _, _, _, _, _, tw_ob13_t hc rfl, hr, tw_RSL_mk (sz := D_nodes (V_parts (B_given 0)) + D_nodes (V_parts (B_given 1)) + (D_weights (V_parts (B_given 0)) + D_weights (V_parts (B_given 1))) / 8) hm (tw_GR_up (by omega)) (tw_GR_up (by omega)) (by omega) (by omega) (fun z => by omega) (by omega) (fun z => by omega) (fun _ => by rw [tw_upS, tw_upS, r4]; exact ⟨rfl, hdd⟩) (by rw [if_neg (by omega), if_pos rfl, r4, r6]) (by omega) (by omega) (by omega) (by omega) (by omega)⟩
    · have hc : f_Builtins_onLists N V_top V_kinds V_numbers V_parts V_links D_top D_forms D_counts D_numbers D_nodes D_depths D_weights B_given 28 = some (-1, V_top, V_kinds, V_numbers, V_parts, V_links, D_top, D_forms, D_counts, D_numbers, D_nodes, D_depths, D_weights) := by
        unfold f_Builtins_onLists
        (first | refine tw_ite_t (by first | omega | (simp only [tw_gq]; omega)) ?_ | refine tw_ite_f (by first | omega | (simp only [tw_gq]; omega)) ?_)
        refine tw_bind_t (tw_vRo p0 q0 (by omega)) ?_
        refine tw_bind_t (tw_dC_in dd01 dd02 (by omega)) ?_
        (first | refine tw_ite_t (by first | omega | (simp only [tw_gq]; omega)) ?_ | refine tw_ite_f (by first | omega | (simp only [tw_gq]; omega)) ?_); (first | refine tw_ite_t (by first | omega | (simp only [tw_gq]; omega)) ?_ | refine tw_ite_f (by first | omega | (simp only [tw_gq]; omega)) ?_); (first | refine tw_ite_t (by first | omega | (simp only [tw_gq]; omega)) ?_ | refine tw_ite_f (by first | omega | (simp only [tw_gq]; omega)) ?_); (first | refine tw_ite_t (by first | omega | (simp only [tw_gq]; omega)) ?_ | refine tw_ite_f (by first | omega | (simp only [tw_gq]; omega)) ?_); (first | refine tw_ite_t (by first | omega | (simp only [tw_gq]; omega)) ?_ | refine tw_ite_f (by first | omega | (simp only [tw_gq]; omega)) ?_)
        refine tw_bind_t (tw_vRo p1 q1 (by omega)) ?_
        refine tw_ob8_t (a1 := -1) (a2 := D_top) (a3 := D_forms) (a4 := D_counts) (a5 := D_numbers) (a6 := D_nodes) (a7 := D_depths) (a8 := D_weights) ?_ (tw_ob6_t tw_vODn rfl)
        unfold f_DataRow_prepend
        refine tw_bind_t (tw_dN_in dd01 dd02 (by omega)) ?_
        refine tw_bind_t (tw_dN_in dd11 dd12 (by omega)) ?_
        (first | refine tw_ite_t (by first | omega | (simp only [tw_gq]; omega)) ?_ | refine tw_ite_f (by first | omega | (simp only [tw_gq]; omega)) ?_); (first | refine tw_ite_t (by first | omega | (simp only [tw_gq]; omega)) ?_ | refine tw_ite_f (by first | omega | (simp only [tw_gq]; omega)) ?_)
        refine tw_bind_t (tw_dD_in dd01 dd02 (by omega)) ?_
        (first | refine tw_ite_t (by first | omega | (simp only [tw_gq]; omega)) ?_ | refine tw_ite_f (by first | omega | (simp only [tw_gq]; omega)) ?_); (first | refine tw_ite_t (by first | omega | (simp only [tw_gq]; omega)) ?_ | refine tw_ite_f (by first | omega | (simp only [tw_gq]; omega)) ?_)
        rfl
      have hr : f_Mod_ofData N R_values R_textEnd R_dataEnd 0 puts R_valueKinds R_valueNumbers R_from R_length R_given R_texts R_forms R_tags R_counts R_textsAt R_of R_comes 28 = some (0, R_values, R_textEnd, R_dataEnd + (D_nodes (V_parts (B_given 0)) + D_nodes (V_parts (B_given 1))), 3, puts, R_valueKinds, R_valueNumbers, R_from, R_length, R_given, R_texts, F, T, C, A, cm) := by
        unfold f_Mod_ofData
        rw [o0]
        (repeat (first | refine tw_ite_t (by first | omega | (simp only [tw_gq]; omega)) ?_ | refine tw_ite_f (by first | omega | (simp only [tw_gq]; omega)) ?_))
        exact tw_ob14_t (hR _ (by rw [if_neg (by omega)])) rfl
      unfold tw_OUT tw_opC tw_opR
      rw [if_pos (show (9 : Int) < 28 by decide), if_pos (show (15 : Int) < 28 by decide), if_neg (show ¬ (28 : Int) = 16 by decide), if_pos (show (25 : Int) < 28 by decide), if_pos (show (10 : Int) ≤ 28 by decide), if_pos (show (16 : Int) ≤ 28 by decide), if_neg (show ¬ (28 : Int) = 16 by decide)]
      exact Or.inl ⟨_, _, tw_ob13_t hc rfl, hr, rfl⟩
  · have hc : f_Builtins_onLists N V_top V_kinds V_numbers V_parts V_links D_top D_forms D_counts D_numbers D_nodes D_depths D_weights B_given 28 = some (-1, V_top, V_kinds, V_numbers, V_parts, V_links, D_top, D_forms, D_counts, D_numbers, D_nodes, D_depths, D_weights) := by
      unfold f_Builtins_onLists
      (first | refine tw_ite_t (by first | omega | (simp only [tw_gq]; omega)) ?_ | refine tw_ite_f (by first | omega | (simp only [tw_gq]; omega)) ?_)
      refine tw_bind_t (tw_vRo p0 q0 (by omega)) ?_
      refine tw_bind_t (tw_dC_in dd01 dd02 (by omega)) ?_
      (first | refine tw_ite_t (by first | omega | (simp only [tw_gq]; omega)) ?_ | refine tw_ite_f (by first | omega | (simp only [tw_gq]; omega)) ?_); (first | refine tw_ite_t (by first | omega | (simp only [tw_gq]; omega)) ?_ | refine tw_ite_f (by first | omega | (simp only [tw_gq]; omega)) ?_); (first | refine tw_ite_t (by first | omega | (simp only [tw_gq]; omega)) ?_ | refine tw_ite_f (by first | omega | (simp only [tw_gq]; omega)) ?_); (first | refine tw_ite_t (by first | omega | (simp only [tw_gq]; omega)) ?_ | refine tw_ite_f (by first | omega | (simp only [tw_gq]; omega)) ?_); (first | refine tw_ite_t (by first | omega | (simp only [tw_gq]; omega)) ?_ | refine tw_ite_f (by first | omega | (simp only [tw_gq]; omega)) ?_)
      refine tw_bind_t (tw_vRo p1 q1 (by omega)) ?_
      refine tw_ob8_t (a1 := -1) (a2 := D_top) (a3 := D_forms) (a4 := D_counts) (a5 := D_numbers) (a6 := D_nodes) (a7 := D_depths) (a8 := D_weights) ?_ (tw_ob6_t tw_vODn rfl)
      unfold f_DataRow_prepend
      refine tw_bind_t (tw_dN_in dd01 dd02 (by omega)) ?_
      refine tw_bind_t (tw_dN_in dd11 dd12 (by omega)) ?_
      (first | refine tw_ite_t (by first | omega | (simp only [tw_gq]; omega)) ?_ | refine tw_ite_f (by first | omega | (simp only [tw_gq]; omega)) ?_); (first | refine tw_ite_t (by first | omega | (simp only [tw_gq]; omega)) ?_ | refine tw_ite_f (by first | omega | (simp only [tw_gq]; omega)) ?_)
      rfl
    have hr : f_Mod_ofData N R_values R_textEnd R_dataEnd 0 puts R_valueKinds R_valueNumbers R_from R_length R_given R_texts R_forms R_tags R_counts R_textsAt R_of R_comes 28 = some (0, R_values, R_textEnd, R_dataEnd, 3, puts, R_valueKinds, R_valueNumbers, R_from, R_length, R_given, R_texts, R_forms, R_tags, R_counts, R_textsAt, R_comes) := by
      unfold f_Mod_ofData
      rw [o0]
      (repeat (first | refine tw_ite_t (by first | omega | (simp only [tw_gq]; omega)) ?_ | refine tw_ite_f (by first | omega | (simp only [tw_gq]; omega)) ?_))
      refine tw_ob14_t (a1 := 0) (a2 := R_values) (a3 := R_dataEnd) (a4 := 3) (a5 := R_valueKinds) (a6 := R_valueNumbers) (a7 := R_from) (a8 := R_length) (a9 := R_given) (a10 := R_forms) (a11 := R_tags) (a12 := R_counts) (a13 := R_textsAt) (a14 := R_comes) ?_ rfl
      unfold f_Mod_ofLists
      rw [o1, dl0, dl1]
      (first | refine tw_ite_t (by first | omega | (simp only [tw_gq]; omega)) ?_ | refine tw_ite_f (by first | omega | (simp only [tw_gq]; omega)) ?_); (first | refine tw_ite_t (by first | omega | (simp only [tw_gq]; omega)) ?_ | refine tw_ite_f (by first | omega | (simp only [tw_gq]; omega)) ?_); (first | refine tw_ite_t (by first | omega | (simp only [tw_gq]; omega)) ?_ | refine tw_ite_f (by first | omega | (simp only [tw_gq]; omega)) ?_); (first | refine tw_ite_t (by first | omega | (simp only [tw_gq]; omega)) ?_ | refine tw_ite_f (by first | omega | (simp only [tw_gq]; omega)) ?_); (first | refine tw_ite_t (by first | omega | (simp only [tw_gq]; omega)) ?_ | refine tw_ite_f (by first | omega | (simp only [tw_gq]; omega)) ?_); (first | refine tw_ite_t (by first | omega | (simp only [tw_gq]; omega)) ?_ | refine tw_ite_f (by first | omega | (simp only [tw_gq]; omega)) ?_); (first | refine tw_ite_t (by first | omega | (simp only [tw_gq]; omega)) ?_ | refine tw_ite_f (by first | omega | (simp only [tw_gq]; omega)) ?_); (first | refine tw_ite_t (by first | omega | (simp only [tw_gq]; omega)) ?_ | refine tw_ite_f (by first | omega | (simp only [tw_gq]; omega)) ?_); (first | refine tw_ite_t (by first | omega | (simp only [tw_gq]; omega)) ?_ | refine tw_ite_f (by first | omega | (simp only [tw_gq]; omega)) ?_); (first | refine tw_ite_t (by first | omega | (simp only [tw_gq]; omega)) ?_ | refine tw_ite_f (by first | omega | (simp only [tw_gq]; omega)) ?_); (first | refine tw_ite_t (by first | omega | (simp only [tw_gq]; omega)) ?_ | refine tw_ite_f (by first | omega | (simp only [tw_gq]; omega)) ?_)
      exact tw_ob2_t (tw_fail_ok rfl) rfl
    unfold tw_OUT tw_opC tw_opR
    rw [if_pos (show (9 : Int) < 28 by decide), if_pos (show (15 : Int) < 28 by decide), if_neg (show ¬ (28 : Int) = 16 by decide), if_pos (show (25 : Int) < 28 by decide), if_pos (show (10 : Int) ≤ 28 by decide), if_pos (show (16 : Int) ≤ 28 by decide), if_neg (show ¬ (28 : Int) = 16 by decide)]
    exact Or.inl ⟨_, _, tw_ob13_t hc rfl, hr, rfl⟩
