set_option maxRecDepth 100000 in
def tw_InvR (D_top : Int) (D_nodes : Int → Int) (R_dataEnd : Int) (VB_top : Int) (VB_row : Int → Int) (R_textEnd : Int) (R_texts : Int → Int) (D_forms : Int → Int) (D_counts : Int → Int) (D_numbers : Int → Int) (R_forms : Int → Int) (R_tags : Int → Int) (R_counts : Int → Int) (R_textsAt : Int → Int) (V_top : Int) (V_kinds : Int → Int) (V_numbers : Int → Int) (V_parts : Int → Int) (V_links : Int → Int) (R_valueKinds : Int → Int) (R_valueNumbers : Int → Int) (R_from : Int → Int) (R_length : Int → Int) (D_depths : Int → Int) (D_weights : Int → Int) (an va st me wm ra rs rm rw rr : Int) : Prop := an = ra ∧ -1 ≤ an ∧ an ≤ 6 ∧ (¬ an = -1 → st = rs ∧ me = rm ∧ wm = rw ∧ 0 ≤ st ∧ st ≤ 20000 ∧ 0 ≤ me ∧ me ≤ 3000 ∧ 0 ≤ wm ∧ wm ≤ 400) ∧ (an = 0 → tw_RESV D_top D_nodes R_dataEnd VB_top VB_row R_textEnd R_texts D_forms D_counts D_numbers R_forms R_tags R_counts R_textsAt V_top V_kinds V_numbers V_parts V_links R_valueKinds R_valueNumbers R_from R_length D_depths D_weights va rr)
set_option maxRecDepth 100000 in
def tw_Inv2 : jInv := fun ci ca mi ma => tw_InvT (ci 1) (ci 2) (ca 0) (ca 1) (ca 2) (ca 3) (ca 4) (mi 1) (mi 2) (ma 0) (ma 1) (ma 2) (ma 3) (ma 4) (ma 5) (ma 6) ∧ tw_InvR (ci 9) (ca 13) (mi 5) (ci 8) (ca 9) (mi 4) (ma 16) (ca 10) (ca 11) (ca 12) (ma 17) (ma 18) (ma 19) (ma 20) (ci 7) (ca 5) (ca 6) (ca 7) (ca 8) (ma 7) (ma 8) (ma 9) (ma 10) (ca 14) (ca 15) (ci 0) (ci 6) (ci 10) (ci 11) (ci 16) (mi 10) (mi 11) (mi 12) (mi 9) (mi 16)
set_option maxRecDepth 100000 in
theorem tw_InvT_0 {K A F L TB RK RN RF RS RZ RT RE : Int → Int} : tw_InvT 0 0 K A F L TB 0 0 RK RN RF RS RZ RT RE :=
  ⟨rfl, rfl, Int.le_refl _, Int.le_refl _, by decide, fun _ => rfl, fun h => by omega, fun k k0 k1 => by omega, fun j k j0 jk k1 => by omega, fun n n0 n1 => by omega⟩
set_option maxRecDepth 100000 in
theorem tw_inv_0 : tw_Inv2 ci0 ca0 mi0 ma0 := by
  refine ⟨tw_InvT_0, ?_⟩
  refine ⟨rfl, by decide, by decide, fun h => absurd rfl h, fun h => ?_⟩
  have : (-1 : Int) = 0 := h
  omega
set_option maxRecDepth 100000 in
theorem tw_sim_clear : Sim_clear tw_Inv2 := by
  intro ci ca mi ma h
  exact ⟨_, _, rfl, rfl, tw_InvT_0, h.2⟩
set_option maxRecDepth 100000 in
theorem tw_sim_node : Sim_node tw_Inv2 := by
  intro ci ca mi ma u1 u2 h h1 h2
  obtain ⟨hT, hR⟩ := h
  obtain ⟨t1, t2, t3, t4, t5, -⟩ := id hT
  have hk := tw_rI_iff.1 h1
  by_cases ho : tw_okA (u1) u2
  · have hk' : 0 ≤ u1 ∧ u1 ≤ 11 ∧ ¬ u1 = 8 := by unfold tw_okA at ho; omega
    have hpr : 0 ≤ tw_parts u1 ∧ tw_parts u1 ≤ 2 := by unfold tw_parts; split <;> (try split) <;> omega
    by_cases hc : tw_parts u1 ≤ mi 2 ∧ mi 1 < 200
    · have p := tw_push_ok (a := u2) hT hc.2 (by omega) (by unfold tw_okA at ho; omega) hc.1
      have r := tw_node_ok (th := mi 0) hT hc.2 h1 h2 ho hc.1
      have i := tw_InvT_pushed hT hc.2 (by omega) h2 (Or.inl ho) hc.1
      refine Or.inl ⟨_, _, (?_ : f_Cek_node (ci 1) (ci 2) (ca 0) (ca 1) (ca 2) (ca 3) u1 u2 = some (ci 2 + (1 - tw_parts u1), ci 1 + 1, ci 2 + (1 - tw_parts u1), _, _, _, _)), r, rfl, ?_, ?_, i, hR⟩
      · unfold f_Cek_node
        refine tw_bind_t (tw_allows_yes h1 h2 ho) ?_
        (first | refine tw_ite_t (by first | omega | (simp only [tw_gq]; omega)) ?_ | refine tw_ite_f (by first | omega | (simp only [tw_gq]; omega)) ?_); (first | refine tw_ite_t (by first | omega | (simp only [tw_gq]; omega)) ?_ | refine tw_ite_f (by first | omega | (simp only [tw_gq]; omega)) ?_)
        refine tw_bind_t (r := ci 2) rfl ?_
        refine tw_bind_t (tw_partsOf_ok h1) ?_
        (first | refine tw_ite_t (by first | omega | (simp only [tw_gq]; omega)) ?_ | refine tw_ite_f (by first | omega | (simp only [tw_gq]; omega)) ?_); (first | refine tw_ite_t (by first | omega | (simp only [tw_gq]; omega)) ?_ | refine tw_ite_f (by first | omega | (simp only [tw_gq]; omega)) ?_)
        refine tw_bind_t (r := 0) (by unfold f_Terms_isFull; (repeat (first | refine tw_ite_t (by first | omega | (simp only [tw_gq]; omega)) ?_ | refine tw_ite_f (by first | omega | (simp only [tw_gq]; omega)) ?_)); rfl) ?_
        (first | refine tw_ite_t (by first | omega | (simp only [tw_gq]; omega)) ?_ | refine tw_ite_f (by first | omega | (simp only [tw_gq]; omega)) ?_); (first | refine tw_ite_t (by first | omega | (simp only [tw_gq]; omega)) ?_ | refine tw_ite_f (by first | omega | (simp only [tw_gq]; omega)) ?_)
        refine tw_ob6_t p ?_
        rfl
      · show rI (ci 2 + (1 - tw_parts u1)) = true
        rw [tw_rI_iff]; omega
      · show ci 2 + (1 - tw_parts u1) = mi 2 + 1 - tw_parts u1
        omega
    · refine Or.inr (Or.inr ⟨_, ?_, (?_ : f_Mod_node (mi 0) (mi 1) (mi 2) (ma 0) (ma 1) (ma 2) (ma 3) (ma 4) (ma 6) u1 u2 = some (0, 2, mi 1, mi 2, ma 0, ma 1, ma 2, ma 3, ma 4, ma 6)), rfl, hT, hR⟩)
      · unfold t_Cek_node
        refine tw_bind_t (tw_allows_yes h1 h2 ho) ?_
        (first | refine tw_ite_t (by first | omega | (simp only [tw_gq]; omega)) ?_ | refine tw_ite_f (by first | omega | (simp only [tw_gq]; omega)) ?_); (first | refine tw_ite_t (by first | omega | (simp only [tw_gq]; omega)) ?_ | refine tw_ite_f (by first | omega | (simp only [tw_gq]; omega)) ?_)
        refine tw_bind_t (r := ci 2) rfl ?_
        refine tw_bind_t (tw_partsOf_ok h1) ?_
        (first | refine tw_ite_t (by first | omega | (simp only [tw_gq]; omega)) ?_ | refine tw_ite_f (by first | omega | (simp only [tw_gq]; omega)) ?_)
        by_cases c1 : ci 2 < tw_parts u1
        · (first | refine tw_ite_t (by first | omega | (simp only [tw_gq]; omega)) ?_ | refine tw_ite_f (by first | omega | (simp only [tw_gq]; omega)) ?_); rfl
        · (first | refine tw_ite_t (by first | omega | (simp only [tw_gq]; omega)) ?_ | refine tw_ite_f (by first | omega | (simp only [tw_gq]; omega)) ?_)
          refine tw_bind_t (r := 1) (by unfold f_Terms_isFull; (repeat (first | refine tw_ite_t (by first | omega | (simp only [tw_gq]; omega)) ?_ | refine tw_ite_f (by first | omega | (simp only [tw_gq]; omega)) ?_)); rfl) ?_
          (first | refine tw_ite_t (by first | omega | (simp only [tw_gq]; omega)) ?_ | refine tw_ite_f (by first | omega | (simp only [tw_gq]; omega)) ?_); (first | refine tw_ite_t (by first | omega | (simp only [tw_gq]; omega)) ?_ | refine tw_ite_f (by first | omega | (simp only [tw_gq]; omega)) ?_); rfl
      · unfold f_Mod_node
        (first | refine tw_ite_t (by first | omega | (simp only [tw_gq]; omega)) ?_ | refine tw_ite_f (by first | omega | (simp only [tw_gq]; omega)) ?_); (first | refine tw_ite_t (by first | omega | (simp only [tw_gq]; omega)) ?_ | refine tw_ite_f (by first | omega | (simp only [tw_gq]; omega)) ?_); (first | refine tw_ite_t (by first | omega | (simp only [tw_gq]; omega)) ?_ | refine tw_ite_f (by first | omega | (simp only [tw_gq]; omega)) ?_); (first | refine tw_ite_t (by first | omega | (simp only [tw_gq]; omega)) ?_ | refine tw_ite_f (by first | omega | (simp only [tw_gq]; omega)) ?_); (first | refine tw_ite_t (by first | omega | (simp only [tw_gq]; omega)) ?_ | refine tw_ite_f (by first | omega | (simp only [tw_gq]; omega)) ?_); (first | refine tw_ite_t (by first | omega | (simp only [tw_gq]; omega)) ?_ | refine tw_ite_f (by first | omega | (simp only [tw_gq]; omega)) ?_)
        refine tw_bind_t (tw_isArg_yes h1 h2 ho) ?_
        (first | refine tw_ite_t (by first | omega | (simp only [tw_gq]; omega)) ?_ | refine tw_ite_f (by first | omega | (simp only [tw_gq]; omega)) ?_); (first | refine tw_ite_t (by first | omega | (simp only [tw_gq]; omega)) ?_ | refine tw_ite_f (by first | omega | (simp only [tw_gq]; omega)) ?_)
        refine tw_bind_t (tw_takes_ok h1) ?_
        (first | refine tw_ite_t (by first | omega | (simp only [tw_gq]; omega)) ?_ | refine tw_ite_f (by first | omega | (simp only [tw_gq]; omega)) ?_)
        by_cases c1 : mi 2 < tw_parts u1
        · (first | refine tw_ite_t (by first | omega | (simp only [tw_gq]; omega)) ?_ | refine tw_ite_f (by first | omega | (simp only [tw_gq]; omega)) ?_); rfl
        · (first | refine tw_ite_t (by first | omega | (simp only [tw_gq]; omega)) ?_ | refine tw_ite_f (by first | omega | (simp only [tw_gq]; omega)) ?_); (first | refine tw_ite_t (by first | omega | (simp only [tw_gq]; omega)) ?_ | refine tw_ite_f (by first | omega | (simp only [tw_gq]; omega)) ?_); (first | refine tw_ite_t (by first | omega | (simp only [tw_gq]; omega)) ?_ | refine tw_ite_f (by first | omega | (simp only [tw_gq]; omega)) ?_); rfl
  · refine Or.inr (Or.inl ⟨_, ?_, (?_ : f_Mod_node (mi 0) (mi 1) (mi 2) (ma 0) (ma 1) (ma 2) (ma 3) (ma 4) (ma 6) u1 u2 = some (0, 1, mi 1, mi 2, ma 0, ma 1, ma 2, ma 3, ma 4, ma 6)), rfl, hT, hR⟩)
    · unfold t_Cek_node
      refine tw_bind_t (tw_allows_no h1 h2 ho) ?_
      (first | refine tw_ite_t (by first | omega | (simp only [tw_gq]; omega)) ?_ | refine tw_ite_f (by first | omega | (simp only [tw_gq]; omega)) ?_); (first | refine tw_ite_t (by first | omega | (simp only [tw_gq]; omega)) ?_ | refine tw_ite_f (by first | omega | (simp only [tw_gq]; omega)) ?_); rfl
    · unfold f_Mod_node
      by_cases c0 : u1 < 0
      · (first | refine tw_ite_t (by first | omega | (simp only [tw_gq]; omega)) ?_ | refine tw_ite_f (by first | omega | (simp only [tw_gq]; omega)) ?_); (first | refine tw_ite_t (by first | omega | (simp only [tw_gq]; omega)) ?_ | refine tw_ite_f (by first | omega | (simp only [tw_gq]; omega)) ?_); rfl
      · by_cases c1 : 11 < u1
        · (first | refine tw_ite_t (by first | omega | (simp only [tw_gq]; omega)) ?_ | refine tw_ite_f (by first | omega | (simp only [tw_gq]; omega)) ?_); (first | refine tw_ite_t (by first | omega | (simp only [tw_gq]; omega)) ?_ | refine tw_ite_f (by first | omega | (simp only [tw_gq]; omega)) ?_); (first | refine tw_ite_t (by first | omega | (simp only [tw_gq]; omega)) ?_ | refine tw_ite_f (by first | omega | (simp only [tw_gq]; omega)) ?_); (first | refine tw_ite_t (by first | omega | (simp only [tw_gq]; omega)) ?_ | refine tw_ite_f (by first | omega | (simp only [tw_gq]; omega)) ?_); rfl
        · by_cases c8 : u1 = 8
          · (first | refine tw_ite_t (by first | omega | (simp only [tw_gq]; omega)) ?_ | refine tw_ite_f (by first | omega | (simp only [tw_gq]; omega)) ?_); (first | refine tw_ite_t (by first | omega | (simp only [tw_gq]; omega)) ?_ | refine tw_ite_f (by first | omega | (simp only [tw_gq]; omega)) ?_); (first | refine tw_ite_t (by first | omega | (simp only [tw_gq]; omega)) ?_ | refine tw_ite_f (by first | omega | (simp only [tw_gq]; omega)) ?_); (first | refine tw_ite_t (by first | omega | (simp only [tw_gq]; omega)) ?_ | refine tw_ite_f (by first | omega | (simp only [tw_gq]; omega)) ?_); (first | refine tw_ite_t (by first | omega | (simp only [tw_gq]; omega)) ?_ | refine tw_ite_f (by first | omega | (simp only [tw_gq]; omega)) ?_); (first | refine tw_ite_t (by first | omega | (simp only [tw_gq]; omega)) ?_ | refine tw_ite_f (by first | omega | (simp only [tw_gq]; omega)) ?_); rfl
          · (first | refine tw_ite_t (by first | omega | (simp only [tw_gq]; omega)) ?_ | refine tw_ite_f (by first | omega | (simp only [tw_gq]; omega)) ?_); (first | refine tw_ite_t (by first | omega | (simp only [tw_gq]; omega)) ?_ | refine tw_ite_f (by first | omega | (simp only [tw_gq]; omega)) ?_); (first | refine tw_ite_t (by first | omega | (simp only [tw_gq]; omega)) ?_ | refine tw_ite_f (by first | omega | (simp only [tw_gq]; omega)) ?_); (first | refine tw_ite_t (by first | omega | (simp only [tw_gq]; omega)) ?_ | refine tw_ite_f (by first | omega | (simp only [tw_gq]; omega)) ?_); (first | refine tw_ite_t (by first | omega | (simp only [tw_gq]; omega)) ?_ | refine tw_ite_f (by first | omega | (simp only [tw_gq]; omega)) ?_); (first | refine tw_ite_t (by first | omega | (simp only [tw_gq]; omega)) ?_ | refine tw_ite_f (by first | omega | (simp only [tw_gq]; omega)) ?_)
            refine tw_bind_t (tw_isArg_no h1 h2 ho (by omega) (by omega) c8) ?_
            (first | refine tw_ite_t (by first | omega | (simp only [tw_gq]; omega)) ?_ | refine tw_ite_f (by first | omega | (simp only [tw_gq]; omega)) ?_); (first | refine tw_ite_t (by first | omega | (simp only [tw_gq]; omega)) ?_ | refine tw_ite_f (by first | omega | (simp only [tw_gq]; omega)) ?_); rfl
set_option maxRecDepth 100000 in
theorem tw_sim_bytes : Sim_bytes tw_Inv2 := by
  intro ci ca mi ma u1 u2 h h1 h2
  obtain ⟨hT, hR⟩ := h
  obtain ⟨t1, t2, t3, t4, t5, -⟩ := id hT
  have hk := tw_rI_iff.1 h2
  by_cases ho : 0 ≤ u2 ∧ u2 ≤ 8
  · by_cases hc : mi 1 < 200
    · have p8 : tw_parts 8 = 0 := by decide
      have p := tw_push_ok (k := 8) (a := 0) hT hc (by omega) (by omega) (by rw [p8]; omega)
      have i := tw_InvT_pushed (k := 8) (a := 0) hT hc (by omega) (by decide) (Or.inr ⟨rfl, rfl⟩) (by rw [p8]; omega)
      have e1 : tw_pRF (ca 2) (mi 1) 8 = -1 := by unfold tw_pRF; rw [if_neg (by decide), if_neg (by decide)]
      have e2 : tw_pRS (mi 1) 8 = -1 := by unfold tw_pRS; rw [if_neg (by decide)]
      have e3 : mi 1 - tw_pF (ca 2) (mi 1) 8 + 1 = 1 := by unfold tw_pF; rw [if_neg (by decide), if_neg (by decide)]; omega
      rw [p8] at p i
      rw [e1, e2, e3] at i
      have k8 : upZ (ca 0) (ci 1) 8 (mi 1 + 1 - 1) = 8 := by rw [show mi 1 + 1 - 1 = ci 1 by omega, tw_upS]
      have a8 : upZ (ca 1) (ci 1) 0 (mi 1 + 1 - 1) = 0 := by rw [show mi 1 + 1 - 1 = ci 1 by omega, tw_upS]
      obtain ⟨TB', RN', RT', x1, x2, x3⟩ := tw_lengthen_ok (x := u1) (n := u2) i (by omega) k8 h1 ho (by rw [a8]; omega)
      refine Or.inl ⟨9, 9, _, _, (?_ : f_Cek_bytes 9 (ci 1) (ci 2) (ca 0) (ca 1) (ca 2) (ca 3) (ca 4) u1 u2 = some (ci 2 + (1 - 0), ci 1 + 1, ci 2 + (1 - 0), upZ (ca 0) (ci 1) 8, upZ (upZ (ca 1) (ci 1) 0) (mi 1 + 1 - 1) (upZ (ca 1) (ci 1) 0 (mi 1 + 1 - 1) + u2), upZ (ca 2) (ci 1) (tw_pF (ca 2) (ci 1) 8), upZ (ca 3) (ci 1) (tw_pL (ca 2) (ca 3) (ci 1) 8 0), TB')), (?_ : f_Mod_bytes 9 (mi 0) (mi 1) (mi 2) (ma 0) (ma 1) (ma 2) (ma 3) (ma 4) (ma 5) (ma 6) u1 u2 = some (mi 2 + 1, 0, mi 1 + 1, mi 2 + 1, upZ (ma 0) (mi 1) 8, RN', upZ (ma 2) (mi 1) (-1), upZ (ma 3) (mi 1) (-1), upZ (ma 4) (mi 1) 1, RT', upZ (ma 6) (mi 2) (mi 1))), rfl, ?_, ?_, ?_, hR⟩
      · unfold f_Cek_bytes
        (first | refine tw_ite_t (by first | omega | (simp only [tw_gq]; omega)) ?_ | refine tw_ite_f (by first | omega | (simp only [tw_gq]; omega)) ?_); (first | refine tw_ite_t (by first | omega | (simp only [tw_gq]; omega)) ?_ | refine tw_ite_f (by first | omega | (simp only [tw_gq]; omega)) ?_); (first | refine tw_ite_t (by first | omega | (simp only [tw_gq]; omega)) ?_ | refine tw_ite_f (by first | omega | (simp only [tw_gq]; omega)) ?_); (first | refine tw_ite_t (by first | omega | (simp only [tw_gq]; omega)) ?_ | refine tw_ite_f (by first | omega | (simp only [tw_gq]; omega)) ?_)
        refine tw_bind_t (r := 0) (by unfold f_Terms_isFull; (repeat (first | refine tw_ite_t (by first | omega | (simp only [tw_gq]; omega)) ?_ | refine tw_ite_f (by first | omega | (simp only [tw_gq]; omega)) ?_)); rfl) ?_
        (first | refine tw_ite_t (by first | omega | (simp only [tw_gq]; omega)) ?_ | refine tw_ite_f (by first | omega | (simp only [tw_gq]; omega)) ?_); (first | refine tw_ite_t (by first | omega | (simp only [tw_gq]; omega)) ?_ | refine tw_ite_f (by first | omega | (simp only [tw_gq]; omega)) ?_)
        refine tw_ob6_t p ?_
        refine tw_ob2_t x1 ?_
        rfl
      · unfold f_Mod_bytes
        (first | refine tw_ite_t (by first | omega | (simp only [tw_gq]; omega)) ?_ | refine tw_ite_f (by first | omega | (simp only [tw_gq]; omega)) ?_); (first | refine tw_ite_t (by first | omega | (simp only [tw_gq]; omega)) ?_ | refine tw_ite_f (by first | omega | (simp only [tw_gq]; omega)) ?_); (first | refine tw_ite_t (by first | omega | (simp only [tw_gq]; omega)) ?_ | refine tw_ite_f (by first | omega | (simp only [tw_gq]; omega)) ?_); (first | refine tw_ite_t (by first | omega | (simp only [tw_gq]; omega)) ?_ | refine tw_ite_f (by first | omega | (simp only [tw_gq]; omega)) ?_); (first | refine tw_ite_t (by first | omega | (simp only [tw_gq]; omega)) ?_ | refine tw_ite_f (by first | omega | (simp only [tw_gq]; omega)) ?_); (first | refine tw_ite_t (by first | omega | (simp only [tw_gq]; omega)) ?_ | refine tw_ite_f (by first | omega | (simp only [tw_gq]; omega)) ?_); (first | refine tw_ite_t (by first | omega | (simp only [tw_gq]; omega)) ?_ | refine tw_ite_f (by first | omega | (simp only [tw_gq]; omega)) ?_); (first | refine tw_ite_t (by first | omega | (simp only [tw_gq]; omega)) ?_ | refine tw_ite_f (by first | omega | (simp only [tw_gq]; omega)) ?_); (first | refine tw_ite_t (by first | omega | (simp only [tw_gq]; omega)) ?_ | refine tw_ite_f (by first | omega | (simp only [tw_gq]; omega)) ?_); (first | refine tw_ite_t (by first | omega | (simp only [tw_gq]; omega)) ?_ | refine tw_ite_f (by first | omega | (simp only [tw_gq]; omega)) ?_); (first | refine tw_ite_t (by first | omega | (simp only [tw_gq]; omega)) ?_ | refine tw_ite_f (by first | omega | (simp only [tw_gq]; omega)) ?_)
        rw [show mi 1 + 1 - 1 = mi 1 by omega] at x2
        refine tw_ob2_t x2 ?_
        (first | refine tw_ite_t (by first | omega | (simp only [tw_gq]; omega)) ?_ | refine tw_ite_f (by first | omega | (simp only [tw_gq]; omega)) ?_); rfl
      · show rI (ci 2 + (1 - 0)) = true
        rw [tw_rI_iff]; omega
      · show ci 2 + (1 - 0) = mi 2 + 1
        omega
      · rw [show mi 2 + 1 - 0 = mi 2 + 1 by omega, show mi 2 - 0 = mi 2 by omega] at x3
        exact x3
    · refine Or.inr (Or.inr ⟨9, _, ?_, (?_ : f_Mod_bytes 9 (mi 0) (mi 1) (mi 2) (ma 0) (ma 1) (ma 2) (ma 3) (ma 4) (ma 5) (ma 6) u1 u2 = some (0, 2, mi 1, mi 2, ma 0, ma 1, ma 2, ma 3, ma 4, ma 5, ma 6)), rfl, hT, hR⟩)
      · unfold t_Cek_bytes
        (first | refine tw_ite_t (by first | omega | (simp only [tw_gq]; omega)) ?_ | refine tw_ite_f (by first | omega | (simp only [tw_gq]; omega)) ?_); (first | refine tw_ite_t (by first | omega | (simp only [tw_gq]; omega)) ?_ | refine tw_ite_f (by first | omega | (simp only [tw_gq]; omega)) ?_); (first | refine tw_ite_t (by first | omega | (simp only [tw_gq]; omega)) ?_ | refine tw_ite_f (by first | omega | (simp only [tw_gq]; omega)) ?_); (first | refine tw_ite_t (by first | omega | (simp only [tw_gq]; omega)) ?_ | refine tw_ite_f (by first | omega | (simp only [tw_gq]; omega)) ?_)
        refine tw_bind_t (r := 1) (by unfold f_Terms_isFull; (repeat (first | refine tw_ite_t (by first | omega | (simp only [tw_gq]; omega)) ?_ | refine tw_ite_f (by first | omega | (simp only [tw_gq]; omega)) ?_)); rfl) ?_
        (first | refine tw_ite_t (by first | omega | (simp only [tw_gq]; omega)) ?_ | refine tw_ite_f (by first | omega | (simp only [tw_gq]; omega)) ?_); (first | refine tw_ite_t (by first | omega | (simp only [tw_gq]; omega)) ?_ | refine tw_ite_f (by first | omega | (simp only [tw_gq]; omega)) ?_); rfl
      · unfold f_Mod_bytes
        (first | refine tw_ite_t (by first | omega | (simp only [tw_gq]; omega)) ?_ | refine tw_ite_f (by first | omega | (simp only [tw_gq]; omega)) ?_); (first | refine tw_ite_t (by first | omega | (simp only [tw_gq]; omega)) ?_ | refine tw_ite_f (by first | omega | (simp only [tw_gq]; omega)) ?_); (first | refine tw_ite_t (by first | omega | (simp only [tw_gq]; omega)) ?_ | refine tw_ite_f (by first | omega | (simp only [tw_gq]; omega)) ?_); (first | refine tw_ite_t (by first | omega | (simp only [tw_gq]; omega)) ?_ | refine tw_ite_f (by first | omega | (simp only [tw_gq]; omega)) ?_); (first | refine tw_ite_t (by first | omega | (simp only [tw_gq]; omega)) ?_ | refine tw_ite_f (by first | omega | (simp only [tw_gq]; omega)) ?_); (first | refine tw_ite_t (by first | omega | (simp only [tw_gq]; omega)) ?_ | refine tw_ite_f (by first | omega | (simp only [tw_gq]; omega)) ?_); rfl
  · refine Or.inr (Or.inl ⟨9, _, ?_, (?_ : f_Mod_bytes 9 (mi 0) (mi 1) (mi 2) (ma 0) (ma 1) (ma 2) (ma 3) (ma 4) (ma 5) (ma 6) u1 u2 = some (0, 1, mi 1, mi 2, ma 0, ma 1, ma 2, ma 3, ma 4, ma 5, ma 6)), rfl, hT, hR⟩)
    · unfold t_Cek_bytes
      by_cases c0 : u2 < 0
      · (first | refine tw_ite_t (by first | omega | (simp only [tw_gq]; omega)) ?_ | refine tw_ite_f (by first | omega | (simp only [tw_gq]; omega)) ?_); (first | refine tw_ite_t (by first | omega | (simp only [tw_gq]; omega)) ?_ | refine tw_ite_f (by first | omega | (simp only [tw_gq]; omega)) ?_); rfl
      · (first | refine tw_ite_t (by first | omega | (simp only [tw_gq]; omega)) ?_ | refine tw_ite_f (by first | omega | (simp only [tw_gq]; omega)) ?_); (first | refine tw_ite_t (by first | omega | (simp only [tw_gq]; omega)) ?_ | refine tw_ite_f (by first | omega | (simp only [tw_gq]; omega)) ?_); (first | refine tw_ite_t (by first | omega | (simp only [tw_gq]; omega)) ?_ | refine tw_ite_f (by first | omega | (simp only [tw_gq]; omega)) ?_); (first | refine tw_ite_t (by first | omega | (simp only [tw_gq]; omega)) ?_ | refine tw_ite_f (by first | omega | (simp only [tw_gq]; omega)) ?_); rfl
    · unfold f_Mod_bytes
      by_cases c0 : u2 < 0
      · (first | refine tw_ite_t (by first | omega | (simp only [tw_gq]; omega)) ?_ | refine tw_ite_f (by first | omega | (simp only [tw_gq]; omega)) ?_); (first | refine tw_ite_t (by first | omega | (simp only [tw_gq]; omega)) ?_ | refine tw_ite_f (by first | omega | (simp only [tw_gq]; omega)) ?_); rfl
      · (first | refine tw_ite_t (by first | omega | (simp only [tw_gq]; omega)) ?_ | refine tw_ite_f (by first | omega | (simp only [tw_gq]; omega)) ?_); (first | refine tw_ite_t (by first | omega | (simp only [tw_gq]; omega)) ?_ | refine tw_ite_f (by first | omega | (simp only [tw_gq]; omega)) ?_); (first | refine tw_ite_t (by first | omega | (simp only [tw_gq]; omega)) ?_ | refine tw_ite_f (by first | omega | (simp only [tw_gq]; omega)) ?_); (first | refine tw_ite_t (by first | omega | (simp only [tw_gq]; omega)) ?_ | refine tw_ite_f (by first | omega | (simp only [tw_gq]; omega)) ?_); rfl
set_option maxRecDepth 100000 in
theorem tw_sim_drop : Sim_drop tw_Inv2 := by
  intro ci ca mi ma h
  obtain ⟨hT, hR⟩ := h
  obtain ⟨t1, t2, t3, t4, t5, -⟩ := id hT
  by_cases c : mi 2 = 0
  · have c2 : ci 2 = 0 := by omega
    refine ⟨(0, ci 1, ci 2), (0, 0, mi 1, mi 2), ?_, ?_, rfl, rfl, hT, hR⟩
    · rw [c2]; rfl
    · rw [c]; rfl
  · obtain ⟨d1, d2⟩ := tw_drop_ok (th := mi 0) hT (by omega)
    exact ⟨_, _, d1, d2, rfl, rfl, tw_InvT_drop hT (by omega), hR⟩
set_option maxRecDepth 100000 in
theorem tw_sim_more : Sim_more tw_Inv2 := by
  intro ci ca mi ma u1 u2 h h1 h2
  obtain ⟨hT, hR⟩ := h
  obtain ⟨t1, t2, t3, t4, t5, t6, t7, t8, t9, t10⟩ := id hT
  have hk := tw_rI_iff.1 h2
  by_cases hm : mi 2 = 0
  · have e0 := t6 hm
    have e1 : ci 1 = 0 := by omega
    refine ⟨9, 9, (0, ca 1, ca 4), (0, 0, ma 1, ma 5), ?_, ?_, rfl, rfl, hT, hR⟩
    · unfold f_Cek_more
      by_cases c1 : u2 < 1
      · (first | refine tw_ite_t (by first | omega | (simp only [tw_gq]; omega)) ?_ | refine tw_ite_f (by first | omega | (simp only [tw_gq]; omega)) ?_); (first | refine tw_ite_t (by first | omega | (simp only [tw_gq]; omega)) ?_ | refine tw_ite_f (by first | omega | (simp only [tw_gq]; omega)) ?_); rfl
      · by_cases c8 : 8 < u2
        · (first | refine tw_ite_t (by first | omega | (simp only [tw_gq]; omega)) ?_ | refine tw_ite_f (by first | omega | (simp only [tw_gq]; omega)) ?_); (first | refine tw_ite_t (by first | omega | (simp only [tw_gq]; omega)) ?_ | refine tw_ite_f (by first | omega | (simp only [tw_gq]; omega)) ?_); (first | refine tw_ite_t (by first | omega | (simp only [tw_gq]; omega)) ?_ | refine tw_ite_f (by first | omega | (simp only [tw_gq]; omega)) ?_); (first | refine tw_ite_t (by first | omega | (simp only [tw_gq]; omega)) ?_ | refine tw_ite_f (by first | omega | (simp only [tw_gq]; omega)) ?_); rfl
        · (first | refine tw_ite_t (by first | omega | (simp only [tw_gq]; omega)) ?_ | refine tw_ite_f (by first | omega | (simp only [tw_gq]; omega)) ?_); (first | refine tw_ite_t (by first | omega | (simp only [tw_gq]; omega)) ?_ | refine tw_ite_f (by first | omega | (simp only [tw_gq]; omega)) ?_); (first | refine tw_ite_t (by first | omega | (simp only [tw_gq]; omega)) ?_ | refine tw_ite_f (by first | omega | (simp only [tw_gq]; omega)) ?_); (first | refine tw_ite_t (by first | omega | (simp only [tw_gq]; omega)) ?_ | refine tw_ite_f (by first | omega | (simp only [tw_gq]; omega)) ?_)
          refine tw_bind_t (r := 0) ?_ ?_
          · unfold f_Terms_canLengthen
            refine tw_bind_t (r := ci 1 - 1) rfl ?_
            refine tw_bind_t (r := -1) (by rw [show ci 1 - 1 = -1 by omega]; exact tw_tKind0 (by omega) (by omega)) ?_
            (first | refine tw_ite_t (by first | omega | (simp only [tw_gq]; omega)) ?_ | refine tw_ite_f (by first | omega | (simp only [tw_gq]; omega)) ?_); (first | refine tw_ite_t (by first | omega | (simp only [tw_gq]; omega)) ?_ | refine tw_ite_f (by first | omega | (simp only [tw_gq]; omega)) ?_); rfl
          · (first | refine tw_ite_t (by first | omega | (simp only [tw_gq]; omega)) ?_ | refine tw_ite_f (by first | omega | (simp only [tw_gq]; omega)) ?_); (first | refine tw_ite_t (by first | omega | (simp only [tw_gq]; omega)) ?_ | refine tw_ite_f (by first | omega | (simp only [tw_gq]; omega)) ?_); rfl
    · unfold f_Mod_more
      (first | refine tw_ite_t (by first | omega | (simp only [tw_gq]; omega)) ?_ | refine tw_ite_f (by first | omega | (simp only [tw_gq]; omega)) ?_); (first | refine tw_ite_t (by first | omega | (simp only [tw_gq]; omega)) ?_ | refine tw_ite_f (by first | omega | (simp only [tw_gq]; omega)) ?_); (first | refine tw_ite_t (by first | omega | (simp only [tw_gq]; omega)) ?_ | refine tw_ite_f (by first | omega | (simp only [tw_gq]; omega)) ?_); (first | refine tw_ite_t (by first | omega | (simp only [tw_gq]; omega)) ?_ | refine tw_ite_f (by first | omega | (simp only [tw_gq]; omega)) ?_); rfl
  · have e7 := t7 (by omega)
    have nd := t10 (mi 1 - 1) (by omega) (by omega)
    obtain ⟨a1, a2, a3, a4, a5, a6, a7, a8, a9, -⟩ := id nd
    have b4 := nd.2.2.2.2.2.2.2.2.2.2.2.2.1
    have b5 := nd.2.2.2.2.2.2.2.2.2.2.2.2.2.1
    clear t6 t7 t8 t9 t10
    by_cases c : 1 ≤ u2 ∧ u2 ≤ 8 ∧ ca 0 (mi 1 - 1) = 8 ∧ ca 1 (mi 1 - 1) + u2 ≤ 64
    · obtain ⟨c1, c2, c3, c4⟩ := c
      have b4 := b4 c3
      obtain ⟨TB', RN', RT', x1, x2, x3⟩ := tw_lengthen_ok (x := u1) (n := u2) hT (by omega) c3 h1 (by omega) c4
      refine ⟨9, 9, (1, upZ (ca 1) (mi 1 - 1) (ca 1 (mi 1 - 1) + u2), TB'), (1, 0, RN', RT'), ?_, ?_, rfl, rfl, x3, hR⟩
      · unfold f_Cek_more
        (first | refine tw_ite_t (by first | omega | (simp only [tw_gq]; omega)) ?_ | refine tw_ite_f (by first | omega | (simp only [tw_gq]; omega)) ?_); (first | refine tw_ite_t (by first | omega | (simp only [tw_gq]; omega)) ?_ | refine tw_ite_f (by first | omega | (simp only [tw_gq]; omega)) ?_); (first | refine tw_ite_t (by first | omega | (simp only [tw_gq]; omega)) ?_ | refine tw_ite_f (by first | omega | (simp only [tw_gq]; omega)) ?_); (first | refine tw_ite_t (by first | omega | (simp only [tw_gq]; omega)) ?_ | refine tw_ite_f (by first | omega | (simp only [tw_gq]; omega)) ?_)
        refine tw_bind_t (r := 1) ?_ ?_
        · unfold f_Terms_canLengthen
          refine tw_bind_t (r := ci 1 - 1) rfl ?_
          refine tw_bind_t (tw_tKind (by omega) (by omega) (by omega)) ?_
          rw [show ci 1 - 1 = mi 1 - 1 by omega, c3]
          (first | refine tw_ite_t (by first | omega | (simp only [tw_gq]; omega)) ?_ | refine tw_ite_f (by first | omega | (simp only [tw_gq]; omega)) ?_); (first | refine tw_ite_t (by first | omega | (simp only [tw_gq]; omega)) ?_ | refine tw_ite_f (by first | omega | (simp only [tw_gq]; omega)) ?_)
          refine tw_bind_t (r := ci 1 - 1) rfl ?_
          refine tw_bind_t (tw_tArg (by omega) (by omega) (by omega)) ?_
          rw [show ci 1 - 1 = mi 1 - 1 by omega]
          (first | refine tw_ite_t (by first | omega | (simp only [tw_gq]; omega)) ?_ | refine tw_ite_f (by first | omega | (simp only [tw_gq]; omega)) ?_); (first | refine tw_ite_t (by first | omega | (simp only [tw_gq]; omega)) ?_ | refine tw_ite_f (by first | omega | (simp only [tw_gq]; omega)) ?_); (first | refine tw_ite_t (by first | omega | (simp only [tw_gq]; omega)) ?_ | refine tw_ite_f (by first | omega | (simp only [tw_gq]; omega)) ?_); rfl
        · (first | refine tw_ite_t (by first | omega | (simp only [tw_gq]; omega)) ?_ | refine tw_ite_f (by first | omega | (simp only [tw_gq]; omega)) ?_); (first | refine tw_ite_t (by first | omega | (simp only [tw_gq]; omega)) ?_ | refine tw_ite_f (by first | omega | (simp only [tw_gq]; omega)) ?_)
          exact tw_ob2_t x1 rfl
      · unfold f_Mod_more
        rw [e7, a1, a2, c3]
        (first | refine tw_ite_t (by first | omega | (simp only [tw_gq]; omega)) ?_ | refine tw_ite_f (by first | omega | (simp only [tw_gq]; omega)) ?_); (first | refine tw_ite_t (by first | omega | (simp only [tw_gq]; omega)) ?_ | refine tw_ite_f (by first | omega | (simp only [tw_gq]; omega)) ?_); (first | refine tw_ite_t (by first | omega | (simp only [tw_gq]; omega)) ?_ | refine tw_ite_f (by first | omega | (simp only [tw_gq]; omega)) ?_); (first | refine tw_ite_t (by first | omega | (simp only [tw_gq]; omega)) ?_ | refine tw_ite_f (by first | omega | (simp only [tw_gq]; omega)) ?_); (first | refine tw_ite_t (by first | omega | (simp only [tw_gq]; omega)) ?_ | refine tw_ite_f (by first | omega | (simp only [tw_gq]; omega)) ?_); (first | refine tw_ite_t (by first | omega | (simp only [tw_gq]; omega)) ?_ | refine tw_ite_f (by first | omega | (simp only [tw_gq]; omega)) ?_); (first | refine tw_ite_t (by first | omega | (simp only [tw_gq]; omega)) ?_ | refine tw_ite_f (by first | omega | (simp only [tw_gq]; omega)) ?_); (first | refine tw_ite_t (by first | omega | (simp only [tw_gq]; omega)) ?_ | refine tw_ite_f (by first | omega | (simp only [tw_gq]; omega)) ?_); (first | refine tw_ite_t (by first | omega | (simp only [tw_gq]; omega)) ?_ | refine tw_ite_f (by first | omega | (simp only [tw_gq]; omega)) ?_); (first | refine tw_ite_t (by first | omega | (simp only [tw_gq]; omega)) ?_ | refine tw_ite_f (by first | omega | (simp only [tw_gq]; omega)) ?_); (first | refine tw_ite_t (by first | omega | (simp only [tw_gq]; omega)) ?_ | refine tw_ite_f (by first | omega | (simp only [tw_gq]; omega)) ?_); (first | refine tw_ite_t (by first | omega | (simp only [tw_gq]; omega)) ?_ | refine tw_ite_f (by first | omega | (simp only [tw_gq]; omega)) ?_); (first | refine tw_ite_t (by first | omega | (simp only [tw_gq]; omega)) ?_ | refine tw_ite_f (by first | omega | (simp only [tw_gq]; omega)) ?_); (first | refine tw_ite_t (by first | omega | (simp only [tw_gq]; omega)) ?_ | refine tw_ite_f (by first | omega | (simp only [tw_gq]; omega)) ?_); (first | refine tw_ite_t (by first | omega | (simp only [tw_gq]; omega)) ?_ | refine tw_ite_f (by first | omega | (simp only [tw_gq]; omega)) ?_); (first | refine tw_ite_t (by first | omega | (simp only [tw_gq]; omega)) ?_ | refine tw_ite_f (by first | omega | (simp only [tw_gq]; omega)) ?_)
        exact tw_ob2_t x2 rfl
    · refine ⟨9, 9, (0, ca 1, ca 4), (0, 0, ma 1, ma 5), ?_, ?_, rfl, rfl, hT, hR⟩
      · unfold f_Cek_more
        by_cases c1 : u2 < 1
        · (first | refine tw_ite_t (by first | omega | (simp only [tw_gq]; omega)) ?_ | refine tw_ite_f (by first | omega | (simp only [tw_gq]; omega)) ?_); (first | refine tw_ite_t (by first | omega | (simp only [tw_gq]; omega)) ?_ | refine tw_ite_f (by first | omega | (simp only [tw_gq]; omega)) ?_); rfl
        · by_cases c8 : 8 < u2
          · (first | refine tw_ite_t (by first | omega | (simp only [tw_gq]; omega)) ?_ | refine tw_ite_f (by first | omega | (simp only [tw_gq]; omega)) ?_); (first | refine tw_ite_t (by first | omega | (simp only [tw_gq]; omega)) ?_ | refine tw_ite_f (by first | omega | (simp only [tw_gq]; omega)) ?_); (first | refine tw_ite_t (by first | omega | (simp only [tw_gq]; omega)) ?_ | refine tw_ite_f (by first | omega | (simp only [tw_gq]; omega)) ?_); (first | refine tw_ite_t (by first | omega | (simp only [tw_gq]; omega)) ?_ | refine tw_ite_f (by first | omega | (simp only [tw_gq]; omega)) ?_); rfl
          · (first | refine tw_ite_t (by first | omega | (simp only [tw_gq]; omega)) ?_ | refine tw_ite_f (by first | omega | (simp only [tw_gq]; omega)) ?_); (first | refine tw_ite_t (by first | omega | (simp only [tw_gq]; omega)) ?_ | refine tw_ite_f (by first | omega | (simp only [tw_gq]; omega)) ?_); (first | refine tw_ite_t (by first | omega | (simp only [tw_gq]; omega)) ?_ | refine tw_ite_f (by first | omega | (simp only [tw_gq]; omega)) ?_); (first | refine tw_ite_t (by first | omega | (simp only [tw_gq]; omega)) ?_ | refine tw_ite_f (by first | omega | (simp only [tw_gq]; omega)) ?_)
            refine tw_bind_t (r := 0) ?_ ?_
            · unfold f_Terms_canLengthen
              refine tw_bind_t (r := ci 1 - 1) rfl ?_
              refine tw_bind_t (tw_tKind (by omega) (by omega) (by omega)) ?_
              rw [show ci 1 - 1 = mi 1 - 1 by omega]
              by_cases c3 : ca 0 (mi 1 - 1) = 8
              · have b4 := b4 c3
                (first | refine tw_ite_t (by first | omega | (simp only [tw_gq]; omega)) ?_ | refine tw_ite_f (by first | omega | (simp only [tw_gq]; omega)) ?_); (first | refine tw_ite_t (by first | omega | (simp only [tw_gq]; omega)) ?_ | refine tw_ite_f (by first | omega | (simp only [tw_gq]; omega)) ?_)
                refine tw_bind_t (r := ci 1 - 1) rfl ?_
                refine tw_bind_t (tw_tArg (by omega) (by omega) (by omega)) ?_
                rw [show ci 1 - 1 = mi 1 - 1 by omega]
                (first | refine tw_ite_t (by first | omega | (simp only [tw_gq]; omega)) ?_ | refine tw_ite_f (by first | omega | (simp only [tw_gq]; omega)) ?_); (first | refine tw_ite_t (by first | omega | (simp only [tw_gq]; omega)) ?_ | refine tw_ite_f (by first | omega | (simp only [tw_gq]; omega)) ?_); (first | refine tw_ite_t (by first | omega | (simp only [tw_gq]; omega)) ?_ | refine tw_ite_f (by first | omega | (simp only [tw_gq]; omega)) ?_); rfl
              · (first | refine tw_ite_t (by first | omega | (simp only [tw_gq]; omega)) ?_ | refine tw_ite_f (by first | omega | (simp only [tw_gq]; omega)) ?_); (first | refine tw_ite_t (by first | omega | (simp only [tw_gq]; omega)) ?_ | refine tw_ite_f (by first | omega | (simp only [tw_gq]; omega)) ?_); rfl
            · (first | refine tw_ite_t (by first | omega | (simp only [tw_gq]; omega)) ?_ | refine tw_ite_f (by first | omega | (simp only [tw_gq]; omega)) ?_); (first | refine tw_ite_t (by first | omega | (simp only [tw_gq]; omega)) ?_ | refine tw_ite_f (by first | omega | (simp only [tw_gq]; omega)) ?_); rfl
      · unfold f_Mod_more
        rw [e7, a1, a2]
        by_cases c3 : ca 0 (mi 1 - 1) = 8
        · have b4 := b4 c3
          by_cases c1 : u2 < 1
          · (repeat (first | refine tw_ite_t (by first | omega | (simp only [tw_gq]; omega)) ?_ | refine tw_ite_f (by first | omega | (simp only [tw_gq]; omega)) ?_)); rfl
          · by_cases c8 : 8 < u2
            · (repeat (first | refine tw_ite_t (by first | omega | (simp only [tw_gq]; omega)) ?_ | refine tw_ite_f (by first | omega | (simp only [tw_gq]; omega)) ?_)); rfl
            · (repeat (first | refine tw_ite_t (by first | omega | (simp only [tw_gq]; omega)) ?_ | refine tw_ite_f (by first | omega | (simp only [tw_gq]; omega)) ?_)); rfl
        · (repeat (first | refine tw_ite_t (by first | omega | (simp only [tw_gq]; omega)) ?_ | refine tw_ite_f (by first | omega | (simp only [tw_gq]; omega)) ?_)); rfl
set_option maxRecDepth 100000 in
theorem tw_sim_look : Sim_look tw_Inv2 := by
  intro ci ca mi ma u1 h h1
  obtain ⟨hT, hR⟩ := h
  obtain ⟨t1, t2, t3, t4, t5, t6, -⟩ := id hT
  obtain ⟨r1, r2, r3, r4, -⟩ := id hR
  have hk := tw_rI_iff.1 h1
  have key : ∀ (v w : Int) (RL : Int → Int), f_Cek_look (ci 0) (ci 1) (ci 2) (ca 3) (ci 10) (ci 11) (ci 16) u1 = some v → f_Mod_look 300 (mi 0) (mi 1) (mi 2) (mi 9) (mi 10) (mi 11) (mi 12) (ma 0) (ma 1) (ma 2) (ma 3) (ma 4) (ma 6) (ma 29) u1 = some (w, 0, RL) → v = w → -1000000 ≤ v ∧ v ≤ 1000000 → ∃ (N2 : Nat) (o1 : Int) (o2 : Int × Int × (Int → Int)), f_Cek_look (ci 0) (ci 1) (ci 2) (ca 3) (ci 10) (ci 11) (ci 16) u1 = some o1 ∧ f_Mod_look N2 (mi 0) (mi 1) (mi 2) (mi 9) (mi 10) (mi 11) (mi 12) (ma 0) (ma 1) (ma 2) (ma 3) (ma 4) (ma 6) (ma 29) u1 = some o2 ∧ rI o1 = true ∧ o1 = o2.1 ∧ tw_Inv2 ci ca (li [(o2.2.1), mi 1, mi 2, mi 3, mi 4, mi 5, mi 6, mi 7, mi 8, mi 9, mi 10, mi 11, mi 12, mi 13, mi 14, mi 15, mi 16, mi 17, mi 18, mi 19, mi 20]) (la [ma 0, ma 1, ma 2, ma 3, ma 4, ma 5, ma 6, ma 7, ma 8, ma 9, ma 10, ma 11, ma 12, ma 13, ma 14, ma 15, ma 16, ma 17, ma 18, ma 19, ma 20, ma 21, ma 22, ma 23, ma 24, ma 25, ma 26, ma 27, ma 28, (o2.2.2), ma 30]) :=
    fun v w RL a b c d => ⟨300, v, (w, 0, RL), a, b, by rw [tw_rI_iff]; omega, c, hT, hR⟩
  by_cases c0 : u1 = 0
  · refine key (ci 2) (mi 2) (ma 29) ?_ ?_ (by omega) (by omega)
    · unfold f_Cek_look; (first | refine tw_ite_t (by first | omega | (simp only [tw_gq]; omega)) ?_ | refine tw_ite_f (by first | omega | (simp only [tw_gq]; omega)) ?_); (first | refine tw_ite_t (by first | omega | (simp only [tw_gq]; omega)) ?_ | refine tw_ite_f (by first | omega | (simp only [tw_gq]; omega)) ?_); rfl
    · unfold f_Mod_look; (first | refine tw_ite_t (by first | omega | (simp only [tw_gq]; omega)) ?_ | refine tw_ite_f (by first | omega | (simp only [tw_gq]; omega)) ?_); (first | refine tw_ite_t (by first | omega | (simp only [tw_gq]; omega)) ?_ | refine tw_ite_f (by first | omega | (simp only [tw_gq]; omega)) ?_); rfl
  by_cases c1 : u1 = 1
  · refine key (ci 1) (mi 1) (ma 29) ?_ ?_ (by omega) (by omega)
    · unfold f_Cek_look; (first | refine tw_ite_t (by first | omega | (simp only [tw_gq]; omega)) ?_ | refine tw_ite_f (by first | omega | (simp only [tw_gq]; omega)) ?_); (first | refine tw_ite_t (by first | omega | (simp only [tw_gq]; omega)) ?_ | refine tw_ite_f (by first | omega | (simp only [tw_gq]; omega)) ?_); (first | refine tw_ite_t (by first | omega | (simp only [tw_gq]; omega)) ?_ | refine tw_ite_f (by first | omega | (simp only [tw_gq]; omega)) ?_); rfl
    · unfold f_Mod_look; (first | refine tw_ite_t (by first | omega | (simp only [tw_gq]; omega)) ?_ | refine tw_ite_f (by first | omega | (simp only [tw_gq]; omega)) ?_); (first | refine tw_ite_t (by first | omega | (simp only [tw_gq]; omega)) ?_ | refine tw_ite_f (by first | omega | (simp only [tw_gq]; omega)) ?_); (first | refine tw_ite_t (by first | omega | (simp only [tw_gq]; omega)) ?_ | refine tw_ite_f (by first | omega | (simp only [tw_gq]; omega)) ?_); rfl
  by_cases c2 : u1 = 2
  · by_cases m0 : mi 2 = 0
    · have e0 := t6 m0
      refine key (-1) (-1) (ma 29) ?_ ?_ rfl (by omega)
      · unfold f_Cek_look; (first | refine tw_ite_t (by first | omega | (simp only [tw_gq]; omega)) ?_ | refine tw_ite_f (by first | omega | (simp only [tw_gq]; omega)) ?_); (first | refine tw_ite_t (by first | omega | (simp only [tw_gq]; omega)) ?_ | refine tw_ite_f (by first | omega | (simp only [tw_gq]; omega)) ?_); (first | refine tw_ite_t (by first | omega | (simp only [tw_gq]; omega)) ?_ | refine tw_ite_f (by first | omega | (simp only [tw_gq]; omega)) ?_); (first | refine tw_ite_t (by first | omega | (simp only [tw_gq]; omega)) ?_ | refine tw_ite_f (by first | omega | (simp only [tw_gq]; omega)) ?_)
        refine tw_bind_t (r := -1) ?_ rfl
        unfold f_Terms_lacksOfLast
        refine tw_bind_t (r := ci 1 - 1) rfl ?_
        rw [show ci 1 - 1 = -1 by omega]
        exact tw_bind_t (tw_tLacks0 (by omega) (by omega)) rfl
      · unfold f_Mod_look; (first | refine tw_ite_t (by first | omega | (simp only [tw_gq]; omega)) ?_ | refine tw_ite_f (by first | omega | (simp only [tw_gq]; omega)) ?_); (first | refine tw_ite_t (by first | omega | (simp only [tw_gq]; omega)) ?_ | refine tw_ite_f (by first | omega | (simp only [tw_gq]; omega)) ?_); (first | refine tw_ite_t (by first | omega | (simp only [tw_gq]; omega)) ?_ | refine tw_ite_f (by first | omega | (simp only [tw_gq]; omega)) ?_); (first | refine tw_ite_t (by first | omega | (simp only [tw_gq]; omega)) ?_ | refine tw_ite_f (by first | omega | (simp only [tw_gq]; omega)) ?_); (first | refine tw_ite_t (by first | omega | (simp only [tw_gq]; omega)) ?_ | refine tw_ite_f (by first | omega | (simp only [tw_gq]; omega)) ?_); (first | refine tw_ite_t (by first | omega | (simp only [tw_gq]; omega)) ?_ | refine tw_ite_f (by first | omega | (simp only [tw_gq]; omega)) ?_); rfl
    · obtain ⟨RL, hl⟩ := tw_lacking_ok hT (by omega) (ma 29) (N := 300) (by omega)
      have nd := hT.2.2.2.2.2.2.2.2.2 (mi 1 - 1) (by omega) (by omega)
      have l0 := nd.2.2.2.2.2.1
      have l1 := nd.2.2.2.2.2.2.1
      refine key (ca 3 (mi 1 - 1)) (ca 3 (mi 1 - 1)) RL ?_ ?_ rfl (by omega)
      · unfold f_Cek_look; (first | refine tw_ite_t (by first | omega | (simp only [tw_gq]; omega)) ?_ | refine tw_ite_f (by first | omega | (simp only [tw_gq]; omega)) ?_); (first | refine tw_ite_t (by first | omega | (simp only [tw_gq]; omega)) ?_ | refine tw_ite_f (by first | omega | (simp only [tw_gq]; omega)) ?_); (first | refine tw_ite_t (by first | omega | (simp only [tw_gq]; omega)) ?_ | refine tw_ite_f (by first | omega | (simp only [tw_gq]; omega)) ?_); (first | refine tw_ite_t (by first | omega | (simp only [tw_gq]; omega)) ?_ | refine tw_ite_f (by first | omega | (simp only [tw_gq]; omega)) ?_)
        refine tw_bind_t (r := ca 3 (mi 1 - 1)) ?_ rfl
        unfold f_Terms_lacksOfLast
        refine tw_bind_t (r := ci 1 - 1) rfl ?_
        rw [show ci 1 - 1 = mi 1 - 1 by omega]
        exact tw_bind_t (tw_tLacks (by omega) (by omega) (by omega)) rfl
      · unfold f_Mod_look; (first | refine tw_ite_t (by first | omega | (simp only [tw_gq]; omega)) ?_ | refine tw_ite_f (by first | omega | (simp only [tw_gq]; omega)) ?_); (first | refine tw_ite_t (by first | omega | (simp only [tw_gq]; omega)) ?_ | refine tw_ite_f (by first | omega | (simp only [tw_gq]; omega)) ?_); (first | refine tw_ite_t (by first | omega | (simp only [tw_gq]; omega)) ?_ | refine tw_ite_f (by first | omega | (simp only [tw_gq]; omega)) ?_); (first | refine tw_ite_t (by first | omega | (simp only [tw_gq]; omega)) ?_ | refine tw_ite_f (by first | omega | (simp only [tw_gq]; omega)) ?_); (first | refine tw_ite_t (by first | omega | (simp only [tw_gq]; omega)) ?_ | refine tw_ite_f (by first | omega | (simp only [tw_gq]; omega)) ?_); (first | refine tw_ite_t (by first | omega | (simp only [tw_gq]; omega)) ?_ | refine tw_ite_f (by first | omega | (simp only [tw_gq]; omega)) ?_)
        exact tw_ob2_t hl rfl
  by_cases c3 : u1 = 3
  · refine key (ci 0) (mi 10) (ma 29) ?_ ?_ r1 (by omega)
    · unfold f_Cek_look; (first | refine tw_ite_t (by first | omega | (simp only [tw_gq]; omega)) ?_ | refine tw_ite_f (by first | omega | (simp only [tw_gq]; omega)) ?_); (first | refine tw_ite_t (by first | omega | (simp only [tw_gq]; omega)) ?_ | refine tw_ite_f (by first | omega | (simp only [tw_gq]; omega)) ?_); (first | refine tw_ite_t (by first | omega | (simp only [tw_gq]; omega)) ?_ | refine tw_ite_f (by first | omega | (simp only [tw_gq]; omega)) ?_); (first | refine tw_ite_t (by first | omega | (simp only [tw_gq]; omega)) ?_ | refine tw_ite_f (by first | omega | (simp only [tw_gq]; omega)) ?_); (first | refine tw_ite_t (by first | omega | (simp only [tw_gq]; omega)) ?_ | refine tw_ite_f (by first | omega | (simp only [tw_gq]; omega)) ?_); rfl
    · unfold f_Mod_look; (first | refine tw_ite_t (by first | omega | (simp only [tw_gq]; omega)) ?_ | refine tw_ite_f (by first | omega | (simp only [tw_gq]; omega)) ?_); (first | refine tw_ite_t (by first | omega | (simp only [tw_gq]; omega)) ?_ | refine tw_ite_f (by first | omega | (simp only [tw_gq]; omega)) ?_); (first | refine tw_ite_t (by first | omega | (simp only [tw_gq]; omega)) ?_ | refine tw_ite_f (by first | omega | (simp only [tw_gq]; omega)) ?_); (first | refine tw_ite_t (by first | omega | (simp only [tw_gq]; omega)) ?_ | refine tw_ite_f (by first | omega | (simp only [tw_gq]; omega)) ?_); (first | refine tw_ite_t (by first | omega | (simp only [tw_gq]; omega)) ?_ | refine tw_ite_f (by first | omega | (simp only [tw_gq]; omega)) ?_); rfl
  by_cases c7 : u1 = 4 ∨ u1 = 5 ∨ u1 = 6
  · by_cases an : ci 0 = -1
    · refine key (-1) (-1) (ma 29) ?_ ?_ rfl (by omega)
      · unfold f_Cek_look
        rcases c7 with e | e | e <;> subst e <;> ((repeat (first | refine tw_ite_t (by first | omega | (simp only [tw_gq]; omega)) ?_ | refine tw_ite_f (by first | omega | (simp only [tw_gq]; omega)) ?_)); rfl)
      · unfold f_Mod_look
        rcases c7 with e | e | e <;> subst e <;> ((repeat (first | refine tw_ite_t (by first | omega | (simp only [tw_gq]; omega)) ?_ | refine tw_ite_f (by first | omega | (simp only [tw_gq]; omega)) ?_)); rfl)
    · obtain ⟨s1, s2, s3, s4, s5, s6, s7, s8, s9⟩ := r4 an
      clear r4
      rcases c7 with e | e | e
      · refine key (ci 10) (mi 11) (ma 29) ?_ ?_ s1 (by omega)
        · unfold f_Cek_look; subst e; (repeat (first | refine tw_ite_t (by first | omega | (simp only [tw_gq]; omega)) ?_ | refine tw_ite_f (by first | omega | (simp only [tw_gq]; omega)) ?_)); rfl
        · unfold f_Mod_look; subst e; (repeat (first | refine tw_ite_t (by first | omega | (simp only [tw_gq]; omega)) ?_ | refine tw_ite_f (by first | omega | (simp only [tw_gq]; omega)) ?_)); rfl
      · refine key (ci 11) (mi 12) (ma 29) ?_ ?_ s2 (by omega)
        · unfold f_Cek_look; subst e; (repeat (first | refine tw_ite_t (by first | omega | (simp only [tw_gq]; omega)) ?_ | refine tw_ite_f (by first | omega | (simp only [tw_gq]; omega)) ?_)); rfl
        · unfold f_Mod_look; subst e; (repeat (first | refine tw_ite_t (by first | omega | (simp only [tw_gq]; omega)) ?_ | refine tw_ite_f (by first | omega | (simp only [tw_gq]; omega)) ?_)); rfl
      · refine key (ci 16) (mi 9) (ma 29) ?_ ?_ s3 (by omega)
        · unfold f_Cek_look; subst e; (repeat (first | refine tw_ite_t (by first | omega | (simp only [tw_gq]; omega)) ?_ | refine tw_ite_f (by first | omega | (simp only [tw_gq]; omega)) ?_)); rfl
        · unfold f_Mod_look; subst e; (repeat (first | refine tw_ite_t (by first | omega | (simp only [tw_gq]; omega)) ?_ | refine tw_ite_f (by first | omega | (simp only [tw_gq]; omega)) ?_)); rfl
  · refine key (-1) (-1) (ma 29) ?_ ?_ rfl (by omega)
    · unfold f_Cek_look; (repeat (first | refine tw_ite_t (by first | omega | (simp only [tw_gq]; omega)) ?_ | refine tw_ite_f (by first | omega | (simp only [tw_gq]; omega)) ?_)); rfl
    · unfold f_Mod_look; (repeat (first | refine tw_ite_t (by first | omega | (simp only [tw_gq]; omega)) ?_ | refine tw_ite_f (by first | omega | (simp only [tw_gq]; omega)) ?_)); rfl
set_option maxRecDepth 100000 in
theorem tw_sim_kind : Sim_kind tw_Inv2 := by
  intro ci ca mi ma h
  obtain ⟨hT, hR⟩ := h
  obtain ⟨r1, r2, r3, -, r5⟩ := id hR
  have res : f_Cek_result (ci 0) (ci 6) = some (if ci 0 = 0 then ci 6 else -1) := by
    unfold f_Cek_result
    by_cases c : ci 0 = 0
    · (first | refine tw_ite_t (by first | omega | (simp only [tw_gq]; omega)) ?_ | refine tw_ite_f (by first | omega | (simp only [tw_gq]; omega)) ?_); (first | refine tw_ite_t (by first | omega | (simp only [tw_gq]; omega)) ?_ | refine tw_ite_f (by first | omega | (simp only [tw_gq]; omega)) ?_); rw [if_pos c]; rfl
    · (first | refine tw_ite_t (by first | omega | (simp only [tw_gq]; omega)) ?_ | refine tw_ite_f (by first | omega | (simp only [tw_gq]; omega)) ?_); (first | refine tw_ite_t (by first | omega | (simp only [tw_gq]; omega)) ?_ | refine tw_ite_f (by first | omega | (simp only [tw_gq]; omega)) ?_); rw [if_neg c]
  by_cases c : ci 0 = 0
  · obtain ⟨v0, v1, v2, v3, v4, v5, -⟩ := r5 c
    obtain ⟨o1, o2, o3, -⟩ := v5
    rw [if_pos c] at res
    refine ⟨ca 5 (ci 6), (ca 5 (ci 6), 0), ?_, ?_, by rw [tw_rI_iff]; omega, rfl, hT, hR⟩
    · unfold f_Cek_kind
      refine tw_bind_t res ?_
      exact tw_bind_t (tw_vK v0 v1 v2) rfl
    · unfold f_Mod_kind
      rw [o1]
      (first | refine tw_ite_t (by first | omega | (simp only [tw_gq]; omega)) ?_ | refine tw_ite_f (by first | omega | (simp only [tw_gq]; omega)) ?_); (first | refine tw_ite_t (by first | omega | (simp only [tw_gq]; omega)) ?_ | refine tw_ite_f (by first | omega | (simp only [tw_gq]; omega)) ?_); (first | refine tw_ite_t (by first | omega | (simp only [tw_gq]; omega)) ?_ | refine tw_ite_f (by first | omega | (simp only [tw_gq]; omega)) ?_); rfl
  · rw [if_neg c] at res
    refine ⟨-1, (-1, 0), ?_, ?_, rfl, rfl, hT, hR⟩
    · unfold f_Cek_kind
      refine tw_bind_t res ?_
      refine tw_bind_t (r := -1) ?_ rfl
      unfold f_Values_kindOf; (first | refine tw_ite_t (by first | omega | (simp only [tw_gq]; omega)) ?_ | refine tw_ite_f (by first | omega | (simp only [tw_gq]; omega)) ?_); (first | refine tw_ite_t (by first | omega | (simp only [tw_gq]; omega)) ?_ | refine tw_ite_f (by first | omega | (simp only [tw_gq]; omega)) ?_); rfl
    · unfold f_Mod_kind
      (first | refine tw_ite_t (by first | omega | (simp only [tw_gq]; omega)) ?_ | refine tw_ite_f (by first | omega | (simp only [tw_gq]; omega)) ?_); (first | refine tw_ite_t (by first | omega | (simp only [tw_gq]; omega)) ?_ | refine tw_ite_f (by first | omega | (simp only [tw_gq]; omega)) ?_); rfl
set_option maxRecDepth 100000 in
theorem tw_sim_number : Sim_number tw_Inv2 := by
  intro ci ca mi ma h
  obtain ⟨hT, hR⟩ := h
  obtain ⟨r1, r2, r3, -, r5⟩ := id hR
  have res : f_Cek_result (ci 0) (ci 6) = some (if ci 0 = 0 then ci 6 else -1) := by
    unfold f_Cek_result
    by_cases c : ci 0 = 0
    · (first | refine tw_ite_t (by first | omega | (simp only [tw_gq]; omega)) ?_ | refine tw_ite_f (by first | omega | (simp only [tw_gq]; omega)) ?_); (first | refine tw_ite_t (by first | omega | (simp only [tw_gq]; omega)) ?_ | refine tw_ite_f (by first | omega | (simp only [tw_gq]; omega)) ?_); rw [if_pos c]; rfl
    · (first | refine tw_ite_t (by first | omega | (simp only [tw_gq]; omega)) ?_ | refine tw_ite_f (by first | omega | (simp only [tw_gq]; omega)) ?_); (first | refine tw_ite_t (by first | omega | (simp only [tw_gq]; omega)) ?_ | refine tw_ite_f (by first | omega | (simp only [tw_gq]; omega)) ?_); rw [if_neg c]
  by_cases c : ci 0 = 0
  · obtain ⟨v0, v1, v2, v3, v4, v5, v6, v7, -⟩ := r5 c
    obtain ⟨o1, o2, o3, o4, o5, o6, o7, o8, o9⟩ := v5
    rw [if_pos c] at res
    have key : ∀ v, f_Values_asNumber (ci 7) (ca 5) (ca 6) (ca 7) (ca 8) (ci 9) (ca 13) (ci 6) = some v → f_Mod_number (mi 0) (mi 10) (mi 16) (ma 7) (ma 8) (ma 10) = some (v, 0) → -9223372036854775808 ≤ v ∧ v ≤ 9223372036854775807 → (∃ (o1 : Int) (o2 : Int × Int), f_Cek_number (ci 0) (ci 6) (ci 7) (ca 5) (ca 6) (ca 7) (ca 8) (ci 9) (ca 13) = some o1 ∧ f_Mod_number (mi 0) (mi 10) (mi 16) (ma 7) (ma 8) (ma 10) = some o2 ∧ o2.2 = 0 ∧ rL o1 = true ∧ o1 = o2.1 ∧ tw_Inv2 ci ca (li [(o2.2), mi 1, mi 2, mi 3, mi 4, mi 5, mi 6, mi 7, mi 8, mi 9, mi 10, mi 11, mi 12, mi 13, mi 14, mi 15, mi 16, mi 17, mi 18, mi 19, mi 20]) ma) := by
      intro v a b d
      refine ⟨v, (v, 0), ?_, b, rfl, tw_rL_iff.2 d, rfl, hT, hR⟩
      unfold f_Cek_number
      refine tw_bind_t res ?_
      (first | refine tw_ite_t (by first | omega | (simp only [tw_gq]; omega)) ?_ | refine tw_ite_f (by first | omega | (simp only [tw_gq]; omega)) ?_); (first | refine tw_ite_t (by first | omega | (simp only [tw_gq]; omega)) ?_ | refine tw_ite_f (by first | omega | (simp only [tw_gq]; omega)) ?_)
      exact tw_bind_t a rfl
    have hc : ca 5 (ci 6) = 0 ∨ ca 5 (ci 6) = 1 ∨ ca 5 (ci 6) = 2 ∨ ca 5 (ci 6) = 3 ∨ ca 5 (ci 6) = 4 ∨ ca 5 (ci 6) = 5 ∨ ca 5 (ci 6) = 6 ∨ ca 5 (ci 6) = 7 := by omega
    rcases hc with e | e | e | e | e | e | e | e
    · have n := o5 (by omega)
      clear o5 o6 o7 o8 o9 r5
      refine Or.inl (key (ca 6 (ci 6)) ?_ ?_ o4)
      · unfold f_Values_asNumber
        refine tw_bind_t (tw_vK v0 v1 v2) ?_
        (repeat (first | refine tw_ite_t (by first | omega | (simp only [tw_gq]; omega)) ?_ | refine tw_ite_f (by first | omega | (simp only [tw_gq]; omega)) ?_))
        exact tw_bind_t (tw_vN v0 v1 v2) rfl
      · unfold f_Mod_number
        (repeat (first | refine tw_ite_t (by first | omega | (simp only [tw_gq]; omega)) ?_ | refine tw_ite_f (by first | omega | (simp only [tw_gq]; omega)) ?_))
        rw [n]
    · obtain ⟨b1, b2, b3, b4, -⟩ := o8 e
      clear o5 o6 o7 o8 o9 r5
      refine Or.inl (key (ca 8 (ci 6)) ?_ ?_ (by omega))
      · unfold f_Values_asNumber
        refine tw_bind_t (tw_vK v0 v1 v2) ?_
        (repeat (first | refine tw_ite_t (by first | omega | (simp only [tw_gq]; omega)) ?_ | refine tw_ite_f (by first | omega | (simp only [tw_gq]; omega)) ?_))
        refine tw_bind_t (tw_vLe v0 v1 v2) ?_
        (repeat (first | refine tw_ite_t (by first | omega | (simp only [tw_gq]; omega)) ?_ | refine tw_ite_f (by first | omega | (simp only [tw_gq]; omega)) ?_))
        rfl
      · unfold f_Mod_number
        (repeat (first | refine tw_ite_t (by first | omega | (simp only [tw_gq]; omega)) ?_ | refine tw_ite_f (by first | omega | (simp only [tw_gq]; omega)) ?_))
        rw [b2, b1]
    · have n := o5 (by omega)
      clear o5 o6 o7 o8 o9 r5
      refine Or.inl (key (ca 6 (ci 6)) ?_ ?_ o4)
      · unfold f_Values_asNumber
        refine tw_bind_t (tw_vK v0 v1 v2) ?_
        (repeat (first | refine tw_ite_t (by first | omega | (simp only [tw_gq]; omega)) ?_ | refine tw_ite_f (by first | omega | (simp only [tw_gq]; omega)) ?_))
        exact tw_bind_t (tw_vN v0 v1 v2) rfl
      · unfold f_Mod_number
        (repeat (first | refine tw_ite_t (by first | omega | (simp only [tw_gq]; omega)) ?_ | refine tw_ite_f (by first | omega | (simp only [tw_gq]; omega)) ?_))
        rw [n]
    · clear o5 o6 o7 o8 o9 r5
      refine Or.inl (key 0 ?_ ?_ (by omega))
      · unfold f_Values_asNumber
        refine tw_bind_t (tw_vK v0 v1 v2) ?_
        (repeat (first | refine tw_ite_t (by first | omega | (simp only [tw_gq]; omega)) ?_ | refine tw_ite_f (by first | omega | (simp only [tw_gq]; omega)) ?_))
        rfl
      · unfold f_Mod_number
        (repeat (first | refine tw_ite_t (by first | omega | (simp only [tw_gq]; omega)) ?_ | refine tw_ite_f (by first | omega | (simp only [tw_gq]; omega)) ?_))
        rfl
    · obtain ⟨b1, b2⟩ := o9 e
      have b3 := b2.1
      have b4 := b2.2.1
      have d1 := (v6 _ b3 b4).1
      have d2 := (v6 _ b3 b4).2.2.1
      clear o5 o6 o7 o8 o9 r5
      refine Or.inl (key (ca 13 (ca 7 (ci 6))) ?_ ?_ (by omega))
      · unfold f_Values_asNumber
        refine tw_bind_t (tw_vK v0 v1 v2) ?_
        (repeat (first | refine tw_ite_t (by first | omega | (simp only [tw_gq]; omega)) ?_ | refine tw_ite_f (by first | omega | (simp only [tw_gq]; omega)) ?_))
        refine tw_bind_t (tw_vRo v0 v1 v2) ?_
        refine tw_bind_t (tw_dN_in b3 b4 v7) ?_
        (repeat (first | refine tw_ite_t (by first | omega | (simp only [tw_gq]; omega)) ?_ | refine tw_ite_f (by first | omega | (simp only [tw_gq]; omega)) ?_))
        rfl
      · unfold f_Mod_number
        (repeat (first | refine tw_ite_t (by first | omega | (simp only [tw_gq]; omega)) ?_ | refine tw_ite_f (by first | omega | (simp only [tw_gq]; omega)) ?_))
        rw [b1]
    · clear o5 o6 o7 o8 o9 r5
      refine Or.inl (key 0 ?_ ?_ (by omega))
      · unfold f_Values_asNumber
        refine tw_bind_t (tw_vK v0 v1 v2) ?_
        (repeat (first | refine tw_ite_t (by first | omega | (simp only [tw_gq]; omega)) ?_ | refine tw_ite_f (by first | omega | (simp only [tw_gq]; omega)) ?_))
        rfl
      · unfold f_Mod_number
        (repeat (first | refine tw_ite_t (by first | omega | (simp only [tw_gq]; omega)) ?_ | refine tw_ite_f (by first | omega | (simp only [tw_gq]; omega)) ?_))
        rfl
    · clear o5 o6 o7 o8 o9 r5
      refine Or.inl (key 0 ?_ ?_ (by omega))
      · unfold f_Values_asNumber
        refine tw_bind_t (tw_vK v0 v1 v2) ?_
        (repeat (first | refine tw_ite_t (by first | omega | (simp only [tw_gq]; omega)) ?_ | refine tw_ite_f (by first | omega | (simp only [tw_gq]; omega)) ?_))
        rfl
      · unfold f_Mod_number
        (repeat (first | refine tw_ite_t (by first | omega | (simp only [tw_gq]; omega)) ?_ | refine tw_ite_f (by first | omega | (simp only [tw_gq]; omega)) ?_))
        rfl
    · have n := o5 (by omega)
      clear o5 o6 o7 o8 o9 r5
      refine Or.inl (key (ca 6 (ci 6)) ?_ ?_ o4)
      · unfold f_Values_asNumber
        refine tw_bind_t (tw_vK v0 v1 v2) ?_
        (repeat (first | refine tw_ite_t (by first | omega | (simp only [tw_gq]; omega)) ?_ | refine tw_ite_f (by first | omega | (simp only [tw_gq]; omega)) ?_))
        exact tw_bind_t (tw_vN v0 v1 v2) rfl
      · unfold f_Mod_number
        (repeat (first | refine tw_ite_t (by first | omega | (simp only [tw_gq]; omega)) ?_ | refine tw_ite_f (by first | omega | (simp only [tw_gq]; omega)) ?_))
        rw [n]
  · rw [if_neg c] at res
    refine Or.inr ⟨(0, 1), ?_, ?_, rfl, hT, hR⟩
    · unfold t_Cek_number
      refine tw_bind_t res ?_
      (first | refine tw_ite_t (by first | omega | (simp only [tw_gq]; omega)) ?_ | refine tw_ite_f (by first | omega | (simp only [tw_gq]; omega)) ?_); (first | refine tw_ite_t (by first | omega | (simp only [tw_gq]; omega)) ?_ | refine tw_ite_f (by first | omega | (simp only [tw_gq]; omega)) ?_); rfl
    · unfold f_Mod_number
      (first | refine tw_ite_t (by first | omega | (simp only [tw_gq]; omega)) ?_ | refine tw_ite_f (by first | omega | (simp only [tw_gq]; omega)) ?_); (first | refine tw_ite_t (by first | omega | (simp only [tw_gq]; omega)) ?_ | refine tw_ite_f (by first | omega | (simp only [tw_gq]; omega)) ?_); rfl
set_option maxRecDepth 100000 in
theorem tw_sim_byteAt : Sim_byteAt tw_Inv2 := by
  intro ci ca mi ma u1 h h1
  obtain ⟨hT, hR⟩ := h
  obtain ⟨r1, r2, r3, -, r5⟩ := id hR
  have res : f_Cek_result (ci 0) (ci 6) = some (if ci 0 = 0 then ci 6 else -1) := by
    unfold f_Cek_result
    by_cases c : ci 0 = 0
    · (first | refine tw_ite_t (by first | omega | (simp only [tw_gq]; omega)) ?_ | refine tw_ite_f (by first | omega | (simp only [tw_gq]; omega)) ?_); (first | refine tw_ite_t (by first | omega | (simp only [tw_gq]; omega)) ?_ | refine tw_ite_f (by first | omega | (simp only [tw_gq]; omega)) ?_); rw [if_pos c]; rfl
    · (first | refine tw_ite_t (by first | omega | (simp only [tw_gq]; omega)) ?_ | refine tw_ite_f (by first | omega | (simp only [tw_gq]; omega)) ?_); (first | refine tw_ite_t (by first | omega | (simp only [tw_gq]; omega)) ?_ | refine tw_ite_f (by first | omega | (simp only [tw_gq]; omega)) ?_); rw [if_neg c]
  have hk := tw_rI_iff.1 h1
  by_cases c : ci 0 = 0
  · obtain ⟨v0, v1, v2, v3, v4, v5, v6, v7, v8, v9, -⟩ := r5 c
    obtain ⟨o1, o2, o3, -, -, -, -, o8, -⟩ := v5
    rw [if_pos c] at res
    by_cases e : ca 5 (ci 6) = 1
    · obtain ⟨b1, b2, b3, b4, b5, b6, b7, b8, b9⟩ := o8 e
      clear o8 r5
      by_cases d : 0 ≤ u1 ∧ u1 < ma 10 (mi 16)
      · obtain ⟨w1, w2⟩ := b9 u1 d.1 d.2
        have w3 := tw_jand_r (x := ca 9 (ca 7 (ci 6) + u1)) w2
        refine ⟨j_and (ca 9 (ca 7 (ci 6) + u1)) 255, (j_and (ca 9 (ca 7 (ci 6) + u1)) 255, 0), ?_, ?_, by rw [tw_rI_iff]; omega, rfl, hT, hR⟩
        · unfold f_Cek_byteAt
          refine tw_bind_t res ?_
          refine tw_bind_t (tw_vK v0 v1 v2) ?_
          (first | refine tw_ite_t (by first | omega | (simp only [tw_gq]; omega)) ?_ | refine tw_ite_f (by first | omega | (simp only [tw_gq]; omega)) ?_); (first | refine tw_ite_t (by first | omega | (simp only [tw_gq]; omega)) ?_ | refine tw_ite_f (by first | omega | (simp only [tw_gq]; omega)) ?_); (first | refine tw_ite_t (by first | omega | (simp only [tw_gq]; omega)) ?_ | refine tw_ite_f (by first | omega | (simp only [tw_gq]; omega)) ?_); (first | refine tw_ite_t (by first | omega | (simp only [tw_gq]; omega)) ?_ | refine tw_ite_f (by first | omega | (simp only [tw_gq]; omega)) ?_)
          refine tw_bind_t (tw_vLe v0 v1 v2) ?_
          (first | refine tw_ite_t (by first | omega | (simp only [tw_gq]; omega)) ?_ | refine tw_ite_f (by first | omega | (simp only [tw_gq]; omega)) ?_); (first | refine tw_ite_t (by first | omega | (simp only [tw_gq]; omega)) ?_ | refine tw_ite_f (by first | omega | (simp only [tw_gq]; omega)) ?_)
          refine tw_bind_t (tw_vSt v0 v1 v2) ?_
          exact tw_bind_t (tw_bat (by omega) (by omega) (by omega)) rfl
        · unfold f_Mod_byteAt
          (first | refine tw_ite_t (by first | omega | (simp only [tw_gq]; omega)) ?_ | refine tw_ite_f (by first | omega | (simp only [tw_gq]; omega)) ?_); (first | refine tw_ite_t (by first | omega | (simp only [tw_gq]; omega)) ?_ | refine tw_ite_f (by first | omega | (simp only [tw_gq]; omega)) ?_); (first | refine tw_ite_t (by first | omega | (simp only [tw_gq]; omega)) ?_ | refine tw_ite_f (by first | omega | (simp only [tw_gq]; omega)) ?_); (first | refine tw_ite_t (by first | omega | (simp only [tw_gq]; omega)) ?_ | refine tw_ite_f (by first | omega | (simp only [tw_gq]; omega)) ?_); (first | refine tw_ite_t (by first | omega | (simp only [tw_gq]; omega)) ?_ | refine tw_ite_f (by first | omega | (simp only [tw_gq]; omega)) ?_); (first | refine tw_ite_t (by first | omega | (simp only [tw_gq]; omega)) ?_ | refine tw_ite_f (by first | omega | (simp only [tw_gq]; omega)) ?_); (first | refine tw_ite_t (by first | omega | (simp only [tw_gq]; omega)) ?_ | refine tw_ite_f (by first | omega | (simp only [tw_gq]; omega)) ?_); (first | refine tw_ite_t (by first | omega | (simp only [tw_gq]; omega)) ?_ | refine tw_ite_f (by first | omega | (simp only [tw_gq]; omega)) ?_); (first | refine tw_ite_t (by first | omega | (simp only [tw_gq]; omega)) ?_ | refine tw_ite_f (by first | omega | (simp only [tw_gq]; omega)) ?_); (first | refine tw_ite_t (by first | omega | (simp only [tw_gq]; omega)) ?_ | refine tw_ite_f (by first | omega | (simp only [tw_gq]; omega)) ?_)
          refine tw_bind_t (tw_rByt v3 v4 (by omega) (by omega)) ?_
          rw [w1]
      · refine ⟨-1, (-1, 0), ?_, ?_, rfl, rfl, hT, hR⟩
        · unfold f_Cek_byteAt
          refine tw_bind_t res ?_
          refine tw_bind_t (tw_vK v0 v1 v2) ?_
          by_cases d0 : u1 < 0
          · (first | refine tw_ite_t (by first | omega | (simp only [tw_gq]; omega)) ?_ | refine tw_ite_f (by first | omega | (simp only [tw_gq]; omega)) ?_); (first | refine tw_ite_t (by first | omega | (simp only [tw_gq]; omega)) ?_ | refine tw_ite_f (by first | omega | (simp only [tw_gq]; omega)) ?_); (first | refine tw_ite_t (by first | omega | (simp only [tw_gq]; omega)) ?_ | refine tw_ite_f (by first | omega | (simp only [tw_gq]; omega)) ?_); (first | refine tw_ite_t (by first | omega | (simp only [tw_gq]; omega)) ?_ | refine tw_ite_f (by first | omega | (simp only [tw_gq]; omega)) ?_); rfl
          · (first | refine tw_ite_t (by first | omega | (simp only [tw_gq]; omega)) ?_ | refine tw_ite_f (by first | omega | (simp only [tw_gq]; omega)) ?_); (first | refine tw_ite_t (by first | omega | (simp only [tw_gq]; omega)) ?_ | refine tw_ite_f (by first | omega | (simp only [tw_gq]; omega)) ?_); (first | refine tw_ite_t (by first | omega | (simp only [tw_gq]; omega)) ?_ | refine tw_ite_f (by first | omega | (simp only [tw_gq]; omega)) ?_); (first | refine tw_ite_t (by first | omega | (simp only [tw_gq]; omega)) ?_ | refine tw_ite_f (by first | omega | (simp only [tw_gq]; omega)) ?_)
            refine tw_bind_t (tw_vLe v0 v1 v2) ?_
            (first | refine tw_ite_t (by first | omega | (simp only [tw_gq]; omega)) ?_ | refine tw_ite_f (by first | omega | (simp only [tw_gq]; omega)) ?_); (first | refine tw_ite_t (by first | omega | (simp only [tw_gq]; omega)) ?_ | refine tw_ite_f (by first | omega | (simp only [tw_gq]; omega)) ?_); rfl
        · unfold f_Mod_byteAt
          by_cases d0 : u1 < 0
          · (first | refine tw_ite_t (by first | omega | (simp only [tw_gq]; omega)) ?_ | refine tw_ite_f (by first | omega | (simp only [tw_gq]; omega)) ?_); (first | refine tw_ite_t (by first | omega | (simp only [tw_gq]; omega)) ?_ | refine tw_ite_f (by first | omega | (simp only [tw_gq]; omega)) ?_); (first | refine tw_ite_t (by first | omega | (simp only [tw_gq]; omega)) ?_ | refine tw_ite_f (by first | omega | (simp only [tw_gq]; omega)) ?_); (first | refine tw_ite_t (by first | omega | (simp only [tw_gq]; omega)) ?_ | refine tw_ite_f (by first | omega | (simp only [tw_gq]; omega)) ?_); (first | refine tw_ite_t (by first | omega | (simp only [tw_gq]; omega)) ?_ | refine tw_ite_f (by first | omega | (simp only [tw_gq]; omega)) ?_); (first | refine tw_ite_t (by first | omega | (simp only [tw_gq]; omega)) ?_ | refine tw_ite_f (by first | omega | (simp only [tw_gq]; omega)) ?_); (first | refine tw_ite_t (by first | omega | (simp only [tw_gq]; omega)) ?_ | refine tw_ite_f (by first | omega | (simp only [tw_gq]; omega)) ?_); rfl
          · (first | refine tw_ite_t (by first | omega | (simp only [tw_gq]; omega)) ?_ | refine tw_ite_f (by first | omega | (simp only [tw_gq]; omega)) ?_); (first | refine tw_ite_t (by first | omega | (simp only [tw_gq]; omega)) ?_ | refine tw_ite_f (by first | omega | (simp only [tw_gq]; omega)) ?_); (first | refine tw_ite_t (by first | omega | (simp only [tw_gq]; omega)) ?_ | refine tw_ite_f (by first | omega | (simp only [tw_gq]; omega)) ?_); (first | refine tw_ite_t (by first | omega | (simp only [tw_gq]; omega)) ?_ | refine tw_ite_f (by first | omega | (simp only [tw_gq]; omega)) ?_); (first | refine tw_ite_t (by first | omega | (simp only [tw_gq]; omega)) ?_ | refine tw_ite_f (by first | omega | (simp only [tw_gq]; omega)) ?_); (first | refine tw_ite_t (by first | omega | (simp only [tw_gq]; omega)) ?_ | refine tw_ite_f (by first | omega | (simp only [tw_gq]; omega)) ?_); (first | refine tw_ite_t (by first | omega | (simp only [tw_gq]; omega)) ?_ | refine tw_ite_f (by first | omega | (simp only [tw_gq]; omega)) ?_); (first | refine tw_ite_t (by first | omega | (simp only [tw_gq]; omega)) ?_ | refine tw_ite_f (by first | omega | (simp only [tw_gq]; omega)) ?_); (first | refine tw_ite_t (by first | omega | (simp only [tw_gq]; omega)) ?_ | refine tw_ite_f (by first | omega | (simp only [tw_gq]; omega)) ?_); (first | refine tw_ite_t (by first | omega | (simp only [tw_gq]; omega)) ?_ | refine tw_ite_f (by first | omega | (simp only [tw_gq]; omega)) ?_); rfl
    · clear o8 r5
      refine ⟨-1, (-1, 0), ?_, ?_, rfl, rfl, hT, hR⟩
      · unfold f_Cek_byteAt
        refine tw_bind_t res ?_
        refine tw_bind_t (tw_vK v0 v1 v2) ?_
        (first | refine tw_ite_t (by first | omega | (simp only [tw_gq]; omega)) ?_ | refine tw_ite_f (by first | omega | (simp only [tw_gq]; omega)) ?_); (first | refine tw_ite_t (by first | omega | (simp only [tw_gq]; omega)) ?_ | refine tw_ite_f (by first | omega | (simp only [tw_gq]; omega)) ?_); rfl
      · unfold f_Mod_byteAt
        (first | refine tw_ite_t (by first | omega | (simp only [tw_gq]; omega)) ?_ | refine tw_ite_f (by first | omega | (simp only [tw_gq]; omega)) ?_); (first | refine tw_ite_t (by first | omega | (simp only [tw_gq]; omega)) ?_ | refine tw_ite_f (by first | omega | (simp only [tw_gq]; omega)) ?_); (first | refine tw_ite_t (by first | omega | (simp only [tw_gq]; omega)) ?_ | refine tw_ite_f (by first | omega | (simp only [tw_gq]; omega)) ?_); (first | refine tw_ite_t (by first | omega | (simp only [tw_gq]; omega)) ?_ | refine tw_ite_f (by first | omega | (simp only [tw_gq]; omega)) ?_); (first | refine tw_ite_t (by first | omega | (simp only [tw_gq]; omega)) ?_ | refine tw_ite_f (by first | omega | (simp only [tw_gq]; omega)) ?_); rfl
  · rw [if_neg c] at res
    refine ⟨-1, (-1, 0), ?_, ?_, rfl, rfl, hT, hR⟩
    · unfold f_Cek_byteAt
      refine tw_bind_t res ?_
      refine tw_bind_t (r := -1) (by unfold f_Values_kindOf; (first | refine tw_ite_t (by first | omega | (simp only [tw_gq]; omega)) ?_ | refine tw_ite_f (by first | omega | (simp only [tw_gq]; omega)) ?_); (first | refine tw_ite_t (by first | omega | (simp only [tw_gq]; omega)) ?_ | refine tw_ite_f (by first | omega | (simp only [tw_gq]; omega)) ?_); rfl) ?_
      (first | refine tw_ite_t (by first | omega | (simp only [tw_gq]; omega)) ?_ | refine tw_ite_f (by first | omega | (simp only [tw_gq]; omega)) ?_); (first | refine tw_ite_t (by first | omega | (simp only [tw_gq]; omega)) ?_ | refine tw_ite_f (by first | omega | (simp only [tw_gq]; omega)) ?_); rfl
    · unfold f_Mod_byteAt
      (first | refine tw_ite_t (by first | omega | (simp only [tw_gq]; omega)) ?_ | refine tw_ite_f (by first | omega | (simp only [tw_gq]; omega)) ?_); (first | refine tw_ite_t (by first | omega | (simp only [tw_gq]; omega)) ?_ | refine tw_ite_f (by first | omega | (simp only [tw_gq]; omega)) ?_); rfl
set_option maxRecDepth 100000 in
theorem tw_place {ci mi : Nat → Int} {ca ma : Nat → Int → Int} (hR : tw_InvR (ci 9) (ca 13) (mi 5) (ci 8) (ca 9) (mi 4) (ma 16) (ca 10) (ca 11) (ca 12) (ma 17) (ma 18) (ma 19) (ma 20) (ci 7) (ca 5) (ca 6) (ca 7) (ca 8) (ma 7) (ma 8) (ma 9) (ma 10) (ca 14) (ca 15) (ci 0) (ci 6) (ci 10) (ci 11) (ci 16) (mi 10) (mi 11) (mi 12) (mi 9) (mi 16)) {u1 : Int} (h1 : rI u1 = true) :
    (f_Cek_placeOfData (ci 0) (ci 6) (ci 7) (ca 5) (ca 7) (ci 9) (ca 13) u1 = some (-1) ∧ f_Mod_dataAt (mi 10) (mi 16) (ma 7) (ma 9) (ma 10) u1 = some (-1))
    ∨ (∃ q d, f_Cek_placeOfData (ci 0) (ci 6) (ci 7) (ca 5) (ca 7) (ci 9) (ca 13) u1 = some q ∧ f_Mod_dataAt (mi 10) (mi 16) (ma 7) (ma 9) (ma 10) u1 = some d ∧ 0 ≤ q ∧ q < ci 9 ∧ ci 9 ≤ 3201 ∧ 0 ≤ d ∧ d < 5000 ∧ tw_DR 12 (ci 9) (ca 10) (ca 11) (ca 13) (ca 14) (ca 15) ∧ tw_NR ((ci 8)) ((ca 9)) ((mi 4)) ((ma 16)) ((ca 10)) ((ca 11)) ((ca 12)) ((ma 17)) ((ma 18)) ((ma 19)) ((ma 20)) q d ∧ tw_CO (ca 10) (ca 11) (ma 17) (ma 19) q d (ca 13 q) ∧ ci 8 ≤ 36864 ∧ mi 4 ≤ 70000) := by
  obtain ⟨r1, r2, r3, -, r5⟩ := id hR
  have res : f_Cek_result (ci 0) (ci 6) = some (if ci 0 = 0 then ci 6 else -1) := by
    unfold f_Cek_result
    by_cases c : ci 0 = 0
    · (first | refine tw_ite_t (by first | omega | (simp only [tw_gq]; omega)) ?_ | refine tw_ite_f (by first | omega | (simp only [tw_gq]; omega)) ?_); (first | refine tw_ite_t (by first | omega | (simp only [tw_gq]; omega)) ?_ | refine tw_ite_f (by first | omega | (simp only [tw_gq]; omega)) ?_); rw [if_pos c]; rfl
    · (first | refine tw_ite_t (by first | omega | (simp only [tw_gq]; omega)) ?_ | refine tw_ite_f (by first | omega | (simp only [tw_gq]; omega)) ?_); (first | refine tw_ite_t (by first | omega | (simp only [tw_gq]; omega)) ?_ | refine tw_ite_f (by first | omega | (simp only [tw_gq]; omega)) ?_); rw [if_neg c]
  have hk := tw_rI_iff.1 h1
  by_cases c : ci 0 = 0
  · obtain ⟨v0, v1, v2, v3, v4, v5, v6, v7, v8, v9, v10⟩ := r5 c
    obtain ⟨o1, o2, o3, -, -, -, -, -, o9⟩ := v5
    rw [if_pos c] at res
    by_cases e : ca 5 (ci 6) = 4
    · obtain ⟨b1, b2⟩ := o9 e
      obtain ⟨d1, d2, d3, d4, d5⟩ := id b2
      have n := v6 _ d1 d2
      have n1 := n.1
      have n2 := n.2.1
      have n3 := n.2.2.1
      have lam := n.2.2.2.2.2.2.2.2.2.2.2.2
      clear o9 r5
      by_cases d : 0 ≤ u1 ∧ u1 < ma 10 (mi 16)
      · refine Or.inr ⟨ca 7 (ci 6) + u1, ma 9 (mi 16) + u1, ?_, ?_, by omega, by omega, v7, by omega, by omega, v6, d5 u1 d.1 (by omega), ?_, v8, v9⟩
        · unfold f_Cek_placeOfData
          refine tw_bind_t res ?_
          refine tw_bind_t (tw_vK v0 v1 v2) ?_
          (first | refine tw_ite_t (by first | omega | (simp only [tw_gq]; omega)) ?_ | refine tw_ite_f (by first | omega | (simp only [tw_gq]; omega)) ?_); (first | refine tw_ite_t (by first | omega | (simp only [tw_gq]; omega)) ?_ | refine tw_ite_f (by first | omega | (simp only [tw_gq]; omega)) ?_)
          refine tw_bind_t (tw_vRo v0 v1 v2) ?_
          (first | refine tw_ite_t (by first | omega | (simp only [tw_gq]; omega)) ?_ | refine tw_ite_f (by first | omega | (simp only [tw_gq]; omega)) ?_); (first | refine tw_ite_t (by first | omega | (simp only [tw_gq]; omega)) ?_ | refine tw_ite_f (by first | omega | (simp only [tw_gq]; omega)) ?_)
          refine tw_bind_t (tw_dN_in d1 d2 v7) ?_
          (first | refine tw_ite_t (by first | omega | (simp only [tw_gq]; omega)) ?_ | refine tw_ite_f (by first | omega | (simp only [tw_gq]; omega)) ?_); (first | refine tw_ite_t (by first | omega | (simp only [tw_gq]; omega)) ?_ | refine tw_ite_f (by first | omega | (simp only [tw_gq]; omega)) ?_); rfl
        · unfold f_Mod_dataAt
          (first | refine tw_ite_t (by first | omega | (simp only [tw_gq]; omega)) ?_ | refine tw_ite_f (by first | omega | (simp only [tw_gq]; omega)) ?_); (first | refine tw_ite_t (by first | omega | (simp only [tw_gq]; omega)) ?_ | refine tw_ite_f (by first | omega | (simp only [tw_gq]; omega)) ?_); (first | refine tw_ite_t (by first | omega | (simp only [tw_gq]; omega)) ?_ | refine tw_ite_f (by first | omega | (simp only [tw_gq]; omega)) ?_); (first | refine tw_ite_t (by first | omega | (simp only [tw_gq]; omega)) ?_ | refine tw_ite_f (by first | omega | (simp only [tw_gq]; omega)) ?_); (first | refine tw_ite_t (by first | omega | (simp only [tw_gq]; omega)) ?_ | refine tw_ite_f (by first | omega | (simp only [tw_gq]; omega)) ?_); (first | refine tw_ite_t (by first | omega | (simp only [tw_gq]; omega)) ?_ | refine tw_ite_f (by first | omega | (simp only [tw_gq]; omega)) ?_); (first | refine tw_ite_t (by first | omega | (simp only [tw_gq]; omega)) ?_ | refine tw_ite_f (by first | omega | (simp only [tw_gq]; omega)) ?_); (first | refine tw_ite_t (by first | omega | (simp only [tw_gq]; omega)) ?_ | refine tw_ite_f (by first | omega | (simp only [tw_gq]; omega)) ?_); (first | refine tw_ite_t (by first | omega | (simp only [tw_gq]; omega)) ?_ | refine tw_ite_f (by first | omega | (simp only [tw_gq]; omega)) ?_); (first | refine tw_ite_t (by first | omega | (simp only [tw_gq]; omega)) ?_ | refine tw_ite_f (by first | omega | (simp only [tw_gq]; omega)) ?_); (first | refine tw_ite_t (by first | omega | (simp only [tw_gq]; omega)) ?_ | refine tw_ite_f (by first | omega | (simp only [tw_gq]; omega)) ?_); (first | refine tw_ite_t (by first | omega | (simp only [tw_gq]; omega)) ?_ | refine tw_ite_f (by first | omega | (simp only [tw_gq]; omega)) ?_); (first | refine tw_ite_t (by first | omega | (simp only [tw_gq]; omega)) ?_ | refine tw_ite_f (by first | omega | (simp only [tw_gq]; omega)) ?_); rfl
        · have l : ca 7 (ci 6) + u1 + ca 13 (ca 7 (ci 6) + u1) ≤ ca 7 (ci 6) + ca 13 (ca 7 (ci 6)) := by
            by_cases z : u1 = 0
            · rw [z, show ca 7 (ci 6) + 0 = ca 7 (ci 6) by omega]; omega
            · exact lam _ (by omega) (by omega)
          exact tw_CO_sub (tw_CO_DD b2 v10) (by omega) (by omega)
      · refine Or.inl ⟨?_, ?_⟩
        · unfold f_Cek_placeOfData
          refine tw_bind_t res ?_
          refine tw_bind_t (tw_vK v0 v1 v2) ?_
          (first | refine tw_ite_t (by first | omega | (simp only [tw_gq]; omega)) ?_ | refine tw_ite_f (by first | omega | (simp only [tw_gq]; omega)) ?_); (first | refine tw_ite_t (by first | omega | (simp only [tw_gq]; omega)) ?_ | refine tw_ite_f (by first | omega | (simp only [tw_gq]; omega)) ?_)
          refine tw_bind_t (tw_vRo v0 v1 v2) ?_
          by_cases d0 : u1 < 0
          · (first | refine tw_ite_t (by first | omega | (simp only [tw_gq]; omega)) ?_ | refine tw_ite_f (by first | omega | (simp only [tw_gq]; omega)) ?_); (first | refine tw_ite_t (by first | omega | (simp only [tw_gq]; omega)) ?_ | refine tw_ite_f (by first | omega | (simp only [tw_gq]; omega)) ?_); rfl
          · (first | refine tw_ite_t (by first | omega | (simp only [tw_gq]; omega)) ?_ | refine tw_ite_f (by first | omega | (simp only [tw_gq]; omega)) ?_); (first | refine tw_ite_t (by first | omega | (simp only [tw_gq]; omega)) ?_ | refine tw_ite_f (by first | omega | (simp only [tw_gq]; omega)) ?_)
            refine tw_bind_t (tw_dN_in d1 d2 v7) ?_
            (first | refine tw_ite_t (by first | omega | (simp only [tw_gq]; omega)) ?_ | refine tw_ite_f (by first | omega | (simp only [tw_gq]; omega)) ?_); (first | refine tw_ite_t (by first | omega | (simp only [tw_gq]; omega)) ?_ | refine tw_ite_f (by first | omega | (simp only [tw_gq]; omega)) ?_); rfl
        · unfold f_Mod_dataAt
          by_cases d0 : u1 < 0
          · (repeat (first | refine tw_ite_t (by first | omega | (simp only [tw_gq]; omega)) ?_ | refine tw_ite_f (by first | omega | (simp only [tw_gq]; omega)) ?_)); rfl
          · (repeat (first | refine tw_ite_t (by first | omega | (simp only [tw_gq]; omega)) ?_ | refine tw_ite_f (by first | omega | (simp only [tw_gq]; omega)) ?_)); rfl
    · clear o9 r5
      refine Or.inl ⟨?_, ?_⟩
      · unfold f_Cek_placeOfData
        refine tw_bind_t res ?_
        refine tw_bind_t (tw_vK v0 v1 v2) ?_
        (first | refine tw_ite_t (by first | omega | (simp only [tw_gq]; omega)) ?_ | refine tw_ite_f (by first | omega | (simp only [tw_gq]; omega)) ?_); (first | refine tw_ite_t (by first | omega | (simp only [tw_gq]; omega)) ?_ | refine tw_ite_f (by first | omega | (simp only [tw_gq]; omega)) ?_); rfl
      · unfold f_Mod_dataAt
        (repeat (first | refine tw_ite_t (by first | omega | (simp only [tw_gq]; omega)) ?_ | refine tw_ite_f (by first | omega | (simp only [tw_gq]; omega)) ?_)); rfl
  · rw [if_neg c] at res
    refine Or.inl ⟨?_, ?_⟩
    · unfold f_Cek_placeOfData
      refine tw_bind_t res ?_
      refine tw_bind_t (r := -1) (by unfold f_Values_kindOf; (first | refine tw_ite_t (by first | omega | (simp only [tw_gq]; omega)) ?_ | refine tw_ite_f (by first | omega | (simp only [tw_gq]; omega)) ?_); (first | refine tw_ite_t (by first | omega | (simp only [tw_gq]; omega)) ?_ | refine tw_ite_f (by first | omega | (simp only [tw_gq]; omega)) ?_); rfl) ?_
      (first | refine tw_ite_t (by first | omega | (simp only [tw_gq]; omega)) ?_ | refine tw_ite_f (by first | omega | (simp only [tw_gq]; omega)) ?_); (first | refine tw_ite_t (by first | omega | (simp only [tw_gq]; omega)) ?_ | refine tw_ite_f (by first | omega | (simp only [tw_gq]; omega)) ?_); rfl
    · unfold f_Mod_dataAt
      (first | refine tw_ite_t (by first | omega | (simp only [tw_gq]; omega)) ?_ | refine tw_ite_f (by first | omega | (simp only [tw_gq]; omega)) ?_); (first | refine tw_ite_t (by first | omega | (simp only [tw_gq]; omega)) ?_ | refine tw_ite_f (by first | omega | (simp only [tw_gq]; omega)) ?_); rfl
set_option maxRecDepth 100000 in
theorem tw_dFn {t : Int} {f : Int → Int} : f_DataRow_formOf t f (-1) = some (-1) := by unfold f_DataRow_formOf; (first | refine tw_ite_t (by first | omega | (simp only [tw_gq]; omega)) ?_ | refine tw_ite_f (by first | omega | (simp only [tw_gq]; omega)) ?_); (first | refine tw_ite_t (by first | omega | (simp only [tw_gq]; omega)) ?_ | refine tw_ite_f (by first | omega | (simp only [tw_gq]; omega)) ?_); rfl
set_option maxRecDepth 100000 in
theorem tw_dCn {t : Int} {f : Int → Int} : f_DataRow_countOf t f (-1) = some (-1) := by unfold f_DataRow_countOf; (first | refine tw_ite_t (by first | omega | (simp only [tw_gq]; omega)) ?_ | refine tw_ite_f (by first | omega | (simp only [tw_gq]; omega)) ?_); (first | refine tw_ite_t (by first | omega | (simp only [tw_gq]; omega)) ?_ | refine tw_ite_f (by first | omega | (simp only [tw_gq]; omega)) ?_); rfl
set_option maxRecDepth 100000 in
theorem tw_dDn {t : Int} {f : Int → Int} : f_DataRow_depthOf t f (-1) = some (-1) := by unfold f_DataRow_depthOf; (first | refine tw_ite_t (by first | omega | (simp only [tw_gq]; omega)) ?_ | refine tw_ite_f (by first | omega | (simp only [tw_gq]; omega)) ?_); (first | refine tw_ite_t (by first | omega | (simp only [tw_gq]; omega)) ?_ | refine tw_ite_f (by first | omega | (simp only [tw_gq]; omega)) ?_); rfl
set_option maxRecDepth 100000 in
theorem tw_sim_data : Sim_data tw_Inv2 := by
  intro ci ca mi ma u1 u2 h h1 h2
  obtain ⟨hT, hR⟩ := h
  have hk := tw_rI_iff.1 h2
  rcases tw_place hR h1 with ⟨p1, p2⟩ | ⟨q, d, p1, p2, q0, q1, q2, d0, d1, hD, hn, hco, -, -⟩
  · refine ⟨300, -1, (-1, 0, ma 30), ?_, ?_, rfl, rfl, hT, hR⟩
    · unfold f_Cek_data
      refine tw_bind_t p1 ?_
      refine tw_bind_t tw_dFn ?_
      by_cases c0 : u2 = 0
      · (repeat (first | refine tw_ite_t (by first | omega | (simp only [tw_gq]; omega)) ?_ | refine tw_ite_f (by first | omega | (simp only [tw_gq]; omega)) ?_)); rfl
      · by_cases c1 : u2 = 1
        · (repeat (first | refine tw_ite_t (by first | omega | (simp only [tw_gq]; omega)) ?_ | refine tw_ite_f (by first | omega | (simp only [tw_gq]; omega)) ?_))
          exact tw_bind_t tw_dCn rfl
        · by_cases c2 : u2 = 2
          · (repeat (first | refine tw_ite_t (by first | omega | (simp only [tw_gq]; omega)) ?_ | refine tw_ite_f (by first | omega | (simp only [tw_gq]; omega)) ?_)); rfl
          · by_cases c3 : u2 = 3
            · (repeat (first | refine tw_ite_t (by first | omega | (simp only [tw_gq]; omega)) ?_ | refine tw_ite_f (by first | omega | (simp only [tw_gq]; omega)) ?_))
              exact tw_bind_t tw_dDn rfl
            · (repeat (first | refine tw_ite_t (by first | omega | (simp only [tw_gq]; omega)) ?_ | refine tw_ite_f (by first | omega | (simp only [tw_gq]; omega)) ?_)); rfl
    · unfold f_Mod_data
      refine tw_bind_t p2 ?_
      (first | refine tw_ite_t (by first | omega | (simp only [tw_gq]; omega)) ?_ | refine tw_ite_f (by first | omega | (simp only [tw_gq]; omega)) ?_); (first | refine tw_ite_t (by first | omega | (simp only [tw_gq]; omega)) ?_ | refine tw_ite_f (by first | omega | (simp only [tw_gq]; omega)) ?_); rfl
  · obtain ⟨n1, n2, n3, n4, n5, n6⟩ := hn
    obtain ⟨-, -, -, e1, e2, f0, f1, g0, tw_g1, -⟩ := hD q q0 q1
    have key : ∀ (v : Int) (cm : Int → Int), f_Cek_data (ci 0) (ci 6) (ci 7) (ca 5) (ca 7) (ci 9) (ca 10) (ca 11) (ca 12) (ca 13) (ca 14) u1 u2 = some v → f_Mod_data 300 (mi 0) (mi 10) (mi 16) (ma 7) (ma 9) (ma 10) (ma 17) (ma 18) (ma 19) (ma 30) u1 u2 = some (v, 0, cm) → -1 ≤ v ∧ v ≤ 1000 → ∃ (N2 : Nat) (o1 : Int) (o2 : Int × Int × (Int → Int)), f_Cek_data (ci 0) (ci 6) (ci 7) (ca 5) (ca 7) (ci 9) (ca 10) (ca 11) (ca 12) (ca 13) (ca 14) u1 u2 = some o1 ∧ f_Mod_data N2 (mi 0) (mi 10) (mi 16) (ma 7) (ma 9) (ma 10) (ma 17) (ma 18) (ma 19) (ma 30) u1 u2 = some o2 ∧ rI o1 = true ∧ o1 = o2.1 ∧ tw_Inv2 ci ca (li [(o2.2.1), mi 1, mi 2, mi 3, mi 4, mi 5, mi 6, mi 7, mi 8, mi 9, mi 10, mi 11, mi 12, mi 13, mi 14, mi 15, mi 16, mi 17, mi 18, mi 19, mi 20]) (la [ma 0, ma 1, ma 2, ma 3, ma 4, ma 5, ma 6, ma 7, ma 8, ma 9, ma 10, ma 11, ma 12, ma 13, ma 14, ma 15, ma 16, ma 17, ma 18, ma 19, ma 20, ma 21, ma 22, ma 23, ma 24, ma 25, ma 26, ma 27, ma 28, ma 29, (o2.2.2)]) :=
      fun v cm a b z => ⟨300, v, (v, 0, cm), a, b, by rw [tw_rI_iff]; omega, rfl, hT, hR⟩
    have hcl : ∀ X, (if u2 = 0 then some (ca 10 q) else if u2 = 1 then (if ca 10 q = 3 then some (-1) else some (ca 11 q)) else if u2 = 2 then (if ca 10 q = 0 then some (ca 12 q) else some (-1)) else if u2 = 3 then some (ca 14 q) else some (-1)) = X → f_Cek_data (ci 0) (ci 6) (ci 7) (ca 5) (ca 7) (ci 9) (ca 10) (ca 11) (ca 12) (ca 13) (ca 14) u1 u2 = X := by
      intro X hX
      unfold f_Cek_data
      refine tw_bind_t p1 ?_
      refine tw_bind_t (tw_dF_in q0 q1 q2) ?_
      (first | refine tw_ite_t (by first | omega | (simp only [tw_gq]; omega)) ?_ | refine tw_ite_f (by first | omega | (simp only [tw_gq]; omega)) ?_)
      rw [← hX]
      by_cases c0 : u2 = 0
      · rw [if_pos c0, if_pos c0]
      rw [if_neg c0, if_neg c0]
      by_cases c1 : u2 = 1
      · rw [if_pos c1, if_pos c1]
        (first | refine tw_ite_t (by first | omega | (simp only [tw_gq]; omega)) ?_ | refine tw_ite_f (by first | omega | (simp only [tw_gq]; omega)) ?_)
        by_cases c3 : ca 10 q = 3
        · rw [if_pos c3, if_pos c3]
        · rw [if_neg c3, if_neg c3]
          exact tw_bind_t (tw_dC_in q0 q1 q2) rfl
      rw [if_neg c1, if_neg c1]
      by_cases c2 : u2 = 2
      · rw [if_pos c2, if_pos c2]
        (first | refine tw_ite_t (by first | omega | (simp only [tw_gq]; omega)) ?_ | refine tw_ite_f (by first | omega | (simp only [tw_gq]; omega)) ?_)
        by_cases c3 : ca 10 q = 0
        · rw [if_pos c3, if_pos c3]
          exact tw_bind_t (tw_dM_in q0 q1 q2) rfl
        · rw [if_neg c3, if_neg c3]
      rw [if_neg c2, if_neg c2]
      by_cases c3 : u2 = 3
      · rw [if_pos c3, if_pos c3]
        exact tw_bind_t (tw_dD_in q0 q1 q2) rfl
      rw [if_neg c3, if_neg c3]
    by_cases c0 : u2 = 0
    · refine key (ca 10 q) (ma 30) (hcl _ (by rw [if_pos c0])) ?_ (by omega)
      unfold f_Mod_data
      refine tw_bind_t p2 ?_
      (first | refine tw_ite_t (by first | omega | (simp only [tw_gq]; omega)) ?_ | refine tw_ite_f (by first | omega | (simp only [tw_gq]; omega)) ?_); (first | refine tw_ite_t (by first | omega | (simp only [tw_gq]; omega)) ?_ | refine tw_ite_f (by first | omega | (simp only [tw_gq]; omega)) ?_); (first | refine tw_ite_t (by first | omega | (simp only [tw_gq]; omega)) ?_ | refine tw_ite_f (by first | omega | (simp only [tw_gq]; omega)) ?_); (first | refine tw_ite_t (by first | omega | (simp only [tw_gq]; omega)) ?_ | refine tw_ite_f (by first | omega | (simp only [tw_gq]; omega)) ?_); (first | refine tw_ite_t (by first | omega | (simp only [tw_gq]; omega)) ?_ | refine tw_ite_f (by first | omega | (simp only [tw_gq]; omega)) ?_)
      rw [n1]
    by_cases c1 : u2 = 1
    · by_cases c3 : ca 10 q = 3
      · refine key (-1) (ma 30) (hcl _ (by rw [if_neg c0, if_pos c1, if_pos c3])) ?_ (by omega)
        unfold f_Mod_data
        refine tw_bind_t p2 ?_
        rw [n1]
        (first | refine tw_ite_t (by first | omega | (simp only [tw_gq]; omega)) ?_ | refine tw_ite_f (by first | omega | (simp only [tw_gq]; omega)) ?_); (first | refine tw_ite_t (by first | omega | (simp only [tw_gq]; omega)) ?_ | refine tw_ite_f (by first | omega | (simp only [tw_gq]; omega)) ?_); (first | refine tw_ite_t (by first | omega | (simp only [tw_gq]; omega)) ?_ | refine tw_ite_f (by first | omega | (simp only [tw_gq]; omega)) ?_); (first | refine tw_ite_t (by first | omega | (simp only [tw_gq]; omega)) ?_ | refine tw_ite_f (by first | omega | (simp only [tw_gq]; omega)) ?_); (first | refine tw_ite_t (by first | omega | (simp only [tw_gq]; omega)) ?_ | refine tw_ite_f (by first | omega | (simp only [tw_gq]; omega)) ?_); (first | refine tw_ite_t (by first | omega | (simp only [tw_gq]; omega)) ?_ | refine tw_ite_f (by first | omega | (simp only [tw_gq]; omega)) ?_); (first | refine tw_ite_t (by first | omega | (simp only [tw_gq]; omega)) ?_ | refine tw_ite_f (by first | omega | (simp only [tw_gq]; omega)) ?_); (first | refine tw_ite_t (by first | omega | (simp only [tw_gq]; omega)) ?_ | refine tw_ite_f (by first | omega | (simp only [tw_gq]; omega)) ?_); rfl
      · refine key (ca 11 q) (ma 30) (hcl _ (by rw [if_neg c0, if_pos c1, if_neg c3])) ?_ (by omega)
        unfold f_Mod_data
        refine tw_bind_t p2 ?_
        rw [n1, n2]
        (first | refine tw_ite_t (by first | omega | (simp only [tw_gq]; omega)) ?_ | refine tw_ite_f (by first | omega | (simp only [tw_gq]; omega)) ?_); (first | refine tw_ite_t (by first | omega | (simp only [tw_gq]; omega)) ?_ | refine tw_ite_f (by first | omega | (simp only [tw_gq]; omega)) ?_); (first | refine tw_ite_t (by first | omega | (simp only [tw_gq]; omega)) ?_ | refine tw_ite_f (by first | omega | (simp only [tw_gq]; omega)) ?_); (first | refine tw_ite_t (by first | omega | (simp only [tw_gq]; omega)) ?_ | refine tw_ite_f (by first | omega | (simp only [tw_gq]; omega)) ?_); (first | refine tw_ite_t (by first | omega | (simp only [tw_gq]; omega)) ?_ | refine tw_ite_f (by first | omega | (simp only [tw_gq]; omega)) ?_); (first | refine tw_ite_t (by first | omega | (simp only [tw_gq]; omega)) ?_ | refine tw_ite_f (by first | omega | (simp only [tw_gq]; omega)) ?_); (first | refine tw_ite_t (by first | omega | (simp only [tw_gq]; omega)) ?_ | refine tw_ite_f (by first | omega | (simp only [tw_gq]; omega)) ?_); (first | refine tw_ite_t (by first | omega | (simp only [tw_gq]; omega)) ?_ | refine tw_ite_f (by first | omega | (simp only [tw_gq]; omega)) ?_); (first | refine tw_ite_t (by first | omega | (simp only [tw_gq]; omega)) ?_ | refine tw_ite_f (by first | omega | (simp only [tw_gq]; omega)) ?_); rfl
    by_cases c2 : u2 = 2
    · by_cases c3 : ca 10 q = 0
      · have n4 := n4 c3
        have n6 := n6 (by omega)
        clear n5
        refine key (ca 12 q) (ma 30) (hcl _ (by rw [if_neg c0, if_neg c1, if_pos c2, if_pos c3])) ?_ (by omega)
        unfold f_Mod_data
        refine tw_bind_t p2 ?_
        rw [n1, n6]
        (repeat (first | refine tw_ite_t (by first | omega | (simp only [tw_gq]; omega)) ?_ | refine tw_ite_f (by first | omega | (simp only [tw_gq]; omega)) ?_))
        rfl
      · clear n4 n5 n6
        refine key (-1) (ma 30) (hcl _ (by rw [if_neg c0, if_neg c1, if_pos c2, if_neg c3])) ?_ (by omega)
        unfold f_Mod_data
        refine tw_bind_t p2 ?_
        rw [n1]
        (repeat (first | refine tw_ite_t (by first | omega | (simp only [tw_gq]; omega)) ?_ | refine tw_ite_f (by first | omega | (simp only [tw_gq]; omega)) ?_))
        rfl
    by_cases c3 : u2 = 3
    · obtain ⟨cm, hdep⟩ := tw_depth_ok hD (by omega) q0 q1 hco (N := 300) (by omega) (ma 30)
      have hsz := tw_size_ok hD q0 q1 hco (N := 300) (by omega)
      clear n4 n5 n6
      refine key (ca 14 q) cm (hcl _ (by rw [if_neg c0, if_neg c1, if_neg c2, if_pos c3])) ?_ (by omega)
      unfold f_Mod_data
      refine tw_bind_t p2 ?_
      (first | refine tw_ite_t (by first | omega | (simp only [tw_gq]; omega)) ?_ | refine tw_ite_f (by first | omega | (simp only [tw_gq]; omega)) ?_); (first | refine tw_ite_t (by first | omega | (simp only [tw_gq]; omega)) ?_ | refine tw_ite_f (by first | omega | (simp only [tw_gq]; omega)) ?_); (first | refine tw_ite_t (by first | omega | (simp only [tw_gq]; omega)) ?_ | refine tw_ite_f (by first | omega | (simp only [tw_gq]; omega)) ?_); (first | refine tw_ite_t (by first | omega | (simp only [tw_gq]; omega)) ?_ | refine tw_ite_f (by first | omega | (simp only [tw_gq]; omega)) ?_); (first | refine tw_ite_t (by first | omega | (simp only [tw_gq]; omega)) ?_ | refine tw_ite_f (by first | omega | (simp only [tw_gq]; omega)) ?_); (first | refine tw_ite_t (by first | omega | (simp only [tw_gq]; omega)) ?_ | refine tw_ite_f (by first | omega | (simp only [tw_gq]; omega)) ?_); (first | refine tw_ite_t (by first | omega | (simp only [tw_gq]; omega)) ?_ | refine tw_ite_f (by first | omega | (simp only [tw_gq]; omega)) ?_)
      refine tw_bind_t hsz ?_
      exact tw_ob2_t hdep rfl
    · clear n4 n5 n6
      refine key (-1) (ma 30) (hcl _ (by rw [if_neg c0, if_neg c1, if_neg c2, if_neg c3])) ?_ (by omega)
      unfold f_Mod_data
      refine tw_bind_t p2 ?_
      (repeat (first | refine tw_ite_t (by first | omega | (simp only [tw_gq]; omega)) ?_ | refine tw_ite_f (by first | omega | (simp only [tw_gq]; omega)) ?_))
      rfl
set_option maxRecDepth 100000 in
theorem tw_sim_dataValue : Sim_dataValue tw_Inv2 := by
  intro ci ca mi ma u1 h h1
  obtain ⟨hT, hR⟩ := h
  rcases tw_place hR h1 with ⟨p1, p2⟩ | ⟨q, d, p1, p2, q0, q1, q2, d0, d1, hD, hn, hco, -, -⟩
  · refine Or.inr ⟨(0, 1), ?_, ?_, rfl, hT, hR⟩
    · unfold t_Cek_dataValue
      refine tw_bind_t p1 ?_
      refine tw_bind_t tw_dFn ?_
      (first | refine tw_ite_t (by first | omega | (simp only [tw_gq]; omega)) ?_ | refine tw_ite_f (by first | omega | (simp only [tw_gq]; omega)) ?_); (first | refine tw_ite_t (by first | omega | (simp only [tw_gq]; omega)) ?_ | refine tw_ite_f (by first | omega | (simp only [tw_gq]; omega)) ?_); rfl
    · unfold f_Mod_dataValue
      refine tw_bind_t p2 ?_
      (first | refine tw_ite_t (by first | omega | (simp only [tw_gq]; omega)) ?_ | refine tw_ite_f (by first | omega | (simp only [tw_gq]; omega)) ?_); (first | refine tw_ite_t (by first | omega | (simp only [tw_gq]; omega)) ?_ | refine tw_ite_f (by first | omega | (simp only [tw_gq]; omega)) ?_); rfl
  · obtain ⟨n1, n2, n3, n4, n5, n6⟩ := hn
    obtain ⟨-, -, -, e1, e2, f0, f1, g0, tw_g1, -⟩ := hD q q0 q1
    by_cases c3 : ca 10 q = 3
    · have n6 := n6 (by omega)
      clear n4 n5
      refine Or.inl ⟨ca 12 q, (ca 12 q, 0), ?_, ?_, rfl, tw_rL_iff.2 n3, rfl, hT, hR⟩
      · unfold f_Cek_dataValue
        refine tw_bind_t p1 ?_
        refine tw_bind_t (tw_dF_in q0 q1 q2) ?_
        (first | refine tw_ite_t (by first | omega | (simp only [tw_gq]; omega)) ?_ | refine tw_ite_f (by first | omega | (simp only [tw_gq]; omega)) ?_); (first | refine tw_ite_t (by first | omega | (simp only [tw_gq]; omega)) ?_ | refine tw_ite_f (by first | omega | (simp only [tw_gq]; omega)) ?_)
        exact tw_bind_t (tw_dM_in q0 q1 q2) rfl
      · unfold f_Mod_dataValue
        refine tw_bind_t p2 ?_
        rw [n1, n6]
        (repeat (first | refine tw_ite_t (by first | omega | (simp only [tw_gq]; omega)) ?_ | refine tw_ite_f (by first | omega | (simp only [tw_gq]; omega)) ?_))
        rfl
    · clear n4 n5 n6
      refine Or.inr ⟨(0, 1), ?_, ?_, rfl, hT, hR⟩
      · unfold t_Cek_dataValue
        refine tw_bind_t p1 ?_
        refine tw_bind_t (tw_dF_in q0 q1 q2) ?_
        (first | refine tw_ite_t (by first | omega | (simp only [tw_gq]; omega)) ?_ | refine tw_ite_f (by first | omega | (simp only [tw_gq]; omega)) ?_); (first | refine tw_ite_t (by first | omega | (simp only [tw_gq]; omega)) ?_ | refine tw_ite_f (by first | omega | (simp only [tw_gq]; omega)) ?_); rfl
      · unfold f_Mod_dataValue
        refine tw_bind_t p2 ?_
        rw [n1]
        (repeat (first | refine tw_ite_t (by first | omega | (simp only [tw_gq]; omega)) ?_ | refine tw_ite_f (by first | omega | (simp only [tw_gq]; omega)) ?_))
        rfl
set_option maxRecDepth 100000 in
theorem tw_sim_dataByte : Sim_dataByte tw_Inv2 := by
  intro ci ca mi ma u1 u2 h h1 h2
  obtain ⟨hT, hR⟩ := h
  have hk := tw_rI_iff.1 h2
  rcases tw_place hR h1 with ⟨p1, p2⟩ | ⟨q, d, p1, p2, q0, q1, q2, d0, d1, hD, hn, hco, b1, b2⟩
  · refine ⟨-1, (-1, 0), ?_, ?_, rfl, rfl, hT, hR⟩
    · unfold f_Cek_dataByte
      refine tw_bind_t p1 ?_
      refine tw_bind_t tw_dFn ?_
      (first | refine tw_ite_t (by first | omega | (simp only [tw_gq]; omega)) ?_ | refine tw_ite_f (by first | omega | (simp only [tw_gq]; omega)) ?_); (first | refine tw_ite_t (by first | omega | (simp only [tw_gq]; omega)) ?_ | refine tw_ite_f (by first | omega | (simp only [tw_gq]; omega)) ?_); rfl
    · unfold f_Mod_dataByte
      refine tw_bind_t p2 ?_
      (first | refine tw_ite_t (by first | omega | (simp only [tw_gq]; omega)) ?_ | refine tw_ite_f (by first | omega | (simp only [tw_gq]; omega)) ?_); (first | refine tw_ite_t (by first | omega | (simp only [tw_gq]; omega)) ?_ | refine tw_ite_f (by first | omega | (simp only [tw_gq]; omega)) ?_); rfl
  · obtain ⟨n1, n2, n3, n4, n5, n6⟩ := hn
    obtain ⟨-, -, -, e1, e2, f0, f1, g0, tw_g1, -⟩ := hD q q0 q1
    by_cases c4 : ca 10 q = 4
    · obtain ⟨-, m1, m2, m3, m4, m5, m6, m7⟩ := n5 c4
      clear n4 n5 n6
      by_cases c : 0 ≤ u2 ∧ u2 < ca 11 q
      · obtain ⟨w1, w2⟩ := m7 u2 c.1 c.2
        have w3 := tw_jand_r (x := ca 9 (ca 12 q + u2)) w2
        refine ⟨j_and (ca 9 (ca 12 q + u2)) 255, (j_and (ca 9 (ca 12 q + u2)) 255, 0), ?_, ?_, by rw [tw_rI_iff]; omega, rfl, hT, hR⟩
        · unfold f_Cek_dataByte
          refine tw_bind_t p1 ?_
          refine tw_bind_t (tw_dF_in q0 q1 q2) ?_
          (first | refine tw_ite_t (by first | omega | (simp only [tw_gq]; omega)) ?_ | refine tw_ite_f (by first | omega | (simp only [tw_gq]; omega)) ?_); (first | refine tw_ite_t (by first | omega | (simp only [tw_gq]; omega)) ?_ | refine tw_ite_f (by first | omega | (simp only [tw_gq]; omega)) ?_); (first | refine tw_ite_t (by first | omega | (simp only [tw_gq]; omega)) ?_ | refine tw_ite_f (by first | omega | (simp only [tw_gq]; omega)) ?_); (first | refine tw_ite_t (by first | omega | (simp only [tw_gq]; omega)) ?_ | refine tw_ite_f (by first | omega | (simp only [tw_gq]; omega)) ?_)
          refine tw_bind_t (tw_dC_in q0 q1 q2) ?_
          (first | refine tw_ite_t (by first | omega | (simp only [tw_gq]; omega)) ?_ | refine tw_ite_f (by first | omega | (simp only [tw_gq]; omega)) ?_); (first | refine tw_ite_t (by first | omega | (simp only [tw_gq]; omega)) ?_ | refine tw_ite_f (by first | omega | (simp only [tw_gq]; omega)) ?_)
          refine tw_bind_t (tw_dM_in q0 q1 q2) ?_
          exact tw_bind_t (tw_bat (by omega) (by omega) (by omega)) rfl
        · unfold f_Mod_dataByte
          refine tw_bind_t p2 ?_
          rw [n1, n2]
          (repeat (first | refine tw_ite_t (by first | omega | (simp only [tw_gq]; omega)) ?_ | refine tw_ite_f (by first | omega | (simp only [tw_gq]; omega)) ?_))
          rw [w1]
      · refine ⟨-1, (-1, 0), ?_, ?_, rfl, rfl, hT, hR⟩
        · unfold f_Cek_dataByte
          refine tw_bind_t p1 ?_
          refine tw_bind_t (tw_dF_in q0 q1 q2) ?_
          by_cases c0 : u2 < 0
          · (first | refine tw_ite_t (by first | omega | (simp only [tw_gq]; omega)) ?_ | refine tw_ite_f (by first | omega | (simp only [tw_gq]; omega)) ?_); (first | refine tw_ite_t (by first | omega | (simp only [tw_gq]; omega)) ?_ | refine tw_ite_f (by first | omega | (simp only [tw_gq]; omega)) ?_); (first | refine tw_ite_t (by first | omega | (simp only [tw_gq]; omega)) ?_ | refine tw_ite_f (by first | omega | (simp only [tw_gq]; omega)) ?_); (first | refine tw_ite_t (by first | omega | (simp only [tw_gq]; omega)) ?_ | refine tw_ite_f (by first | omega | (simp only [tw_gq]; omega)) ?_); rfl
          · (first | refine tw_ite_t (by first | omega | (simp only [tw_gq]; omega)) ?_ | refine tw_ite_f (by first | omega | (simp only [tw_gq]; omega)) ?_); (first | refine tw_ite_t (by first | omega | (simp only [tw_gq]; omega)) ?_ | refine tw_ite_f (by first | omega | (simp only [tw_gq]; omega)) ?_); (first | refine tw_ite_t (by first | omega | (simp only [tw_gq]; omega)) ?_ | refine tw_ite_f (by first | omega | (simp only [tw_gq]; omega)) ?_); (first | refine tw_ite_t (by first | omega | (simp only [tw_gq]; omega)) ?_ | refine tw_ite_f (by first | omega | (simp only [tw_gq]; omega)) ?_)
            refine tw_bind_t (tw_dC_in q0 q1 q2) ?_
            (first | refine tw_ite_t (by first | omega | (simp only [tw_gq]; omega)) ?_ | refine tw_ite_f (by first | omega | (simp only [tw_gq]; omega)) ?_); (first | refine tw_ite_t (by first | omega | (simp only [tw_gq]; omega)) ?_ | refine tw_ite_f (by first | omega | (simp only [tw_gq]; omega)) ?_); rfl
        · unfold f_Mod_dataByte
          refine tw_bind_t p2 ?_
          rw [n1, n2]
          by_cases c0 : u2 < 0
          · (repeat (first | refine tw_ite_t (by first | omega | (simp only [tw_gq]; omega)) ?_ | refine tw_ite_f (by first | omega | (simp only [tw_gq]; omega)) ?_)); rfl
          · (repeat (first | refine tw_ite_t (by first | omega | (simp only [tw_gq]; omega)) ?_ | refine tw_ite_f (by first | omega | (simp only [tw_gq]; omega)) ?_)); rfl
    · clear n4 n5 n6
      refine ⟨-1, (-1, 0), ?_, ?_, rfl, rfl, hT, hR⟩
      · unfold f_Cek_dataByte
        refine tw_bind_t p1 ?_
        refine tw_bind_t (tw_dF_in q0 q1 q2) ?_
        (first | refine tw_ite_t (by first | omega | (simp only [tw_gq]; omega)) ?_ | refine tw_ite_f (by first | omega | (simp only [tw_gq]; omega)) ?_); (first | refine tw_ite_t (by first | omega | (simp only [tw_gq]; omega)) ?_ | refine tw_ite_f (by first | omega | (simp only [tw_gq]; omega)) ?_); rfl
      · unfold f_Mod_dataByte
        refine tw_bind_t p2 ?_
        rw [n1]
        (repeat (first | refine tw_ite_t (by first | omega | (simp only [tw_gq]; omega)) ?_ | refine tw_ite_f (by first | omega | (simp only [tw_gq]; omega)) ?_))
        rfl
